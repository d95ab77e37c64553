theorem bz_n0 {S v b m w m1 g : Int} (h : bzP S v b m) (hg : g ≤ m) (h1 : 0 ≤ g) : bzP S w b m1 := by
  rcases h with ⟨h2, h3, h4⟩ | h
  · omega
  · exact Or.inr h
set_option maxHeartbeats 4000000 in
set_option maxRecDepth 100000 in
theorem c_X7_hardNodesx {D : va_G} {cI cJ cZ cT : ClassId} {lo b L : Nat} {xs : Nat → Int32} {hp : MH} {n d : Nat} {Γ : TG} {ga : Nat} {gF : Nat} {gT : Nat} {gW : Nat} {gC : Nat} {gTl : Nat} {gHd : Nat} {gBy : Nat} {gOu : Nat} {gIn : Nat} {gJo : Nat} {gn : Nat} {gm : Nat} {gq : Nat} {gdr : Int} {F T W C Tl Hd By Ou In Jo : Nat → Int} {x1 : Int} (hd0 : 1 ≤ d) (hg : TyG Γ cI cJ cZ ga gF gT gW gC gTl gHd gBy gOu gIn gJo gn gm gq gdr) (hxg : XG Γ cI gF gT gW gC gTl gHd gBy gOu gIn gJo gn gm gq F T W C Tl Hd By Ou In Jo) (ht : Tw Γ hp) (hx1 : 0 ≤ x1 ∧ x1 ≤ 16) (hjo : rwP Jo gn (joX gm F T (fun _ => True))) : Mt (gG D cI cJ cZ cT lo b L xs) mX7_hardNodes d 0 0 [.ref ga, .int (iv x1)] hp n (pI Γ n (fun r => (0 ≤ r ∧ r ≤ 65535) ∧ hdI (joA gm F T) (((2 ^ gn : Nat) : Int) - 1) x1 r)) := by
  refine Mt.of rfl (Nat.le_of_ble_eq_true rfl) ?_
  refine Rn.pick (lv' := [(0, .ref ga), (1, .int (iv x1))]) [0, 1] rfl ?_
  obtain ⟨hg_O, hg_from, hg_to, hg_weight, hg_cost, hg_tail, hg_head, hg_by, hg_out, hg_in, hg_joined, hg_b⟩ := id hg
  obtain ⟨⟨hxg_F, hxg_T, hxg_W, hxg_C, hxg_Tl, hxg_Hd, hxg_By, hxg_Ou, hxg_In, hxg_Jo⟩, ⟨hrg_F, hrg_T, hrg_W, hrg_C, hrg_Tl, hrg_Hd, hrg_By, hrg_Ou, hrg_In, hrg_Jo⟩, houg⟩ := id hxg
  have hgb := hg_b
  refine r_aload_n (pc := 0) dX7_hardNodes_0 (i := 0) rfl rfl ?_
  refine t_callVI (pc := 1) (as := []) (st := []) ht hg_O kX7_31 rfl dX7_hardNodes_1 (c_X3_allNodesx (d := d - 1)  (by omega) hg hxg ht  ) rfl (by omega) (Nat.le_of_ble_eq_true rfl) rfl (fun hp2 y1 ht3 by1 => ?_)
  have fy1 : (y1 = ((2 ^ gn : Nat) : Int) - 1) := by1
  have ey1 : y1 = ((2 ^ gn : Nat) : Int) - 1 := fy1
  subst ey1
  have mp5 : 1 ≤ 2 ^ gn := Nat.one_le_two_pow
  have mq5 : 2 ^ gn ≤ 2 ^ 16 := Nat.pow_le_pow_right (by omega) (by omega)
  refine r_istore_n (pc := 4) (lv' := [(2, .int (iv (((2 ^ gn : Nat) : Int) - 1))), (0, .ref ga), (1, .int (iv x1))]) dX7_hardNodes_4 (i := 2) rfl (by decide) rfl ?_
  refine r_iconst (pc := 5) (v := iv 0) dX7_hardNodes_5 (by decide) ?_
  refine r_istore_n (pc := 6) (lv' := [(3, .int (iv 0)), (2, .int (iv (((2 ^ gn : Nat) : Int) - 1))), (0, .ref ga), (1, .int (iv x1))]) dX7_hardNodes_6 (i := 3) rfl (by decide) rfl ?_
  have B7 : ∀ k : Nat, ∀ hp7 : MH, Tw Γ hp7 → ∀  (v7_2 : Int) (v7_3 : Int), 0 ≤ v7_2 ∧ v7_2 ≤ 65535 ∧ v7_2 ≤ (((2 ^ gn : Nat) : Int) - 1) ∧ 0 ≤ v7_3 ∧ v7_3 ≤ 16 ∧ (v7_3 ≤ (gn : Int)) ∧ (hdI (joA gm F T) (((2 ^ gn : Nat) : Int) - 1) x1 v7_2) → 16 - v7_3 ≤ (k : Int) → Rn (gG D cI cJ cZ cT lo b L xs) mX7_hardNodes d 7 [(0, .ref ga), (1, .int (iv x1)), (2, .int (iv v7_2)), (3, .int (iv v7_3))] [] hp7 n 0 0 (pI Γ n (fun r => (0 ≤ r ∧ r ≤ 65535) ∧ hdI (joA gm F T) (((2 ^ gn : Nat) : Int) - 1) x1 r)) := by
    refine lpS _ ?_
    intro k7 ih7 hp7 ht7 v7_2 v7_3 hf7 hm7
    obtain ⟨hf7_0, hf7_1, hf7_2, hf7_3, hf7_4, hf7_5, ha7_6⟩ := hf7
    refine r_iload_n (pc := 7) dX7_hardNodes_7 (i := 3) rfl rfl ?_
    refine r_aload_n (pc := 8) dX7_hardNodes_8 (i := 0) rfl rfl ?_
    refine t_getE (pc := 9) (.int (iv (gn : Int))) ht7 hg_O fX7_44 dX7_hardNodes_9 rfl ?_
    refine t_icmp_ge (pc := 12) (tgt := 64) dX7_hardNodes_12 (by decide) (by omega) (by omega) (fun c12 => ?_) (fun c12 => ?_)
    · refine r_iload_n (pc := 64) dX7_hardNodes_64 (i := 2) rfl rfl ?_
      exact r_iret (pc := 65) dX7_hardNodes_65 rfl ⟨rfl, ht7, _, rfl, by omega, by assumption⟩
    · refine r_iconst (pc := 15) (v := iv 0) dX7_hardNodes_15 (by decide) ?_
      refine r_istore (pc := 16) (lv' := [(4, .int (iv 0)), (0, .ref ga), (1, .int (iv x1)), (2, .int (iv v7_2)), (3, .int (iv v7_3))]) dX7_hardNodes_16 (by decide) rfl ?_
      have B18 : ∀ k : Nat, ∀ hp18 : MH, Tw Γ hp18 → ∀  (v18_2 : Int) (v18_4 : Int), 0 ≤ v18_2 ∧ v18_2 ≤ 65535 ∧ v18_2 ≤ v7_2 ∧ 0 ≤ v18_4 ∧ v18_4 ≤ 16 ∧ (v18_4 ≤ (gn : Int)) ∧ (hdI (joA gm F T) (((2 ^ gn : Nat) : Int) - 1) x1 v18_2) → 16 - v18_4 ≤ (k : Int) → Rn (gG D cI cJ cZ cT lo b L xs) mX7_hardNodes d 18 [(0, .ref ga), (1, .int (iv x1)), (2, .int (iv v18_2)), (3, .int (iv v7_3)), (4, .int (iv v18_4))] [] hp18 n 0 0 (pI Γ n (fun r => (0 ≤ r ∧ r ≤ 65535) ∧ hdI (joA gm F T) (((2 ^ gn : Nat) : Int) - 1) x1 r)) := by
        refine lpS _ ?_
        intro k18 ih18 hp18 ht18 v18_2 v18_4 hf18 hm18
        obtain ⟨hf18_0, hf18_1, hf18_2, hf18_3, hf18_4, hf18_5, ha18_6⟩ := hf18
        refine r_iload (pc := 18) dX7_hardNodes_18 rfl ?_
        refine r_aload_n (pc := 20) dX7_hardNodes_20 (i := 0) rfl rfl ?_
        refine t_getE (pc := 21) (.int (iv (gn : Int))) ht18 hg_O fX7_44 dX7_hardNodes_21 rfl ?_
        refine t_icmp_ge (pc := 24) (tgt := 58) dX7_hardNodes_24 (by decide) (by omega) (by omega) (fun c24 => ?_) (fun c24 => ?_)
        · refine r_iinc (pc := 58) (v := iv (v7_3 + 1)) (lv' := [(3, .int (iv (v7_3 + 1))), (0, .ref ga), (1, .int (iv x1)), (2, .int (iv v18_2)), (4, .int (iv v18_4))]) dX7_hardNodes_58 rfl (iv_add _ _) (by decide) rfl ?_
          refine r_goto (pc := 61) (tgt := 7) dX7_hardNodes_61 (by decide) ?_
          refine Rn.pick (lv' := [(0, .ref ga), (1, .int (iv x1)), (2, .int (iv v18_2)), (3, .int (iv (v7_3 + 1)))]) [1, 2, 3, 0] rfl ?_
          exact ih7 (Int.toNat (16 - (v7_3 + 1))) (by omega) _ ht18 v18_2 (v7_3 + 1) ⟨by omega, by omega, by omega, by omega, by omega, by omega, by (first | assumption | exact hdi_0)⟩ (by omega)
        · refine r_aload_n (pc := 27) dX7_hardNodes_27 (i := 0) rfl rfl ?_
          refine t_getE (pc := 28) (.ref gJo) ht18 hg_O fX7_41 dX7_hardNodes_28 rfl ?_
          refine r_iload (pc := 31) dX7_hardNodes_31 rfl ?_
          refine t_ialdX (pc := 33) (t0 := 0) ht18 hxg_Jo dX7_hardNodes_33 rfl (by omega) (by omega) (fun b4 => ?_)
          have rb4 := (show Rfx gn 0 65535 Jo by assumption) (Int.toNat v18_4) (by omega)
          refine r_iload_n (pc := 34) dX7_hardNodes_34 (i := 2) rfl rfl ?_
          obtain ⟨z5, hz5, bz5⟩ := and_2 (Jo (Int.toNat v18_4)) v18_2 (by omega) (by omega)
          refine r_iand (pc := 35) (v := iv z5) dX7_hardNodes_35 hz5 ?_
          have mez5 := Me_and hz5 (by omega) (by omega) (by omega)
          have hz35 : ∀ j, Me z5 j ↔ (joA gm F T) (Int.toNat v18_4) j ∧ Me v18_2 j := fun j => by rw [mez5 j, hjo.1 (Int.toNat v18_4) (by omega) j]; exact Iff.rfl
          refine t_callSI (pc := 36) (as := [.int (iv z5)]) (st := []) kX7_52 dX7_hardNodes_36 (t_bitCountx (d := d - 1) (x := z5) (by omega) ht18 (by omega)) rfl (by omega) (Nat.le_of_ble_eq_true rfl) rfl (fun hp7 y6 ht8 by6 => ?_)
          have ey6 : y6 = bcI z5 16 := by6
          subst ey6
          have ry6 := bc_le z5 16
          refine r_iload_n (pc := 39) dX7_hardNodes_39 (i := 1) rfl rfl ?_
          refine t_icmp_ge (pc := 40) (tgt := 52) dX7_hardNodes_40 (by decide) (by omega) (by omega) (fun c40 => ?_) (fun c40 => ?_)
          · refine r_iinc (pc := 52) (v := iv (v18_4 + 1)) (lv' := [(4, .int (iv (v18_4 + 1))), (0, .ref ga), (1, .int (iv x1)), (2, .int (iv v18_2)), (3, .int (iv v7_3))]) dX7_hardNodes_52 rfl (iv_add _ _) (by decide) rfl ?_
            refine r_goto (pc := 55) (tgt := 18) dX7_hardNodes_55 (by decide) ?_
            refine Rn.pick (lv' := [(0, .ref ga), (1, .int (iv x1)), (2, .int (iv v18_2)), (3, .int (iv v7_3)), (4, .int (iv (v18_4 + 1)))]) [1, 2, 3, 4, 0] rfl ?_
            exact ih18 (Int.toNat (16 - (v18_4 + 1))) (by omega) _ ht8 v18_2 (v18_4 + 1) ⟨by omega, by omega, by omega, by omega, by omega, by omega, by (first | exact hhd | assumption)⟩ (by omega)
          · refine r_iload_n (pc := 43) dX7_hardNodes_43 (i := 2) rfl rfl ?_
            refine r_iconst (pc := 44) (v := iv 1) dX7_hardNodes_44 (by decide) ?_
            refine r_iload (pc := 45) dX7_hardNodes_45 rfl ?_
            refine r_ishl (pc := 47) (v := iv ((2 ^ Int.toNat v18_4 : Nat) : Int)) dX7_hardNodes_47 (shl_e (by omega)) ?_
            have mp47_9 : 1 ≤ 2 ^ Int.toNat v18_4 := Nat.one_le_two_pow
            have mq47_10 : 2 ^ Int.toNat v18_4 ≤ 2 ^ 15 := Nat.pow_le_pow_right (by omega) (by omega)
            have ms47 := Me_shl (Int.toNat v18_4)
            refine r_iconst (pc := 48) (v := iv (-1)) dX7_hardNodes_48 (by decide) ?_
            refine r_ixor (pc := 49) (v := iv (-((2 ^ Int.toNat v18_4 : Nat) : Int) - 1)) dX7_hardNodes_49 (iv_not _) ?_
            obtain ⟨z11, hz11, bz11⟩ := and_l v18_2 (-((2 ^ Int.toNat v18_4 : Nat) : Int) - 1) (by omega) (by omega)
            refine r_iand (pc := 50) (v := iv z11) dX7_hardNodes_50 hz11 ?_
            have mez11 := Me_not (y := ((2 ^ Int.toNat v18_4 : Nat) : Int)) hz11 (by omega) (by omega) (by omega)
            have hz50 : ∀ j, Me z11 j ↔ Me v18_2 j ∧ j ≠ Int.toNat v18_4 := fun j => by rw [mez11 j, ms47 j]
            have hhd := hdi_st (fun i j h => joX_sym i j h) (by assumption : hdI (joA gm F T) (((2 ^ gn : Nat) : Int) - 1) x1 v18_2) hz35 (by omega) (by omega) hz50
            refine r_istore_n (pc := 51) (lv' := [(2, .int (iv z11)), (0, .ref ga), (1, .int (iv x1)), (3, .int (iv v7_3)), (4, .int (iv v18_4))]) dX7_hardNodes_51 (i := 2) rfl (by decide) rfl ?_
            refine r_iinc (pc := 52) (v := iv (v18_4 + 1)) (lv' := [(4, .int (iv (v18_4 + 1))), (2, .int (iv z11)), (0, .ref ga), (1, .int (iv x1)), (3, .int (iv v7_3))]) dX7_hardNodes_52 rfl (iv_add _ _) (by decide) rfl ?_
            refine r_goto (pc := 55) (tgt := 18) dX7_hardNodes_55 (by decide) ?_
            refine Rn.pick (lv' := [(0, .ref ga), (1, .int (iv x1)), (2, .int (iv z11)), (3, .int (iv v7_3)), (4, .int (iv (v18_4 + 1)))]) [2, 3, 1, 4, 0] rfl ?_
            exact ih18 (Int.toNat (16 - (v18_4 + 1))) (by omega) _ ht8 z11 (v18_4 + 1) ⟨by omega, by omega, by omega, by omega, by omega, by omega, by (first | exact hhd | assumption)⟩ (by omega)
      refine Rn.pick (lv' := [(0, .ref ga), (1, .int (iv x1)), (2, .int (iv v7_2)), (3, .int (iv v7_3)), (4, .int (iv 0))]) [1, 2, 3, 4, 0] rfl ?_
      exact B18 (Int.toNat (16 - 0)) _ ht7 v7_2 0 ⟨by omega, by omega, by omega, by omega, by omega, by omega, by (first | exact hhd | assumption)⟩ (by omega)
  refine Rn.pick (lv' := [(0, .ref ga), (1, .int (iv x1)), (2, .int (iv (((2 ^ gn : Nat) : Int) - 1))), (3, .int (iv 0))]) [2, 3, 1, 0] rfl ?_
  exact B7 (Int.toNat (16 - 0)) _ ht3 (((2 ^ gn : Nat) : Int) - 1) 0 ⟨by omega, by omega, by omega, by omega, by omega, by omega, by (first | assumption | exact hdi_0)⟩ (by omega)
set_option maxHeartbeats 4000000 in
set_option maxRecDepth 100000 in
theorem c_X7_mostBoundx {D : va_G} {cI cJ cZ cT : ClassId} {lo b L : Nat} {xs : Nat → Int32} {hp : MH} {n d : Nat} {Γ : TG} {s rA rL : Nat} {Nx Cl : Nat → Int} {x2 x3 : Int} (hd0 : 1 ≤ d) (hrA : rd Γ rA (xI cI rL Nx)) (hrR : Rfx rL 0 65535 Nx) (hrL : rL ≤ 16) (hO : rd Γ s (tO 7 [fE (.ref (s + 1)), fE (.ref (s + 2)), fE (.ref (s + 3)), fE (.ref (s + 4)), fE (.ref (s + 5))])) (hcl : rd Γ (s + 2) (xI cI 16 Cl)) (hclR : Rfx 16 0 65535 Cl) (ht : Tw Γ hp) (hx2 : 0 ≤ x2 ∧ x2 ≤ 65535) (hx3 : 0 ≤ x3 ∧ x3 ≤ 16) (hS9 : ∀ i, Me x2 i → i < rL) : Mt (gG D cI cJ cZ cT lo b L xs) mX7_mostBound d 0 0 [.ref s, .ref rA, .int (iv x2), .int (iv x3)] hp n (pI Γ n (fun r => ((-1 ≤ r ∧ r ≤ 15) ∧ r < (rL : Int) ∧ (r < 0 → ∀ i, ¬ Me x2 i) ∧ (0 ≤ r → Me x2 (Int.toNat r))))) := by
  refine Mt.of rfl (Nat.le_of_ble_eq_true rfl) ?_
  refine Rn.pick (lv' := [(0, .ref s), (1, .ref rA), (2, .int (iv x2)), (3, .int (iv x3))]) [0, 1, 2, 3] rfl ?_
  refine r_iconst (pc := 0) (v := iv (-1)) dX7_mostBound_0 (by decide) ?_
  refine r_istore (pc := 1) (lv' := [(4, .int (iv (-1))), (0, .ref s), (1, .ref rA), (2, .int (iv x2)), (3, .int (iv x3))]) dX7_mostBound_1 (by decide) rfl ?_
  refine r_iconst (pc := 3) (v := iv (-1)) dX7_mostBound_3 (by decide) ?_
  refine r_istore (pc := 4) (lv' := [(5, .int (iv (-1))), (4, .int (iv (-1))), (0, .ref s), (1, .ref rA), (2, .int (iv x2)), (3, .int (iv x3))]) dX7_mostBound_4 (by decide) rfl ?_
  refine r_iconst (pc := 6) (v := iv 0) dX7_mostBound_6 (by decide) ?_
  refine r_istore (pc := 7) (lv' := [(6, .int (iv 0)), (5, .int (iv (-1))), (4, .int (iv (-1))), (0, .ref s), (1, .ref rA), (2, .int (iv x2)), (3, .int (iv x3))]) dX7_mostBound_7 (by decide) rfl ?_
  have B9 : ∀ k : Nat, ∀ hp9 : MH, Tw Γ hp9 → ∀  (v9_4 : Int) (v9_5 : Int) (v9_6 : Int), (-1) ≤ v9_4 ∧ v9_4 ≤ 15 ∧ (-1) ≤ v9_5 ∧ v9_5 ≤ 272 ∧ 0 ≤ v9_6 ∧ v9_6 ≤ 16 ∧ (v9_6 ≤ (rL : Int)) ∧ (v9_4 < (rL : Int)) ∧ (bzP x2 v9_6 v9_4 v9_5) → 16 - v9_6 ≤ (k : Int) → Rn (gG D cI cJ cZ cT lo b L xs) mX7_mostBound d 9 [(0, .ref s), (1, .ref rA), (2, .int (iv x2)), (3, .int (iv x3)), (4, .int (iv v9_4)), (5, .int (iv v9_5)), (6, .int (iv v9_6))] [] hp9 n 0 0 (pI Γ n (fun r => ((-1 ≤ r ∧ r ≤ 15) ∧ r < (rL : Int) ∧ (r < 0 → ∀ i, ¬ Me x2 i) ∧ (0 ≤ r → Me x2 (Int.toNat r))))) := by
    refine lpS _ ?_
    intro k9 ih9 hp9 ht9 v9_4 v9_5 v9_6 hf9 hm9
    obtain ⟨hf9_0, hf9_1, hf9_2, hf9_3, hf9_4, hf9_5, hf9_6, hf9_7, ha9_8⟩ := hf9
    refine r_iload (pc := 9) dX7_mostBound_9 rfl ?_
    refine r_aload_n (pc := 11) dX7_mostBound_11 (i := 1) rfl rfl ?_
    refine t_lenI (pc := 12) (t0 := 0) ht9 hrA dX7_mostBound_12 rfl ?_
    refine t_icmp_ge (pc := 13) (tgt := 105) dX7_mostBound_13 (by decide) (by omega) (by omega) (fun c13 => ?_) (fun c13 => ?_)
    · refine r_iload (pc := 105) dX7_mostBound_105 rfl ?_
      exact r_iret (pc := 107) dX7_mostBound_107 rfl ⟨rfl, ht9, _, rfl, by omega, by omega, fun h9 => bz_e (by assumption : bzP x2 v9_6 v9_4 v9_5) h9 hS9 (by omega), fun h9 => bz_m (by assumption : bzP x2 v9_6 v9_4 v9_5) h9⟩
    · refine r_iload_n (pc := 16) dX7_mostBound_16 (i := 2) rfl rfl ?_
      refine r_iload (pc := 17) dX7_mostBound_17 rfl ?_
      have hq19_1 := shr_le (Int.toNat x2) (Int.toNat v9_6)
      refine r_ishr (pc := 19) (v := iv ((Int.toNat x2 >>> Int.toNat v9_6 : Nat) : Int)) dX7_mostBound_19 (shr_e (by omega) (by omega)) ?_
      refine r_iconst (pc := 20) (v := iv 1) dX7_mostBound_20 (by decide) ?_
      refine r_iand (pc := 21) (v := iv (((Int.toNat x2 >>> Int.toNat v9_6 : Nat) : Int) % 2)) dX7_mostBound_21 (and1_e _ (by omega)) ?_
      have mb21 := @Me_bit x2 v9_6
      refine t_if_eq (pc := 22) (tgt := 99) dX7_mostBound_22 (by decide) (by omega) (fun c22 => ?_) (fun c22 => ?_)
      · have nm22 : ¬ Me x2 (Int.toNat v9_6) := fun h9 => absurd (Me_bit.mpr h9) (by omega)
        have hbz := bz_sk (by assumption : bzP x2 v9_6 v9_4 v9_5) (by omega) nm22
        refine r_iinc (pc := 99) (v := iv (v9_6 + 1)) (lv' := [(6, .int (iv (v9_6 + 1))), (0, .ref s), (1, .ref rA), (2, .int (iv x2)), (3, .int (iv x3)), (4, .int (iv v9_4)), (5, .int (iv v9_5))]) dX7_mostBound_99 rfl (iv_add _ _) (by decide) rfl ?_
        refine r_goto (pc := 102) (tgt := 9) dX7_mostBound_102 (by decide) ?_
        refine Rn.pick (lv' := [(0, .ref s), (1, .ref rA), (2, .int (iv x2)), (3, .int (iv x3)), (4, .int (iv v9_4)), (5, .int (iv v9_5)), (6, .int (iv (v9_6 + 1)))]) [1, 2, 3, 4, 5, 6, 0] rfl ?_
        exact ih9 (Int.toNat (16 - (v9_6 + 1))) (by omega) _ ht9 v9_4 v9_5 (v9_6 + 1) ⟨by omega, by omega, by omega, by omega, by omega, by omega, by omega, by omega, by (first | exact hbz | exact hbz _ | exact bz_0)⟩ (by omega)
      · have pm22 : Me x2 (Int.toNat v9_6) := Me_bit.mp (by omega)
        refine r_aload_n (pc := 25) dX7_mostBound_25 (i := 1) rfl rfl ?_
        refine r_iload (pc := 26) dX7_mostBound_26 rfl ?_
        refine t_ialdX (pc := 28) (t0 := 0) ht9 hrA dX7_mostBound_28 rfl (by omega) (by omega) (fun b2 => ?_)
        have rb2 := (show Rfx rL 0 65535 Nx by assumption) (Int.toNat v9_6) (by omega)
        refine r_iload_n (pc := 29) dX7_mostBound_29 (i := 2) rfl rfl ?_
        obtain ⟨z3, hz3, bz3⟩ := and_2 (Nx (Int.toNat v9_6)) x2 (by omega) (by omega)
        refine r_iand (pc := 30) (v := iv z3) dX7_mostBound_30 hz3 ?_
        have mez3 := Me_and hz3 (by omega) (by omega) (by omega)
        refine t_callSI (pc := 31) (as := [.int (iv z3)]) (st := []) kX7_52 dX7_mostBound_31 (t_bitCountx (d := d - 1) (x := z3) (by omega) ht9 (by omega)) rfl (by omega) (Nat.le_of_ble_eq_true rfl) rfl (fun hp5 y4 ht6 by4 => ?_)
        have ey4 : y4 = bcI z3 16 := by4
        subst ey4
        have ry4 := bc_le z3 16
        refine r_istore (pc := 34) (lv' := [(7, .int (iv (bcI z3 16))), (0, .ref s), (1, .ref rA), (2, .int (iv x2)), (3, .int (iv x3)), (4, .int (iv v9_4)), (5, .int (iv v9_5)), (6, .int (iv v9_6))]) dX7_mostBound_34 (by decide) rfl ?_
        refine r_iconst (pc := 36) (v := iv 0) dX7_mostBound_36 (by decide) ?_
        refine r_istore (pc := 37) (lv' := [(8, .int (iv 0)), (7, .int (iv (bcI z3 16))), (0, .ref s), (1, .ref rA), (2, .int (iv x2)), (3, .int (iv x3)), (4, .int (iv v9_4)), (5, .int (iv v9_5)), (6, .int (iv v9_6))]) dX7_mostBound_37 (by decide) rfl ?_
        have B39 : ∀ k : Nat, ∀ hp39 : MH, Tw Γ hp39 → ∀  (v39_7 : Int) (v39_8 : Int), 0 ≤ v39_7 ∧ v39_7 ≤ 272 ∧ 0 ≤ v39_8 ∧ v39_8 ≤ 16 ∧ (v39_7 ≤ 16 + 16 * v39_8) → 16 - v39_8 ≤ (k : Int) → Rn (gG D cI cJ cZ cT lo b L xs) mX7_mostBound d 39 [(0, .ref s), (1, .ref rA), (2, .int (iv x2)), (3, .int (iv x3)), (4, .int (iv v9_4)), (5, .int (iv v9_5)), (6, .int (iv v9_6)), (7, .int (iv v39_7)), (8, .int (iv v39_8))] [] hp39 n 0 0 (pI Γ n (fun r => ((-1 ≤ r ∧ r ≤ 15) ∧ r < (rL : Int) ∧ (r < 0 → ∀ i, ¬ Me x2 i) ∧ (0 ≤ r → Me x2 (Int.toNat r))))) := by
          refine lpS _ ?_
          intro k39 ih39 hp39 ht39 v39_7 v39_8 hf39 hm39
          refine r_iload (pc := 39) dX7_mostBound_39 rfl ?_
          refine r_iload_n (pc := 41) dX7_mostBound_41 (i := 3) rfl rfl ?_
          refine t_icmp_ge (pc := 42) (tgt := 84) dX7_mostBound_42 (by decide) (by omega) (by omega) (fun c42 => ?_) (fun c42 => ?_)
          · refine r_iload (pc := 84) dX7_mostBound_84 rfl ?_
            refine r_iload (pc := 86) dX7_mostBound_86 rfl ?_
            refine t_icmp_le (pc := 88) (tgt := 99) dX7_mostBound_88 (by decide) (by omega) (by omega) (fun c88 => ?_) (fun c88 => ?_)
            · have hbz : ∀ m1, bzP x2 (v9_6 + 1) v9_4 m1 := fun m1 => bz_n0 (by assumption : bzP x2 v9_6 v9_4 v9_5) (by omega) (by omega)
              refine r_iinc (pc := 99) (v := iv (v9_6 + 1)) (lv' := [(6, .int (iv (v9_6 + 1))), (0, .ref s), (1, .ref rA), (2, .int (iv x2)), (3, .int (iv x3)), (4, .int (iv v9_4)), (5, .int (iv v9_5)), (7, .int (iv v39_7)), (8, .int (iv v39_8))]) dX7_mostBound_99 rfl (iv_add _ _) (by decide) rfl ?_
              refine r_goto (pc := 102) (tgt := 9) dX7_mostBound_102 (by decide) ?_
              refine Rn.pick (lv' := [(0, .ref s), (1, .ref rA), (2, .int (iv x2)), (3, .int (iv x3)), (4, .int (iv v9_4)), (5, .int (iv v9_5)), (6, .int (iv (v9_6 + 1)))]) [1, 2, 3, 4, 5, 6, 0] rfl ?_
              exact ih9 (Int.toNat (16 - (v9_6 + 1))) (by omega) _ ht39 v9_4 v9_5 (v9_6 + 1) ⟨by omega, by omega, by omega, by omega, by omega, by omega, by omega, by omega, by (first | exact hbz | exact hbz _ | exact bz_0)⟩ (by omega)
            · have hbz : ∀ m1, bzP x2 (v9_6 + 1) v9_6 m1 := fun m1 => bz_y (by omega) pm22
              refine r_iload (pc := 91) dX7_mostBound_91 rfl ?_
              refine r_istore (pc := 93) (lv' := [(4, .int (iv v9_6)), (0, .ref s), (1, .ref rA), (2, .int (iv x2)), (3, .int (iv x3)), (5, .int (iv v9_5)), (6, .int (iv v9_6)), (7, .int (iv v39_7)), (8, .int (iv v39_8))]) dX7_mostBound_93 (by decide) rfl ?_
              refine r_iload (pc := 95) dX7_mostBound_95 rfl ?_
              refine r_istore (pc := 97) (lv' := [(5, .int (iv v39_7)), (4, .int (iv v9_6)), (0, .ref s), (1, .ref rA), (2, .int (iv x2)), (3, .int (iv x3)), (6, .int (iv v9_6)), (7, .int (iv v39_7)), (8, .int (iv v39_8))]) dX7_mostBound_97 (by decide) rfl ?_
              refine r_iinc (pc := 99) (v := iv (v9_6 + 1)) (lv' := [(6, .int (iv (v9_6 + 1))), (5, .int (iv v39_7)), (4, .int (iv v9_6)), (0, .ref s), (1, .ref rA), (2, .int (iv x2)), (3, .int (iv x3)), (7, .int (iv v39_7)), (8, .int (iv v39_8))]) dX7_mostBound_99 rfl (iv_add _ _) (by decide) rfl ?_
              refine r_goto (pc := 102) (tgt := 9) dX7_mostBound_102 (by decide) ?_
              refine Rn.pick (lv' := [(0, .ref s), (1, .ref rA), (2, .int (iv x2)), (3, .int (iv x3)), (4, .int (iv v9_6)), (5, .int (iv v39_7)), (6, .int (iv (v9_6 + 1)))]) [3, 4, 5, 6, 2, 1, 0] rfl ?_
              exact ih9 (Int.toNat (16 - (v9_6 + 1))) (by omega) _ ht39 v9_6 v39_7 (v9_6 + 1) ⟨by omega, by omega, by omega, by omega, by omega, by omega, by omega, by omega, by (first | exact hbz | exact hbz _ | exact bz_0)⟩ (by omega)
          · refine r_iload (pc := 45) dX7_mostBound_45 rfl ?_
            refine r_bipush (pc := 47) (v := iv 16) dX7_mostBound_47 (by decide) ?_
            refine t_icmp_ge (pc := 49) (tgt := 84) dX7_mostBound_49 (by decide) (by omega) (by omega) (fun c49 => ?_) (fun c49 => ?_)
            · exfalso
              omega
            · refine r_iload (pc := 52) dX7_mostBound_52 rfl ?_
              refine r_aload_n (pc := 54) dX7_mostBound_54 (i := 0) rfl rfl ?_
              refine t_getE (pc := 55) (.ref (s + 2)) ht39 hO fX7_15 dX7_mostBound_55 rfl ?_
              refine r_iload (pc := 58) dX7_mostBound_58 rfl ?_
              refine t_ialdX (pc := 60) (t0 := 0) ht39 hcl dX7_mostBound_60 rfl (by decide) (by omega) (fun b7 => ?_)
              have rb7 := (show Rfx 16 0 65535 Cl by assumption) (Int.toNat v39_8) (by omega)
              refine r_aload_n (pc := 61) dX7_mostBound_61 (i := 1) rfl rfl ?_
              refine r_iload (pc := 62) dX7_mostBound_62 rfl ?_
              refine t_ialdX (pc := 64) (t0 := 0) ht39 hrA dX7_mostBound_64 rfl (by omega) (by omega) (fun b8 => ?_)
              have rb8 := (show Rfx rL 0 65535 Nx by assumption) (Int.toNat v9_6) (by omega)
              obtain ⟨z9, hz9, bz9⟩ := and_2 (Cl (Int.toNat v39_8)) (Nx (Int.toNat v9_6)) (by omega) (by omega)
              refine r_iand (pc := 65) (v := iv z9) dX7_mostBound_65 hz9 ?_
              have mez9 := Me_and hz9 (by omega) (by omega) (by omega)
              refine t_if_ne (pc := 66) (tgt := 73) dX7_mostBound_66 (by decide) (by omega) (fun c66 => ?_) (fun c66 => ?_)
              · refine r_bipush (pc := 73) (v := iv 16) dX7_mostBound_73 (by decide) ?_
                refine r_iadd (pc := 75) (v := iv (v39_7 + 16)) dX7_mostBound_75 (iv_add _ _) ?_
                refine r_istore (pc := 76) (lv' := [(7, .int (iv (v39_7 + 16))), (0, .ref s), (1, .ref rA), (2, .int (iv x2)), (3, .int (iv x3)), (4, .int (iv v9_4)), (5, .int (iv v9_5)), (6, .int (iv v9_6)), (8, .int (iv v39_8))]) dX7_mostBound_76 (by decide) rfl ?_
                refine r_iinc (pc := 78) (v := iv (v39_8 + 1)) (lv' := [(8, .int (iv (v39_8 + 1))), (7, .int (iv (v39_7 + 16))), (0, .ref s), (1, .ref rA), (2, .int (iv x2)), (3, .int (iv x3)), (4, .int (iv v9_4)), (5, .int (iv v9_5)), (6, .int (iv v9_6))]) dX7_mostBound_78 rfl (iv_add _ _) (by decide) rfl ?_
                refine r_goto (pc := 81) (tgt := 39) dX7_mostBound_81 (by decide) ?_
                refine Rn.pick (lv' := [(0, .ref s), (1, .ref rA), (2, .int (iv x2)), (3, .int (iv x3)), (4, .int (iv v9_4)), (5, .int (iv v9_5)), (6, .int (iv v9_6)), (7, .int (iv (v39_7 + 16))), (8, .int (iv (v39_8 + 1)))]) [2, 3, 4, 5, 6, 7, 8, 1, 0] rfl ?_
                exact ih39 (Int.toNat (16 - (v39_8 + 1))) (by omega) _ ht39 (v39_7 + 16) (v39_8 + 1) ⟨by omega, by omega, by omega, by omega, by omega⟩ (by omega)
              · refine r_iconst (pc := 69) (v := iv 0) dX7_mostBound_69 (by decide) ?_
                refine r_goto (pc := 70) (tgt := 75) dX7_mostBound_70 (by decide) ?_
                refine r_iadd (pc := 75) (v := iv (v39_7 + 0)) dX7_mostBound_75 (iv_add _ _) ?_
                refine r_istore (pc := 76) (lv' := [(7, .int (iv (v39_7 + 0))), (0, .ref s), (1, .ref rA), (2, .int (iv x2)), (3, .int (iv x3)), (4, .int (iv v9_4)), (5, .int (iv v9_5)), (6, .int (iv v9_6)), (8, .int (iv v39_8))]) dX7_mostBound_76 (by decide) rfl ?_
                refine r_iinc (pc := 78) (v := iv (v39_8 + 1)) (lv' := [(8, .int (iv (v39_8 + 1))), (7, .int (iv (v39_7 + 0))), (0, .ref s), (1, .ref rA), (2, .int (iv x2)), (3, .int (iv x3)), (4, .int (iv v9_4)), (5, .int (iv v9_5)), (6, .int (iv v9_6))]) dX7_mostBound_78 rfl (iv_add _ _) (by decide) rfl ?_
                refine r_goto (pc := 81) (tgt := 39) dX7_mostBound_81 (by decide) ?_
                refine Rn.pick (lv' := [(0, .ref s), (1, .ref rA), (2, .int (iv x2)), (3, .int (iv x3)), (4, .int (iv v9_4)), (5, .int (iv v9_5)), (6, .int (iv v9_6)), (7, .int (iv (v39_7 + 0))), (8, .int (iv (v39_8 + 1)))]) [2, 3, 4, 5, 6, 7, 8, 1, 0] rfl ?_
                exact ih39 (Int.toNat (16 - (v39_8 + 1))) (by omega) _ ht39 (v39_7 + 0) (v39_8 + 1) ⟨by omega, by omega, by omega, by omega, by omega⟩ (by omega)
        refine Rn.pick (lv' := [(0, .ref s), (1, .ref rA), (2, .int (iv x2)), (3, .int (iv x3)), (4, .int (iv v9_4)), (5, .int (iv v9_5)), (6, .int (iv v9_6)), (7, .int (iv (bcI z3 16))), (8, .int (iv 0))]) [2, 3, 4, 5, 6, 7, 8, 1, 0] rfl ?_
        exact B39 (Int.toNat (16 - 0)) _ ht6 (bcI z3 16) 0 ⟨by omega, by omega, by omega, by omega, by omega⟩ (by omega)
  refine Rn.pick (lv' := [(0, .ref s), (1, .ref rA), (2, .int (iv x2)), (3, .int (iv x3)), (4, .int (iv (-1))), (5, .int (iv (-1))), (6, .int (iv 0))]) [3, 4, 5, 6, 2, 1, 0] rfl ?_
  exact B9 (Int.toNat (16 - 0)) _ ht (-1) (-1) 0 ⟨by omega, by omega, by omega, by omega, by omega, by omega, by omega, by omega, by (first | exact hbz | exact hbz _ | exact bz_0)⟩ (by omega)
set_option maxHeartbeats 4000000 in
set_option maxRecDepth 100000 in
theorem c_X7_canColour_st {D : va_G} {cI cJ cZ cT : ClassId} {lo b L : Nat} {xs : Nat → Int32} {hp : MH} {n d : Nat} {Γ : TG} {s rA rL rM : Nat} {Nx Cl : Nat → Int} {R : Nat → Nat → Prop} {x2 x3 x4 x5 : Int} (hd0 : 2 ≤ d) (hrA : rd Γ rA (xI cI rL Nx)) (hrR : Rfx rL 0 65535 Nx) (hrL : rL ≤ 16) (hrM : rM ≤ rL) (hrw : ∀ i, i < rM → ∀ j, Me (Nx i) j ↔ R i j) (hO : rd Γ s (tO 7 [fE (.ref (s + 1)), fE (.ref (s + 2)), fE (.ref (s + 3)), fE (.ref (s + 4)), fE (.ref (s + 5))])) (hne : rA ≠ s + 2) (hR9 : Rfx 16 0 65535 Cl) (ht : Tw (ov Γ (s + 2) (xI cI 16 Cl)) hp) (hx2 : 0 ≤ x2 ∧ x2 ≤ 65535) (hx3 : 0 ≤ x3 ∧ x3 ≤ 16) (hx4 : 0 ≤ x4 ∧ x4 ≤ 16) (hx5 : 0 ≤ x5 ∧ x5 ≤ 16) (hdp : bcI x2 16 + x5 ≤ 16) (hsy : ∀ i j, R i j → R j i) (hS9 : ∀ i, Me x2 i → i < rM) (hus : usP Cl x3) (hdj : djP x2 Cl) (ih : ∀ (hp : MH) (n : Nat) (z u : Int) (Cl1 : Nat → Int), Tw (ov Γ (s + 2) (xI cI 16 Cl1)) hp → Rfx 16 0 65535 Cl1 → (0 ≤ z ∧ z ≤ 65535) → (0 ≤ u ∧ u ≤ 16) → suP z x2 → bcI z 16 < bcI x2 16 → usP Cl1 u → djP z Cl1 → Mt (gG D cI cJ cZ cT lo b L xs) mX7_canColour (d - 1) 0 0 [.ref s, .ref rA, .int (iv z), .int (iv u), .int (iv x4), .int (iv (x5 + 1))] hp n (pRo Γ cI (s + 2) 16 n (fun v f => Rfx 16 0 65535 f ∧ ((v = 1 ∧ exQ R z Cl1 x4) ∨ (v = 0 ∧ f = Cl1 ∧ ¬ exQ R z Cl1 x4))))) : Mt (gG D cI cJ cZ cT lo b L xs) mX7_canColour d 0 0 [.ref s, .ref rA, .int (iv x2), .int (iv x3), .int (iv x4), .int (iv x5)] hp n (pRo Γ cI (s + 2) 16 n (fun v f => Rfx 16 0 65535 f ∧ ((v = 1 ∧ exQ R x2 Cl x4) ∨ (v = 0 ∧ f = Cl ∧ ¬ exQ R x2 Cl x4)))) := by
  refine Mt.of rfl (Nat.le_of_ble_eq_true rfl) ?_
  refine Rn.pick (lv' := [(0, .ref s), (1, .ref rA), (2, .int (iv x2)), (3, .int (iv x3)), (4, .int (iv x4)), (5, .int (iv x5))]) [0, 1, 2, 3, 4, 5] rfl ?_
  have hb1 := bc_le x2 16
  refine r_iload_n (pc := 0) dX7_canColour_0 (i := 2) rfl rfl ?_
  refine t_if_ne (pc := 1) (tgt := 6) dX7_canColour_1 (by decide) (by omega) (fun c1 => ?_) (fun c1 => ?_)
  · have hb2 := bc_less (S := x2) (Z := 0) (by omega) (by omega) (fun i g => absurd g (Me_0 i)) (Me_ex (show 0 < x2 by omega)).choose_spec (Me_0 _)
    have hb3 := bc_le 0 16
    refine r_aload_n (pc := 6) dX7_canColour_6 (i := 0) rfl rfl ?_
    refine r_aload_n (pc := 7) dX7_canColour_7 (i := 1) rfl rfl ?_
    refine r_iload_n (pc := 8) dX7_canColour_8 (i := 2) rfl rfl ?_
    refine r_iload_n (pc := 9) dX7_canColour_9 (i := 3) rfl rfl ?_
    refine t_callVI (pc := 10) (as := [.ref rA, .int (iv x2), .int (iv x3)]) (st := []) ht (rd_ov (by omega) hO) kX7_78 rfl dX7_canColour_10 (c_X7_mostBoundx (d := d - 1) (x2 := x2) (x3 := x3) (by omega) (rd_ov hne hrA) hrR hrL (rd_ov (by omega) hO) (rd_of (ov_s _ _ _)) hR9 ht (by omega) (by omega) (fun i g => Nat.lt_of_lt_of_le (hS9 i g) hrM)) rfl (by omega) (Nat.le_of_ble_eq_true rfl) rfl (fun hp1 yv ht2 hyv => ?_)
    obtain ⟨hyv1, hyv2, hyv3, hyv4⟩ := hyv
    have hyv0 : 0 ≤ yv := Classical.byContradiction (fun g => hyv3 (by omega) _ (Me_ex (show 0 < x2 by omega)).choose_spec)
    have hmv := hyv4 hyv0
    have hvM := hS9 _ hmv
    clear hyv3 hyv4
    refine r_istore (pc := 13) (lv' := [(6, .int (iv yv)), (0, .ref s), (1, .ref rA), (2, .int (iv x2)), (3, .int (iv x3)), (4, .int (iv x4)), (5, .int (iv x5))]) dX7_canColour_13 (by decide) rfl ?_
    refine r_iload (pc := 15) dX7_canColour_15 rfl ?_
    refine r_bipush (pc := 17) (v := iv 16) dX7_canColour_17 (by decide) ?_
    refine t_icmp_ge (pc := 19) (tgt := 27) dX7_canColour_19 (by decide) (by omega) (by omega) (fun c19 => ?_) (fun c19 => ?_)
    · exfalso
      omega
    · refine r_iload (pc := 22) dX7_canColour_22 rfl ?_
      refine t_if_ge (pc := 24) (tgt := 29) dX7_canColour_24 (by decide) (by omega) (fun c24 => ?_) (fun c24 => ?_)
      · refine r_iconst (pc := 29) (v := iv 0) dX7_canColour_29 (by decide) ?_
        refine r_istore (pc := 30) (lv' := [(7, .int (iv 0)), (6, .int (iv yv)), (0, .ref s), (1, .ref rA), (2, .int (iv x2)), (3, .int (iv x3)), (4, .int (iv x4)), (5, .int (iv x5))]) dX7_canColour_30 (by decide) rfl ?_
        have B32 : ∀ k : Nat, ∀ Rw32 : Nat → Int, ∀ hp32 : MH, Tw (ov Γ (s + 2) (xI cI 16 Rw32)) hp32 → ∀  (v32_7 : Int), 0 ≤ v32_7 ∧ v32_7 ≤ 16 ∧ (v32_7 ≤ x3 + 1) ∧ (Rw32 = Cl) ∧ (ccI R x2 Cl x4 (Int.toNat yv) v32_7) → 16 - v32_7 ≤ (k : Int) → Rn (gG D cI cJ cZ cT lo b L xs) mX7_canColour d 32 [(0, .ref s), (1, .ref rA), (2, .int (iv x2)), (3, .int (iv x3)), (4, .int (iv x4)), (5, .int (iv x5)), (6, .int (iv yv)), (7, .int (iv v32_7))] [] hp32 n 0 0 (pRo Γ cI (s + 2) 16 n (fun v f => Rfx 16 0 65535 f ∧ ((v = 1 ∧ exQ R x2 Cl x4) ∨ (v = 0 ∧ f = Cl ∧ ¬ exQ R x2 Cl x4)))) := by
          refine lpS _ ?_
          intro k32 ih32 Rw32 hp32 ht32 v32_7 hf32 hm32
          obtain ⟨hf32_0, hf32_1, hf32_2, ha32_3, ha32_4⟩ := hf32
          refine r_iload (pc := 32) dX7_canColour_32 rfl ?_
          refine r_iload_n (pc := 34) dX7_canColour_34 (i := 3) rfl rfl ?_
          refine t_icmp_gt (pc := 35) (tgt := 135) dX7_canColour_35 (by decide) (by omega) (by omega) (fun c35 => ?_) (fun c35 => ?_)
          · have h33 : Cl = Rw32 := (by assumption : Rw32 = Cl).symm
            subst h33
            refine r_iconst (pc := 135) (v := iv 0) dX7_canColour_135 (by decide) ?_
            exact r_zret (pc := 136) dX7_canColour_136 rfl (iv_nar (by omega)) ⟨rfl, _, Cl, rfl, ht32, hR9, Or.inr ⟨rfl, rfl, cc_e (by assumption : ccI R x2 Cl x4 (Int.toNat yv) v32_7) (by omega) hmv hus (by omega) (by omega) hR9 (by omega)⟩⟩
          · have h33 : Cl = Rw32 := (by assumption : Rw32 = Cl).symm
            subst h33
            refine r_iload (pc := 38) dX7_canColour_38 rfl ?_
            refine r_iload (pc := 40) dX7_canColour_40 rfl ?_
            refine t_icmp_ge (pc := 42) (tgt := 135) dX7_canColour_42 (by decide) (by omega) (by omega) (fun c42 => ?_) (fun c42 => ?_)
            · refine r_iconst (pc := 135) (v := iv 0) dX7_canColour_135 (by decide) ?_
              exact r_zret (pc := 136) dX7_canColour_136 rfl (iv_nar (by omega)) ⟨rfl, _, Cl, rfl, ht32, hR9, Or.inr ⟨rfl, rfl, cc_e (by assumption : ccI R x2 Cl x4 (Int.toNat yv) v32_7) (by omega) hmv hus (by omega) (by omega) hR9 (by omega)⟩⟩
            · refine r_iload (pc := 45) dX7_canColour_45 rfl ?_
              refine r_bipush (pc := 47) (v := iv 16) dX7_canColour_47 (by decide) ?_
              refine t_icmp_ge (pc := 49) (tgt := 135) dX7_canColour_49 (by decide) (by omega) (by omega) (fun c49 => ?_) (fun c49 => ?_)
              · exfalso
                omega
              · refine r_aload_n (pc := 52) dX7_canColour_52 (i := 0) rfl rfl ?_
                refine t_getE (pc := 53) (.ref (s + 2)) ht32 (rd_ov (by omega) hO) fX7_15 dX7_canColour_53 rfl ?_
                refine r_iload (pc := 56) dX7_canColour_56 rfl ?_
                refine t_ialdX (pc := 58) (t0 := 0) ht32 (rd_of (ov_s _ _ _)) dX7_canColour_58 rfl (by decide) (by omega) (fun b3 => ?_)
                have rb3 := (show Rfx 16 0 65535 Cl by assumption) (Int.toNat v32_7) (by omega)
                refine r_aload_n (pc := 59) dX7_canColour_59 (i := 1) rfl rfl ?_
                refine r_iload (pc := 60) dX7_canColour_60 rfl ?_
                refine t_ialdX (pc := 62) (t0 := 0) ht32 (rd_ov hne hrA) dX7_canColour_62 rfl (by omega) (by omega) (fun b4 => ?_)
                have rb4 := (show Rfx rL 0 65535 Nx by assumption) (Int.toNat yv) (by omega)
                obtain ⟨z5, hz5, bz5⟩ := and_2 (Cl (Int.toNat v32_7)) (Nx (Int.toNat yv)) (by omega) (by omega)
                refine r_iand (pc := 63) (v := iv z5) dX7_canColour_63 hz5 ?_
                have mez5 := Me_and hz5 (by omega) (by omega) (by omega)
                refine t_if_ne (pc := 64) (tgt := 129) dX7_canColour_64 (by decide) (by omega) (fun c64 => ?_) (fun c64 => ?_)
                · have hcc : ccI R x2 Cl x4 (Int.toNat yv) (v32_7 + 1) := by
                    obtain ⟨u9, hu9⟩ := Me_ex (show 0 < z5 by omega)
                    have h8 := (mez5 u9).mp hu9
                    exact cc_n (by assumption : ccI R x2 Cl x4 (Int.toNat yv) v32_7) h8.1 ((hrw (Int.toNat yv) hvM u9).mp h8.2)
                  have hbk : Cl = Cl := rfl
                  refine r_iinc (pc := 129) (v := iv (v32_7 + 1)) (lv' := [(7, .int (iv (v32_7 + 1))), (0, .ref s), (1, .ref rA), (2, .int (iv x2)), (3, .int (iv x3)), (4, .int (iv x4)), (5, .int (iv x5)), (6, .int (iv yv))]) dX7_canColour_129 rfl (iv_add _ _) (by decide) rfl ?_
                  refine r_goto (pc := 132) (tgt := 32) dX7_canColour_132 (by decide) ?_
                  refine Rn.pick (lv' := [(0, .ref s), (1, .ref rA), (2, .int (iv x2)), (3, .int (iv x3)), (4, .int (iv x4)), (5, .int (iv x5)), (6, .int (iv yv)), (7, .int (iv (v32_7 + 1)))]) [1, 2, 3, 4, 5, 6, 7, 0] rfl ?_
                  exact ih32 (Int.toNat (16 - (v32_7 + 1))) (by omega) Cl _ ht32 (v32_7 + 1) ⟨by omega, by omega, by omega, by (first | exact hbk | rfl), by (first | exact hcc | exact cc_0)⟩ (by omega)
                · have hnu : ∀ u, Me (Cl (Int.toNat v32_7)) u → ¬ R (Int.toNat yv) u := fun u g g1 => by
                    have h8 := (mez5 u).mpr ⟨g, (hrw (Int.toNat yv) hvM u).mpr g1⟩
                    rw [show z5 = 0 by omega] at h8
                    exact Me_0 _ h8
                  refine r_aload_n (pc := 67) dX7_canColour_67 (i := 0) rfl rfl ?_
                  refine t_getE (pc := 68) (.ref (s + 2)) ht32 (rd_ov (by omega) hO) fX7_15 dX7_canColour_68 rfl ?_
                  refine r_iload (pc := 71) dX7_canColour_71 rfl ?_
                  refine r_dup2_11 (pc := 73) dX7_canColour_73 rfl rfl ?_
                  refine t_ialdX (pc := 74) (t0 := 0) ht32 (rd_of (ov_s _ _ _)) dX7_canColour_74 rfl (by decide) (by omega) (fun b6 => ?_)
                  have rb6 := (show Rfx 16 0 65535 Cl by assumption) (Int.toNat v32_7) (by omega)
                  refine r_iconst (pc := 75) (v := iv 1) dX7_canColour_75 (by decide) ?_
                  refine r_iload (pc := 76) dX7_canColour_76 rfl ?_
                  refine r_ishl (pc := 78) (v := iv ((2 ^ Int.toNat yv : Nat) : Int)) dX7_canColour_78 (shl_e (by omega)) ?_
                  have mp78_7 : 1 ≤ 2 ^ Int.toNat yv := Nat.one_le_two_pow
                  have mq78_8 : 2 ^ Int.toNat yv ≤ 2 ^ 15 := Nat.pow_le_pow_right (by omega) (by omega)
                  have ms78 := Me_shl (Int.toNat yv)
                  obtain ⟨z9, hz9, bz9⟩ := or_2 16 (Cl (Int.toNat v32_7)) ((2 ^ Int.toNat yv : Nat) : Int) (by omega) (by omega) (by decide)
                  refine r_ior (pc := 79) (v := iv z9) dX7_canColour_79 hz9 ?_
                  have mez9 := Me_or hz9 (by omega) (by omega) (by omega)
                  have hz79 : ∀ j, Me z9 j ↔ Me (Cl (Int.toNat v32_7)) j ∨ j = (Int.toNat yv) := fun j => by rw [mez9 j, ms78 j]
                  refine t_iastX (pc := 80) (t0 := 0) ht32 (ov_s _ _ _) dX7_canColour_80 rfl (by decide) (by omega) (by omega) (fun hp10 ht11 => ?_)
                  rw [ov_ov] at ht11
                  have hR80 : Rfx 16 0 65535 (fup Cl (Int.toNat v32_7) z9) := Rfx_up (by assumption) (by omega)
                  refine r_aload_n (pc := 81) dX7_canColour_81 (i := 0) rfl rfl ?_
                  refine r_aload_n (pc := 82) dX7_canColour_82 (i := 1) rfl rfl ?_
                  refine r_iload_n (pc := 83) dX7_canColour_83 (i := 2) rfl rfl ?_
                  refine r_iconst (pc := 84) (v := iv 1) dX7_canColour_84 (by decide) ?_
                  refine r_iload (pc := 85) dX7_canColour_85 rfl ?_
                  refine r_ishl (pc := 87) (v := iv ((2 ^ Int.toNat yv : Nat) : Int)) dX7_canColour_87 (shl_e (by omega)) ?_
                  have mp87_12 : 1 ≤ 2 ^ Int.toNat yv := Nat.one_le_two_pow
                  have mq87_13 : 2 ^ Int.toNat yv ≤ 2 ^ 15 := Nat.pow_le_pow_right (by omega) (by omega)
                  have ms87 := Me_shl (Int.toNat yv)
                  refine r_iconst (pc := 88) (v := iv (-1)) dX7_canColour_88 (by decide) ?_
                  refine r_ixor (pc := 89) (v := iv (-((2 ^ Int.toNat yv : Nat) : Int) - 1)) dX7_canColour_89 (iv_not _) ?_
                  obtain ⟨z14, hz14, bz14⟩ := and_l x2 (-((2 ^ Int.toNat yv : Nat) : Int) - 1) (by omega) (by omega)
                  refine r_iand (pc := 90) (v := iv z14) dX7_canColour_90 hz14 ?_
                  have mez14 := Me_not (y := ((2 ^ Int.toNat yv : Nat) : Int)) hz14 (by omega) (by omega) (by omega)
                  have hL90 : ∀ j, Me z14 j ↔ Me x2 j ∧ j ≠ (Int.toNat yv) := fun j => by rw [mez14 j, ms87 j]
                  have hlt90 := ne_lt hL90 (by omega) (by omega) hmv
                  refine r_iload_n (pc := 91) dX7_canColour_91 (i := 3) rfl rfl ?_
                  refine r_iload (pc := 92) dX7_canColour_92 rfl ?_
                  refine r_iconst (pc := 94) (v := iv 1) dX7_canColour_94 (by decide) ?_
                  refine r_iadd (pc := 95) (v := iv (v32_7 + 1)) dX7_canColour_95 (iv_add _ _) ?_
                  obtain ⟨z15, hz15, bz15⟩ := max_b x3 (v32_7 + 1) (by omega) (by omega)
                  refine r_mmax (pc := 96) (v := iv z15) qX7_58 dX7_canColour_96 (Nat.le_of_ble_eq_true rfl) hz15 ?_
                  refine r_iload (pc := 99) dX7_canColour_99 rfl ?_
                  refine r_iload (pc := 101) dX7_canColour_101 rfl ?_
                  refine r_iconst (pc := 103) (v := iv 1) dX7_canColour_103 (by decide) ?_
                  refine r_iadd (pc := 104) (v := iv (x5 + 1)) dX7_canColour_104 (iv_add _ _) ?_
                  have hus9 : usP (fup Cl (Int.toNat v32_7) z9) z15 := us_up hus (by omega) (by omega)
                  have hdj9 : djP z14 (fup Cl (Int.toNat v32_7) z9) := dj_up hdj (by omega) hL90 hz79
                  obtain ⟨fs9, hfs9⟩ := t_obj ht11 (rd_ov (by omega) hO)
                  refine r_callV (pc := 105) (as := [.ref rA, .int (iv z14), .int (iv z15), .int (iv x4), .int (iv (x5 + 1))]) (st := []) kX7_74 rfl dX7_canColour_105 hfs9 (ih _ _ z14 z15 (fup Cl (Int.toNat v32_7) z9) ht11 hR80 (by omega) (by omega) (fun i g => ((hL90 i).mp g).1) hlt90 hus9 hdj9) rfl (by omega) (Nat.le_of_ble_eq_true rfl) (Nat.zero_le _) (Nat.zero_le _) rfl (fun r16 hp17 n18 q19 => ?_)
                  obtain ⟨hnn18, vr, fr9, hrr16, ht20, hRr, hqr⟩ := q19
                  subst n18 r16
                  have bvr : 0 ≤ vr ∧ vr ≤ 1 := by rcases hqr with ⟨e9, -⟩ | ⟨e9, -⟩ <;> omega
                  change Rn _ _ _ 108 _ [.int (iv vr)] _ _ _ _ _
                  refine t_if_eq (pc := 108) (tgt := 113) dX7_canColour_108 (by decide) (by omega) (fun c108 => ?_) (fun c108 => ?_)
                  · obtain ⟨-, hfr, hnx⟩ := hqr.resolve_left (fun g9 => by have := g9.1; omega)
                    subst hfr
                    refine r_aload_n (pc := 113) dX7_canColour_113 (i := 0) rfl rfl ?_
                    refine t_getE (pc := 114) (.ref (s + 2)) ht20 (rd_ov (by omega) hO) fX7_15 dX7_canColour_114 rfl ?_
                    refine r_iload (pc := 117) dX7_canColour_117 rfl ?_
                    refine r_dup2_11 (pc := 119) dX7_canColour_119 rfl rfl ?_
                    refine t_ialdX (pc := 120) (t0 := 0) ht20 (rd_of (ov_s _ _ _)) dX7_canColour_120 rfl (by decide) (by omega) (fun b21 => ?_)
                    have rb21 := (show Rfx 16 0 65535 (fup Cl (Int.toNat v32_7) z9) by assumption) (Int.toNat v32_7) (by omega)
                    refine r_iconst (pc := 121) (v := iv 1) dX7_canColour_121 (by decide) ?_
                    refine r_iload (pc := 122) dX7_canColour_122 rfl ?_
                    refine r_ishl (pc := 124) (v := iv ((2 ^ Int.toNat yv : Nat) : Int)) dX7_canColour_124 (shl_e (by omega)) ?_
                    have mp124_22 : 1 ≤ 2 ^ Int.toNat yv := Nat.one_le_two_pow
                    have mq124_23 : 2 ^ Int.toNat yv ≤ 2 ^ 15 := Nat.pow_le_pow_right (by omega) (by omega)
                    have ms124 := Me_shl (Int.toNat yv)
                    refine r_iconst (pc := 125) (v := iv (-1)) dX7_canColour_125 (by decide) ?_
                    refine r_ixor (pc := 126) (v := iv (-((2 ^ Int.toNat yv : Nat) : Int) - 1)) dX7_canColour_126 (iv_not _) ?_
                    obtain ⟨z24, hz24, bz24⟩ := and_l ((fup Cl (Int.toNat v32_7) z9) (Int.toNat v32_7)) (-((2 ^ Int.toNat yv : Nat) : Int) - 1) (by omega) (by omega)
                    refine r_iand (pc := 127) (v := iv z24) dX7_canColour_127 hz24 ?_
                    have mez24 := Me_not (y := ((2 ^ Int.toNat yv : Nat) : Int)) hz24 (by omega) (by omega) (by omega)
                    have hbk := fup_bk (Cl := Cl) (q := (Int.toNat v32_7)) (z := z9) (y := z24) (Me_eqi (by omega) (hR9 (Int.toNat v32_7) (by omega)).1 (fun j => by
                      rw [mez24 j, ms124 j, show (fup Cl (Int.toNat v32_7) z9) (Int.toNat v32_7) = z9 from if_pos rfl, hz79 j]
                      exact ⟨fun g => g.1.elim id (fun g1 => absurd g1 g.2), fun g => ⟨Or.inl g, fun e => hdj (Int.toNat v32_7) (by omega) j g (by rw [e]; exact hmv)⟩⟩))
                    have hcc := cc_f (by assumption : ccI R x2 Cl x4 (Int.toNat yv) v32_7) hL90 hz79 (by omega) (by omega) hnx
                    refine t_iastX (pc := 128) (t0 := 0) ht20 (ov_s _ _ _) dX7_canColour_128 rfl (by decide) (by omega) (by omega) (fun hp25 ht26 => ?_)
                    rw [ov_ov] at ht26
                    refine r_iinc (pc := 129) (v := iv (v32_7 + 1)) (lv' := [(7, .int (iv (v32_7 + 1))), (0, .ref s), (1, .ref rA), (2, .int (iv x2)), (3, .int (iv x3)), (4, .int (iv x4)), (5, .int (iv x5)), (6, .int (iv yv))]) dX7_canColour_129 rfl (iv_add _ _) (by decide) rfl ?_
                    refine r_goto (pc := 132) (tgt := 32) dX7_canColour_132 (by decide) ?_
                    refine Rn.pick (lv' := [(0, .ref s), (1, .ref rA), (2, .int (iv x2)), (3, .int (iv x3)), (4, .int (iv x4)), (5, .int (iv x5)), (6, .int (iv yv)), (7, .int (iv (v32_7 + 1)))]) [1, 2, 3, 4, 5, 6, 7, 0] rfl ?_
                    exact ih32 (Int.toNat (16 - (v32_7 + 1))) (by omega) (fup (fup Cl (Int.toNat v32_7) z9) (Int.toNat v32_7) z24) _ ht26 (v32_7 + 1) ⟨by omega, by omega, by omega, by (first | exact hbk | rfl), by (first | exact hcc | exact cc_0)⟩ (by omega)
                  · have hex := (hqr.resolve_right (fun g9 => by have := g9.1; omega)).2
                    clear hqr
                    refine r_iconst (pc := 111) (v := iv 1) dX7_canColour_111 (by decide) ?_
                    exact r_zret (pc := 112) dX7_canColour_112 rfl (iv_nar (by omega)) ⟨rfl, _, fr9, rfl, ht20, hRr, Or.inl ⟨rfl, ex_bk hsy (by omega) hL90 hz79 hnu hex⟩⟩
        refine Rn.pick (lv' := [(0, .ref s), (1, .ref rA), (2, .int (iv x2)), (3, .int (iv x3)), (4, .int (iv x4)), (5, .int (iv x5)), (6, .int (iv yv)), (7, .int (iv 0))]) [2, 3, 4, 5, 6, 7, 1, 0] rfl ?_
        exact B32 (Int.toNat (16 - 0)) Cl _ ht2 0 ⟨by omega, by omega, by omega, by (first | exact hbk | rfl), by (first | exact hcc | exact cc_0)⟩ (by omega)
      · exfalso
        omega
  · refine r_iconst (pc := 4) (v := iv 1) dX7_canColour_4 (by decide) ?_
    exact r_zret (pc := 5) dX7_canColour_5 rfl (iv_nar (by omega)) ⟨rfl, _, Cl, rfl, ht, hR9, Or.inl ⟨rfl, by rw [show x2 = 0 by omega]; exact ex_nil⟩⟩
theorem c_X7_canColourx {D : va_G} {cI cJ cZ cT : ClassId} {lo b L : Nat} {xs : Nat → Int32} {Γ : TG} {s rA rL rM : Nat} {Nx : Nat → Int} {R : Nat → Nat → Prop} {x4 : Int} (hrA : rd Γ rA (xI cI rL Nx)) (hrR : Rfx rL 0 65535 Nx) (hrL : rL ≤ 16) (hrM : rM ≤ rL) (hrw : ∀ i, i < rM → ∀ j, Me (Nx i) j ↔ R i j) (hO : rd Γ s (tO 7 [fE (.ref (s + 1)), fE (.ref (s + 2)), fE (.ref (s + 3)), fE (.ref (s + 4)), fE (.ref (s + 5))])) (hne : rA ≠ s + 2) (hx4 : 0 ≤ x4 ∧ x4 ≤ 16) (hsy : ∀ i j, R i j → R j i) (k : Nat) : ∀ (hp : MH) (n d : Nat) (x2 x3 x5 : Int) (Cl : Nat → Int), bcI x2 16 ≤ (k : Int) → k + 2 ≤ d → (0 ≤ x2 ∧ x2 ≤ 65535) → (0 ≤ x3 ∧ x3 ≤ 16) → 0 ≤ x5 → bcI x2 16 + x5 ≤ 16 → (∀ i, Me x2 i → i < rM) → usP Cl x3 → djP x2 Cl → Rfx 16 0 65535 Cl → Tw (ov Γ (s + 2) (xI cI 16 Cl)) hp → Mt (gG D cI cJ cZ cT lo b L xs) mX7_canColour d 0 0 [.ref s, .ref rA, .int (iv x2), .int (iv x3), .int (iv x4), .int (iv x5)] hp n (pRo Γ cI (s + 2) 16 n (fun v f => Rfx 16 0 65535 f ∧ ((v = 1 ∧ exQ R x2 Cl x4) ∨ (v = 0 ∧ f = Cl ∧ ¬ exQ R x2 Cl x4)))) := by
  induction k with
  | zero =>
    intro hp n d x2 x3 x5 Cl h1 h2 h3 h4 h5 h6 h7 h8 h9 hR ht
    have hb := bc_le x2 16
    exact c_X7_canColour_st (by omega) hrA hrR hrL hrM hrw hO hne hR ht h3 h4 hx4 (by omega) h6 hsy h7 h8 h9 (fun hp n z u Cl1 g1 g2 g3 g4 g5 g6 g7 g8 => absurd (bc_le z 16) (by omega))
  | succ k ih =>
    intro hp n d x2 x3 x5 Cl h1 h2 h3 h4 h5 h6 h7 h8 h9 hR ht
    have hb := bc_le x2 16
    exact c_X7_canColour_st (by omega) hrA hrR hrL hrM hrw hO hne hR ht h3 h4 hx4 (by omega) h6 hsy h7 h8 h9 (fun hp n z u Cl1 g1 g2 g3 g4 g5 g6 g7 g8 => ih hp n (d - 1) z u (x5 + 1) Cl1 (by omega) (by omega) g3 g4 (by omega) (by omega) (fun i g => h7 i (g5 i g)) g7 g8 g2 g1)
