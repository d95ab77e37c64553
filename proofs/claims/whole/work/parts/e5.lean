set_option maxHeartbeats 4000000 in
set_option maxRecDepth 100000 in
theorem w_X10_traceLowTo {D : va_G} {cI cJ cZ cT : ClassId} {lo b L : Nat} {xs : Nat → Int32} {hp : MH} {n d : Nat} {Γ : TG} {ga : Nat} {gF : Nat} {gT : Nat} {gW : Nat} {gC : Nat} {gTl : Nat} {gHd : Nat} {gBy : Nat} {gOu : Nat} {gIn : Nat} {gJo : Nat} {gn : Nat} {gm : Nat} {gq : Nat} {gdr : Int} {F T W C Tl Hd By Ou In Jo : Nat → Int} {wa : Nat} {vs : Nat → Int} {vo : Nat → Int64} {vl : Nat → Int} {vm : Nat → Int64} {vr : Nat → Int} {x2 x3 : Int} {pos : Nat → Nat} {s9 : Nat} {L9 : Int} {Po9 : Option Value → MH → Nat → Prop} (hd0 : 1 ≤ d) (hg : TyG Γ cI cJ cZ ga gF gT gW gC gTl gHd gBy gOu gIn gJo gn gm gq gdr) (hltg : ga < wa ∧ gF < wa ∧ gT < wa ∧ gW < wa ∧ gC < wa ∧ gTl < wa ∧ gHd < wa ∧ gBy < wa ∧ gOu < wa ∧ gIn < wa ∧ gJo < wa) (hxg : XG Γ cI gF gT gW gC gTl gHd gBy gOu gIn gJo gn gm gq F T W C Tl Hd By Ou In Jo) (ht : Tw (WE Γ cI cJ cZ cT wa gn vs vo vl vm vr) hp) (hR_vs : Rfx gn 0 2 vs) (hR_vl : Rfx gn (-1) ((gn : Int) - 1) vl) (hR_vr : Rfx (gn * gn) 0 59 vr) (hx2 : 0 ≤ x2 ∧ x2 ≤ 1) (hx3 : 0 ≤ x3 ∧ x3 ≤ 15) (hgo : GoS gm gq gdr F T Tl Hd By pos) (hs9 : s9 < gn) (hls : ∀ v, v < gn → lwF gm gdr F T (wE x2 W) s9 gn vs vo vl v) (hx9 : x3 < (gn : Int)) (hS9 : vs (Int.toNat x3) = 1) (hL9 : vl (Int.toNat x3) = L9 ∧ 1 ≤ L9) (htr : trL gm gdr F T (wE x2 W) s9 gn vs vl vm vr L9 x3) (hPo : ∀ r hp1 n1, (n1 = n ∧ ∃ (vm1 : Nat → Int64) (vr1 : Nat → Int), Tw (WE Γ cI cJ cZ cT wa gn vs vo vl vm1 vr1) hp1 ∧ r = none ∧ (trL gm gdr F T (wE x2 W) s9 gn vs vl vm1 vr1 L9 (x3 + 1)) ∧ (Rfx (gn * gn) 0 59 vr1)) → Po9 r hp1 n1) : Mt (gG D cI cJ cZ cT lo b L xs) mX10_traceLowTo d 0 0 [.ref wa, .ref ga, .int (iv x2), .int (iv x3)] hp n Po9 := by
  refine Mt.of rfl (Nat.le_of_ble_eq_true rfl) ?_
  refine Rn.pick (lv' := [(0, .ref wa), (1, .ref ga), (2, .int (iv x2)), (3, .int (iv x3))]) [0, 1, 2, 3] rfl ?_
  obtain ⟨hg_O, hg_from, hg_to, hg_weight, hg_cost, hg_tail, hg_head, hg_by, hg_out, hg_in, hg_joined, hg_b⟩ := id hg
  obtain ⟨⟨hxg_F, hxg_T, hxg_W, hxg_C, hxg_Tl, hxg_Hd, hxg_By, hxg_Ou, hxg_In, hxg_Jo⟩, ⟨hrg_F, hrg_T, hrg_W, hrg_C, hrg_Tl, hrg_Hd, hrg_By, hrg_Ou, hrg_In, hrg_Jo⟩, houg⟩ := id hxg
  have hgb := hg_b
  have hsq : gn * gn ≤ 256 := Nat.le_trans (Nat.mul_le_mul (show gn ≤ 16 by omega) (show gn ≤ 16 by omega)) (by decide)
  have hFT : ∀ k, k < gm → (0 ≤ F k ∧ F k < (gn : Int)) ∧ (0 ≤ T k ∧ T k < (gn : Int)) := fun k hk => by have h1 := hrg_F k hk; have h2 := hrg_T k hk; omega
  have hW9 : ∀ e, e < gm → -1000 ≤ W e ∧ W e ≤ 1000 := hrg_W
  have hlx9 := hL9
  refine r_iconst (pc := 0) (v := iv 0) dX10_traceLowTo_0 (by decide) ?_
  refine r_istore (pc := 1) (lv' := [(4, .int (iv 0)), (0, .ref wa), (1, .ref ga), (2, .int (iv x2)), (3, .int (iv x3))]) dX10_traceLowTo_1 (by decide) rfl ?_
  refine r_aload_n (pc := 3) dX10_traceLowTo_3 (i := 0) rfl rfl ?_
  refine t_getE (pc := 4) (.ref (wa + 3)) ht (rd_of WE_0) fX10_26 dX10_traceLowTo_4 rfl ?_
  refine r_iload_n (pc := 7) dX10_traceLowTo_7 (i := 3) rfl rfl ?_
  refine t_ialdX (pc := 8) (t0 := 0) ht (rd_of WE_3) dX10_traceLowTo_8 rfl (by omega) (by omega) (fun b1 => ?_)
  have rb1 := (show Rfx gn (-1) ((gn : Int) - 1) vl by assumption) (Int.toNat x3) (by omega)
  refine r_istore (pc := 9) (lv' := [(5, .int (iv (vl (Int.toNat x3)))), (4, .int (iv 0)), (0, .ref wa), (1, .ref ga), (2, .int (iv x2)), (3, .int (iv x3))]) dX10_traceLowTo_9 (by decide) rfl ?_
  refine r_iconst (pc := 11) (v := iv 0) dX10_traceLowTo_11 (by decide) ?_
  refine r_istore (pc := 12) (lv' := [(6, .int (iv 0)), (5, .int (iv (vl (Int.toNat x3)))), (4, .int (iv 0)), (0, .ref wa), (1, .ref ga), (2, .int (iv x2)), (3, .int (iv x3))]) dX10_traceLowTo_12 (by decide) rfl ?_
  have B14 : ∀ k : Nat, ∀ vm14 : Nat → Int64, ∀ vr14 : Nat → Int, ∀ hp14 : MH, Tw (WE Γ cI cJ cZ cT wa gn vs vo vl vm14 vr14) hp14 → ∀  (v14_4 : Int) (v14_6 : Int), 0 ≤ v14_4 ∧ v14_4 ≤ 1 ∧ 0 ≤ v14_6 ∧ v14_6 ≤ 120 ∧ (Rfx (gn * gn) 0 59 vr14) ∧ (v14_6 ≤ (gq : Int)) ∧ (tlP gn Tl Hd By (prI x2 W By) vs vo vl (Int.toNat x3) vm vm14 vr vr14 v14_4 v14_6) → 120 - v14_6 ≤ (k : Int) → Rn (gG D cI cJ cZ cT lo b L xs) mX10_traceLowTo d 14 [(0, .ref wa), (1, .ref ga), (2, .int (iv x2)), (3, .int (iv x3)), (4, .int (iv v14_4)), (5, .int (iv (vl (Int.toNat x3)))), (6, .int (iv v14_6))] [] hp14 n 0 0 Po9 := by
    refine lpS _ ?_
    intro k14 ih14 vm14 vr14 hp14 ht14 v14_4 v14_6 hf14 hm14
    obtain ⟨hf14_0, hf14_1, hf14_2, hf14_3, ha14_4, hf14_5, ha14_6⟩ := hf14
    refine r_iload (pc := 14) dX10_traceLowTo_14 rfl ?_
    refine r_aload_n (pc := 16) dX10_traceLowTo_16 (i := 1) rfl rfl ?_
    refine t_getE (pc := 17) (.int (iv (gq : Int))) ht14 (rd_WE (by omega) hg_O) fX10_77 dX10_traceLowTo_17 rfl ?_
    refine t_icmp_ge (pc := 20) (tgt := 186) dX10_traceLowTo_20 (by decide) (by omega) (by omega) (fun c20 => ?_) (fun c20 => ?_)
    · exact r_vret (pc := 186) dX10_traceLowTo_186 rfl (hPo _ _ _ ⟨rfl, vm14, vr14, ht14, rfl, (by exact tl_endI (p := (prI x2 W By)) hgo prI_wE (wE_b hW9) (by omega) hFT hls (by omega) hS9 hL9 htr (by assumption) (by omega)), (by assumption)⟩)
    · refine r_aload_n (pc := 23) dX10_traceLowTo_23 (i := 1) rfl rfl ?_
      refine t_getE (pc := 24) (.ref gTl) ht14 (rd_WE (by omega) hg_O) fX10_67 dX10_traceLowTo_24 rfl ?_
      refine r_iload (pc := 27) dX10_traceLowTo_27 rfl ?_
      refine t_ialdX (pc := 29) (t0 := 0) ht14 (rd_WE (by omega) hxg_Tl) dX10_traceLowTo_29 rfl (by omega) (by omega) (fun b2 => ?_)
      have rb2 := (show Rfx gq 0 ((gn : Int) - 1) Tl by assumption) (Int.toNat v14_6) (by omega)
      refine r_istore (pc := 30) (lv' := [(7, .int (iv (Tl (Int.toNat v14_6)))), (0, .ref wa), (1, .ref ga), (2, .int (iv x2)), (3, .int (iv x3)), (4, .int (iv v14_4)), (5, .int (iv (vl (Int.toNat x3)))), (6, .int (iv v14_6))]) dX10_traceLowTo_30 (by decide) rfl ?_
      refine r_aload_n (pc := 32) dX10_traceLowTo_32 (i := 1) rfl rfl ?_
      refine t_getE (pc := 33) (.ref gHd) ht14 (rd_WE (by omega) hg_O) fX10_70 dX10_traceLowTo_33 rfl ?_
      refine r_iload (pc := 36) dX10_traceLowTo_36 rfl ?_
      refine t_ialdX (pc := 38) (t0 := 0) ht14 (rd_WE (by omega) hxg_Hd) dX10_traceLowTo_38 rfl (by omega) (by omega) (fun b3 => ?_)
      have rb3 := (show Rfx gq 0 ((gn : Int) - 1) Hd by assumption) (Int.toNat v14_6) (by omega)
      refine r_iload_n (pc := 39) dX10_traceLowTo_39 (i := 3) rfl rfl ?_
      refine t_icmp_ne (pc := 40) (tgt := 97) dX10_traceLowTo_40 (by decide) (by omega) (by omega) (fun c40 => ?_) (fun c40 => ?_)
      · refine r_iconst (pc := 97) (v := iv 0) dX10_traceLowTo_97 (by decide) ?_
        refine r_istore (pc := 98) (lv' := [(8, .int (iv 0)), (7, .int (iv (Tl (Int.toNat v14_6)))), (0, .ref wa), (1, .ref ga), (2, .int (iv x2)), (3, .int (iv x3)), (4, .int (iv v14_4)), (5, .int (iv (vl (Int.toNat x3)))), (6, .int (iv v14_6))]) dX10_traceLowTo_98 (by decide) rfl ?_
        refine r_iload (pc := 100) dX10_traceLowTo_100 rfl ?_
        have B180 : ∀ vm180 : Nat → Int64, ∀ vr180 : Nat → Int, ∀ hp180 : MH, Tw (WE Γ cI cJ cZ cT wa gn vs vo vl vm180 vr180) hp180 → ∀  (v180_4 : Int), 0 ≤ v180_4 ∧ v180_4 ≤ 1 ∧ (Rfx (gn * gn) 0 59 vr180) ∧ (tlP gn Tl Hd By (prI x2 W By) vs vo vl (Int.toNat x3) vm vm180 vr vr180 v180_4 (v14_6 + 1)) → Rn (gG D cI cJ cZ cT lo b L xs) mX10_traceLowTo d 180 [(0, .ref wa), (1, .ref ga), (2, .int (iv x2)), (3, .int (iv x3)), (4, .int (iv v180_4)), (5, .int (iv (vl (Int.toNat x3)))), (6, .int (iv v14_6))] [] hp180 n 0 0 Po9 := by
          intro vm180 vr180 hp180 ht180 v180_4 hf180
          obtain ⟨hf180_0, hf180_1, ha180_2, ha180_3⟩ := hf180
          refine r_iinc (pc := 180) (v := iv (v14_6 + 1)) (lv' := [(6, .int (iv (v14_6 + 1))), (0, .ref wa), (1, .ref ga), (2, .int (iv x2)), (3, .int (iv x3)), (4, .int (iv v180_4)), (5, .int (iv (vl (Int.toNat x3))))]) dX10_traceLowTo_180 rfl (iv_add _ _) (by decide) rfl ?_
          refine r_goto (pc := 183) (tgt := 14) dX10_traceLowTo_183 (by decide) ?_
          refine Rn.pick (lv' := [(0, .ref wa), (1, .ref ga), (2, .int (iv x2)), (3, .int (iv x3)), (4, .int (iv v180_4)), (5, .int (iv (vl (Int.toNat x3)))), (6, .int (iv (v14_6 + 1)))]) [1, 2, 3, 4, 5, 6, 0] rfl ?_
          exact ih14 (Int.toNat (120 - (v14_6 + 1))) (by omega) vm180 vr180 _ ht180 v180_4 (v14_6 + 1) ⟨by omega, by omega, by omega, by omega, by assumption, by omega, by (first | assumption | exact tl_0)⟩ (by omega)
        refine t_if_eq (pc := 102) (tgt := 180) dX10_traceLowTo_102 (by decide) (by omega) (fun c102 => ?_) (fun c102 => ?_)
        · refine Rn.pick (lv' := [(0, .ref wa), (1, .ref ga), (2, .int (iv x2)), (3, .int (iv x3)), (4, .int (iv v14_4)), (5, .int (iv (vl (Int.toNat x3)))), (6, .int (iv v14_6))]) [2, 3, 4, 5, 6, 7, 8] rfl ?_
          exact B180 vm14 vr14 _ ht14 v14_4 ⟨by omega, by omega, by assumption, by (first | assumption | exact htl9 | exact tl_y1 (by assumption) (by omega) hbt rfl (by omega) | exact tl_n (by assumption) (by omega) (fun h9 => by have h8 := h9.1; have h7 := h9.2.1; have h6 := h9.2.2.1; have h5 := h9.2.2.2; omega))⟩
        · exfalso
          omega
      · refine r_aload_n (pc := 43) dX10_traceLowTo_43 (i := 0) rfl rfl ?_
        refine t_getE (pc := 44) (.ref (wa + 1)) ht14 (rd_of WE_0) fX10_18 dX10_traceLowTo_44 rfl ?_
        refine r_iload (pc := 47) dX10_traceLowTo_47 rfl ?_
        refine t_ialdX (pc := 49) (t0 := 0) ht14 (rd_of WE_1) dX10_traceLowTo_49 rfl (by omega) (by omega) (fun b4 => ?_)
        have rb4 := (show Rfx gn 0 2 vs by assumption) (Int.toNat (Tl (Int.toNat v14_6))) (by omega)
        refine r_iconst (pc := 50) (v := iv 1) dX10_traceLowTo_50 (by decide) ?_
        refine t_icmp_ne (pc := 51) (tgt := 97) dX10_traceLowTo_51 (by decide) (by omega) (by omega) (fun c51 => ?_) (fun c51 => ?_)
        · refine r_iconst (pc := 97) (v := iv 0) dX10_traceLowTo_97 (by decide) ?_
          refine r_istore (pc := 98) (lv' := [(8, .int (iv 0)), (7, .int (iv (Tl (Int.toNat v14_6)))), (0, .ref wa), (1, .ref ga), (2, .int (iv x2)), (3, .int (iv x3)), (4, .int (iv v14_4)), (5, .int (iv (vl (Int.toNat x3)))), (6, .int (iv v14_6))]) dX10_traceLowTo_98 (by decide) rfl ?_
          refine r_iload (pc := 100) dX10_traceLowTo_100 rfl ?_
          have B180 : ∀ vm180 : Nat → Int64, ∀ vr180 : Nat → Int, ∀ hp180 : MH, Tw (WE Γ cI cJ cZ cT wa gn vs vo vl vm180 vr180) hp180 → ∀  (v180_4 : Int), 0 ≤ v180_4 ∧ v180_4 ≤ 1 ∧ (Rfx (gn * gn) 0 59 vr180) ∧ (tlP gn Tl Hd By (prI x2 W By) vs vo vl (Int.toNat x3) vm vm180 vr vr180 v180_4 (v14_6 + 1)) → Rn (gG D cI cJ cZ cT lo b L xs) mX10_traceLowTo d 180 [(0, .ref wa), (1, .ref ga), (2, .int (iv x2)), (3, .int (iv x3)), (4, .int (iv v180_4)), (5, .int (iv (vl (Int.toNat x3)))), (6, .int (iv v14_6))] [] hp180 n 0 0 Po9 := by
            intro vm180 vr180 hp180 ht180 v180_4 hf180
            obtain ⟨hf180_0, hf180_1, ha180_2, ha180_3⟩ := hf180
            refine r_iinc (pc := 180) (v := iv (v14_6 + 1)) (lv' := [(6, .int (iv (v14_6 + 1))), (0, .ref wa), (1, .ref ga), (2, .int (iv x2)), (3, .int (iv x3)), (4, .int (iv v180_4)), (5, .int (iv (vl (Int.toNat x3))))]) dX10_traceLowTo_180 rfl (iv_add _ _) (by decide) rfl ?_
            refine r_goto (pc := 183) (tgt := 14) dX10_traceLowTo_183 (by decide) ?_
            refine Rn.pick (lv' := [(0, .ref wa), (1, .ref ga), (2, .int (iv x2)), (3, .int (iv x3)), (4, .int (iv v180_4)), (5, .int (iv (vl (Int.toNat x3)))), (6, .int (iv (v14_6 + 1)))]) [1, 2, 3, 4, 5, 6, 0] rfl ?_
            exact ih14 (Int.toNat (120 - (v14_6 + 1))) (by omega) vm180 vr180 _ ht180 v180_4 (v14_6 + 1) ⟨by omega, by omega, by omega, by omega, by assumption, by omega, by (first | assumption | exact tl_0)⟩ (by omega)
          refine t_if_eq (pc := 102) (tgt := 180) dX10_traceLowTo_102 (by decide) (by omega) (fun c102 => ?_) (fun c102 => ?_)
          · refine Rn.pick (lv' := [(0, .ref wa), (1, .ref ga), (2, .int (iv x2)), (3, .int (iv x3)), (4, .int (iv v14_4)), (5, .int (iv (vl (Int.toNat x3)))), (6, .int (iv v14_6))]) [2, 3, 4, 5, 6, 7, 8] rfl ?_
            exact B180 vm14 vr14 _ ht14 v14_4 ⟨by omega, by omega, by assumption, by (first | assumption | exact htl9 | exact tl_y1 (by assumption) (by omega) hbt rfl (by omega) | exact tl_n (by assumption) (by omega) (fun h9 => by have h8 := h9.1; have h7 := h9.2.1; have h6 := h9.2.2.1; have h5 := h9.2.2.2; omega))⟩
          · exfalso
            omega
        · refine r_aload_n (pc := 54) dX10_traceLowTo_54 (i := 0) rfl rfl ?_
          refine t_getE (pc := 55) (.ref (wa + 3)) ht14 (rd_of WE_0) fX10_26 dX10_traceLowTo_55 rfl ?_
          refine r_iload (pc := 58) dX10_traceLowTo_58 rfl ?_
          refine t_ialdX (pc := 60) (t0 := 0) ht14 (rd_of WE_3) dX10_traceLowTo_60 rfl (by omega) (by omega) (fun b5 => ?_)
          have rb5 := (show Rfx gn (-1) ((gn : Int) - 1) vl by assumption) (Int.toNat (Tl (Int.toNat v14_6))) (by omega)
          refine r_iload (pc := 61) dX10_traceLowTo_61 rfl ?_
          refine r_iconst (pc := 63) (v := iv 1) dX10_traceLowTo_63 (by decide) ?_
          refine r_isub (pc := 64) (v := iv ((vl (Int.toNat x3)) - 1)) dX10_traceLowTo_64 (iv_sub _ _) ?_
          refine t_icmp_ne (pc := 65) (tgt := 97) dX10_traceLowTo_65 (by decide) (by omega) (by omega) (fun c65 => ?_) (fun c65 => ?_)
          · refine r_iconst (pc := 97) (v := iv 0) dX10_traceLowTo_97 (by decide) ?_
            refine r_istore (pc := 98) (lv' := [(8, .int (iv 0)), (7, .int (iv (Tl (Int.toNat v14_6)))), (0, .ref wa), (1, .ref ga), (2, .int (iv x2)), (3, .int (iv x3)), (4, .int (iv v14_4)), (5, .int (iv (vl (Int.toNat x3)))), (6, .int (iv v14_6))]) dX10_traceLowTo_98 (by decide) rfl ?_
            refine r_iload (pc := 100) dX10_traceLowTo_100 rfl ?_
            have B180 : ∀ vm180 : Nat → Int64, ∀ vr180 : Nat → Int, ∀ hp180 : MH, Tw (WE Γ cI cJ cZ cT wa gn vs vo vl vm180 vr180) hp180 → ∀  (v180_4 : Int), 0 ≤ v180_4 ∧ v180_4 ≤ 1 ∧ (Rfx (gn * gn) 0 59 vr180) ∧ (tlP gn Tl Hd By (prI x2 W By) vs vo vl (Int.toNat x3) vm vm180 vr vr180 v180_4 (v14_6 + 1)) → Rn (gG D cI cJ cZ cT lo b L xs) mX10_traceLowTo d 180 [(0, .ref wa), (1, .ref ga), (2, .int (iv x2)), (3, .int (iv x3)), (4, .int (iv v180_4)), (5, .int (iv (vl (Int.toNat x3)))), (6, .int (iv v14_6))] [] hp180 n 0 0 Po9 := by
              intro vm180 vr180 hp180 ht180 v180_4 hf180
              obtain ⟨hf180_0, hf180_1, ha180_2, ha180_3⟩ := hf180
              refine r_iinc (pc := 180) (v := iv (v14_6 + 1)) (lv' := [(6, .int (iv (v14_6 + 1))), (0, .ref wa), (1, .ref ga), (2, .int (iv x2)), (3, .int (iv x3)), (4, .int (iv v180_4)), (5, .int (iv (vl (Int.toNat x3))))]) dX10_traceLowTo_180 rfl (iv_add _ _) (by decide) rfl ?_
              refine r_goto (pc := 183) (tgt := 14) dX10_traceLowTo_183 (by decide) ?_
              refine Rn.pick (lv' := [(0, .ref wa), (1, .ref ga), (2, .int (iv x2)), (3, .int (iv x3)), (4, .int (iv v180_4)), (5, .int (iv (vl (Int.toNat x3)))), (6, .int (iv (v14_6 + 1)))]) [1, 2, 3, 4, 5, 6, 0] rfl ?_
              exact ih14 (Int.toNat (120 - (v14_6 + 1))) (by omega) vm180 vr180 _ ht180 v180_4 (v14_6 + 1) ⟨by omega, by omega, by omega, by omega, by assumption, by omega, by (first | assumption | exact tl_0)⟩ (by omega)
            refine t_if_eq (pc := 102) (tgt := 180) dX10_traceLowTo_102 (by decide) (by omega) (fun c102 => ?_) (fun c102 => ?_)
            · refine Rn.pick (lv' := [(0, .ref wa), (1, .ref ga), (2, .int (iv x2)), (3, .int (iv x3)), (4, .int (iv v14_4)), (5, .int (iv (vl (Int.toNat x3)))), (6, .int (iv v14_6))]) [2, 3, 4, 5, 6, 7, 8] rfl ?_
              exact B180 vm14 vr14 _ ht14 v14_4 ⟨by omega, by omega, by assumption, by (first | assumption | exact htl9 | exact tl_y1 (by assumption) (by omega) hbt rfl (by omega) | exact tl_n (by assumption) (by omega) (fun h9 => by have h8 := h9.1; have h7 := h9.2.1; have h6 := h9.2.2.1; have h5 := h9.2.2.2; omega))⟩
            · exfalso
              omega
          · refine r_aload_n (pc := 68) dX10_traceLowTo_68 (i := 0) rfl rfl ?_
            refine t_getE (pc := 69) (.ref (wa + 2)) ht14 (rd_of WE_0) fX10_22 dX10_traceLowTo_69 rfl ?_
            refine r_iload (pc := 72) dX10_traceLowTo_72 rfl ?_
            refine t_laldX (pc := 74) (t0 := 1) ht14 (rd_of WE_2) dX10_traceLowTo_74 rfl (by omega) (by omega) ?_
            refine r_aload_n (pc := 75) dX10_traceLowTo_75 (i := 1) rfl rfl ?_
            refine r_iload_n (pc := 76) dX10_traceLowTo_76 (i := 2) rfl rfl ?_
            refine r_iload (pc := 77) dX10_traceLowTo_77 rfl ?_
            refine t_callSJ (pc := 79) (as := [.ref ga, .int (iv x2), .int (iv v14_6)]) (st := [.long (vo (Int.toNat (Tl (Int.toNat v14_6))))]) kX10_73 dX10_traceLowTo_79 (t_X10_priceOfx (d := d - 1) (x1 := x2) (x2 := v14_6) (by omega) (TyG.we hltg hg) (rd_WE (by omega) hxg_Tl) (rd_WE (by omega) hxg_Hd) (rd_WE (by omega) hxg_By) (rd_WE (by omega) hxg_W) hrg_Tl hrg_Hd hrg_By hrg_W ht14 (by omega) (by omega)) rfl (by omega) (Nat.le_of_ble_eq_true rfl) rfl (fun hp7 y6 ht8 by6 => ?_)
            have ey6 : y6 = prV x2 W By (Int.toNat v14_6) := by6
            subst ey6
            have rBy6 := hrg_By (Int.toNat v14_6) (by omega)
            obtain ⟨py61, py62, py63⟩ := prV_i (each := x2) (Wt := W) (By := By) (k := Int.toNat v14_6) (hrg_W _ (by omega))
            refine r_ladd (pc := 82) (v := (vo (Int.toNat (Tl (Int.toNat v14_6)))) + (prV x2 W By (Int.toNat v14_6))) dX10_traceLowTo_82 rfl ?_
            have hbw9 := lf_bw (wE_b hW9) (by omega) (hls _ (show Int.toNat (Tl (Int.toNat v14_6)) < gn by omega)) (by omega)
            have hla9 := l_add (x := vo (Int.toNat (Tl (Int.toNat v14_6)))) (y := prV x2 W By (Int.toNat v14_6)) (by omega)
            refine r_aload_n (pc := 83) dX10_traceLowTo_83 (i := 0) rfl rfl ?_
            refine t_getE (pc := 84) (.ref (wa + 2)) ht8 (rd_of WE_0) fX10_22 dX10_traceLowTo_84 rfl ?_
            refine r_iload_n (pc := 87) dX10_traceLowTo_87 (i := 3) rfl rfl ?_
            refine t_laldX (pc := 88) (t0 := 1) ht8 (rd_of WE_2) dX10_traceLowTo_88 rfl (by omega) (by omega) ?_
            refine r_lcmp (pc := 89) dX10_traceLowTo_89 ?_
            refine t_lif_ne (pc := 90) (tgt := 97) dX10_traceLowTo_90 (by decide) (fun c90 => ?_) (fun c90 => ?_)
            · refine r_iconst (pc := 97) (v := iv 0) dX10_traceLowTo_97 (by decide) ?_
              refine r_istore (pc := 98) (lv' := [(8, .int (iv 0)), (7, .int (iv (Tl (Int.toNat v14_6)))), (0, .ref wa), (1, .ref ga), (2, .int (iv x2)), (3, .int (iv x3)), (4, .int (iv v14_4)), (5, .int (iv (vl (Int.toNat x3)))), (6, .int (iv v14_6))]) dX10_traceLowTo_98 (by decide) rfl ?_
              refine r_iload (pc := 100) dX10_traceLowTo_100 rfl ?_
              have B180 : ∀ vm180 : Nat → Int64, ∀ vr180 : Nat → Int, ∀ hp180 : MH, Tw (WE Γ cI cJ cZ cT wa gn vs vo vl vm180 vr180) hp180 → ∀  (v180_4 : Int), 0 ≤ v180_4 ∧ v180_4 ≤ 1 ∧ (Rfx (gn * gn) 0 59 vr180) ∧ (tlP gn Tl Hd By (prI x2 W By) vs vo vl (Int.toNat x3) vm vm180 vr vr180 v180_4 (v14_6 + 1)) → Rn (gG D cI cJ cZ cT lo b L xs) mX10_traceLowTo d 180 [(0, .ref wa), (1, .ref ga), (2, .int (iv x2)), (3, .int (iv x3)), (4, .int (iv v180_4)), (5, .int (iv (vl (Int.toNat x3)))), (6, .int (iv v14_6))] [] hp180 n 0 0 Po9 := by
                intro vm180 vr180 hp180 ht180 v180_4 hf180
                obtain ⟨hf180_0, hf180_1, ha180_2, ha180_3⟩ := hf180
                refine r_iinc (pc := 180) (v := iv (v14_6 + 1)) (lv' := [(6, .int (iv (v14_6 + 1))), (0, .ref wa), (1, .ref ga), (2, .int (iv x2)), (3, .int (iv x3)), (4, .int (iv v180_4)), (5, .int (iv (vl (Int.toNat x3))))]) dX10_traceLowTo_180 rfl (iv_add _ _) (by decide) rfl ?_
                refine r_goto (pc := 183) (tgt := 14) dX10_traceLowTo_183 (by decide) ?_
                refine Rn.pick (lv' := [(0, .ref wa), (1, .ref ga), (2, .int (iv x2)), (3, .int (iv x3)), (4, .int (iv v180_4)), (5, .int (iv (vl (Int.toNat x3)))), (6, .int (iv (v14_6 + 1)))]) [1, 2, 3, 4, 5, 6, 0] rfl ?_
                exact ih14 (Int.toNat (120 - (v14_6 + 1))) (by omega) vm180 vr180 _ ht180 v180_4 (v14_6 + 1) ⟨by omega, by omega, by omega, by omega, by assumption, by omega, by (first | assumption | exact tl_0)⟩ (by omega)
              refine t_if_eq (pc := 102) (tgt := 180) dX10_traceLowTo_102 (by decide) (by omega) (fun c102 => ?_) (fun c102 => ?_)
              · refine Rn.pick (lv' := [(0, .ref wa), (1, .ref ga), (2, .int (iv x2)), (3, .int (iv x3)), (4, .int (iv v14_4)), (5, .int (iv (vl (Int.toNat x3)))), (6, .int (iv v14_6))]) [2, 3, 4, 5, 6, 7, 8] rfl ?_
                exact B180 vm14 vr14 _ ht8 v14_4 ⟨by omega, by omega, by assumption, by (first | assumption | exact htl9 | exact tl_y1 (by assumption) (by omega) hbt rfl (by omega) | exact tl_n (by assumption) (by omega) (fun h9 => by have h8 := h9.1; have h7 := h9.2.1; have h6 := h9.2.2.1; have h5 := h9.2.2.2; omega))⟩
              · exfalso
                omega
            · refine r_iconst (pc := 93) (v := iv 1) dX10_traceLowTo_93 (by decide) ?_
              refine r_goto (pc := 94) (tgt := 98) dX10_traceLowTo_94 (by decide) ?_
              refine r_istore (pc := 98) (lv' := [(8, .int (iv 1)), (7, .int (iv (Tl (Int.toNat v14_6)))), (0, .ref wa), (1, .ref ga), (2, .int (iv x2)), (3, .int (iv x3)), (4, .int (iv v14_4)), (5, .int (iv (vl (Int.toNat x3)))), (6, .int (iv v14_6))]) dX10_traceLowTo_98 (by decide) rfl ?_
              refine r_iload (pc := 100) dX10_traceLowTo_100 rfl ?_
              have B180 : ∀ vm180 : Nat → Int64, ∀ vr180 : Nat → Int, ∀ hp180 : MH, Tw (WE Γ cI cJ cZ cT wa gn vs vo vl vm180 vr180) hp180 → ∀  (v180_4 : Int), 0 ≤ v180_4 ∧ v180_4 ≤ 1 ∧ (Rfx (gn * gn) 0 59 vr180) ∧ (tlP gn Tl Hd By (prI x2 W By) vs vo vl (Int.toNat x3) vm vm180 vr vr180 v180_4 (v14_6 + 1)) → Rn (gG D cI cJ cZ cT lo b L xs) mX10_traceLowTo d 180 [(0, .ref wa), (1, .ref ga), (2, .int (iv x2)), (3, .int (iv x3)), (4, .int (iv v180_4)), (5, .int (iv (vl (Int.toNat x3)))), (6, .int (iv v14_6))] [] hp180 n 0 0 Po9 := by
                intro vm180 vr180 hp180 ht180 v180_4 hf180
                obtain ⟨hf180_0, hf180_1, ha180_2, ha180_3⟩ := hf180
                refine r_iinc (pc := 180) (v := iv (v14_6 + 1)) (lv' := [(6, .int (iv (v14_6 + 1))), (0, .ref wa), (1, .ref ga), (2, .int (iv x2)), (3, .int (iv x3)), (4, .int (iv v180_4)), (5, .int (iv (vl (Int.toNat x3))))]) dX10_traceLowTo_180 rfl (iv_add _ _) (by decide) rfl ?_
                refine r_goto (pc := 183) (tgt := 14) dX10_traceLowTo_183 (by decide) ?_
                refine Rn.pick (lv' := [(0, .ref wa), (1, .ref ga), (2, .int (iv x2)), (3, .int (iv x3)), (4, .int (iv v180_4)), (5, .int (iv (vl (Int.toNat x3)))), (6, .int (iv (v14_6 + 1)))]) [1, 2, 3, 4, 5, 6, 0] rfl ?_
                exact ih14 (Int.toNat (120 - (v14_6 + 1))) (by omega) vm180 vr180 _ ht180 v180_4 (v14_6 + 1) ⟨by omega, by omega, by omega, by omega, by assumption, by omega, by (first | assumption | exact tl_0)⟩ (by omega)
              refine t_if_eq (pc := 102) (tgt := 180) dX10_traceLowTo_102 (by decide) (by omega) (fun c102 => ?_) (fun c102 => ?_)
              · exfalso
                omega
              · have hbt : btQ Tl Hd (prI x2 W By) vs vo vl (Int.toNat x3) (Int.toNat v14_6) := ⟨by omega, by omega, by omega, by omega⟩
                refine r_aload_n (pc := 105) dX10_traceLowTo_105 (i := 0) rfl rfl ?_
                refine t_getE (pc := 106) (.ref (wa + 4)) ht8 (rd_of WE_0) fX10_29 dX10_traceLowTo_106 rfl ?_
                refine r_iload_n (pc := 109) dX10_traceLowTo_109 (i := 3) rfl rfl ?_
                refine r_dup2_11 (pc := 110) dX10_traceLowTo_110 rfl rfl ?_
                refine t_laldX (pc := 111) (t0 := 1) ht8 (rd_of WE_4) dX10_traceLowTo_111 rfl (by omega) (by omega) ?_
                refine r_aload_n (pc := 112) dX10_traceLowTo_112 (i := 0) rfl rfl ?_
                refine t_getE (pc := 113) (.ref (wa + 4)) ht8 (rd_of WE_0) fX10_29 dX10_traceLowTo_113 rfl ?_
                refine r_iload (pc := 116) dX10_traceLowTo_116 rfl ?_
                refine t_laldX (pc := 118) (t0 := 1) ht8 (rd_of WE_4) dX10_traceLowTo_118 rfl (by omega) (by omega) ?_
                refine r_ladd (pc := 119) (v := (vm14 (Int.toNat x3)) + (vm14 (Int.toNat (Tl (Int.toNat v14_6))))) dX10_traceLowTo_119 rfl ?_
                refine t_lastX (pc := 120) (t0 := 1) ht8 WE_4 dX10_traceLowTo_120 rfl (by omega) (by omega) (fun hp9 ht10 => ?_)
                have ht11 := WEw_vm ht10
                refine r_iload (pc := 121) dX10_traceLowTo_121 rfl ?_
                refine t_if_ne (pc := 123) (tgt := 180) dX10_traceLowTo_123 (by decide) (by omega) (fun c123 => ?_) (fun c123 => ?_)
                · refine Rn.pick (lv' := [(0, .ref wa), (1, .ref ga), (2, .int (iv x2)), (3, .int (iv x3)), (4, .int (iv v14_4)), (5, .int (iv (vl (Int.toNat x3)))), (6, .int (iv v14_6))]) [2, 3, 4, 5, 6, 7, 8] rfl ?_
                  exact B180 (fuj vm14 (Int.toNat x3) ((vm14 (Int.toNat x3)) + (vm14 (Int.toNat (Tl (Int.toNat v14_6)))))) vr14 _ ht11 v14_4 ⟨by omega, by omega, by assumption, by (first | assumption | exact htl9 | exact tl_y1 (by assumption) (by omega) hbt rfl (by omega) | exact tl_n (by assumption) (by omega) (fun h9 => by have h8 := h9.1; have h7 := h9.2.1; have h6 := h9.2.2.1; have h5 := h9.2.2.2; omega))⟩
                · refine r_aload_n (pc := 126) dX10_traceLowTo_126 (i := 0) rfl rfl ?_
                  refine t_getE (pc := 127) (.ref (wa + 5)) ht11 (rd_of WE_0) fX10_32 dX10_traceLowTo_127 rfl ?_
                  refine r_iload (pc := 130) dX10_traceLowTo_130 rfl ?_
                  refine r_aload_n (pc := 132) dX10_traceLowTo_132 (i := 0) rfl rfl ?_
                  refine t_getE (pc := 133) (.int (iv (gn : Int))) ht11 (rd_of WE_0) fX10_15 dX10_traceLowTo_133 rfl ?_
                  have hmul136 := mul_nn (n := gn) (u := Tl (Int.toNat v14_6)) (by omega) (by omega)
                  refine r_imul (pc := 136) (v := iv ((Tl (Int.toNat v14_6)) * (gn : Int))) dX10_traceLowTo_136 (iv_mul _ _) ?_
                  refine r_aload_n (pc := 137) dX10_traceLowTo_137 (i := 0) rfl rfl ?_
                  refine t_getE (pc := 138) (.ref (wa + 5)) ht11 (rd_of WE_0) fX10_32 dX10_traceLowTo_138 rfl ?_
                  refine r_iload_n (pc := 141) dX10_traceLowTo_141 (i := 3) rfl rfl ?_
                  refine r_aload_n (pc := 142) dX10_traceLowTo_142 (i := 0) rfl rfl ?_
                  refine t_getE (pc := 143) (.int (iv (gn : Int))) ht11 (rd_of WE_0) fX10_15 dX10_traceLowTo_143 rfl ?_
                  have hmul146 := mul_nn (n := gn) (u := x3) (by omega) (by omega)
                  refine r_imul (pc := 146) (v := iv (x3 * (gn : Int))) dX10_traceLowTo_146 (iv_mul _ _) ?_
                  refine r_iload (pc := 147) dX10_traceLowTo_147 rfl ?_
                  refine r_iconst (pc := 149) (v := iv 1) dX10_traceLowTo_149 (by decide) ?_
                  refine r_isub (pc := 150) (v := iv ((vl (Int.toNat x3)) - 1)) dX10_traceLowTo_150 (iv_sub _ _) ?_
                  refine t_copyIX (pc := 151) (t0 := 0) ht11 (rd_of WE_5) (rd_of WE_5) aX10_101 dX10_traceLowTo_151 rfl (by omega) (by omega) (Nat.le_of_ble_eq_true rfl) (fun hp12 ht13 => ?_)
                  have ht14 := WEw_vr ht13
                  have hcp151 : Rfx (gn * gn) 0 59 (cpI vr14 vr14 (Int.toNat ((Tl (Int.toNat v14_6)) * (gn : Int))) (Int.toNat (x3 * (gn : Int))) (Int.toNat ((vl (Int.toNat x3)) - 1))) := Rfx_cI (by assumption) (by omega)
                  refine r_aload_n (pc := 154) dX10_traceLowTo_154 (i := 0) rfl rfl ?_
                  refine t_getE (pc := 155) (.ref (wa + 5)) ht14 (rd_of WE_0) fX10_32 dX10_traceLowTo_155 rfl ?_
                  refine r_iload_n (pc := 158) dX10_traceLowTo_158 (i := 3) rfl rfl ?_
                  refine r_aload_n (pc := 159) dX10_traceLowTo_159 (i := 0) rfl rfl ?_
                  refine t_getE (pc := 160) (.int (iv (gn : Int))) ht14 (rd_of WE_0) fX10_15 dX10_traceLowTo_160 rfl ?_
                  have hmul163 := mul_nn (n := gn) (u := x3) (by omega) (by omega)
                  refine r_imul (pc := 163) (v := iv (x3 * (gn : Int))) dX10_traceLowTo_163 (iv_mul _ _) ?_
                  refine r_iload (pc := 164) dX10_traceLowTo_164 rfl ?_
                  refine r_iadd (pc := 166) (v := iv ((x3 * (gn : Int)) + (vl (Int.toNat x3)))) dX10_traceLowTo_166 (iv_add _ _) ?_
                  refine r_iconst (pc := 167) (v := iv 1) dX10_traceLowTo_167 (by decide) ?_
                  refine r_isub (pc := 168) (v := iv (((x3 * (gn : Int)) + (vl (Int.toNat x3))) - 1)) dX10_traceLowTo_168 (iv_sub _ _) ?_
                  refine r_aload_n (pc := 169) dX10_traceLowTo_169 (i := 1) rfl rfl ?_
                  refine t_getE (pc := 170) (.ref gBy) ht14 (rd_WE (by omega) hg_O) fX10_64 dX10_traceLowTo_170 rfl ?_
                  refine r_iload (pc := 173) dX10_traceLowTo_173 rfl ?_
                  refine t_ialdX (pc := 175) (t0 := 0) ht14 (rd_WE (by omega) hxg_By) dX10_traceLowTo_175 rfl (by omega) (by omega) (fun b15 => ?_)
                  have rb15 := (show Rfx gq 0 ((gm : Int) - 1) By by assumption) (Int.toNat v14_6) (by omega)
                  refine t_iastX (pc := 176) (t0 := 0) ht14 WE_5 dX10_traceLowTo_176 rfl (by omega) (by omega) (by omega) (fun hp16 ht17 => ?_)
                  have ht18 := WEw_vr ht17
                  have hqht18 : Rfx (gn * gn) 0 59 (fup (cpI vr14 vr14 (Int.toNat ((Tl (Int.toNat v14_6)) * (gn : Int))) (Int.toNat (x3 * (gn : Int))) (Int.toNat ((vl (Int.toNat x3)) - 1))) (Int.toNat (((x3 * (gn : Int)) + (vl (Int.toNat x3))) - 1)) (By (Int.toNat v14_6))) := Rfx_up (by assumption) (by omega)
                  have htl9 := tl_y0 (R1 := fup (cpI vr14 vr14 (Int.toNat ((Tl (Int.toNat v14_6)) * (gn : Int))) (Int.toNat (x3 * (gn : Int))) (Int.toNat ((vl (Int.toNat x3)) - 1))) (Int.toNat (((x3 * (gn : Int)) + (vl (Int.toNat x3))) - 1)) (By (Int.toNat v14_6))) (by assumption : tlP gn Tl Hd By (prI x2 W By) vs vo vl (Int.toNat x3) vm vm14 vr vr14 v14_4 v14_6) (by omega) hbt rfl (by omega) (fun c9 => rws_up (by omega) (by omega) (by omega) (by congr 1; omega) c9)
                  refine r_iconst (pc := 177) (v := iv 1) dX10_traceLowTo_177 (by decide) ?_
                  refine r_istore (pc := 178) (lv' := [(4, .int (iv 1)), (8, .int (iv 1)), (7, .int (iv (Tl (Int.toNat v14_6)))), (0, .ref wa), (1, .ref ga), (2, .int (iv x2)), (3, .int (iv x3)), (5, .int (iv (vl (Int.toNat x3)))), (6, .int (iv v14_6))]) dX10_traceLowTo_178 (by decide) rfl ?_
                  refine Rn.pick (lv' := [(0, .ref wa), (1, .ref ga), (2, .int (iv x2)), (3, .int (iv x3)), (4, .int (iv 1)), (5, .int (iv (vl (Int.toNat x3)))), (6, .int (iv v14_6))]) [3, 4, 5, 6, 0, 7, 8] rfl ?_
                  exact B180 (fuj vm14 (Int.toNat x3) ((vm14 (Int.toNat x3)) + (vm14 (Int.toNat (Tl (Int.toNat v14_6)))))) (fup (cpI vr14 vr14 (Int.toNat ((Tl (Int.toNat v14_6)) * (gn : Int))) (Int.toNat (x3 * (gn : Int))) (Int.toNat ((vl (Int.toNat x3)) - 1))) (Int.toNat (((x3 * (gn : Int)) + (vl (Int.toNat x3))) - 1)) (By (Int.toNat v14_6))) _ ht18 1 ⟨by omega, by omega, by assumption, by (first | assumption | exact htl9 | exact tl_y1 (by assumption) (by omega) hbt rfl (by omega) | exact tl_n (by assumption) (by omega) (fun h9 => by have h8 := h9.1; have h7 := h9.2.1; have h6 := h9.2.2.1; have h5 := h9.2.2.2; omega))⟩
  refine Rn.pick (lv' := [(0, .ref wa), (1, .ref ga), (2, .int (iv x2)), (3, .int (iv x3)), (4, .int (iv 0)), (5, .int (iv (vl (Int.toNat x3)))), (6, .int (iv 0))]) [3, 4, 5, 6, 2, 1, 0] rfl ?_
  exact B14 (Int.toNat (120 - 0)) vm vr _ ht 0 0 ⟨by omega, by omega, by omega, by omega, by assumption, by omega, by (first | assumption | exact tl_0)⟩ (by omega)
