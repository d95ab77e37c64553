set_option maxHeartbeats 4000000 in
set_option maxRecDepth 100000 in
theorem c_X4_turnPathx {D : va_G} {cI cJ cZ cT : ClassId} {lo b L : Nat} {xs : Nat → Int32} {hp : MH} {n d : Nat} {Γ : TG} {s : Nat} {W qd : Int} {mt pa ba Q : Nat → Int} {po : Nat → Int} {x1 x2 x3 : Int} {R : Nat → Nat → Prop} {S : Nat → Prop} {ev : Nat → Prop} {root nn : Nat} {rk : Nat → Nat} {Lw : Nat → List Nat} (hd0 : 0 ≤ d) (hm0 : Rfx 16 (-1) 15 mt) (hp0 : Rfx 16 (-1) 15 pa) (hb0 : Rfx 16 0 15 ba) (hQ0 : Rfx 16 0 15 Q) (hW0 : 0 ≤ W ∧ W ≤ 16) (hqd0 : 0 ≤ qd ∧ qd ≤ 65535) (ht : Tw (PrS Γ cI s W qd mt pa ba Q) hp) (hI : bmI R S mt po ba ev root rk Lw) (hS : ∀ a, S a → a < nn) (hnn : nn ≤ 16) (hx1 : 0 ≤ x1 ∧ x1 ≤ 15) (hx2 : 0 ≤ x2 ∧ x2 ≤ 15) (hx3 : 0 ≤ x3 ∧ x3 ≤ 15) (hx1e : ev (Int.toNat x1)) (htp : chP9 ba Lw (Int.toNat x1) x2) (hpc : ∀ y, y ∈ Lw (Int.toNat x1) → y ≠ root → pa (mN mt y) = po (mN mt y)) : Mt (gG D cI cJ cZ cT lo b L xs) mX4_turnPath d 0 0 [.ref s, .int (iv x1), .int (iv x2), .int (iv x3)] hp n (fun r9 hp1 n1 => n1 = n ∧ ∃ (pc1 : Nat → Int) (rg he ch : Int) (p : Nat), Tw (PrS Γ cI s W qd mt pc1 ba Q) hp1 ∧ Rfx 16 (-1) 15 pc1 ∧ r9 = some (.int (iv rg)) ∧ (0 ≤ rg ∧ rg ≤ 65535) ∧ tuI mt po ba ev root Lw pa pc1 (Int.toNat x1) (Int.toNat x3) x2 rg he ch p ∧ wsP mt po ba ev root x2 (Int.toNat x1) (esF mt po (Int.toNat x1)) p) := by
  refine Mt.of rfl (Nat.le_of_ble_eq_true rfl) ?_
  refine Rn.pick (lv' := [(0, .ref s), (1, .int (iv x1)), (2, .int (iv x2)), (3, .int (iv x3))]) [0, 1, 2, 3] rfl ?_
  have t0 : Tw (ov (ov (ov (ov (ov Γ s (tO 4 (prG9 s W qd))) (s + 1) (xI cI 16 mt)) (s + 2) (xI cI 16 pa)) (s + 3) (xI cI 16 ba)) (s + 4) (xI cI 16 Q)) hp := ht
  refine r_iconst (pc := 0) (v := iv 0) dX4_turnPath_0 (by decide) ?_
  refine r_istore (pc := 1) (lv' := [(4, .int (iv 0)), (0, .ref s), (1, .int (iv x1)), (2, .int (iv x2)), (3, .int (iv x3))]) dX4_turnPath_1 (by decide) rfl ?_
  refine r_iload_n (pc := 3) dX4_turnPath_3 (i := 1) rfl rfl ?_
  refine r_istore (pc := 4) (lv' := [(5, .int (iv x1)), (4, .int (iv 0)), (0, .ref s), (1, .int (iv x1)), (2, .int (iv x2)), (3, .int (iv x3))]) dX4_turnPath_4 (by decide) rfl ?_
  refine r_iload_n (pc := 6) dX4_turnPath_6 (i := 3) rfl rfl ?_
  refine r_istore (pc := 7) (lv' := [(6, .int (iv x3)), (5, .int (iv x1)), (4, .int (iv 0)), (0, .ref s), (1, .int (iv x1)), (2, .int (iv x2)), (3, .int (iv x3))]) dX4_turnPath_7 (by decide) rfl ?_
  refine r_iconst (pc := 9) (v := iv 0) dX4_turnPath_9 (by decide) ?_
  refine r_istore (pc := 10) (lv' := [(7, .int (iv 0)), (6, .int (iv x3)), (5, .int (iv x1)), (4, .int (iv 0)), (0, .ref s), (1, .int (iv x1)), (2, .int (iv x2)), (3, .int (iv x3))]) dX4_turnPath_10 (by decide) rfl ?_
  have B12 : ∀ k : Nat, ∀ pa12 : Nat → Int, ∀ hp12 : MH, Tw (ov (ov (ov (ov (ov Γ s (tO 4 (prG9 s W qd))) (s + 1) (xI cI 16 mt)) (s + 2) (xI cI 16 pa12)) (s + 3) (xI cI 16 ba)) (s + 4) (xI cI 16 Q)) hp12 → ∀  (v12_4 : Int) (v12_5 : Int) (v12_6 : Int) (v12_7 : Int), 0 ≤ v12_4 ∧ v12_4 ≤ 65535 ∧ (-1) ≤ v12_5 ∧ v12_5 ≤ 15 ∧ (-1) ≤ v12_6 ∧ v12_6 ≤ 15 ∧ 0 ≤ v12_7 ∧ v12_7 ≤ 16 ∧ (Rfx 16 (-1) 15 pa12) ∧ (tuI mt po ba ev root Lw pa pa12 (Int.toNat x1) (Int.toNat x3) x2 v12_4 v12_5 v12_6 (Int.toNat v12_7)) → 16 - v12_7 ≤ (k : Int) → Rn (gG D cI cJ cZ cT lo b L xs) mX4_turnPath d 12 [(0, .ref s), (2, .int (iv x2)), (4, .int (iv v12_4)), (5, .int (iv v12_5)), (6, .int (iv v12_6)), (7, .int (iv v12_7))] [] hp12 n 0 0 (fun r9 hp1 n1 => n1 = n ∧ ∃ (pc1 : Nat → Int) (rg he ch : Int) (p : Nat), Tw (PrS Γ cI s W qd mt pc1 ba Q) hp1 ∧ Rfx 16 (-1) 15 pc1 ∧ r9 = some (.int (iv rg)) ∧ (0 ≤ rg ∧ rg ≤ 65535) ∧ tuI mt po ba ev root Lw pa pc1 (Int.toNat x1) (Int.toNat x3) x2 rg he ch p ∧ wsP mt po ba ev root x2 (Int.toNat x1) (esF mt po (Int.toNat x1)) p) := by
    refine lpS _ ?_
    intro k12 ih12 pa12 hp12 ht12 v12_4 v12_5 v12_6 v12_7 hf12 hm12
    obtain ⟨hf12_0, hf12_1, hf12_2, hf12_3, hf12_4, hf12_5, hf12_6, hf12_7, ha12_8, ha12_9⟩ := hf12
    refine r_iload (pc := 12) dX4_turnPath_12 rfl ?_
    have htu := (by assumption : tuI mt po ba ev root Lw pa pa12 (Int.toNat x1) (Int.toNat x3) x2 v12_4 v12_5 v12_6 (Int.toNat v12_7))
    have hth := tu_h htu
    refine r_bipush (pc := 14) (v := iv 16) dX4_turnPath_14 (by decide) ?_
    refine t_icmp_ge (pc := 16) (tgt := 106) dX4_turnPath_16 (by decide) (by omega) (by omega) (fun c16 => ?_) (fun c16 => ?_)
    · have hws := tu_e hI htu (Or.inr (Or.inr (Or.inl (by omega))))
      refine r_iload (pc := 106) dX4_turnPath_106 rfl ?_
      exact r_iret (pc := 108) dX4_turnPath_108 rfl ⟨rfl, pa12, _, _, _, (Int.toNat v12_7), ht12, by assumption, rfl, by omega, htu, hws⟩
    · refine r_iload (pc := 19) dX4_turnPath_19 rfl ?_
      refine t_if_lt (pc := 21) (tgt := 106) dX4_turnPath_21 (by decide) (by omega) (fun c21 => ?_) (fun c21 => ?_)
      · exfalso
        omega
      · refine r_aload_n (pc := 24) dX4_turnPath_24 (i := 0) rfl rfl ?_
        refine t_getE (pc := 25) (.ref (s + 3)) ht12 (rd_ov (by omega) (rd_ov (by omega) (rd_ov (by omega) (rd_ov (by omega) (rd_of (ov_s _ _ _)))))) fX4_18 dX4_turnPath_25 rfl ?_
        refine r_iload (pc := 28) dX4_turnPath_28 rfl ?_
        refine t_ialdX (pc := 30) (t0 := 0) ht12 (rd_ov (by omega) (rd_of (ov_s _ _ _))) dX4_turnPath_30 rfl (by decide) (by omega) (fun b1 => ?_)
        have rb1 := (show Rfx 16 0 15 ba by assumption) (Int.toNat v12_5) (by omega)
        refine r_iload_n (pc := 31) dX4_turnPath_31 (i := 2) rfl rfl ?_
        refine t_icmp_eq (pc := 32) (tgt := 106) dX4_turnPath_32 (by decide) (by omega) (by omega) (fun c32 => ?_) (fun c32 => ?_)
        · have hws := tu_e hI htu (Or.inl (by rw [← hth.1]; omega))
          refine r_iload (pc := 106) dX4_turnPath_106 rfl ?_
          exact r_iret (pc := 108) dX4_turnPath_108 rfl ⟨rfl, pa12, _, _, _, (Int.toNat v12_7), ht12, by assumption, rfl, by omega, htu, hws⟩
        · have hne : ba (esF mt po (Int.toNat x1) (Int.toNat v12_7)) ≠ x2 := by rw [← hth.1]; omega
          refine r_aload_n (pc := 35) dX4_turnPath_35 (i := 0) rfl rfl ?_
          refine t_getE (pc := 36) (.ref (s + 1)) ht12 (rd_ov (by omega) (rd_ov (by omega) (rd_ov (by omega) (rd_ov (by omega) (rd_of (ov_s _ _ _)))))) fX4_9 dX4_turnPath_36 rfl ?_
          refine r_iload (pc := 39) dX4_turnPath_39 rfl ?_
          refine t_ialdX (pc := 41) (t0 := 0) ht12 (rd_ov (by omega) (rd_ov (by omega) (rd_ov (by omega) (rd_of (ov_s _ _ _))))) dX4_turnPath_41 rfl (by decide) (by omega) (fun b2 => ?_)
          have rb2 := (show Rfx 16 (-1) 15 mt by assumption) (Int.toNat v12_5) (by omega)
          refine t_if_lt (pc := 42) (tgt := 106) dX4_turnPath_42 (by decide) (by omega) (fun c42 => ?_) (fun c42 => ?_)
          · have hws := tu_e hI htu (Or.inr (Or.inl (by rw [← hth.1]; omega)))
            refine r_iload (pc := 106) dX4_turnPath_106 rfl ?_
            exact r_iret (pc := 108) dX4_turnPath_108 rfl ⟨rfl, pa12, _, _, _, (Int.toNat v12_7), ht12, by assumption, rfl, by omega, htu, hws⟩
          · refine r_aload_n (pc := 45) dX4_turnPath_45 (i := 0) rfl rfl ?_
            refine t_getE (pc := 46) (.ref (s + 1)) ht12 (rd_ov (by omega) (rd_ov (by omega) (rd_ov (by omega) (rd_ov (by omega) (rd_of (ov_s _ _ _)))))) fX4_9 dX4_turnPath_46 rfl ?_
            refine r_iload (pc := 49) dX4_turnPath_49 rfl ?_
            refine t_ialdX (pc := 51) (t0 := 0) ht12 (rd_ov (by omega) (rd_ov (by omega) (rd_ov (by omega) (rd_of (ov_s _ _ _))))) dX4_turnPath_51 rfl (by decide) (by omega) (fun b3 => ?_)
            have rb3 := (show Rfx 16 (-1) 15 mt by assumption) (Int.toNat v12_5) (by omega)
            refine r_istore (pc := 52) (lv' := [(8, .int (iv (mt (Int.toNat v12_5)))), (0, .ref s), (2, .int (iv x2)), (4, .int (iv v12_4)), (5, .int (iv v12_5)), (6, .int (iv v12_6)), (7, .int (iv v12_7))]) dX4_turnPath_52 (by decide) rfl ?_
            refine r_iload (pc := 54) dX4_turnPath_54 rfl ?_
            refine r_iconst (pc := 56) (v := iv 1) dX4_turnPath_56 (by decide) ?_
            refine r_aload_n (pc := 57) dX4_turnPath_57 (i := 0) rfl rfl ?_
            refine t_getE (pc := 58) (.ref (s + 3)) ht12 (rd_ov (by omega) (rd_ov (by omega) (rd_ov (by omega) (rd_ov (by omega) (rd_of (ov_s _ _ _)))))) fX4_18 dX4_turnPath_58 rfl ?_
            refine r_iload (pc := 61) dX4_turnPath_61 rfl ?_
            refine t_ialdX (pc := 63) (t0 := 0) ht12 (rd_ov (by omega) (rd_of (ov_s _ _ _))) dX4_turnPath_63 rfl (by decide) (by omega) (fun b4 => ?_)
            have rb4 := (show Rfx 16 0 15 ba by assumption) (Int.toNat v12_5) (by omega)
            refine r_ishl (pc := 64) (v := iv ((2 ^ Int.toNat (ba (Int.toNat v12_5)) : Nat) : Int)) dX4_turnPath_64 (shl_e (by omega)) ?_
            have mp64_5 : 1 ≤ 2 ^ Int.toNat (ba (Int.toNat v12_5)) := Nat.one_le_two_pow
            have mq64_6 : 2 ^ Int.toNat (ba (Int.toNat v12_5)) ≤ 2 ^ 15 := Nat.pow_le_pow_right (by omega) (by omega)
            have ms64 := Me_shl (Int.toNat (ba (Int.toNat v12_5)))
            refine r_iconst (pc := 65) (v := iv 1) dX4_turnPath_65 (by decide) ?_
            refine r_aload_n (pc := 66) dX4_turnPath_66 (i := 0) rfl rfl ?_
            refine t_getE (pc := 67) (.ref (s + 3)) ht12 (rd_ov (by omega) (rd_ov (by omega) (rd_ov (by omega) (rd_ov (by omega) (rd_of (ov_s _ _ _)))))) fX4_18 dX4_turnPath_67 rfl ?_
            refine r_iload (pc := 70) dX4_turnPath_70 rfl ?_
            refine t_ialdX (pc := 72) (t0 := 0) ht12 (rd_ov (by omega) (rd_of (ov_s _ _ _))) dX4_turnPath_72 rfl (by decide) (by omega) (fun b7 => ?_)
            have rb7 := (show Rfx 16 0 15 ba by assumption) (Int.toNat (mt (Int.toNat v12_5))) (by omega)
            refine r_ishl (pc := 73) (v := iv ((2 ^ Int.toNat (ba (Int.toNat (mt (Int.toNat v12_5)))) : Nat) : Int)) dX4_turnPath_73 (shl_e (by omega)) ?_
            have mp73_8 : 1 ≤ 2 ^ Int.toNat (ba (Int.toNat (mt (Int.toNat v12_5)))) := Nat.one_le_two_pow
            have mq73_9 : 2 ^ Int.toNat (ba (Int.toNat (mt (Int.toNat v12_5)))) ≤ 2 ^ 15 := Nat.pow_le_pow_right (by omega) (by omega)
            have ms73 := Me_shl (Int.toNat (ba (Int.toNat (mt (Int.toNat v12_5)))))
            obtain ⟨z10, hz10, bz10⟩ := or_2 16 ((2 ^ Int.toNat (ba (Int.toNat v12_5)) : Nat) : Int) ((2 ^ Int.toNat (ba (Int.toNat (mt (Int.toNat v12_5)))) : Nat) : Int) (by omega) (by omega) (by decide)
            refine r_ior (pc := 74) (v := iv z10) dX4_turnPath_74 hz10 ?_
            have mez10 := Me_or hz10 (by omega) (by omega) (by omega)
            obtain ⟨z11, hz11, bz11⟩ := or_2 16 v12_4 z10 (by omega) (by omega) (by decide)
            refine r_ior (pc := 75) (v := iv z11) dX4_turnPath_75 hz11 ?_
            have mez11 := Me_or hz11 (by omega) (by omega) (by omega)
            have hz75 : ∀ c9 : Nat, Me z11 c9 ↔ Me v12_4 c9 ∨ (c9 : Int) = ba (Int.toNat v12_5) ∨ (c9 : Int) = ba (mN mt (Int.toNat v12_5)) := fun c9 => by
              rw [mez11 c9, mez10 c9, ms64 c9, ms73 c9]
              have e9 : mN mt (Int.toNat v12_5) = Int.toNat (mt (Int.toNat v12_5)) := rfl
              rw [e9]
              exact or_congr_right (or_congr ⟨fun g9 => by omega, fun g9 => by omega⟩ ⟨fun g9 => by omega, fun g9 => by omega⟩)
            refine r_istore (pc := 76) (lv' := [(4, .int (iv z11)), (8, .int (iv (mt (Int.toNat v12_5)))), (0, .ref s), (2, .int (iv x2)), (5, .int (iv v12_5)), (6, .int (iv v12_6)), (7, .int (iv v12_7))]) dX4_turnPath_76 (by decide) rfl ?_
            refine r_aload_n (pc := 78) dX4_turnPath_78 (i := 0) rfl rfl ?_
            refine t_getE (pc := 79) (.ref (s + 2)) ht12 (rd_ov (by omega) (rd_ov (by omega) (rd_ov (by omega) (rd_ov (by omega) (rd_of (ov_s _ _ _)))))) fX4_15 dX4_turnPath_79 rfl ?_
            refine r_iload (pc := 82) dX4_turnPath_82 rfl ?_
            refine r_iload (pc := 84) dX4_turnPath_84 rfl ?_
            refine t_iastX (pc := 86) (t0 := 0) ht12 (eq_ov (by omega) (eq_ov (by omega) (ov_s _ _ _))) dX4_turnPath_86 rfl (by decide) (by omega) (by omega) (fun hp12 ht13 => ?_)
            rw [ov_in3 (by omega) (by omega) ] at ht13
            have hp86 : Rfx 16 (-1) 15 (fup pa12 (Int.toNat v12_5) v12_6) := Rfx_up (by assumption) (by omega)
            refine r_iload (pc := 87) dX4_turnPath_87 rfl ?_
            refine r_istore (pc := 89) (lv' := [(6, .int (iv (mt (Int.toNat v12_5)))), (4, .int (iv z11)), (8, .int (iv (mt (Int.toNat v12_5)))), (0, .ref s), (2, .int (iv x2)), (5, .int (iv v12_5)), (7, .int (iv v12_7))]) dX4_turnPath_89 (by decide) rfl ?_
            refine r_aload_n (pc := 91) dX4_turnPath_91 (i := 0) rfl rfl ?_
            refine t_getE (pc := 92) (.ref (s + 2)) ht13 (rd_ov (by omega) (rd_ov (by omega) (rd_ov (by omega) (rd_ov (by omega) (rd_of (ov_s _ _ _)))))) fX4_15 dX4_turnPath_92 rfl ?_
            refine r_iload (pc := 95) dX4_turnPath_95 rfl ?_
            refine t_ialdX (pc := 97) (t0 := 0) ht13 (rd_ov (by omega) (rd_ov (by omega) (rd_of (ov_s _ _ _)))) dX4_turnPath_97 rfl (by decide) (by omega) (fun b14 => ?_)
            have rb14 := (show Rfx 16 (-1) 15 (fup pa12 (Int.toNat v12_5) v12_6) by assumption) (Int.toNat (mt (Int.toNat v12_5))) (by omega)
            refine r_istore (pc := 98) (lv' := [(5, .int (iv ((fup pa12 (Int.toNat v12_5) v12_6) (Int.toNat (mt (Int.toNat v12_5)))))), (6, .int (iv (mt (Int.toNat v12_5)))), (4, .int (iv z11)), (8, .int (iv (mt (Int.toNat v12_5)))), (0, .ref s), (2, .int (iv x2)), (7, .int (iv v12_7))]) dX4_turnPath_98 (by decide) rfl ?_
            have htu1 : tuI mt po ba ev root Lw pa (fup pa12 (Int.toNat v12_5) v12_6) (Int.toNat x1) (Int.toNat x3) x2 z11 ((fup pa12 (Int.toNat v12_5) v12_6) (Int.toNat (mt (Int.toNat v12_5)))) (mt (Int.toNat v12_5)) (Int.toNat (v12_7 + 1)) := by
              rw [show Int.toNat (v12_7 + 1) = (Int.toNat v12_7) + 1 by omega, ← mn_e (mt := mt) (a := (Int.toNat v12_5)) (by omega)]
              exact tu_st hI hx1e hpc htu hne hth.1 hz75 rfl
            refine r_iinc (pc := 100) (v := iv (v12_7 + 1)) (lv' := [(7, .int (iv (v12_7 + 1))), (5, .int (iv ((fup pa12 (Int.toNat v12_5) v12_6) (Int.toNat (mt (Int.toNat v12_5)))))), (6, .int (iv (mt (Int.toNat v12_5)))), (4, .int (iv z11)), (8, .int (iv (mt (Int.toNat v12_5)))), (0, .ref s), (2, .int (iv x2))]) dX4_turnPath_100 rfl (iv_add _ _) (by decide) rfl ?_
            refine r_goto (pc := 103) (tgt := 12) dX4_turnPath_103 (by decide) ?_
            refine Rn.pick (lv' := [(0, .ref s), (2, .int (iv x2)), (4, .int (iv z11)), (5, .int (iv ((fup pa12 (Int.toNat v12_5) v12_6) (Int.toNat (mt (Int.toNat v12_5)))))), (6, .int (iv (mt (Int.toNat v12_5)))), (7, .int (iv (v12_7 + 1)))]) [5, 6, 3, 1, 2, 0] rfl ?_
            exact ih12 (Int.toNat (16 - (v12_7 + 1))) (by omega) (fup pa12 (Int.toNat v12_5) v12_6) _ ht13 z11 ((fup pa12 (Int.toNat v12_5) v12_6) (Int.toNat (mt (Int.toNat v12_5)))) (mt (Int.toNat v12_5)) (v12_7 + 1) ⟨by omega, by omega, by omega, by omega, by omega, by omega, by omega, by omega, by (first | exact hp86 | exact hp0), by (first | exact htu1 | exact tu_s hI hS hnn (by omega) (by omega) hx1e htp)⟩ (by omega)
  refine Rn.pick (lv' := [(0, .ref s), (2, .int (iv x2)), (4, .int (iv 0)), (5, .int (iv x1)), (6, .int (iv x3)), (7, .int (iv 0))]) [4, 6, 3, 2, 1, 0] rfl ?_
  exact B12 (Int.toNat (16 - 0)) pa _ t0 0 x1 x3 0 ⟨by omega, by omega, by omega, by omega, by omega, by omega, by omega, by omega, by (first | exact hp86 | exact hp0), by (first | exact htu1 | exact tu_s hI hS hnn (by omega) (by omega) hx1e htp)⟩ (by omega)
