set_option maxHeartbeats 4000000 in
set_option maxRecDepth 100000 in
theorem c_X4_commonBasex {D : va_G} {cI cJ cZ cT : ClassId} {lo b L : Nat} {xs : Nat → Int32} {hp : MH} {n d : Nat} {Γ : TG} {s : Nat} {W qd : Int} {mt pa ba Q : Nat → Int} {x1 x2 : Int} {R : Nat → Nat → Prop} {S : Nat → Prop} {ev : Nat → Prop} {root nn : Nat} {rk : Nat → Nat} {Lw : Nat → List Nat} (hd0 : 0 ≤ d) (hm0 : Rfx 16 (-1) 15 mt) (hp0 : Rfx 16 (-1) 15 pa) (hb0 : Rfx 16 0 15 ba) (hQ0 : Rfx 16 0 15 Q) (hW0 : 0 ≤ W ∧ W ≤ 16) (hqd0 : 0 ≤ qd ∧ qd ≤ 65535) (ht : Tw (PrS Γ cI s W qd mt pa ba Q) hp) (hI : bmI R S mt pa ba ev root rk Lw) (hS : ∀ a, S a → a < nn) (hnn : nn ≤ 16) (hx1 : 0 ≤ x1 ∧ x1 ≤ 15) (hx2 : 0 ≤ x2 ∧ x2 ≤ 15) (hx1e : ev (Int.toNat x1)) (hx2e : ev (Int.toNat x2)) : Mt (gG D cI cJ cZ cT lo b L xs) mX4_commonBase d 0 0 [.ref s, .int (iv x1), .int (iv x2)] hp n (pI (PrS Γ cI s W qd mt pa ba Q) n (fun r => (0 ≤ r ∧ r ≤ 15) ∧ tpP9 ba rk Lw (Int.toNat x1) (Int.toNat x2) r)) := by
  refine Mt.of rfl (Nat.le_of_ble_eq_true rfl) ?_
  refine Rn.pick (lv' := [(0, .ref s), (1, .int (iv x1)), (2, .int (iv x2))]) [0, 1, 2] rfl ?_
  have t0 : Tw (ov (ov (ov (ov (ov Γ s (tO 4 (prG9 s W qd))) (s + 1) (xI cI 16 mt)) (s + 2) (xI cI 16 pa)) (s + 3) (xI cI 16 ba)) (s + 4) (xI cI 16 Q)) hp := ht
  refine r_iconst (pc := 0) (v := iv 0) dX4_commonBase_0 (by decide) ?_
  refine r_istore_n (pc := 1) (lv' := [(3, .int (iv 0)), (0, .ref s), (1, .int (iv x1)), (2, .int (iv x2))]) dX4_commonBase_1 (i := 3) rfl (by decide) rfl ?_
  refine r_iload_n (pc := 2) dX4_commonBase_2 (i := 1) rfl rfl ?_
  refine r_istore (pc := 3) (lv' := [(4, .int (iv x1)), (3, .int (iv 0)), (0, .ref s), (1, .int (iv x1)), (2, .int (iv x2))]) dX4_commonBase_3 (by decide) rfl ?_
  refine r_iconst (pc := 5) (v := iv 0) dX4_commonBase_5 (by decide) ?_
  refine r_istore (pc := 6) (lv' := [(5, .int (iv 0)), (4, .int (iv x1)), (3, .int (iv 0)), (0, .ref s), (1, .int (iv x1)), (2, .int (iv x2))]) dX4_commonBase_6 (by decide) rfl ?_
  have B8 : ∀ k : Nat, ∀ hp8 : MH, Tw (ov (ov (ov (ov (ov Γ s (tO 4 (prG9 s W qd))) (s + 1) (xI cI 16 mt)) (s + 2) (xI cI 16 pa)) (s + 3) (xI cI 16 ba)) (s + 4) (xI cI 16 Q)) hp8 → ∀  (v8_3 : Int) (v8_4 : Int) (v8_5 : Int), 0 ≤ v8_3 ∧ v8_3 ≤ 65535 ∧ (-1) ≤ v8_4 ∧ v8_4 ≤ 15 ∧ 0 ≤ v8_5 ∧ v8_5 ≤ 16 ∧ (cb1 ba ev Lw (Int.toNat x1) v8_3 v8_4 v8_5) → 16 - v8_5 ≤ (k : Int) → Rn (gG D cI cJ cZ cT lo b L xs) mX4_commonBase d 8 [(0, .ref s), (2, .int (iv x2)), (3, .int (iv v8_3)), (4, .int (iv v8_4)), (5, .int (iv v8_5))] [] hp8 n 0 0 (pI (PrS Γ cI s W qd mt pa ba Q) n (fun r => (0 ≤ r ∧ r ≤ 15) ∧ tpP9 ba rk Lw (Int.toNat x1) (Int.toNat x2) r)) := by
    refine lpS _ ?_
    intro k8 ih8 hp8 ht8 v8_3 v8_4 v8_5 hf8 hm8
    obtain ⟨hf8_0, hf8_1, hf8_2, hf8_3, hf8_4, hf8_5, ha8_6⟩ := hf8
    refine r_iload (pc := 8) dX4_commonBase_8 rfl ?_
    refine r_bipush (pc := 10) (v := iv 16) dX4_commonBase_10 (by decide) ?_
    have B70 : ∀ hp70 : MH, Tw (ov (ov (ov (ov (ov Γ s (tO 4 (prG9 s W qd))) (s + 1) (xI cI 16 mt)) (s + 2) (xI cI 16 pa)) (s + 3) (xI cI 16 ba)) (s + 4) (xI cI 16 Q)) hp70 → (∀ c : Nat, Me v8_3 c ↔ chP9 ba Lw (Int.toNat x1) (c : Int)) → Rn (gG D cI cJ cZ cT lo b L xs) mX4_commonBase d 70 [(0, .ref s), (2, .int (iv x2)), (3, .int (iv v8_3))] [] hp70 n 0 0 (pI (PrS Γ cI s W qd mt pa ba Q) n (fun r => (0 ≤ r ∧ r ≤ 15) ∧ tpP9 ba rk Lw (Int.toNat x1) (Int.toNat x2) r)) := by
      intro hp70 ht70 hf70
      have ha70_0 := hf70
      refine r_iload_n (pc := 70) dX4_commonBase_70 (i := 2) rfl rfl ?_
      refine r_istore (pc := 71) (lv' := [(4, .int (iv x2)), (0, .ref s), (2, .int (iv x2)), (3, .int (iv v8_3))]) dX4_commonBase_71 (by decide) rfl ?_
      refine r_iconst (pc := 73) (v := iv 0) dX4_commonBase_73 (by decide) ?_
      refine r_istore (pc := 74) (lv' := [(5, .int (iv 0)), (4, .int (iv x2)), (0, .ref s), (2, .int (iv x2)), (3, .int (iv v8_3))]) dX4_commonBase_74 (by decide) rfl ?_
      have B76 : ∀ k : Nat, ∀ hp76 : MH, Tw (ov (ov (ov (ov (ov Γ s (tO 4 (prG9 s W qd))) (s + 1) (xI cI 16 mt)) (s + 2) (xI cI 16 pa)) (s + 3) (xI cI 16 ba)) (s + 4) (xI cI 16 Q)) hp76 → ∀  (v76_4 : Int) (v76_5 : Int), (-1) ≤ v76_4 ∧ v76_4 ≤ 15 ∧ 0 ≤ v76_5 ∧ v76_5 ≤ 16 ∧ (cb2 ba ev Lw (Int.toNat x2) v8_3 v76_4 v76_5) → 16 - v76_5 ≤ (k : Int) → Rn (gG D cI cJ cZ cT lo b L xs) mX4_commonBase d 76 [(0, .ref s), (3, .int (iv v8_3)), (4, .int (iv v76_4)), (5, .int (iv v76_5))] [] hp76 n 0 0 (pI (PrS Γ cI s W qd mt pa ba Q) n (fun r => (0 ≤ r ∧ r ≤ 15) ∧ tpP9 ba rk Lw (Int.toNat x1) (Int.toNat x2) r)) := by
        refine lpS _ ?_
        intro k76 ih76 hp76 ht76 v76_4 v76_5 hf76 hm76
        obtain ⟨hf76_0, hf76_1, hf76_2, hf76_3, ha76_4⟩ := hf76
        refine r_iload (pc := 76) dX4_commonBase_76 rfl ?_
        have hc2 := (by assumption : cb2 ba ev Lw (Int.toNat x2) v8_3 v76_4 v76_5)
        have hce := cb2_e hI hc2
        refine r_bipush (pc := 78) (v := iv 16) dX4_commonBase_78 (by decide) ?_
        refine t_icmp_ge (pc := 80) (tgt := 143) dX4_commonBase_80 (by decide) (by omega) (by omega) (fun c80 => ?_) (fun c80 => ?_)
        · exfalso
          omega
        · refine r_iload (pc := 83) dX4_commonBase_83 rfl ?_
          refine t_if_lt (pc := 85) (tgt := 143) dX4_commonBase_85 (by decide) (by omega) (fun c85 => ?_) (fun c85 => ?_)
          · exfalso
            omega
          · refine r_aload_n (pc := 88) dX4_commonBase_88 (i := 0) rfl rfl ?_
            refine t_getE (pc := 89) (.ref (s + 3)) ht76 (rd_ov (by omega) (rd_ov (by omega) (rd_ov (by omega) (rd_ov (by omega) (rd_of (ov_s _ _ _)))))) fX4_18 dX4_commonBase_89 rfl ?_
            refine r_iload (pc := 92) dX4_commonBase_92 rfl ?_
            refine t_ialdX (pc := 94) (t0 := 0) ht76 (rd_ov (by omega) (rd_of (ov_s _ _ _))) dX4_commonBase_94 rfl (by decide) (by omega) (fun b1 => ?_)
            have rb1 := (show Rfx 16 0 15 ba by assumption) (Int.toNat v76_4) (by omega)
            refine r_istore (pc := 95) (lv' := [(4, .int (iv (ba (Int.toNat v76_4)))), (0, .ref s), (3, .int (iv v8_3)), (5, .int (iv v76_5))]) dX4_commonBase_95 (by decide) rfl ?_
            refine r_iload_n (pc := 97) dX4_commonBase_97 (i := 3) rfl rfl ?_
            refine r_iload (pc := 98) dX4_commonBase_98 rfl ?_
            have hq100_2 := shr_le (Int.toNat v8_3) (Int.toNat (ba (Int.toNat v76_4)))
            refine r_ishr (pc := 100) (v := iv ((Int.toNat v8_3 >>> Int.toNat (ba (Int.toNat v76_4)) : Nat) : Int)) dX4_commonBase_100 (shr_e (by omega) (by omega)) ?_
            refine r_iconst (pc := 101) (v := iv 1) dX4_commonBase_101 (by decide) ?_
            refine r_iand (pc := 102) (v := iv (((Int.toNat v8_3 >>> Int.toNat (ba (Int.toNat v76_4)) : Nat) : Int) % 2)) dX4_commonBase_102 (and1_e _ (by omega)) ?_
            have mb102 := @Me_bit v8_3 (ba (Int.toNat v76_4))
            refine t_if_eq (pc := 103) (tgt := 109) dX4_commonBase_103 (by decide) (by omega) (fun c103 => ?_) (fun c103 => ?_)
            · have nm103 : ¬ Me v8_3 (Int.toNat (ba (Int.toNat v76_4))) := fun h9 => absurd (Me_bit.mpr h9) (by omega)
              obtain ⟨hmc, hcn⟩ := cb2_n hI (a := Int.toNat x1) hx1e (by assumption : ∀ c : Nat, Me v8_3 c ↔ chP9 ba Lw (Int.toNat x1) (c : Int)) hc2 hx2e rfl (by omega) nm103
              refine r_aload_n (pc := 109) dX4_commonBase_109 (i := 0) rfl rfl ?_
              refine t_getE (pc := 110) (.ref (s + 1)) ht76 (rd_ov (by omega) (rd_ov (by omega) (rd_ov (by omega) (rd_ov (by omega) (rd_of (ov_s _ _ _)))))) fX4_9 dX4_commonBase_110 rfl ?_
              refine r_iload (pc := 113) dX4_commonBase_113 rfl ?_
              refine t_ialdX (pc := 115) (t0 := 0) ht76 (rd_ov (by omega) (rd_ov (by omega) (rd_ov (by omega) (rd_of (ov_s _ _ _))))) dX4_commonBase_115 rfl (by decide) (by omega) (fun b3 => ?_)
              have rb3 := (show Rfx 16 (-1) 15 mt by assumption) (Int.toNat (ba (Int.toNat v76_4))) (by omega)
              refine t_if_ge (pc := 116) (tgt := 123) dX4_commonBase_116 (by decide) (by omega) (fun c116 => ?_) (fun c116 => ?_)
              · refine r_aload_n (pc := 123) dX4_commonBase_123 (i := 0) rfl rfl ?_
                refine t_getE (pc := 124) (.ref (s + 2)) ht76 (rd_ov (by omega) (rd_ov (by omega) (rd_ov (by omega) (rd_ov (by omega) (rd_of (ov_s _ _ _)))))) fX4_15 dX4_commonBase_124 rfl ?_
                refine r_aload_n (pc := 127) dX4_commonBase_127 (i := 0) rfl rfl ?_
                refine t_getE (pc := 128) (.ref (s + 1)) ht76 (rd_ov (by omega) (rd_ov (by omega) (rd_ov (by omega) (rd_ov (by omega) (rd_of (ov_s _ _ _)))))) fX4_9 dX4_commonBase_128 rfl ?_
                refine r_iload (pc := 131) dX4_commonBase_131 rfl ?_
                refine t_ialdX (pc := 133) (t0 := 0) ht76 (rd_ov (by omega) (rd_ov (by omega) (rd_ov (by omega) (rd_of (ov_s _ _ _))))) dX4_commonBase_133 rfl (by decide) (by omega) (fun b4 => ?_)
                have rb4 := (show Rfx 16 (-1) 15 mt by assumption) (Int.toNat (ba (Int.toNat v76_4))) (by omega)
                refine t_ialdX (pc := 134) (t0 := 0) ht76 (rd_ov (by omega) (rd_ov (by omega) (rd_of (ov_s _ _ _)))) dX4_commonBase_134 rfl (by decide) (by omega) (fun b5 => ?_)
                have rb5 := (show Rfx 16 (-1) 15 pa by assumption) (Int.toNat (mt (Int.toNat (ba (Int.toNat v76_4))))) (by omega)
                refine r_istore (pc := 135) (lv' := [(4, .int (iv (pa (Int.toNat (mt (Int.toNat (ba (Int.toNat v76_4)))))))), (0, .ref s), (3, .int (iv v8_3)), (5, .int (iv v76_5))]) dX4_commonBase_135 (by decide) rfl ?_
                refine r_iinc (pc := 137) (v := iv (v76_5 + 1)) (lv' := [(5, .int (iv (v76_5 + 1))), (4, .int (iv (pa (Int.toNat (mt (Int.toNat (ba (Int.toNat v76_4)))))))), (0, .ref s), (3, .int (iv v8_3))]) dX4_commonBase_137 rfl (iv_add _ _) (by decide) rfl ?_
                refine r_goto (pc := 140) (tgt := 76) dX4_commonBase_140 (by decide) ?_
                refine Rn.pick (lv' := [(0, .ref s), (3, .int (iv v8_3)), (4, .int (iv (pa (Int.toNat (mt (Int.toNat (ba (Int.toNat v76_4)))))))), (5, .int (iv (v76_5 + 1)))]) [2, 3, 1, 0] rfl ?_
                exact ih76 (Int.toNat (16 - (v76_5 + 1))) (by omega) _ ht76 (pa (Int.toNat (mt (Int.toNat (ba (Int.toNat v76_4)))))) (v76_5 + 1) ⟨by omega, by omega, by omega, by omega, by (first | exact hcn | exact cb2_s hI hS hnn (by omega) hx2e)⟩ (by omega)
              · exfalso
                omega
            · have pm103 : Me v8_3 (Int.toNat (ba (Int.toNat v76_4))) := Me_bit.mp (by omega)
              have htp := cb2_y hI (by assumption : ∀ c : Nat, Me v8_3 c ↔ chP9 ba Lw (Int.toNat x1) (c : Int)) hc2 hx2e rfl (by omega) pm103
              refine r_iload (pc := 106) dX4_commonBase_106 rfl ?_
              exact r_iret (pc := 108) dX4_commonBase_108 rfl ⟨rfl, ht76, _, rfl, by omega, htp⟩
      refine Rn.pick (lv' := [(0, .ref s), (3, .int (iv v8_3)), (4, .int (iv x2)), (5, .int (iv 0))]) [2, 4, 1, 0] rfl ?_
      exact B76 (Int.toNat (16 - 0)) _ ht70 x2 0 ⟨by omega, by omega, by omega, by omega, by (first | exact hcn | exact cb2_s hI hS hnn (by omega) hx2e)⟩ (by omega)
    refine t_icmp_ge (pc := 12) (tgt := 70) dX4_commonBase_12 (by decide) (by omega) (by omega) (fun c12 => ?_) (fun c12 => ?_)
    · have hse : ∀ c : Nat, Me v8_3 c ↔ chP9 ba Lw (Int.toNat x1) (c : Int) := cb1_e hI (by assumption : cb1 ba ev Lw (Int.toNat x1) v8_3 v8_4 v8_5) (Or.inr (by omega))
      refine Rn.pick (lv' := [(0, .ref s), (2, .int (iv x2)), (3, .int (iv v8_3))]) [0, 1, 2] rfl ?_
      exact B70 _ ht8 (by exact hse)
    · refine r_iload (pc := 15) dX4_commonBase_15 rfl ?_
      refine t_if_lt (pc := 17) (tgt := 70) dX4_commonBase_17 (by decide) (by omega) (fun c17 => ?_) (fun c17 => ?_)
      · have hse : ∀ c : Nat, Me v8_3 c ↔ chP9 ba Lw (Int.toNat x1) (c : Int) := cb1_e hI (by assumption : cb1 ba ev Lw (Int.toNat x1) v8_3 v8_4 v8_5) (Or.inl (by omega))
        refine Rn.pick (lv' := [(0, .ref s), (2, .int (iv x2)), (3, .int (iv v8_3))]) [0, 1, 2] rfl ?_
        exact B70 _ ht8 (by exact hse)
      · refine r_aload_n (pc := 20) dX4_commonBase_20 (i := 0) rfl rfl ?_
        refine t_getE (pc := 21) (.ref (s + 3)) ht8 (rd_ov (by omega) (rd_ov (by omega) (rd_ov (by omega) (rd_ov (by omega) (rd_of (ov_s _ _ _)))))) fX4_18 dX4_commonBase_21 rfl ?_
        refine r_iload (pc := 24) dX4_commonBase_24 rfl ?_
        refine t_ialdX (pc := 26) (t0 := 0) ht8 (rd_ov (by omega) (rd_of (ov_s _ _ _))) dX4_commonBase_26 rfl (by decide) (by omega) (fun b6 => ?_)
        have rb6 := (show Rfx 16 0 15 ba by assumption) (Int.toNat v8_4) (by omega)
        refine r_istore (pc := 27) (lv' := [(4, .int (iv (ba (Int.toNat v8_4)))), (0, .ref s), (2, .int (iv x2)), (3, .int (iv v8_3)), (5, .int (iv v8_5))]) dX4_commonBase_27 (by decide) rfl ?_
        refine r_iload_n (pc := 29) dX4_commonBase_29 (i := 3) rfl rfl ?_
        refine r_iconst (pc := 30) (v := iv 1) dX4_commonBase_30 (by decide) ?_
        refine r_iload (pc := 31) dX4_commonBase_31 rfl ?_
        refine r_ishl (pc := 33) (v := iv ((2 ^ Int.toNat (ba (Int.toNat v8_4)) : Nat) : Int)) dX4_commonBase_33 (shl_e (by omega)) ?_
        have mp33_7 : 1 ≤ 2 ^ Int.toNat (ba (Int.toNat v8_4)) := Nat.one_le_two_pow
        have mq33_8 : 2 ^ Int.toNat (ba (Int.toNat v8_4)) ≤ 2 ^ 15 := Nat.pow_le_pow_right (by omega) (by omega)
        have ms33 := Me_shl (Int.toNat (ba (Int.toNat v8_4)))
        obtain ⟨z9, hz9, bz9⟩ := or_2 16 v8_3 ((2 ^ Int.toNat (ba (Int.toNat v8_4)) : Nat) : Int) (by omega) (by omega) (by decide)
        refine r_ior (pc := 34) (v := iv z9) dX4_commonBase_34 hz9 ?_
        have mez9 := Me_or hz9 (by omega) (by omega) (by omega)
        have hz34 : ∀ c9, Me z9 c9 ↔ Me v8_3 c9 ∨ c9 = Int.toNat (ba (Int.toNat v8_4)) := fun c9 => by rw [mez9 c9, ms33 c9]
        refine r_istore_n (pc := 35) (lv' := [(3, .int (iv z9)), (4, .int (iv (ba (Int.toNat v8_4)))), (0, .ref s), (2, .int (iv x2)), (5, .int (iv v8_5))]) dX4_commonBase_35 (i := 3) rfl (by decide) rfl ?_
        refine r_aload_n (pc := 36) dX4_commonBase_36 (i := 0) rfl rfl ?_
        refine t_getE (pc := 37) (.ref (s + 1)) ht8 (rd_ov (by omega) (rd_ov (by omega) (rd_ov (by omega) (rd_ov (by omega) (rd_of (ov_s _ _ _)))))) fX4_9 dX4_commonBase_37 rfl ?_
        refine r_iload (pc := 40) dX4_commonBase_40 rfl ?_
        refine t_ialdX (pc := 42) (t0 := 0) ht8 (rd_ov (by omega) (rd_ov (by omega) (rd_ov (by omega) (rd_of (ov_s _ _ _))))) dX4_commonBase_42 rfl (by decide) (by omega) (fun b10 => ?_)
        have rb10 := (show Rfx 16 (-1) 15 mt by assumption) (Int.toNat (ba (Int.toNat v8_4))) (by omega)
        refine t_if_ge (pc := 43) (tgt := 50) dX4_commonBase_43 (by decide) (by omega) (fun c43 => ?_) (fun c43 => ?_)
        · refine r_aload_n (pc := 50) dX4_commonBase_50 (i := 0) rfl rfl ?_
          refine t_getE (pc := 51) (.ref (s + 2)) ht8 (rd_ov (by omega) (rd_ov (by omega) (rd_ov (by omega) (rd_ov (by omega) (rd_of (ov_s _ _ _)))))) fX4_15 dX4_commonBase_51 rfl ?_
          refine r_aload_n (pc := 54) dX4_commonBase_54 (i := 0) rfl rfl ?_
          refine t_getE (pc := 55) (.ref (s + 1)) ht8 (rd_ov (by omega) (rd_ov (by omega) (rd_ov (by omega) (rd_ov (by omega) (rd_of (ov_s _ _ _)))))) fX4_9 dX4_commonBase_55 rfl ?_
          refine r_iload (pc := 58) dX4_commonBase_58 rfl ?_
          refine t_ialdX (pc := 60) (t0 := 0) ht8 (rd_ov (by omega) (rd_ov (by omega) (rd_ov (by omega) (rd_of (ov_s _ _ _))))) dX4_commonBase_60 rfl (by decide) (by omega) (fun b11 => ?_)
          have rb11 := (show Rfx 16 (-1) 15 mt by assumption) (Int.toNat (ba (Int.toNat v8_4))) (by omega)
          refine t_ialdX (pc := 61) (t0 := 0) ht8 (rd_ov (by omega) (rd_ov (by omega) (rd_of (ov_s _ _ _)))) dX4_commonBase_61 rfl (by decide) (by omega) (fun b12 => ?_)
          have rb12 := (show Rfx 16 (-1) 15 pa by assumption) (Int.toNat (mt (Int.toNat (ba (Int.toNat v8_4))))) (by omega)
          refine r_istore (pc := 62) (lv' := [(4, .int (iv (pa (Int.toNat (mt (Int.toNat (ba (Int.toNat v8_4)))))))), (3, .int (iv z9)), (0, .ref s), (2, .int (iv x2)), (5, .int (iv v8_5))]) dX4_commonBase_62 (by decide) rfl ?_
          have hcb : cb1 ba ev Lw (Int.toNat x1) z9 (pa (Int.toNat (mt (Int.toNat (ba (Int.toNat v8_4)))))) (v8_5 + 1) := cb1_st hI (by assumption : cb1 ba ev Lw (Int.toNat x1) v8_3 v8_4 v8_5) (by omega) rfl (by omega) hz34 (Or.inr ⟨by omega, rfl⟩)
          refine r_iinc (pc := 64) (v := iv (v8_5 + 1)) (lv' := [(5, .int (iv (v8_5 + 1))), (4, .int (iv (pa (Int.toNat (mt (Int.toNat (ba (Int.toNat v8_4)))))))), (3, .int (iv z9)), (0, .ref s), (2, .int (iv x2))]) dX4_commonBase_64 rfl (iv_add _ _) (by decide) rfl ?_
          refine r_goto (pc := 67) (tgt := 8) dX4_commonBase_67 (by decide) ?_
          refine Rn.pick (lv' := [(0, .ref s), (2, .int (iv x2)), (3, .int (iv z9)), (4, .int (iv (pa (Int.toNat (mt (Int.toNat (ba (Int.toNat v8_4)))))))), (5, .int (iv (v8_5 + 1)))]) [3, 4, 2, 1, 0] rfl ?_
          exact ih8 (Int.toNat (16 - (v8_5 + 1))) (by omega) _ ht8 z9 (pa (Int.toNat (mt (Int.toNat (ba (Int.toNat v8_4)))))) (v8_5 + 1) ⟨by omega, by omega, by omega, by omega, by omega, by omega, by (first | exact hcb | exact cb1_s hI hS hnn (by omega) hx1e)⟩ (by omega)
        · refine r_iconst (pc := 46) (v := iv (-1)) dX4_commonBase_46 (by decide) ?_
          refine r_goto (pc := 47) (tgt := 62) dX4_commonBase_47 (by decide) ?_
          refine r_istore (pc := 62) (lv' := [(4, .int (iv (-1))), (3, .int (iv z9)), (0, .ref s), (2, .int (iv x2)), (5, .int (iv v8_5))]) dX4_commonBase_62 (by decide) rfl ?_
          have hcb : cb1 ba ev Lw (Int.toNat x1) z9 (-1) (v8_5 + 1) := cb1_st hI (by assumption : cb1 ba ev Lw (Int.toNat x1) v8_3 v8_4 v8_5) (by omega) rfl (by omega) hz34 (Or.inl ⟨by omega, rfl⟩)
          refine r_iinc (pc := 64) (v := iv (v8_5 + 1)) (lv' := [(5, .int (iv (v8_5 + 1))), (4, .int (iv (-1))), (3, .int (iv z9)), (0, .ref s), (2, .int (iv x2))]) dX4_commonBase_64 rfl (iv_add _ _) (by decide) rfl ?_
          refine r_goto (pc := 67) (tgt := 8) dX4_commonBase_67 (by decide) ?_
          refine Rn.pick (lv' := [(0, .ref s), (2, .int (iv x2)), (3, .int (iv z9)), (4, .int (iv (-1))), (5, .int (iv (v8_5 + 1)))]) [3, 4, 2, 1, 0] rfl ?_
          exact ih8 (Int.toNat (16 - (v8_5 + 1))) (by omega) _ ht8 z9 (-1) (v8_5 + 1) ⟨by omega, by omega, by omega, by omega, by omega, by omega, by (first | exact hcb | exact cb1_s hI hS hnn (by omega) hx1e)⟩ (by omega)
  refine Rn.pick (lv' := [(0, .ref s), (2, .int (iv x2)), (3, .int (iv 0)), (4, .int (iv x1)), (5, .int (iv 0))]) [3, 5, 2, 1, 0] rfl ?_
  exact B8 (Int.toNat (16 - 0)) _ t0 0 x1 0 ⟨by omega, by omega, by omega, by omega, by omega, by omega, by (first | exact hcb | exact cb1_s hI hS hnn (by omega) hx1e)⟩ (by omega)
