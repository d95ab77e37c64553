set_option maxHeartbeats 4000000 in
set_option maxRecDepth 100000 in
theorem d_X1_lightestOfTwo {D : va_G} {cI cJ cZ cT : ClassId} {lo b L : Nat} {xs : Nat → Int32} {hp : MH} {n d : Nat} {Γ : TG} {s : Nat} {kn : Int} {kd : Int} {ka : Int} {kf : Nat → Int} {kt : Nat → Int} {kw : Nat → Int} {kc : Nat → Int} {lt : Nat → Int}  {x1 x2 : Int} (hd0 : 0 ≤ d)  (hn_kn : 1 ≤ kn ∧ kn ≤ 16) (ht : Tw (DX Γ cI cJ cZ cT s kn kd ka kf kt kw kc lt) hp) (hx1 : 0 ≤ x1 ∧ x1 ≤ 15) (hx2 : 0 ≤ x2 ∧ x2 ≤ 15) (hlt9 : Rfx 256 (-1000) 5000 lt) : Mt (gG D cI cJ cZ cT lo b L xs) mX1_lightestOfTwo d 0 0 [.ref s, .int (iv x1), .int (iv x2)] hp n (qd_X1_lightestOfTwo Γ cI cJ cZ cT s n kn kd ka kf kt kw kc lt x1 x2) := by
  refine Mt.of rfl (Nat.le_of_ble_eq_true rfl) ?_
  refine Rn.pick (lv' := [(0, .ref s), (1, .int (iv x1)), (2, .int (iv x2))]) [0, 1, 2] rfl ?_
  refine r_sipush (pc := 0) (v := iv 5000) dX1_lightestOfTwo_0 (by decide) ?_
  refine r_istore_n (pc := 3) (lv' := [(3, .int (iv 5000)), (0, .ref s), (1, .int (iv x1)), (2, .int (iv x2))]) dX1_lightestOfTwo_3 (i := 3) rfl (by decide) rfl ?_
  refine r_iconst (pc := 4) (v := iv 0) dX1_lightestOfTwo_4 (by decide) ?_
  refine r_istore (pc := 5) (lv' := [(4, .int (iv 0)), (3, .int (iv 5000)), (0, .ref s), (1, .int (iv x1)), (2, .int (iv x2))]) dX1_lightestOfTwo_5 (by decide) rfl ?_
  have B7 : ∀ k : Nat, ∀ hp7 : MH, Tw (DX Γ cI cJ cZ cT s kn kd ka kf kt kw kc lt) hp7 → ∀  (v7_3 : Int) (v7_4 : Int), (-2000) ≤ v7_3 ∧ v7_3 ≤ 5000 ∧ 0 ≤ v7_4 ∧ v7_4 ≤ 16 ∧ (v7_4 ≤ kn) ∧ (l2P lt (Int.toNat x1) (Int.toNat x2) v7_4 v7_3) → 16 - v7_4 ≤ (k : Int) → Rn (gG D cI cJ cZ cT lo b L xs) mX1_lightestOfTwo d 7 [(0, .ref s), (1, .int (iv x1)), (2, .int (iv x2)), (3, .int (iv v7_3)), (4, .int (iv v7_4))] [] hp7 n 0 0 (qd_X1_lightestOfTwo Γ cI cJ cZ cT s n kn kd ka kf kt kw kc lt x1 x2) := by
    refine lpS _ ?_
    intro k7 ih7 hp7 ht7 v7_3 v7_4 hf7 hm7
    obtain ⟨hf7_0, hf7_1, hf7_2, hf7_3, hf7_4, ha7_5⟩ := hf7
    refine r_iload (pc := 7) dX1_lightestOfTwo_7 rfl ?_
    refine r_aload_n (pc := 9) dX1_lightestOfTwo_9 (i := 0) rfl rfl ?_
    refine t_getE (pc := 10) (.int (iv kn)) ht7 (rd_of DX_0) fX1_9 dX1_lightestOfTwo_10 rfl ?_
    refine t_icmp_ge (pc := 13) (tgt := 76) dX1_lightestOfTwo_13 (by decide) (by omega) (by omega) (fun c13 => ?_) (fun c13 => ?_)
    · refine r_iload_n (pc := 76) dX1_lightestOfTwo_76 (i := 3) rfl rfl ?_
      exact r_iret (pc := 77) dX1_lightestOfTwo_77 rfl ⟨rfl, v7_3, ht7, rfl, (by omega), (by (rw [← show v7_4 = kn by omega]; assumption))⟩
    · refine r_aload_n (pc := 16) dX1_lightestOfTwo_16 (i := 0) rfl rfl ?_
      refine t_getE (pc := 17) (.ref (s + 5)) ht7 (rd_of DX_0) fX1_35 dX1_lightestOfTwo_17 rfl ?_
      refine r_iload_n (pc := 20) dX1_lightestOfTwo_20 (i := 1) rfl rfl ?_
      refine r_bipush (pc := 21) (v := iv 16) dX1_lightestOfTwo_21 (by decide) ?_
      refine r_imul (pc := 23) (v := iv (x1 * 16)) dX1_lightestOfTwo_23 (iv_mul _ _) ?_
      refine r_iload (pc := 24) dX1_lightestOfTwo_24 rfl ?_
      refine r_iadd (pc := 26) (v := iv ((x1 * 16) + v7_4)) dX1_lightestOfTwo_26 (iv_add _ _) ?_
      refine t_ialdX (pc := 27) (t0 := 0) ht7 (rd_of DX_5) dX1_lightestOfTwo_27 rfl (by decide) (by omega) (fun b1 => ?_)
      have rb1 := (show Rfx 256 (-1000) 5000 lt by assumption) (Int.toNat ((x1 * 16) + v7_4)) (by omega)
      have ex27 : lt (Int.toNat (x1 * 16 + v7_4)) = lt (Int.toNat x1 * 16 + Int.toNat v7_4) := congrArg lt (by omega)
      refine r_istore (pc := 28) (lv' := [(5, .int (iv (lt (Int.toNat ((x1 * 16) + v7_4))))), (0, .ref s), (1, .int (iv x1)), (2, .int (iv x2)), (3, .int (iv v7_3)), (4, .int (iv v7_4))]) dX1_lightestOfTwo_28 (by decide) rfl ?_
      refine r_aload_n (pc := 30) dX1_lightestOfTwo_30 (i := 0) rfl rfl ?_
      refine t_getE (pc := 31) (.ref (s + 5)) ht7 (rd_of DX_0) fX1_35 dX1_lightestOfTwo_31 rfl ?_
      refine r_iload (pc := 34) dX1_lightestOfTwo_34 rfl ?_
      refine r_bipush (pc := 36) (v := iv 16) dX1_lightestOfTwo_36 (by decide) ?_
      refine r_imul (pc := 38) (v := iv (v7_4 * 16)) dX1_lightestOfTwo_38 (iv_mul _ _) ?_
      refine r_iload_n (pc := 39) dX1_lightestOfTwo_39 (i := 2) rfl rfl ?_
      refine r_iadd (pc := 40) (v := iv ((v7_4 * 16) + x2)) dX1_lightestOfTwo_40 (iv_add _ _) ?_
      refine t_ialdX (pc := 41) (t0 := 0) ht7 (rd_of DX_5) dX1_lightestOfTwo_41 rfl (by decide) (by omega) (fun b2 => ?_)
      have rb2 := (show Rfx 256 (-1000) 5000 lt by assumption) (Int.toNat ((v7_4 * 16) + x2)) (by omega)
      have ex41 : lt (Int.toNat (v7_4 * 16 + x2)) = lt (Int.toNat v7_4 * 16 + Int.toNat x2) := congrArg lt (by omega)
      refine r_istore (pc := 42) (lv' := [(6, .int (iv (lt (Int.toNat ((v7_4 * 16) + x2))))), (5, .int (iv (lt (Int.toNat ((x1 * 16) + v7_4))))), (0, .ref s), (1, .int (iv x1)), (2, .int (iv x2)), (3, .int (iv v7_3)), (4, .int (iv v7_4))]) dX1_lightestOfTwo_42 (by decide) rfl ?_
      refine r_iload (pc := 44) dX1_lightestOfTwo_44 rfl ?_
      refine r_sipush (pc := 46) (v := iv 5000) dX1_lightestOfTwo_46 (by decide) ?_
      refine t_icmp_ge (pc := 49) (tgt := 70) dX1_lightestOfTwo_49 (by decide) (by omega) (by omega) (fun c49 => ?_) (fun c49 => ?_)
      · refine r_iinc (pc := 70) (v := iv (v7_4 + 1)) (lv' := [(4, .int (iv (v7_4 + 1))), (6, .int (iv (lt (Int.toNat ((v7_4 * 16) + x2))))), (5, .int (iv (lt (Int.toNat ((x1 * 16) + v7_4))))), (0, .ref s), (1, .int (iv x1)), (2, .int (iv x2)), (3, .int (iv v7_3))]) dX1_lightestOfTwo_70 rfl (iv_add _ _) (by decide) rfl ?_
        refine r_goto (pc := 73) (tgt := 7) dX1_lightestOfTwo_73 (by decide) ?_
        refine Rn.pick (lv' := [(0, .ref s), (1, .int (iv x1)), (2, .int (iv x2)), (3, .int (iv v7_3)), (4, .int (iv (v7_4 + 1)))]) [3, 4, 5, 6, 0] rfl ?_
        exact ih7 (Int.toNat (16 - (v7_4 + 1))) (by omega) _ ht7 v7_3 (v7_4 + 1) ⟨by omega, by omega, by omega, by omega, by omega, by (first | exact ⟨Or.inl rfl, fun c hc => by omega⟩ | exact l2_no (by assumption) (by omega) (by omega) | exact l2_up (by assumption) (by omega) (by omega) (by omega) (by omega))⟩ (by omega)
      · refine r_iload (pc := 52) dX1_lightestOfTwo_52 rfl ?_
        refine r_sipush (pc := 54) (v := iv 5000) dX1_lightestOfTwo_54 (by decide) ?_
        refine t_icmp_ge (pc := 57) (tgt := 70) dX1_lightestOfTwo_57 (by decide) (by omega) (by omega) (fun c57 => ?_) (fun c57 => ?_)
        · refine r_iinc (pc := 70) (v := iv (v7_4 + 1)) (lv' := [(4, .int (iv (v7_4 + 1))), (6, .int (iv (lt (Int.toNat ((v7_4 * 16) + x2))))), (5, .int (iv (lt (Int.toNat ((x1 * 16) + v7_4))))), (0, .ref s), (1, .int (iv x1)), (2, .int (iv x2)), (3, .int (iv v7_3))]) dX1_lightestOfTwo_70 rfl (iv_add _ _) (by decide) rfl ?_
          refine r_goto (pc := 73) (tgt := 7) dX1_lightestOfTwo_73 (by decide) ?_
          refine Rn.pick (lv' := [(0, .ref s), (1, .int (iv x1)), (2, .int (iv x2)), (3, .int (iv v7_3)), (4, .int (iv (v7_4 + 1)))]) [3, 4, 5, 6, 0] rfl ?_
          exact ih7 (Int.toNat (16 - (v7_4 + 1))) (by omega) _ ht7 v7_3 (v7_4 + 1) ⟨by omega, by omega, by omega, by omega, by omega, by (first | exact ⟨Or.inl rfl, fun c hc => by omega⟩ | exact l2_no (by assumption) (by omega) (by omega) | exact l2_up (by assumption) (by omega) (by omega) (by omega) (by omega))⟩ (by omega)
        · refine r_iload_n (pc := 60) dX1_lightestOfTwo_60 (i := 3) rfl rfl ?_
          refine r_iload (pc := 61) dX1_lightestOfTwo_61 rfl ?_
          refine r_iload (pc := 63) dX1_lightestOfTwo_63 rfl ?_
          refine r_iadd (pc := 65) (v := iv ((lt (Int.toNat ((x1 * 16) + v7_4))) + (lt (Int.toNat ((v7_4 * 16) + x2))))) dX1_lightestOfTwo_65 (iv_add _ _) ?_
          obtain ⟨z3, hz3, bz3⟩ := min_b v7_3 ((lt (Int.toNat ((x1 * 16) + v7_4))) + (lt (Int.toNat ((v7_4 * 16) + x2)))) (by omega) (by omega)
          refine r_mmin (pc := 66) (v := iv z3) qX1_123 dX1_lightestOfTwo_66 (Nat.le_of_ble_eq_true rfl) hz3 ?_
          refine r_istore_n (pc := 69) (lv' := [(3, .int (iv z3)), (6, .int (iv (lt (Int.toNat ((v7_4 * 16) + x2))))), (5, .int (iv (lt (Int.toNat ((x1 * 16) + v7_4))))), (0, .ref s), (1, .int (iv x1)), (2, .int (iv x2)), (4, .int (iv v7_4))]) dX1_lightestOfTwo_69 (i := 3) rfl (by decide) rfl ?_
          refine r_iinc (pc := 70) (v := iv (v7_4 + 1)) (lv' := [(4, .int (iv (v7_4 + 1))), (3, .int (iv z3)), (6, .int (iv (lt (Int.toNat ((v7_4 * 16) + x2))))), (5, .int (iv (lt (Int.toNat ((x1 * 16) + v7_4))))), (0, .ref s), (1, .int (iv x1)), (2, .int (iv x2))]) dX1_lightestOfTwo_70 rfl (iv_add _ _) (by decide) rfl ?_
          refine r_goto (pc := 73) (tgt := 7) dX1_lightestOfTwo_73 (by decide) ?_
          refine Rn.pick (lv' := [(0, .ref s), (1, .int (iv x1)), (2, .int (iv x2)), (3, .int (iv z3)), (4, .int (iv (v7_4 + 1)))]) [4, 5, 6, 1, 0] rfl ?_
          exact ih7 (Int.toNat (16 - (v7_4 + 1))) (by omega) _ ht7 z3 (v7_4 + 1) ⟨by omega, by omega, by omega, by omega, by omega, by (first | exact ⟨Or.inl rfl, fun c hc => by omega⟩ | exact l2_no (by assumption) (by omega) (by omega) | exact l2_up (by assumption) (by omega) (by omega) (by omega) (by omega))⟩ (by omega)
  refine Rn.pick (lv' := [(0, .ref s), (1, .int (iv x1)), (2, .int (iv x2)), (3, .int (iv 5000)), (4, .int (iv 0))]) [2, 3, 4, 1, 0] rfl ?_
  exact B7 (Int.toNat (16 - 0)) _ ht 5000 0 ⟨by omega, by omega, by omega, by omega, by omega, by (first | exact ⟨Or.inl rfl, fun c hc => by omega⟩ | exact l2_no (by assumption) (by omega) (by omega) | exact l2_up (by assumption) (by omega) (by omega) (by omega) (by omega))⟩ (by omega)
def qd_X1_drawSquared (Γ : TG) (cI cJ cZ cT : ClassId) (s : Nat) (n : Nat) (kn : Int) (kd : Int) (ka : Int) (kf : Nat → Int) (kt : Nat → Int) (kw : Nat → Int) (kc : Nat → Int) (lt : Nat → Int) (ga : Nat) (gF : Nat) (gT : Nat) (gW : Nat) (gC : Nat) (gTl : Nat) (gHd : Nat) (gBy : Nat) (gOu : Nat) (gIn : Nat) (gJo : Nat) (gn : Nat) (gm : Nat) (gq : Nat) (gdr : Int) (F T W C Tl Hd By Ou In Jo : Nat → Int) : Option Value → MH → Nat → Prop := fun r hp1 n1 => n1 = n ∧ ∃ (n1 : Int) (d1 : Int) (k1 : Int) (f1 : Nat → Int) (t1 : Nat → Int) (w1 : Nat → Int) (c1 : Nat → Int) (l1 : Nat → Int) (bb : Int), Tw (DX Γ cI cJ cZ cT s n1 d1 k1 f1 t1 w1 c1 l1) hp1 ∧ r = some (.int (iv bb)) ∧ (1 ≤ n1 ∧ n1 ≤ 16) ∧ (0 ≤ d1 ∧ d1 ≤ 1) ∧ (0 ≤ k1 ∧ k1 ≤ 60) ∧ (arP f1 t1 w1 c1 k1 n1) ∧ (Rfx 256 (-1000) 5000 l1) ∧ (drwP (acc (sqL gn gm gdr F T W) gn) bb k1 f1 t1 w1 c1) ∧ (n1 = (gn : Int)) ∧ (d1 = gdr)
