set_option maxHeartbeats 4000000 in
set_option maxRecDepth 100000 in
theorem c_X0_countEndsWithinx {D : va_G} {cI cJ cZ cT : ClassId} {lo b L : Nat} {xs : Nat → Int32} {hp : MH} {n d : Nat} {Γ : TG} {ga : Nat} {gF : Nat} {gT : Nat} {gW : Nat} {gC : Nat} {gTl : Nat} {gHd : Nat} {gBy : Nat} {gOu : Nat} {gIn : Nat} {gJo : Nat} {gn : Nat} {gm : Nat} {gq : Nat} {gdr : Int} {eA : Nat} {e0 : Nat → Int} {F T W C Tl Hd By Ou In Jo : Nat → Int} {x1 : Int} (hd0 : 1 ≤ d) (hg : TyG Γ cI cJ cZ ga gF gT gW gC gTl gHd gBy gOu gIn gJo gn gm gq gdr) (hxg : XG Γ cI gF gT gW gC gTl gHd gBy gOu gIn gJo gn gm gq F T W C Tl Hd By Ou In Jo) (hne : nE eA ga ∧ nE eA gF ∧ nE eA gT ∧ nE eA gW ∧ nE eA gC ∧ nE eA gTl ∧ nE eA gHd ∧ nE eA gBy ∧ nE eA gOu ∧ nE eA gIn ∧ nE eA gJo) (ht : Tw (ov Γ eA (xI cI gn e0)) hp) (hx1 : 0 ≤ x1 ∧ x1 ≤ 65535) : Mt (gG D cI cJ cZ cT lo b L xs) mX0_countEndsWithin d 0 0 [.ref ga, .int (iv x1), .ref eA] hp n (pEx Γ cI eA gn n (fun e => inP F T x1 (gn : Int) e gm)) := by
  refine Mt.of rfl (Nat.le_of_ble_eq_true rfl) ?_
  refine Rn.pick (lv' := [(0, .ref ga), (1, .int (iv x1)), (2, .ref eA)]) [0, 1, 2] rfl ?_
  obtain ⟨hg_O, hg_from, hg_to, hg_weight, hg_cost, hg_tail, hg_head, hg_by, hg_out, hg_in, hg_joined, hg_b⟩ := id hg
  obtain ⟨⟨hxg_F, hxg_T, hxg_W, hxg_C, hxg_Tl, hxg_Hd, hxg_By, hxg_Ou, hxg_In, hxg_Jo⟩, ⟨hrg_F, hrg_T, hrg_W, hrg_C, hrg_Tl, hrg_Hd, hrg_By, hrg_Ou, hrg_In, hrg_Jo⟩, houg⟩ := id hxg
  obtain ⟨hq_ga, hq_gF, hq_gT, hq_gW, hq_gC, hq_gTl, hq_gHd, hq_gBy, hq_gOu, hq_gIn, hq_gJo⟩ := id hne
  refine r_aload_n (pc := 0) dX0_countEndsWithin_0 (i := 2) rfl rfl ?_
  refine r_iconst (pc := 1) (v := iv 0) dX0_countEndsWithin_1 (by decide) ?_
  refine t_fillX (pc := 2) ht (ov_s _ _ _) kX0_89 dX0_countEndsWithin_2 (by omega) (by omega) (by omega) (Nat.le_of_ble_eq_true rfl) (fun hp1 ht2 => ?_)
  rw [ov_ov] at ht2
  refine r_iconst (pc := 5) (v := iv 0) dX0_countEndsWithin_5 (by decide) ?_
  refine r_istore_n (pc := 6) (lv' := [(3, .int (iv 0)), (0, .ref ga), (1, .int (iv x1)), (2, .ref eA)]) dX0_countEndsWithin_6 (i := 3) rfl (by decide) rfl ?_
  have B7 : ∀ k : Nat, ∀ ie7 : Nat → Int, ∀ hp7 : MH, Tw (ov Γ eA (xI cI gn ie7)) hp7 → ∀  (v7_3 : Int), 0 ≤ v7_3 ∧ v7_3 ≤ 60 ∧ (v7_3 ≤ (gm : Int)) ∧ (inP F T x1 (gn : Int) ie7 (Int.toNat v7_3)) → 60 - v7_3 ≤ (k : Int) → Rn (gG D cI cJ cZ cT lo b L xs) mX0_countEndsWithin d 7 [(0, .ref ga), (1, .int (iv x1)), (2, .ref eA), (3, .int (iv v7_3))] [] hp7 n 0 0 (pEx Γ cI eA gn n (fun e => inP F T x1 (gn : Int) e gm)) := by
    refine lpS _ ?_
    intro k7 ih7 ie7 hp7 ht7 v7_3 hf7 hm7
    obtain ⟨hf7_0, hf7_1, hf7_2, ha7_3⟩ := hf7
    refine r_iload_n (pc := 7) dX0_countEndsWithin_7 (i := 3) rfl rfl ?_
    refine r_aload_n (pc := 8) dX0_countEndsWithin_8 (i := 0) rfl rfl ?_
    refine t_getE (pc := 9) (.int (iv (gm : Int))) ht7 (rd_ov (Ne.symm hq_ga) hg_O) fX0_54 dX0_countEndsWithin_9 rfl ?_
    refine t_icmp_ge (pc := 12) (tgt := 74) dX0_countEndsWithin_12 (by decide) (by omega) (by omega) (fun c12 => ?_) (fun c12 => ?_)
    · exact r_vret (pc := 74) dX0_countEndsWithin_74 rfl ⟨rfl, rfl, ie7, ht7, by have h8 : inP F T x1 (gn : Int) ie7 (Int.toNat v7_3) := (by assumption); rw [show v7_3 = (gm : Int) by omega, Int.toNat_natCast] at h8; exact h8⟩
    · refine r_aload_n (pc := 15) dX0_countEndsWithin_15 (i := 0) rfl rfl ?_
      refine t_getE (pc := 16) (.ref gF) ht7 (rd_ov (Ne.symm hq_ga) hg_O) fX0_57 dX0_countEndsWithin_16 rfl ?_
      refine r_iload_n (pc := 19) dX0_countEndsWithin_19 (i := 3) rfl rfl ?_
      refine t_ialdX (pc := 20) (t0 := 0) ht7 (rd_ov (Ne.symm hq_gF) hxg_F) dX0_countEndsWithin_20 rfl (by omega) (by omega) (fun b3 => ?_)
      have rb3 := (show Rfx gm 0 ((gn : Int) - 1) F by assumption) (Int.toNat v7_3) (by omega)
      refine r_istore (pc := 21) (lv' := [(4, .int (iv (F (Int.toNat v7_3)))), (0, .ref ga), (1, .int (iv x1)), (2, .ref eA), (3, .int (iv v7_3))]) dX0_countEndsWithin_21 (by decide) rfl ?_
      refine r_aload_n (pc := 23) dX0_countEndsWithin_23 (i := 0) rfl rfl ?_
      refine t_getE (pc := 24) (.ref gT) ht7 (rd_ov (Ne.symm hq_ga) hg_O) fX0_60 dX0_countEndsWithin_24 rfl ?_
      refine r_iload_n (pc := 27) dX0_countEndsWithin_27 (i := 3) rfl rfl ?_
      refine t_ialdX (pc := 28) (t0 := 0) ht7 (rd_ov (Ne.symm hq_gT) hxg_T) dX0_countEndsWithin_28 rfl (by omega) (by omega) (fun b4 => ?_)
      have rb4 := (show Rfx gm 0 ((gn : Int) - 1) T by assumption) (Int.toNat v7_3) (by omega)
      refine r_istore (pc := 29) (lv' := [(5, .int (iv (T (Int.toNat v7_3)))), (4, .int (iv (F (Int.toNat v7_3)))), (0, .ref ga), (1, .int (iv x1)), (2, .ref eA), (3, .int (iv v7_3))]) dX0_countEndsWithin_29 (by decide) rfl ?_
      refine r_iload (pc := 31) dX0_countEndsWithin_31 rfl ?_
      refine r_iload (pc := 33) dX0_countEndsWithin_33 rfl ?_
      refine t_icmp_eq (pc := 35) (tgt := 68) dX0_countEndsWithin_35 (by decide) (by omega) (by omega) (fun c35 => ?_) (fun c35 => ?_)
      · refine r_iinc (pc := 68) (v := iv (v7_3 + 1)) (lv' := [(3, .int (iv (v7_3 + 1))), (5, .int (iv (T (Int.toNat v7_3)))), (4, .int (iv (F (Int.toNat v7_3)))), (0, .ref ga), (1, .int (iv x1)), (2, .ref eA)]) dX0_countEndsWithin_68 rfl (iv_add _ _) (by decide) rfl ?_
        refine r_goto (pc := 71) (tgt := 7) dX0_countEndsWithin_71 (by decide) ?_
        refine Rn.pick (lv' := [(0, .ref ga), (1, .int (iv x1)), (2, .ref eA), (3, .int (iv (v7_3 + 1)))]) [3, 4, 5, 0] rfl ?_
        exact ih7 (Int.toNat (60 - (v7_3 + 1))) (by omega) ie7 _ ht7 (v7_3 + 1) ⟨by omega, by omega, by omega, by (first | exact in_0 (v := (gn : Int)) (fun u hu => rfl) (by omega) | assumption | exact in_no (by assumption) (by omega) (fun h9 => by first | exact h9.1 (by omega) | exact hnb h9.2))⟩ (by omega)
      · refine r_iload_n (pc := 38) dX0_countEndsWithin_38 (i := 1) rfl rfl ?_
        refine r_iload (pc := 39) dX0_countEndsWithin_39 rfl ?_
        have hq41 := shr_le (Int.toNat x1) (Int.toNat (F (Int.toNat v7_3)))
        refine r_ishr (pc := 41) (v := iv ((Int.toNat x1 >>> Int.toNat (F (Int.toNat v7_3)) : Nat) : Int)) dX0_countEndsWithin_41 (shr_e (by omega) (by omega)) ?_
        refine r_iload_n (pc := 42) dX0_countEndsWithin_42 (i := 1) rfl rfl ?_
        refine r_iload (pc := 43) dX0_countEndsWithin_43 rfl ?_
        have hq45 := shr_le (Int.toNat x1) (Int.toNat (T (Int.toNat v7_3)))
        refine r_ishr (pc := 45) (v := iv ((Int.toNat x1 >>> Int.toNat (T (Int.toNat v7_3)) : Nat) : Int)) dX0_countEndsWithin_45 (shr_e (by omega) (by omega)) ?_
        have hq46 := Nat.and_le_left (n := (Int.toNat x1 >>> Int.toNat (F (Int.toNat v7_3)))) (m := (Int.toNat x1 >>> Int.toNat (T (Int.toNat v7_3))))
        refine r_iand (pc := 46) (v := iv (((Int.toNat x1 >>> Int.toNat (F (Int.toNat v7_3))) &&& (Int.toNat x1 >>> Int.toNat (T (Int.toNat v7_3))) : Nat) : Int)) dX0_countEndsWithin_46 (iv_and (by omega) (by omega)) ?_
        refine r_iconst (pc := 47) (v := iv 1) dX0_countEndsWithin_47 (by decide) ?_
        refine r_iand (pc := 48) (v := iv ((((Int.toNat x1 >>> Int.toNat (F (Int.toNat v7_3))) &&& (Int.toNat x1 >>> Int.toNat (T (Int.toNat v7_3))) : Nat) : Int) % 2)) dX0_countEndsWithin_48 (and1_e _ (by omega)) ?_
        refine t_if_eq (pc := 49) (tgt := 68) dX0_countEndsWithin_49 (by decide) (by omega) (fun c49 => ?_) (fun c49 => ?_)
        · have hnb : ¬ (Me x1 (Int.toNat (F (Int.toNat v7_3))) ∧ Me x1 (Int.toNat (T (Int.toNat v7_3)))) := fun h9 => absurd (and2_me h9.1 h9.2) (by omega)
          refine r_iinc (pc := 68) (v := iv (v7_3 + 1)) (lv' := [(3, .int (iv (v7_3 + 1))), (5, .int (iv (T (Int.toNat v7_3)))), (4, .int (iv (F (Int.toNat v7_3)))), (0, .ref ga), (1, .int (iv x1)), (2, .ref eA)]) dX0_countEndsWithin_68 rfl (iv_add _ _) (by decide) rfl ?_
          refine r_goto (pc := 71) (tgt := 7) dX0_countEndsWithin_71 (by decide) ?_
          refine Rn.pick (lv' := [(0, .ref ga), (1, .int (iv x1)), (2, .ref eA), (3, .int (iv (v7_3 + 1)))]) [3, 4, 5, 0] rfl ?_
          exact ih7 (Int.toNat (60 - (v7_3 + 1))) (by omega) ie7 _ ht7 (v7_3 + 1) ⟨by omega, by omega, by omega, by (first | exact in_0 (v := (gn : Int)) (fun u hu => rfl) (by omega) | assumption | exact in_no (by assumption) (by omega) (fun h9 => by first | exact h9.1 (by omega) | exact hnb h9.2))⟩ (by omega)
        · have hab := and2_b (show _ ≠ 0 from c49)
          have hma : Me x1 (Int.toNat (F (Int.toNat v7_3))) := Me_bit.mp (by omega)
          have hmb : Me x1 (Int.toNat (T (Int.toNat v7_3))) := Me_bit.mp (by omega)
          refine r_aload_n (pc := 52) dX0_countEndsWithin_52 (i := 2) rfl rfl ?_
          refine r_iload (pc := 53) dX0_countEndsWithin_53 rfl ?_
          refine r_dup2_11 (pc := 55) dX0_countEndsWithin_55 rfl rfl ?_
          refine t_ialdX (pc := 56) (t0 := 0) ht7 (rd_of (ov_s _ _ _)) dX0_countEndsWithin_56 rfl (by omega) (by omega) (fun b5 => ?_)
          have hbd56 := in_bd (by assumption : inP F T x1 (gn : Int) ie7 (Int.toNat v7_3)) (u := Int.toNat (F (Int.toNat v7_3))) (by omega) (by omega)
          refine r_iconst (pc := 57) (v := iv 1) dX0_countEndsWithin_57 (by decide) ?_
          refine r_iadd (pc := 58) (v := iv ((ie7 (Int.toNat (F (Int.toNat v7_3)))) + 1)) dX0_countEndsWithin_58 (iv_add _ _) ?_
          refine t_iastX (pc := 59) (t0 := 0) ht7 (ov_s _ _ _) dX0_countEndsWithin_59 rfl (by omega) (by omega) (by omega) (fun hp6 ht7 => ?_)
          rw [ov_ov] at ht7
          refine r_aload_n (pc := 60) dX0_countEndsWithin_60 (i := 2) rfl rfl ?_
          refine r_iload (pc := 61) dX0_countEndsWithin_61 rfl ?_
          refine r_dup2_11 (pc := 63) dX0_countEndsWithin_63 rfl rfl ?_
          refine t_ialdX (pc := 64) (t0 := 0) ht7 (rd_of (ov_s _ _ _)) dX0_countEndsWithin_64 rfl (by omega) (by omega) (fun b8 => ?_)
          have hbd64 : 0 ≤ (fup ie7 (Int.toNat (F (Int.toNat v7_3))) ((ie7 (Int.toNat (F (Int.toNat v7_3)))) + 1)) (Int.toNat (T (Int.toNat v7_3))) ∧ (fup ie7 (Int.toNat (F (Int.toNat v7_3))) ((ie7 (Int.toNat (F (Int.toNat v7_3)))) + 1)) (Int.toNat (T (Int.toNat v7_3))) ≤ 120 := in_bd2 (by assumption : inP F T x1 (gn : Int) ie7 (Int.toNat v7_3)) (by omega) (by omega) (by omega)
          refine r_iconst (pc := 65) (v := iv 1) dX0_countEndsWithin_65 (by decide) ?_
          refine r_iadd (pc := 66) (v := iv (((fup ie7 (Int.toNat (F (Int.toNat v7_3))) ((ie7 (Int.toNat (F (Int.toNat v7_3)))) + 1)) (Int.toNat (T (Int.toNat v7_3)))) + 1)) dX0_countEndsWithin_66 (iv_add _ _) ?_
          refine t_iastX (pc := 67) (t0 := 0) ht7 (ov_s _ _ _) dX0_countEndsWithin_67 rfl (by omega) (by omega) (by omega) (fun hp9 ht10 => ?_)
          rw [ov_ov] at ht10
          have hin67 : inP F T x1 (gn : Int) (fup (fup ie7 (Int.toNat (F (Int.toNat v7_3))) ((ie7 (Int.toNat (F (Int.toNat v7_3)))) + 1)) (Int.toNat (T (Int.toNat v7_3))) (((fup ie7 (Int.toNat (F (Int.toNat v7_3))) ((ie7 (Int.toNat (F (Int.toNat v7_3)))) + 1)) (Int.toNat (T (Int.toNat v7_3)))) + 1)) (Int.toNat (v7_3 + 1)) := in_up (k := v7_3) (by assumption) (by omega) (by omega) (by omega) (by omega) hma hmb
          refine r_iinc (pc := 68) (v := iv (v7_3 + 1)) (lv' := [(3, .int (iv (v7_3 + 1))), (5, .int (iv (T (Int.toNat v7_3)))), (4, .int (iv (F (Int.toNat v7_3)))), (0, .ref ga), (1, .int (iv x1)), (2, .ref eA)]) dX0_countEndsWithin_68 rfl (iv_add _ _) (by decide) rfl ?_
          refine r_goto (pc := 71) (tgt := 7) dX0_countEndsWithin_71 (by decide) ?_
          refine Rn.pick (lv' := [(0, .ref ga), (1, .int (iv x1)), (2, .ref eA), (3, .int (iv (v7_3 + 1)))]) [3, 4, 5, 0] rfl ?_
          exact ih7 (Int.toNat (60 - (v7_3 + 1))) (by omega) (fup (fup ie7 (Int.toNat (F (Int.toNat v7_3))) ((ie7 (Int.toNat (F (Int.toNat v7_3)))) + 1)) (Int.toNat (T (Int.toNat v7_3))) (((fup ie7 (Int.toNat (F (Int.toNat v7_3))) ((ie7 (Int.toNat (F (Int.toNat v7_3)))) + 1)) (Int.toNat (T (Int.toNat v7_3)))) + 1)) _ ht10 (v7_3 + 1) ⟨by omega, by omega, by omega, by (first | exact in_0 (v := (gn : Int)) (fun u hu => rfl) (by omega) | assumption | exact in_no (by assumption) (by omega) (fun h9 => by first | exact h9.1 (by omega) | exact hnb h9.2))⟩ (by omega)
  refine Rn.pick (lv' := [(0, .ref ga), (1, .int (iv x1)), (2, .ref eA), (3, .int (iv 0))]) [1, 2, 3, 0] rfl ?_
  exact B7 (Int.toNat (60 - 0)) (fun _ => 0) _ ht2 0 ⟨by omega, by omega, by omega, by (first | exact in_0 (v := (gn : Int)) (fun u hu => rfl) (by omega) | assumption | exact in_no (by assumption) (by omega) (fun h9 => by first | exact h9.1 (by omega) | exact hnb h9.2))⟩ (by omega)
