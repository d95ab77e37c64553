set_option maxHeartbeats 4000000 in
set_option maxRecDepth 100000 in
theorem c_X6_haveSameArcsx {D : va_G} {cI cJ cZ cT : ClassId} {lo b L : Nat} {xs : Nat → Int32} {hp : MH} {n d : Nat} {Γ : TG} {ga : Nat} {gF : Nat} {gT : Nat} {gW : Nat} {gC : Nat} {gTl : Nat} {gHd : Nat} {gBy : Nat} {gOu : Nat} {gIn : Nat} {gJo : Nat} {gn : Nat} {gm : Nat} {gq : Nat} {gdr : Int} {F T W C Tl Hd By Ou In Jo : Nat → Int} {ka : Nat} {kF : Nat} {kT : Nat} {kW : Nat} {kC : Nat} {kTl : Nat} {kHd : Nat} {kBy : Nat} {kOu : Nat} {kIn : Nat} {kJo : Nat} {kn : Nat} {km : Nat} {kq : Nat} {kdr : Int} {F2 T2 W2 C2 Tl2 Hd2 By2 Ou2 In2 Jo2 : Nat → Int} {s : Nat} {Ti Co Fr : Nat → Int64} {Nu : Nat → Int} (hd0 : 1 ≤ d) (hg : TyG Γ cI cJ cZ ga gF gT gW gC gTl gHd gBy gOu gIn gJo gn gm gq gdr) (hxg : XG Γ cI gF gT gW gC gTl gHd gBy gOu gIn gJo gn gm gq F T W C Tl Hd By Ou In Jo) (hk : TyG Γ cI cJ cZ ka kF kT kW kC kTl kHd kBy kOu kIn kJo kn km kq kdr) (hxk : XG Γ cI kF kT kW kC kTl kHd kBy kOu kIn kJo kn km kq F2 T2 W2 C2 Tl2 Hd2 By2 Ou2 In2 Jo2) (hsp : s + 5 ≤ ga ∧ s + 5 ≤ gF ∧ s + 5 ≤ gT ∧ s + 5 ≤ gW ∧ s + 5 ≤ gC ∧ s + 5 ≤ gTl ∧ s + 5 ≤ gHd ∧ s + 5 ≤ gBy ∧ s + 5 ≤ gOu ∧ s + 5 ≤ gIn ∧ s + 5 ≤ gJo) (hspk : s + 5 ≤ ka ∧ s + 5 ≤ kF ∧ s + 5 ≤ kT ∧ s + 5 ≤ kW ∧ s + 5 ≤ kC ∧ s + 5 ≤ kTl ∧ s + 5 ≤ kHd ∧ s + 5 ≤ kBy ∧ s + 5 ≤ kOu ∧ s + 5 ≤ kIn ∧ s + 5 ≤ kJo) (hkm : km = gm) (hkd : kdr = gdr) (hNu : Rfx 16 0 15 Nu) (ht : Tw (SmS Γ cI cJ s Ti Co Fr Nu) hp) : Mt (gG D cI cJ cZ cT lo b L xs) mX6_haveSameArcs d 0 0 [.ref s, .ref ga, .ref ka] hp n (pI (SmS Γ cI cJ s Ti Co Fr Nu) n (fun r => (0 ≤ r ∧ r ≤ 1) ∧ ((r = 1 ∧ (vaP (isP gm gdr F T W C F2 T2 W2 C2) (gn : Int)) Nu) ∨ (r = 0 ∧ ¬ (vaP (isP gm gdr F T W C F2 T2 W2 C2) (gn : Int)) Nu)))) := by
  refine Mt.of rfl (Nat.le_of_ble_eq_true rfl) ?_
  refine Rn.pick (lv' := [(0, .ref s), (1, .ref ga), (2, .ref ka)]) [0, 1, 2] rfl ?_
  have t0 : Tw (ov (ov (ov (ov (ov Γ s (tO 6 (smnR s))) (s + 1) (xJ cJ 512 Ti)) (s + 2) (xJ cJ 544 Co)) (s + 3) (xJ cJ 32 Fr)) (s + 4) (xI cI 16 Nu)) hp := ht
  obtain ⟨hg_O, hg_from, hg_to, hg_weight, hg_cost, hg_tail, hg_head, hg_by, hg_out, hg_in, hg_joined, hg_b⟩ := id hg
  obtain ⟨⟨hxg_F, hxg_T, hxg_W, hxg_C, hxg_Tl, hxg_Hd, hxg_By, hxg_Ou, hxg_In, hxg_Jo⟩, ⟨hrg_F, hrg_T, hrg_W, hrg_C, hrg_Tl, hrg_Hd, hrg_By, hrg_Ou, hrg_In, hrg_Jo⟩, houg⟩ := id hxg
  obtain ⟨hk_O, hk_from, hk_to, hk_weight, hk_cost, hk_tail, hk_head, hk_by, hk_out, hk_in, hk_joined, hk_b⟩ := id hk
  obtain ⟨⟨hxk_F, hxk_T, hxk_W, hxk_C, hxk_Tl, hxk_Hd, hxk_By, hxk_Ou, hxk_In, hxk_Jo⟩, ⟨hrk_F, hrk_T, hrk_W, hrk_C, hrk_Tl, hrk_Hd, hrk_By, hrk_Ou, hrk_In, hrk_Jo⟩, houk⟩ := id hxk
  have hgb := hg_b
  have hkb := hk_b
  have hFT : ∀ k, k < gm → (0 ≤ F k ∧ F k < (gn : Int)) ∧ (0 ≤ T k ∧ T k < (gn : Int)) := fun k hk => by have h1 := hrg_F k hk; have h2 := hrg_T k hk; omega
  refine r_iconst (pc := 0) (v := iv 0) dX6_haveSameArcs_0 (by decide) ?_
  refine r_istore_n (pc := 1) (lv' := [(3, .int (iv 0)), (0, .ref s), (1, .ref ga), (2, .ref ka)]) dX6_haveSameArcs_1 (i := 3) rfl (by decide) rfl ?_
  refine r_iconst (pc := 2) (v := iv 0) dX6_haveSameArcs_2 (by decide) ?_
  refine r_istore (pc := 3) (lv' := [(4, .int (iv 0)), (3, .int (iv 0)), (0, .ref s), (1, .ref ga), (2, .ref ka)]) dX6_haveSameArcs_3 (by decide) rfl ?_
  have B5 : ∀ k : Nat, ∀ hp5 : MH, Tw (ov (ov (ov (ov (ov Γ s (tO 6 (smnR s))) (s + 1) (xJ cJ 512 Ti)) (s + 2) (xJ cJ 544 Co)) (s + 3) (xJ cJ 32 Fr)) (s + 4) (xI cI 16 Nu)) hp5 → ∀  (v5_3 : Int) (v5_4 : Int), 0 ≤ v5_3 ∧ v5_3 ≤ 65535 ∧ 0 ≤ v5_4 ∧ v5_4 ≤ 16 ∧ (v5_4 ≤ (gn : Int)) ∧ (nmI Nu v5_3 v5_4) → 16 - v5_4 ≤ (k : Int) → Rn (gG D cI cJ cZ cT lo b L xs) mX6_haveSameArcs d 5 [(0, .ref s), (1, .ref ga), (2, .ref ka), (3, .int (iv v5_3)), (4, .int (iv v5_4))] [] hp5 n 0 0 (pI (SmS Γ cI cJ s Ti Co Fr Nu) n (fun r => (0 ≤ r ∧ r ≤ 1) ∧ ((r = 1 ∧ (vaP (isP gm gdr F T W C F2 T2 W2 C2) (gn : Int)) Nu) ∨ (r = 0 ∧ ¬ (vaP (isP gm gdr F T W C F2 T2 W2 C2) (gn : Int)) Nu)))) := by
    refine lpS _ ?_
    intro k5 ih5 hp5 ht5 v5_3 v5_4 hf5 hm5
    obtain ⟨hf5_0, hf5_1, hf5_2, hf5_3, hf5_4, ha5_5⟩ := hf5
    refine r_iload (pc := 5) dX6_haveSameArcs_5 rfl ?_
    refine r_aload_n (pc := 7) dX6_haveSameArcs_7 (i := 1) rfl rfl ?_
    refine t_getE (pc := 8) (.int (iv (gn : Int))) ht5 (rd_ov (by omega) (rd_ov (by omega) (rd_ov (by omega) (rd_ov (by omega) (rd_ov (by omega) hg_O))))) fX6_25 dX6_haveSameArcs_8 rfl ?_
    refine t_icmp_ge (pc := 11) (tgt := 32) dX6_haveSameArcs_11 (by decide) (by omega) (by omega) (fun c11 => ?_) (fun c11 => ?_)
    · refine r_iload_n (pc := 32) dX6_haveSameArcs_32 (i := 3) rfl rfl ?_
      refine r_aload_n (pc := 33) dX6_haveSameArcs_33 (i := 1) rfl rfl ?_
      refine t_callVI (pc := 34) (as := []) (st := [.int (iv v5_3)]) ht5 (rd_ov (by omega) (rd_ov (by omega) (rd_ov (by omega) (rd_ov (by omega) (rd_ov (by omega) hg_O))))) kX6_111 rfl dX6_haveSameArcs_34 (c_X3_allNodesx (d := d - 1)  (by omega) (TyG.ovx (by omega) (TyG.ovx (by omega) (TyG.ovx (by omega) (TyG.ovx (by omega) (TyG.ovx (by omega) hg))))) (XG.ovx (by omega) (XG.ovx (by omega) (XG.ovx (by omega) (XG.ovx (by omega) (XG.ovx (by omega) hxg))))) ht5  ) rfl (by omega) (Nat.le_of_ble_eq_true rfl) rfl (fun hp2 y1 ht3 by1 => ?_)
      have fy1 : (y1 = ((2 ^ gn : Nat) : Int) - 1) := by1
      have ey34 : y1 = ((2 ^ gn : Nat) : Int) - 1 := fy1
      subst ey34
      have mp5 : 1 ≤ 2 ^ gn := Nat.one_le_two_pow
      have mq5 : 2 ^ gn ≤ 2 ^ 16 := Nat.pow_le_pow_right (by omega) (by omega)
      refine t_icmp_eq (pc := 37) (tgt := 42) dX6_haveSameArcs_37 (by decide) (by omega) (by omega) (fun c37 => ?_) (fun c37 => ?_)
      · have hnm4 : nmI Nu v5_3 (gn : Int) := by
          have h9 := (by assumption : nmI Nu v5_3 v5_4)
          rw [show v5_4 = (gn : Int) by omega] at h9
          exact h9
        have hij := nm_ij hnm4 (fun i9 hi9 => (hNu i9 (by omega)).1) c37
        refine r_lconst (pc := 42) (v := 0) dX6_haveSameArcs_42 (by decide) ?_
        have hk42 : (0 : Int64).toInt = 0 := by decide
        refine r_lstore (pc := 43) (lv' := [(4, .long (0 : Int64)), (0, .ref s), (1, .ref ga), (2, .ref ka), (3, .int (iv v5_3))]) dX6_haveSameArcs_43 (by decide) rfl ?_
        refine r_iconst (pc := 45) (v := iv 0) dX6_haveSameArcs_45 (by decide) ?_
        refine r_istore (pc := 46) (lv' := [(6, .int (iv 0)), (4, .long (0 : Int64)), (0, .ref s), (1, .ref ga), (2, .ref ka), (3, .int (iv v5_3))]) dX6_haveSameArcs_46 (by decide) rfl ?_
        have B48 : ∀ k : Nat, ∀ hp48 : MH, Tw (ov (ov (ov (ov (ov Γ s (tO 6 (smnR s))) (s + 1) (xJ cJ 512 Ti)) (s + 2) (xJ cJ 544 Co)) (s + 3) (xJ cJ 32 Fr)) (s + 4) (xI cI 16 Nu)) hp48 → ∀  (v48_6 : Int) (w48_4 : Int64), 0 ≤ v48_6 ∧ v48_6 ≤ 60 ∧ (v48_6 ≤ (gm : Int)) ∧ (saI gm gdr F T W C F2 T2 W2 C2 Nu w48_4 v48_6) → 60 - v48_6 ≤ (k : Int) → Rn (gG D cI cJ cZ cT lo b L xs) mX6_haveSameArcs d 48 [(0, .ref s), (1, .ref ga), (2, .ref ka), (4, .long w48_4), (6, .int (iv v48_6))] [] hp48 n 0 0 (pI (SmS Γ cI cJ s Ti Co Fr Nu) n (fun r => (0 ≤ r ∧ r ≤ 1) ∧ ((r = 1 ∧ (vaP (isP gm gdr F T W C F2 T2 W2 C2) (gn : Int)) Nu) ∨ (r = 0 ∧ ¬ (vaP (isP gm gdr F T W C F2 T2 W2 C2) (gn : Int)) Nu)))) := by
          refine lpS _ ?_
          intro k48 ih48 hp48 ht48 v48_6 w48_4 hf48 hm48
          obtain ⟨hf48_0, hf48_1, hf48_2, ha48_3⟩ := hf48
          refine r_iload (pc := 48) dX6_haveSameArcs_48 rfl ?_
          refine r_aload_n (pc := 50) dX6_haveSameArcs_50 (i := 1) rfl rfl ?_
          refine t_getE (pc := 51) (.int (iv (gm : Int))) ht48 (rd_ov (by omega) (rd_ov (by omega) (rd_ov (by omega) (rd_ov (by omega) (rd_ov (by omega) hg_O))))) fX6_35 dX6_haveSameArcs_51 rfl ?_
          refine t_icmp_ge (pc := 54) (tgt := 91) dX6_haveSameArcs_54 (by decide) (by omega) (by omega) (fun c54 => ?_) (fun c54 => ?_)
          · refine r_iconst (pc := 91) (v := iv 1) dX6_haveSameArcs_91 (by decide) ?_
            exact r_zret (pc := 92) dX6_haveSameArcs_92 rfl (iv_nar (by omega)) ⟨rfl, ht48, _, rfl, by omega, Or.inl ⟨rfl, sa_end hFT hij (by assumption : saI gm gdr F T W C F2 T2 W2 C2 Nu w48_4 v48_6) (by omega)⟩⟩
          · refine r_aload_n (pc := 57) dX6_haveSameArcs_57 (i := 0) rfl rfl ?_
            refine r_aload_n (pc := 58) dX6_haveSameArcs_58 (i := 1) rfl rfl ?_
            refine r_aload_n (pc := 59) dX6_haveSameArcs_59 (i := 2) rfl rfl ?_
            refine r_iload (pc := 60) dX6_haveSameArcs_60 rfl ?_
            refine r_lload (pc := 62) dX6_haveSameArcs_62 rfl ?_
            refine t_callVI (pc := 64) (as := [.ref ga, .ref ka, .int (iv v48_6), .long w48_4]) (st := []) ht48 (rd_ov (by omega) (rd_ov (by omega) (rd_ov (by omega) (rd_ov (by omega) (rd_of (ov_s _ _ _)))))) kX6_115 rfl dX6_haveSameArcs_64 (c_X6_sameArcx (d := d - 1) (x1 := v48_6) (j2 := w48_4) (by omega) hg hxg hk hxk hsp hspk hkm hkd hNu ht48 (by omega)) rfl (by omega) (Nat.le_of_ble_eq_true rfl) rfl (fun hp5 y4 ht6 by4 => ?_)
            obtain ⟨by41, hsa1, hsa2⟩ := by4
            refine r_istore (pc := 67) (lv' := [(7, .int (iv y4)), (0, .ref s), (1, .ref ga), (2, .ref ka), (4, .long w48_4), (6, .int (iv v48_6))]) dX6_haveSameArcs_67 (by decide) rfl ?_
            refine r_iload (pc := 69) dX6_haveSameArcs_69 rfl ?_
            refine t_if_ge (pc := 71) (tgt := 76) dX6_haveSameArcs_71 (by decide) (by omega) (fun c71 => ?_) (fun c71 => ?_)
            · obtain ⟨hs1, hs2⟩ := hsa2 (by omega)
              refine r_lload (pc := 76) dX6_haveSameArcs_76 rfl ?_
              refine r_lconst (pc := 78) (v := 1) dX6_haveSameArcs_78 (by decide) ?_
              have hk78 : (1 : Int64).toInt = 1 := by decide
              refine r_iload (pc := 79) dX6_haveSameArcs_79 rfl ?_
              refine r_lshl (pc := 81) dX6_haveSameArcs_81 ?_
              refine r_lor (pc := 82) (v := w48_4 ||| ((1 : Int64) <<< ((iv y4).toInt64 &&& 63))) dX6_haveSameArcs_82 rfl ?_
              have hsa : saI gm gdr F T W C F2 T2 W2 C2 Nu (w48_4 ||| ((1 : Int64) <<< ((iv y4).toInt64 &&& 63))) (v48_6 + 1) := sa_up (by assumption : saI gm gdr F T W C F2 T2 W2 C2 Nu w48_4 v48_6) (by omega) (j := Int.toNat y4) (by omega) hs1 hs2 (fun x9 => mel_o1 w48_4 (by omega) x9)
              refine r_lstore (pc := 83) (lv' := [(4, .long (w48_4 ||| ((1 : Int64) <<< ((iv y4).toInt64 &&& 63)))), (7, .int (iv y4)), (0, .ref s), (1, .ref ga), (2, .ref ka), (6, .int (iv v48_6))]) dX6_haveSameArcs_83 (by decide) rfl ?_
              refine r_iinc (pc := 85) (v := iv (v48_6 + 1)) (lv' := [(6, .int (iv (v48_6 + 1))), (4, .long (w48_4 ||| ((1 : Int64) <<< ((iv y4).toInt64 &&& 63)))), (7, .int (iv y4)), (0, .ref s), (1, .ref ga), (2, .ref ka)]) dX6_haveSameArcs_85 rfl (iv_add _ _) (by decide) rfl ?_
              refine r_goto (pc := 88) (tgt := 48) dX6_haveSameArcs_88 (by decide) ?_
              refine Rn.pick (lv' := [(0, .ref s), (1, .ref ga), (2, .ref ka), (4, .long (w48_4 ||| ((1 : Int64) <<< ((iv y4).toInt64 &&& 63)))), (6, .int (iv (v48_6 + 1)))]) [3, 4, 5, 1, 0] rfl ?_
              exact ih48 (Int.toNat (60 - (v48_6 + 1))) (by omega) _ ht6 (v48_6 + 1) (w48_4 ||| ((1 : Int64) <<< ((iv y4).toInt64 &&& 63))) ⟨by omega, by omega, by omega, by (first | exact hsa | exact sa_0)⟩ (by omega)
            · have hnv : ¬ (vaP (isP gm gdr F T W C F2 T2 W2 C2) (gn : Int)) Nu := sa_no hFT (by assumption : saI gm gdr F T W C F2 T2 W2 C2 Nu w48_4 v48_6) (by omega) (hsa1 (by omega))
              refine r_iconst (pc := 74) (v := iv 0) dX6_haveSameArcs_74 (by decide) ?_
              exact r_zret (pc := 75) dX6_haveSameArcs_75 rfl (iv_nar (by omega)) ⟨rfl, ht6, _, rfl, by omega, Or.inr ⟨rfl, hnv⟩⟩
        refine Rn.pick (lv' := [(0, .ref s), (1, .ref ga), (2, .ref ka), (4, .long (0 : Int64)), (6, .int (iv 0))]) [2, 3, 4, 1, 0] rfl ?_
        exact B48 (Int.toNat (60 - 0)) _ ht3 0 (0 : Int64) ⟨by omega, by omega, by omega, by (first | exact hsa | exact sa_0)⟩ (by omega)
      · have hnm4 : nmI Nu v5_3 (gn : Int) := by
          have h9 := (by assumption : nmI Nu v5_3 v5_4)
          rw [show v5_4 = (gn : Int) by omega] at h9
          exact h9
        have hnv : ¬ (vaP (isP gm gdr F T W C F2 T2 W2 C2) (gn : Int)) Nu := fun g9 => c37 (nm_va (by omega) hnm4 g9)
        refine r_iconst (pc := 40) (v := iv 0) dX6_haveSameArcs_40 (by decide) ?_
        exact r_zret (pc := 41) dX6_haveSameArcs_41 rfl (iv_nar (by omega)) ⟨rfl, ht3, _, rfl, by omega, Or.inr ⟨rfl, hnv⟩⟩
    · refine r_iload_n (pc := 14) dX6_haveSameArcs_14 (i := 3) rfl rfl ?_
      refine r_iconst (pc := 15) (v := iv 1) dX6_haveSameArcs_15 (by decide) ?_
      refine r_aload_n (pc := 16) dX6_haveSameArcs_16 (i := 0) rfl rfl ?_
      refine t_getE (pc := 17) (.ref (s + 4)) ht5 (rd_ov (by omega) (rd_ov (by omega) (rd_ov (by omega) (rd_ov (by omega) (rd_of (ov_s _ _ _)))))) fX6_21 dX6_haveSameArcs_17 rfl ?_
      refine r_iload (pc := 20) dX6_haveSameArcs_20 rfl ?_
      refine t_ialdX (pc := 22) (t0 := 0) ht5 (rd_of (ov_s _ _ _)) dX6_haveSameArcs_22 rfl (by decide) (by omega) (fun b7 => ?_)
      have rb7 := (show Rfx 16 0 15 Nu by assumption) (Int.toNat v5_4) (by omega)
      have hn22 : 0 ≤ Nu (Int.toNat v5_4) := by omega
      refine r_ishl (pc := 23) (v := iv ((2 ^ Int.toNat (Nu (Int.toNat v5_4)) : Nat) : Int)) dX6_haveSameArcs_23 (shl_e (by omega)) ?_
      have mp23_8 : 1 ≤ 2 ^ Int.toNat (Nu (Int.toNat v5_4)) := Nat.one_le_two_pow
      have mq23_9 : 2 ^ Int.toNat (Nu (Int.toNat v5_4)) ≤ 2 ^ 15 := Nat.pow_le_pow_right (by omega) (by omega)
      have ms23 := Me_shl (Int.toNat (Nu (Int.toNat v5_4)))
      obtain ⟨z10, hz10, bz10⟩ := or_2 16 v5_3 ((2 ^ Int.toNat (Nu (Int.toNat v5_4)) : Nat) : Int) (by omega) (by omega) (by decide)
      refine r_ior (pc := 24) (v := iv z10) dX6_haveSameArcs_24 hz10 ?_
      have mez10 := Me_or hz10 (by omega) (by omega) (by omega)
      have hnm : nmI Nu z10 (v5_4 + 1) := nm_up (by assumption : nmI Nu v5_3 v5_4) (by omega) hn22 (fun b9 => by rw [mez10 b9, ms23 b9])
      refine r_istore_n (pc := 25) (lv' := [(3, .int (iv z10)), (0, .ref s), (1, .ref ga), (2, .ref ka), (4, .int (iv v5_4))]) dX6_haveSameArcs_25 (i := 3) rfl (by decide) rfl ?_
      refine r_iinc (pc := 26) (v := iv (v5_4 + 1)) (lv' := [(4, .int (iv (v5_4 + 1))), (3, .int (iv z10)), (0, .ref s), (1, .ref ga), (2, .ref ka)]) dX6_haveSameArcs_26 rfl (iv_add _ _) (by decide) rfl ?_
      refine r_goto (pc := 29) (tgt := 5) dX6_haveSameArcs_29 (by decide) ?_
      refine Rn.pick (lv' := [(0, .ref s), (1, .ref ga), (2, .ref ka), (3, .int (iv z10)), (4, .int (iv (v5_4 + 1)))]) [2, 3, 4, 1, 0] rfl ?_
      exact ih5 (Int.toNat (16 - (v5_4 + 1))) (by omega) _ ht5 z10 (v5_4 + 1) ⟨by omega, by omega, by omega, by omega, by omega, by (first | exact hnm | exact nm_0)⟩ (by omega)
  refine Rn.pick (lv' := [(0, .ref s), (1, .ref ga), (2, .ref ka), (3, .int (iv 0)), (4, .int (iv 0))]) [2, 3, 4, 1, 0] rfl ?_
  exact B5 (Int.toNat (16 - 0)) _ t0 0 0 ⟨by omega, by omega, by omega, by omega, by omega, by (first | exact hnm | exact nm_0)⟩ (by omega)
