set_option maxHeartbeats 4000000 in
set_option maxRecDepth 100000 in
theorem c_X3_hasTwinx {D : va_G} {cI cJ cZ cT : ClassId} {lo b L : Nat} {xs : Nat → Int32} {hp : MH} {n d : Nat} {Γ : TG} {ga : Nat} {gF : Nat} {gT : Nat} {gW : Nat} {gC : Nat} {gTl : Nat} {gHd : Nat} {gBy : Nat} {gOu : Nat} {gIn : Nat} {gJo : Nat} {gn : Nat} {gm : Nat} {gq : Nat} {gdr : Int} {F T W C Tl Hd By Ou In Jo : Nat → Int} {x1 : Int} (hd0 : 0 ≤ d) (hg : TyG Γ cI cJ cZ ga gF gT gW gC gTl gHd gBy gOu gIn gJo gn gm gq gdr) (hxg : XG Γ cI gF gT gW gC gTl gHd gBy gOu gIn gJo gn gm gq F T W C Tl Hd By Ou In Jo) (ht : Tw Γ hp) (hx1 : 0 ≤ x1 ∧ x1 ≤ 59) (hk : x1 < (gm : Int)) : Mt (gG D cI cJ cZ cT lo b L xs) mX3_hasTwin d 0 0 [.ref ga, .int (iv x1)] hp n (pI Γ n (fun r => ((0 ≤ r ∧ r ≤ 1) ∧ (r = 1 ↔ ∃ k, k < gm ∧ twP F T (Int.toNat x1) k)))) := by
  refine Mt.of rfl (Nat.le_of_ble_eq_true rfl) ?_
  refine Rn.pick (lv' := [(0, .ref ga), (1, .int (iv x1))]) [0, 1] rfl ?_
  obtain ⟨hg_O, hg_from, hg_to, hg_weight, hg_cost, hg_tail, hg_head, hg_by, hg_out, hg_in, hg_joined, hg_b⟩ := id hg
  obtain ⟨⟨hxg_F, hxg_T, hxg_W, hxg_C, hxg_Tl, hxg_Hd, hxg_By, hxg_Ou, hxg_In, hxg_Jo⟩, ⟨hrg_F, hrg_T, hrg_W, hrg_C, hrg_Tl, hrg_Hd, hrg_By, hrg_Ou, hrg_In, hrg_Jo⟩, houg⟩ := id hxg
  have hgb := hg_b
  refine r_iconst (pc := 0) (v := iv 0) dX3_hasTwin_0 (by decide) ?_
  refine r_istore_n (pc := 1) (lv' := [(2, .int (iv 0)), (0, .ref ga), (1, .int (iv x1))]) dX3_hasTwin_1 (i := 2) rfl (by decide) rfl ?_
  have B2 : ∀ k : Nat, ∀ hp2 : MH, Tw Γ hp2 → ∀  (v2_2 : Int), 0 ≤ v2_2 ∧ v2_2 ≤ 60 ∧ (v2_2 ≤ (gm : Int)) ∧ (∀ k, k < Int.toNat v2_2 → ¬ twP F T (Int.toNat x1) k) → 60 - v2_2 ≤ (k : Int) → Rn (gG D cI cJ cZ cT lo b L xs) mX3_hasTwin d 2 [(0, .ref ga), (1, .int (iv x1)), (2, .int (iv v2_2))] [] hp2 n 0 0 (pI Γ n (fun r => ((0 ≤ r ∧ r ≤ 1) ∧ (r = 1 ↔ ∃ k, k < gm ∧ twP F T (Int.toNat x1) k)))) := by
    refine lpS _ ?_
    intro k2 ih2 hp2 ht2 v2_2 hf2 hm2
    obtain ⟨hf2_0, hf2_1, hf2_2, ha2_3⟩ := hf2
    refine r_iload_n (pc := 2) dX3_hasTwin_2 (i := 2) rfl rfl ?_
    refine r_aload_n (pc := 3) dX3_hasTwin_3 (i := 0) rfl rfl ?_
    refine t_getE (pc := 4) (.int (iv (gm : Int))) ht2 hg_O fX3_25 dX3_hasTwin_4 rfl ?_
    refine t_icmp_ge (pc := 7) (tgt := 105) dX3_hasTwin_7 (by decide) (by omega) (by omega) (fun c7 => ?_) (fun c7 => ?_)
    · refine r_iconst (pc := 105) (v := iv 0) dX3_hasTwin_105 (by decide) ?_
      exact r_zret (pc := 106) dX3_hasTwin_106 rfl (iv_nar (by omega)) ⟨rfl, ht2, _, rfl, by exact ⟨by omega, fun h9 => by omega, fun ⟨k, hk9, hq9⟩ => absurd hq9 ((by assumption : ∀ k, k < Int.toNat v2_2 → ¬ twP F T (Int.toNat x1) k) k (by omega))⟩⟩
    · refine r_aload_n (pc := 10) dX3_hasTwin_10 (i := 0) rfl rfl ?_
      refine t_getE (pc := 11) (.ref gF) ht2 hg_O fX3_36 dX3_hasTwin_11 rfl ?_
      refine r_iload_n (pc := 14) dX3_hasTwin_14 (i := 1) rfl rfl ?_
      refine t_ialdX (pc := 15) (t0 := 0) ht2 hxg_F dX3_hasTwin_15 rfl (by omega) (by omega) (fun b1 => ?_)
      have rb1 := (show Rfx gm 0 ((gn : Int) - 1) F by assumption) (Int.toNat x1) (by omega)
      refine r_aload_n (pc := 16) dX3_hasTwin_16 (i := 0) rfl rfl ?_
      refine t_getE (pc := 17) (.ref gF) ht2 hg_O fX3_36 dX3_hasTwin_17 rfl ?_
      refine r_iload_n (pc := 20) dX3_hasTwin_20 (i := 2) rfl rfl ?_
      refine t_ialdX (pc := 21) (t0 := 0) ht2 hxg_F dX3_hasTwin_21 rfl (by omega) (by omega) (fun b2 => ?_)
      have rb2 := (show Rfx gm 0 ((gn : Int) - 1) F by assumption) (Int.toNat v2_2) (by omega)
      have B45 : ∀ hp45 : MH, Tw Γ hp45 → ∀  (u45_0 : Int), 0 ≤ u45_0 ∧ u45_0 ≤ 1 ∧ ((u45_0 = 1 ∧ (F (Int.toNat x1) = F (Int.toNat v2_2) ∧ T (Int.toNat x1) = T (Int.toNat v2_2))) ∨ (u45_0 = 0 ∧ ¬ (F (Int.toNat x1) = F (Int.toNat v2_2) ∧ T (Int.toNat x1) = T (Int.toNat v2_2)))) → Rn (gG D cI cJ cZ cT lo b L xs) mX3_hasTwin d 45 [(0, .ref ga), (1, .int (iv x1)), (2, .int (iv v2_2))] [.int (iv u45_0)] hp45 n 0 0 (pI Γ n (fun r => ((0 ≤ r ∧ r ≤ 1) ∧ (r = 1 ↔ ∃ k, k < gm ∧ twP F T (Int.toNat x1) k)))) := by
        intro hp45 ht45 u45_0 hf45
        refine r_istore_n (pc := 45) (lv' := [(3, .int (iv u45_0)), (0, .ref ga), (1, .int (iv x1)), (2, .int (iv v2_2))]) dX3_hasTwin_45 (i := 3) rfl (by decide) rfl ?_
        refine r_aload_n (pc := 46) dX3_hasTwin_46 (i := 0) rfl rfl ?_
        refine t_getE (pc := 47) (.ref gF) ht45 hg_O fX3_36 dX3_hasTwin_47 rfl ?_
        refine r_iload_n (pc := 50) dX3_hasTwin_50 (i := 1) rfl rfl ?_
        refine t_ialdX (pc := 51) (t0 := 0) ht45 hxg_F dX3_hasTwin_51 rfl (by omega) (by omega) (fun b3 => ?_)
        have rb3 := (show Rfx gm 0 ((gn : Int) - 1) F by assumption) (Int.toNat x1) (by omega)
        refine r_aload_n (pc := 52) dX3_hasTwin_52 (i := 0) rfl rfl ?_
        refine t_getE (pc := 53) (.ref gT) ht45 hg_O fX3_40 dX3_hasTwin_53 rfl ?_
        refine r_iload_n (pc := 56) dX3_hasTwin_56 (i := 2) rfl rfl ?_
        refine t_ialdX (pc := 57) (t0 := 0) ht45 hxg_T dX3_hasTwin_57 rfl (by omega) (by omega) (fun b4 => ?_)
        have rb4 := (show Rfx gm 0 ((gn : Int) - 1) T by assumption) (Int.toNat v2_2) (by omega)
        have B81 : ∀ hp81 : MH, Tw Γ hp81 → ∀  (u81_0 : Int), 0 ≤ u81_0 ∧ u81_0 ≤ 1 ∧ ((u81_0 = 1 ∧ (F (Int.toNat x1) = T (Int.toNat v2_2) ∧ T (Int.toNat x1) = F (Int.toNat v2_2))) ∨ (u81_0 = 0 ∧ ¬ (F (Int.toNat x1) = T (Int.toNat v2_2) ∧ T (Int.toNat x1) = F (Int.toNat v2_2)))) → Rn (gG D cI cJ cZ cT lo b L xs) mX3_hasTwin d 81 [(0, .ref ga), (1, .int (iv x1)), (2, .int (iv v2_2)), (3, .int (iv u45_0))] [.int (iv u81_0)] hp81 n 0 0 (pI Γ n (fun r => ((0 ≤ r ∧ r ≤ 1) ∧ (r = 1 ↔ ∃ k, k < gm ∧ twP F T (Int.toNat x1) k)))) := by
          intro hp81 ht81 u81_0 hf81
          refine r_istore (pc := 81) (lv' := [(4, .int (iv u81_0)), (0, .ref ga), (1, .int (iv x1)), (2, .int (iv v2_2)), (3, .int (iv u45_0))]) dX3_hasTwin_81 (by decide) rfl ?_
          refine r_iload_n (pc := 83) dX3_hasTwin_83 (i := 2) rfl rfl ?_
          refine r_iload_n (pc := 84) dX3_hasTwin_84 (i := 1) rfl rfl ?_
          refine t_icmp_eq (pc := 85) (tgt := 99) dX3_hasTwin_85 (by decide) (by omega) (by omega) (fun c85 => ?_) (fun c85 => ?_)
          · refine r_iinc (pc := 99) (v := iv (v2_2 + 1)) (lv' := [(2, .int (iv (v2_2 + 1))), (4, .int (iv u81_0)), (0, .ref ga), (1, .int (iv x1)), (3, .int (iv u45_0))]) dX3_hasTwin_99 rfl (iv_add _ _) (by decide) rfl ?_
            refine r_goto (pc := 102) (tgt := 2) dX3_hasTwin_102 (by decide) ?_
            refine Rn.pick (lv' := [(0, .ref ga), (1, .int (iv x1)), (2, .int (iv (v2_2 + 1)))]) [2, 3, 0] rfl ?_
            exact ih2 (Int.toNat (60 - (v2_2 + 1))) (by omega) _ ht81 (v2_2 + 1) ⟨by omega, by omega, by omega, by (first | (intro k hk9; exfalso; omega) | exact tw_up (by assumption) (by omega) (fun h9 => by have h8 := h9.1; have h7 := h9.2; omega))⟩ (by omega)
          · refine r_iload_n (pc := 88) dX3_hasTwin_88 (i := 3) rfl rfl ?_
            refine t_if_ne (pc := 89) (tgt := 97) dX3_hasTwin_89 (by decide) (by omega) (fun c89 => ?_) (fun c89 => ?_)
            · refine r_iconst (pc := 97) (v := iv 1) dX3_hasTwin_97 (by decide) ?_
              exact r_zret (pc := 98) dX3_hasTwin_98 rfl (iv_nar (by omega)) ⟨rfl, ht81, _, rfl, by exact ⟨by omega, fun _ => ⟨Int.toNat v2_2, by omega, by omega, by omega⟩, fun _ => rfl⟩⟩
            · refine r_iload (pc := 92) dX3_hasTwin_92 rfl ?_
              refine t_if_eq (pc := 94) (tgt := 99) dX3_hasTwin_94 (by decide) (by omega) (fun c94 => ?_) (fun c94 => ?_)
              · refine r_iinc (pc := 99) (v := iv (v2_2 + 1)) (lv' := [(2, .int (iv (v2_2 + 1))), (4, .int (iv u81_0)), (0, .ref ga), (1, .int (iv x1)), (3, .int (iv u45_0))]) dX3_hasTwin_99 rfl (iv_add _ _) (by decide) rfl ?_
                refine r_goto (pc := 102) (tgt := 2) dX3_hasTwin_102 (by decide) ?_
                refine Rn.pick (lv' := [(0, .ref ga), (1, .int (iv x1)), (2, .int (iv (v2_2 + 1)))]) [2, 3, 0] rfl ?_
                exact ih2 (Int.toNat (60 - (v2_2 + 1))) (by omega) _ ht81 (v2_2 + 1) ⟨by omega, by omega, by omega, by (first | (intro k hk9; exfalso; omega) | exact tw_up (by assumption) (by omega) (fun h9 => by have h8 := h9.1; have h7 := h9.2; omega))⟩ (by omega)
              · refine r_iconst (pc := 97) (v := iv 1) dX3_hasTwin_97 (by decide) ?_
                exact r_zret (pc := 98) dX3_hasTwin_98 rfl (iv_nar (by omega)) ⟨rfl, ht81, _, rfl, by exact ⟨by omega, fun _ => ⟨Int.toNat v2_2, by omega, by omega, by omega⟩, fun _ => rfl⟩⟩
        refine t_icmp_ne (pc := 58) (tgt := 80) dX3_hasTwin_58 (by decide) (by omega) (by omega) (fun c58 => ?_) (fun c58 => ?_)
        · refine r_iconst (pc := 80) (v := iv 0) dX3_hasTwin_80 (by decide) ?_
          refine Rn.pick (lv' := [(0, .ref ga), (1, .int (iv x1)), (2, .int (iv v2_2)), (3, .int (iv u45_0))]) [1, 2, 3, 0] rfl ?_
          exact B81 _ ht45 0 ⟨by omega, by omega, by omega⟩
        · refine r_aload_n (pc := 61) dX3_hasTwin_61 (i := 0) rfl rfl ?_
          refine t_getE (pc := 62) (.ref gT) ht45 hg_O fX3_40 dX3_hasTwin_62 rfl ?_
          refine r_iload_n (pc := 65) dX3_hasTwin_65 (i := 1) rfl rfl ?_
          refine t_ialdX (pc := 66) (t0 := 0) ht45 hxg_T dX3_hasTwin_66 rfl (by omega) (by omega) (fun b5 => ?_)
          have rb5 := (show Rfx gm 0 ((gn : Int) - 1) T by assumption) (Int.toNat x1) (by omega)
          refine r_aload_n (pc := 67) dX3_hasTwin_67 (i := 0) rfl rfl ?_
          refine t_getE (pc := 68) (.ref gF) ht45 hg_O fX3_36 dX3_hasTwin_68 rfl ?_
          refine r_iload_n (pc := 71) dX3_hasTwin_71 (i := 2) rfl rfl ?_
          refine t_ialdX (pc := 72) (t0 := 0) ht45 hxg_F dX3_hasTwin_72 rfl (by omega) (by omega) (fun b6 => ?_)
          have rb6 := (show Rfx gm 0 ((gn : Int) - 1) F by assumption) (Int.toNat v2_2) (by omega)
          refine t_icmp_ne (pc := 73) (tgt := 80) dX3_hasTwin_73 (by decide) (by omega) (by omega) (fun c73 => ?_) (fun c73 => ?_)
          · refine r_iconst (pc := 80) (v := iv 0) dX3_hasTwin_80 (by decide) ?_
            refine Rn.pick (lv' := [(0, .ref ga), (1, .int (iv x1)), (2, .int (iv v2_2)), (3, .int (iv u45_0))]) [1, 2, 3, 0] rfl ?_
            exact B81 _ ht45 0 ⟨by omega, by omega, by omega⟩
          · refine r_iconst (pc := 76) (v := iv 1) dX3_hasTwin_76 (by decide) ?_
            refine r_goto (pc := 77) (tgt := 81) dX3_hasTwin_77 (by decide) ?_
            refine Rn.pick (lv' := [(0, .ref ga), (1, .int (iv x1)), (2, .int (iv v2_2)), (3, .int (iv u45_0))]) [1, 2, 3, 0] rfl ?_
            exact B81 _ ht45 1 ⟨by omega, by omega, by omega⟩
      refine t_icmp_ne (pc := 22) (tgt := 44) dX3_hasTwin_22 (by decide) (by omega) (by omega) (fun c22 => ?_) (fun c22 => ?_)
      · refine r_iconst (pc := 44) (v := iv 0) dX3_hasTwin_44 (by decide) ?_
        refine Rn.pick (lv' := [(0, .ref ga), (1, .int (iv x1)), (2, .int (iv v2_2))]) [0, 1, 2] rfl ?_
        exact B45 _ ht2 0 ⟨by omega, by omega, by omega⟩
      · refine r_aload_n (pc := 25) dX3_hasTwin_25 (i := 0) rfl rfl ?_
        refine t_getE (pc := 26) (.ref gT) ht2 hg_O fX3_40 dX3_hasTwin_26 rfl ?_
        refine r_iload_n (pc := 29) dX3_hasTwin_29 (i := 1) rfl rfl ?_
        refine t_ialdX (pc := 30) (t0 := 0) ht2 hxg_T dX3_hasTwin_30 rfl (by omega) (by omega) (fun b7 => ?_)
        have rb7 := (show Rfx gm 0 ((gn : Int) - 1) T by assumption) (Int.toNat x1) (by omega)
        refine r_aload_n (pc := 31) dX3_hasTwin_31 (i := 0) rfl rfl ?_
        refine t_getE (pc := 32) (.ref gT) ht2 hg_O fX3_40 dX3_hasTwin_32 rfl ?_
        refine r_iload_n (pc := 35) dX3_hasTwin_35 (i := 2) rfl rfl ?_
        refine t_ialdX (pc := 36) (t0 := 0) ht2 hxg_T dX3_hasTwin_36 rfl (by omega) (by omega) (fun b8 => ?_)
        have rb8 := (show Rfx gm 0 ((gn : Int) - 1) T by assumption) (Int.toNat v2_2) (by omega)
        refine t_icmp_ne (pc := 37) (tgt := 44) dX3_hasTwin_37 (by decide) (by omega) (by omega) (fun c37 => ?_) (fun c37 => ?_)
        · refine r_iconst (pc := 44) (v := iv 0) dX3_hasTwin_44 (by decide) ?_
          refine Rn.pick (lv' := [(0, .ref ga), (1, .int (iv x1)), (2, .int (iv v2_2))]) [0, 1, 2] rfl ?_
          exact B45 _ ht2 0 ⟨by omega, by omega, by omega⟩
        · refine r_iconst (pc := 40) (v := iv 1) dX3_hasTwin_40 (by decide) ?_
          refine r_goto (pc := 41) (tgt := 45) dX3_hasTwin_41 (by decide) ?_
          refine Rn.pick (lv' := [(0, .ref ga), (1, .int (iv x1)), (2, .int (iv v2_2))]) [0, 1, 2] rfl ?_
          exact B45 _ ht2 1 ⟨by omega, by omega, by omega⟩
  refine Rn.pick (lv' := [(0, .ref ga), (1, .int (iv x1)), (2, .int (iv 0))]) [1, 2, 0] rfl ?_
  exact B2 (Int.toNat (60 - 0)) _ ht 0 ⟨by omega, by omega, by omega, by (first | (intro k hk9; exfalso; omega) | exact tw_up (by assumption) (by omega) (fun h9 => by have h8 := h9.1; have h7 := h9.2; omega))⟩ (by omega)
