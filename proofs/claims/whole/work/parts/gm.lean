/-- the places below v hold their own numbers -/
def idR (f : Nat → Int) (v : Int) : Prop := ∀ u : Nat, (u : Int) < v → f u = (u : Int)
theorem idr_0 {f : Nat → Int} : idR f 0 := fun u h => by omega
theorem idr_up {f : Nat → Int} {v : Int} (h : idR f v) (hv : 0 ≤ v) : idR (fup f (Int.toNat v) v) (v + 1) := fun u hu => by
  by_cases e : u = Int.toNat v
  · subst e; rw [show fup f (Int.toNat v) v (Int.toNat v) = v from if_pos rfl]; omega
  · rw [show fup f (Int.toNat v) v u = f u from if_neg e]; exact h u (by omega)
theorem lgc_cg {m : Nat} {F T W : Nat → Int} {n : Nat} {L C C1 : Nat → Prop} {lb : Nat → Int} (h : lgC m F T W n L C lb) (hC : ∀ j, C1 j ↔ C j) : lgC m F T W n L C1 lb := by
  obtain ⟨w, k, hw, hk, hS, hl, hc⟩ := h
  exact ⟨w, k, hw, hk, hS, hl, fun i => (hC i).trans (hc i)⟩
theorem mel_o0 (x : Int64) (i : Nat) : MeL (x ||| 0) i ↔ MeL x i := by
  rw [mel_or]; exact ⟨fun g => g.elim id (fun g => absurd g (mel_0 i)), Or.inl⟩
theorem mel_o1 (x : Int64) {y : Int} (h : 0 ≤ y ∧ y < 60) (i : Nat) : MeL (x ||| (1 <<< ((iv y).toInt64 &&& 63))) i ↔ MeL x i ∨ i = Int.toNat y := by
  have e := mel_shl (k := Int.toNat y) (by omega) i
  rw [show ((Int.toNat y : Nat) : Int) = y by omega] at e
  rw [mel_or, e]
set_option maxHeartbeats 4000000 in
set_option maxRecDepth 100000 in
theorem c_X8_lightArcsx {D : va_G} {cI cJ cZ cT : ClassId} {lo b L : Nat} {xs : Nat → Int32} {hp : MH} {n d : Nat} {Γ : TG} {ga : Nat} {gF : Nat} {gT : Nat} {gW : Nat} {gC : Nat} {gTl : Nat} {gHd : Nat} {gBy : Nat} {gOu : Nat} {gIn : Nat} {gJo : Nat} {gn : Nat} {gm : Nat} {gq : Nat} {gdr : Int} {F T W C Tl Hd By Ou In Jo : Nat → Int} (hd0 : 1 ≤ d) (hg : TyG Γ cI cJ cZ ga gF gT gW gC gTl gHd gBy gOu gIn gJo gn gm gq gdr) (hxg : XG Γ cI gF gT gW gC gTl gHd gBy gOu gIn gJo gn gm gq F T W C Tl Hd By Ou In Jo) (ht : Tw Γ hp) : Mt (gG D cI cJ cZ cT lo b L xs) mX8_lightArcs d 1 gn [.ref ga] hp n (fun r hp1 n1 => n1 = n + 1 ∧ Tw Γ hp1 ∧ ∃ q : Int64, r = some (.long q) ∧ ∀ i : Nat, MeL q i ↔ (lgA gm F T W 1001 0).2 i = true) := by
  refine Mt.of rfl (Nat.le_of_ble_eq_true rfl) ?_
  refine Rn.pick (lv' := [(0, .ref ga)]) [0] rfl ?_
  obtain ⟨hg_O, hg_from, hg_to, hg_weight, hg_cost, hg_tail, hg_head, hg_by, hg_out, hg_in, hg_joined, hg_b⟩ := id hg
  obtain ⟨⟨hxg_F, hxg_T, hxg_W, hxg_C, hxg_Tl, hxg_Hd, hxg_By, hxg_Ou, hxg_In, hxg_Jo⟩, ⟨hrg_F, hrg_T, hrg_W, hrg_C, hrg_Tl, hrg_Hd, hrg_By, hrg_Ou, hrg_In, hrg_Jo⟩, houg⟩ := id hxg
  have hgb := hg_b
  refine Rn.bd (fun bd9 => ?_)
  have hlq0 : gF < n := Tw.lt9 ht bd9 hxg_F
  have hlq1 : gT < n := Tw.lt9 ht bd9 hxg_T
  have hlq2 : gW < n := Tw.lt9 ht bd9 hxg_W
  have hlq3 : gC < n := Tw.lt9 ht bd9 hxg_C
  have hlq4 : gTl < n := Tw.lt9 ht bd9 hxg_Tl
  have hlq5 : gHd < n := Tw.lt9 ht bd9 hxg_Hd
  have hlq6 : gBy < n := Tw.lt9 ht bd9 hxg_By
  have hlq7 : gOu < n := Tw.lt9 ht bd9 hxg_Ou
  have hlq8 : gIn < n := Tw.lt9 ht bd9 hxg_In
  have hlq9 : gJo < n := Tw.lt9 ht bd9 hxg_Jo
  have hlq10 : ga < n := Tw.lt9 ht bd9 hg_O
  have hnn : ∀ a T', Γ a = some T' → a ≠ n := fun a T' h e => by have := Tw.lt9 ht bd9 (rd_of h); omega
  have hFT : ∀ k, k < gm → (0 ≤ F k ∧ F k < (gn : Int)) ∧ (0 ≤ T k ∧ T k < (gn : Int)) := fun k hk => by have h1 := hrg_F k hk; have h2 := hrg_T k hk; omega
  refine r_aload_n (pc := 0) dX8_lightArcs_0 (i := 0) rfl rfl ?_
  refine t_getE (pc := 1) (.int (iv (gn : Int))) ht hg_O fX8_35 dX8_lightArcs_1 rfl ?_
  refine t_newI (pc := 4) (t0 := 0) (N := gn) 0 15 ht dX8_lightArcs_4 (tb_t (k := 68) (w := Cond.arrayClass .int) (by decide +kernel)) rfl (by omega) (by omega) (by decide) (by omega) (by omega) (fun hp1 Γ2 hE3 hN4 ht5 => ?_)
  have t8 := Tw.ovr ht5 hN4
  obtain ⟨Rw0, hRw0, t7⟩ := t8.unI
  have hR0 : Rfx gn 0 15 Rw0 := fun i hi => (hRw0 i hi).1
  refine r_astore_n (pc := 6) (lv' := [(1, .ref n), (0, .ref ga)]) dX8_lightArcs_6 (i := 1) rfl (by decide) rfl ?_
  refine r_iconst (pc := 7) (v := iv 0) dX8_lightArcs_7 (by decide) ?_
  refine r_istore_n (pc := 8) (lv' := [(2, .int (iv 0)), (1, .ref n), (0, .ref ga)]) dX8_lightArcs_8 (i := 2) rfl (by decide) rfl ?_
  have B9 : ∀ k : Nat, ∀ Rw9 : Nat → Int, ∀ hp9 : MH, Tw (ov Γ2 n (xI cI gn Rw9)) hp9 → ∀  (v9_2 : Int), 0 ≤ v9_2 ∧ v9_2 ≤ 16 ∧ (v9_2 ≤ (gn : Int)) ∧ (Rfx gn 0 15 Rw9) ∧ (idR Rw9 v9_2) → 16 - v9_2 ≤ (k : Int) → Rn (gG D cI cJ cZ cT lo b L xs) mX8_lightArcs d 9 [(0, .ref ga), (1, .ref n), (2, .int (iv v9_2))] [] hp9 (n + 1) (1 - 1) (gn - gn) (fun r hp1 n1 => n1 = n + 1 ∧ Tw Γ hp1 ∧ ∃ q : Int64, r = some (.long q) ∧ ∀ i : Nat, MeL q i ↔ (lgA gm F T W 1001 0).2 i = true) := by
    refine lpS _ ?_
    intro k9 ih9 Rw9 hp9 ht9 v9_2 hf9 hm9
    obtain ⟨hf9_0, hf9_1, hf9_2, ha9_3, ha9_4⟩ := hf9
    refine r_iload_n (pc := 9) dX8_lightArcs_9 (i := 2) rfl rfl ?_
    refine r_aload_n (pc := 10) dX8_lightArcs_10 (i := 0) rfl rfl ?_
    refine t_getE (pc := 11) (.int (iv (gn : Int))) ht9 (rd_ov (by omega) (rd_ext hE3 hg_O)) fX8_35 dX8_lightArcs_11 rfl ?_
    refine t_icmp_ge (pc := 14) (tgt := 27) dX8_lightArcs_14 (by decide) (by omega) (by omega) (fun c14 => ?_) (fun c14 => ?_)
    · refine r_lconst (pc := 27) (v := 0) dX8_lightArcs_27 (by decide) ?_
      have hk27 : (0 : Int64).toInt = 0 := by decide
      refine r_lstore_n (pc := 28) (lv' := [(2, .long (0 : Int64)), (0, .ref ga), (1, .ref n)]) dX8_lightArcs_28 (i := 2) rfl (by decide) rfl ?_
      refine r_lconst (pc := 29) (v := 0) dX8_lightArcs_29 (by decide) ?_
      have hk29 : (0 : Int64).toInt = 0 := by decide
      refine r_lstore (pc := 30) (lv' := [(4, .long (0 : Int64)), (2, .long (0 : Int64)), (0, .ref ga), (1, .ref n)]) dX8_lightArcs_30 (by decide) rfl ?_
      refine r_iconst (pc := 32) (v := iv 0) dX8_lightArcs_32 (by decide) ?_
      refine r_istore (pc := 33) (lv' := [(6, .int (iv 0)), (4, .long (0 : Int64)), (2, .long (0 : Int64)), (0, .ref ga), (1, .ref n)]) dX8_lightArcs_33 (by decide) rfl ?_
      have B35 : ∀ k : Nat, ∀ Rw35 : Nat → Int, ∀ hp35 : MH, Tw (ov Γ2 n (xI cI gn Rw35)) hp35 → ∀  (v35_6 : Int) (w35_2 : Int64) (w35_4 : Int64), 0 ≤ v35_6 ∧ v35_6 ≤ 60 ∧ (v35_6 ≤ (gm : Int)) ∧ (Rfx gn 0 15 Rw35) ∧ (lgC gm F T W gn (MeL w35_2) (MeL w35_4) Rw35) ∧ (lkD w35_2 gm v35_6) → 60 - v35_6 ≤ (k : Int) → Rn (gG D cI cJ cZ cT lo b L xs) mX8_lightArcs d 35 [(0, .ref ga), (1, .ref n), (2, .long w35_2), (4, .long w35_4), (6, .int (iv v35_6))] [] hp35 (n + 1) (1 - 1) (gn - gn) (fun r hp1 n1 => n1 = n + 1 ∧ Tw Γ hp1 ∧ ∃ q : Int64, r = some (.long q) ∧ ∀ i : Nat, MeL q i ↔ (lgA gm F T W 1001 0).2 i = true) := by
        refine lpS _ ?_
        intro k35 ih35 Rw35 hp35 ht35 v35_6 w35_2 w35_4 hf35 hm35
        obtain ⟨hf35_0, hf35_1, hf35_2, ha35_3, ha35_4, ha35_5⟩ := hf35
        refine r_iload (pc := 35) dX8_lightArcs_35 rfl ?_
        refine r_aload_n (pc := 37) dX8_lightArcs_37 (i := 0) rfl rfl ?_
        refine t_getE (pc := 38) (.int (iv (gm : Int))) ht35 (rd_ov (by omega) (rd_ext hE3 hg_O)) fX8_31 dX8_lightArcs_38 rfl ?_
        refine t_icmp_ge (pc := 41) (tgt := 107) dX8_lightArcs_41 (by decide) (by omega) (by omega) (fun c41 => ?_) (fun c41 => ?_)
        · refine r_lload (pc := 107) dX8_lightArcs_107 rfl ?_
          exact r_lret (pc := 109) dX8_lightArcs_109 rfl ⟨rfl, Tw_ext (Ext.ovn hE3 hnn) ht35, _, rfl, lgc_end (by assumption : lgC gm F T W gn (MeL w35_2) (MeL w35_4) Rw35) (lkd_e (by assumption : lkD w35_2 gm v35_6) (by omega))⟩
        · refine r_aload_n (pc := 44) dX8_lightArcs_44 (i := 0) rfl rfl ?_
          refine r_lload_n (pc := 45) dX8_lightArcs_45 (i := 2) rfl rfl ?_
          refine t_callSI (pc := 46) (as := [.ref ga, .long w35_2]) (st := []) kX8_100 dX8_lightArcs_46 (c_X8_lightestArcx (d := d - 1) (j1 := w35_2) (by omega) (TyG.ovx (by omega) (TyG.ext hE3 hg)) (XG.ovx (by omega) (XG.ext hE3 hxg)) ht35) rfl (by omega) (Nat.le_of_ble_eq_true rfl) rfl (fun hp7 y6 ht8 by6 => ?_)
          obtain ⟨by61, hlm1, hlm2⟩ := by6
          refine r_istore (pc := 49) (lv' := [(7, .int (iv y6)), (0, .ref ga), (1, .ref n), (2, .long w35_2), (4, .long w35_4), (6, .int (iv v35_6))]) dX8_lightArcs_49 (by decide) rfl ?_
          refine r_iload (pc := 51) dX8_lightArcs_51 rfl ?_
          refine t_if_lt (pc := 53) (tgt := 101) dX8_lightArcs_53 (by decide) (by omega) (fun c53 => ?_) (fun c53 => ?_)
          · have hlk : lkD w35_2 gm (v35_6 + 1) := lkd_n (hlm1 (by omega))
            refine r_iinc (pc := 101) (v := iv (v35_6 + 1)) (lv' := [(6, .int (iv (v35_6 + 1))), (7, .int (iv y6)), (0, .ref ga), (1, .ref n), (2, .long w35_2), (4, .long w35_4)]) dX8_lightArcs_101 rfl (iv_add _ _) (by decide) rfl ?_
            refine r_goto (pc := 104) (tgt := 35) dX8_lightArcs_104 (by decide) ?_
            refine Rn.pick (lv' := [(0, .ref ga), (1, .ref n), (2, .long w35_2), (4, .long w35_4), (6, .int (iv (v35_6 + 1)))]) [2, 3, 4, 5, 0] rfl ?_
            exact ih35 (Int.toNat (60 - (v35_6 + 1))) (by omega) Rw35 _ ht8 (v35_6 + 1) w35_2 w35_4 ⟨by omega, by omega, by omega, by (first | exact hR84 | assumption), by (first | exact hlg | assumption | exact lgc_0 hrg_W mel_0 mel_0 (fun v hv => (by assumption : idR Rw9 v9_2) v (by omega))), by (first | exact hlk | exact lkd_0)⟩ (by omega)
          · have hlm := hlm2 (by omega)
            refine r_lload_n (pc := 56) dX8_lightArcs_56 (i := 2) rfl rfl ?_
            refine r_lconst (pc := 57) (v := 1) dX8_lightArcs_57 (by decide) ?_
            have hk57 : (1 : Int64).toInt = 1 := by decide
            refine r_iload (pc := 58) dX8_lightArcs_58 rfl ?_
            refine r_lshl (pc := 60) dX8_lightArcs_60 ?_
            refine r_lor (pc := 61) (v := w35_2 ||| ((1 : Int64) <<< ((iv y6).toInt64 &&& 63))) dX8_lightArcs_61 rfl ?_
            have hL61 : ∀ i, MeL (w35_2 ||| ((1 : Int64) <<< ((iv y6).toInt64 &&& 63))) i ↔ MeL w35_2 i ∨ i = Int.toNat y6 := fun i => mel_o1 w35_2 (by omega) i
            have hlk := lkd_y (by assumption : lkD w35_2 gm v35_6) hL61 hlm.1.2 hlm.1.1
            have hft9 := hFT (Int.toNat y6) (by omega)
            refine r_lstore_n (pc := 62) (lv' := [(2, .long (w35_2 ||| ((1 : Int64) <<< ((iv y6).toInt64 &&& 63)))), (7, .int (iv y6)), (0, .ref ga), (1, .ref n), (4, .long w35_4), (6, .int (iv v35_6))]) dX8_lightArcs_62 (i := 2) rfl (by decide) rfl ?_
            refine r_lload (pc := 63) dX8_lightArcs_63 rfl ?_
            refine r_aload_n (pc := 65) dX8_lightArcs_65 (i := 1) rfl rfl ?_
            refine r_aload_n (pc := 66) dX8_lightArcs_66 (i := 1) rfl rfl ?_
            refine r_aload_n (pc := 67) dX8_lightArcs_67 (i := 0) rfl rfl ?_
            refine t_getE (pc := 68) (.ref gF) ht8 (rd_ov (by omega) (rd_ext hE3 hg_O)) fX8_72 dX8_lightArcs_68 rfl ?_
            refine r_iload (pc := 71) dX8_lightArcs_71 rfl ?_
            refine t_ialdX (pc := 73) (t0 := 0) ht8 (rd_ov (by omega) (rd_ext hE3 hxg_F)) dX8_lightArcs_73 rfl (by omega) (by omega) (fun b9 => ?_)
            have rb9 := (show Rfx gm 0 ((gn : Int) - 1) F by assumption) (Int.toNat y6) (by omega)
            refine t_ialdX (pc := 74) (t0 := 0) ht8 (rd_of (ov_s _ _ _)) dX8_lightArcs_74 rfl (by omega) (by omega) (fun b10 => ?_)
            have rb10 := (show Rfx gn 0 15 Rw35 by assumption) (Int.toNat (F (Int.toNat y6))) (by omega)
            refine r_aload_n (pc := 75) dX8_lightArcs_75 (i := 1) rfl rfl ?_
            refine r_aload_n (pc := 76) dX8_lightArcs_76 (i := 0) rfl rfl ?_
            refine t_getE (pc := 77) (.ref gT) ht8 (rd_ov (by omega) (rd_ext hE3 hg_O)) fX8_75 dX8_lightArcs_77 rfl ?_
            refine r_iload (pc := 80) dX8_lightArcs_80 rfl ?_
            refine t_ialdX (pc := 82) (t0 := 0) ht8 (rd_ov (by omega) (rd_ext hE3 hxg_T)) dX8_lightArcs_82 rfl (by omega) (by omega) (fun b11 => ?_)
            have rb11 := (show Rfx gm 0 ((gn : Int) - 1) T by assumption) (Int.toNat y6) (by omega)
            refine t_ialdX (pc := 83) (t0 := 0) ht8 (rd_of (ov_s _ _ _)) dX8_lightArcs_83 rfl (by omega) (by omega) (fun b12 => ?_)
            have rb12 := (show Rfx gn 0 15 Rw35 by assumption) (Int.toNat (T (Int.toNat y6))) (by omega)
            refine r_callS (pc := 84) (as := [.ref n, .int (iv (Rw35 (Int.toNat (F (Int.toNat y6))))), .int (iv (Rw35 (Int.toNat (T (Int.toNat y6)))))]) (st := [.long w35_4]) kX8_104 dX8_lightArcs_84 (c_X8_unitex (d := d - 1) (x1 := Rw35 (Int.toNat (F (Int.toNat y6)))) (x2 := Rw35 (Int.toNat (T (Int.toNat y6)))) (by omega) (by assumption : Rfx gn 0 15 Rw35) (by omega) ht8 (by omega) (by omega)) rfl (by omega) (Nat.le_of_ble_eq_true rfl) (Nat.zero_le _) (Nat.zero_le _) rfl (fun r13 hp14 n15 q16 => ?_)
            obtain ⟨hnn15, v84, fc84, hrr13, ht17, hq84⟩ := q16
            subst n15 r13
            have bv84 : 0 ≤ v84 ∧ v84 ≤ 1 := by rcases hq84 with ⟨e9, -⟩ | ⟨e9, -⟩ <;> omega
            change Rn _ _ _ 87 _ [.int (iv v84), .long w35_4] _ _ _ _ _
            refine t_if_eq (pc := 87) (tgt := 97) dX8_lightArcs_87 (by decide) (by omega) (fun c87 => ?_) (fun c87 => ?_)
            · obtain ⟨-, he84, hf84⟩ := hq84.resolve_right (fun g9 => by have := g9.1; omega)
              have hR84 : Rfx gn 0 15 fc84 := by rw [hf84]; assumption
              refine r_lconst (pc := 97) (v := 0) dX8_lightArcs_97 (by decide) ?_
              have hk97 : (0 : Int64).toInt = 0 := by decide
              refine r_lor (pc := 98) (v := w35_4 ||| (0 : Int64)) dX8_lightArcs_98 rfl ?_
              have hlg : lgC gm F T W gn (MeL (w35_2 ||| ((1 : Int64) <<< ((iv y6).toInt64 &&& 63)))) (MeL (w35_4 ||| (0 : Int64))) fc84 := by rw [hf84]; exact lgc_cg (lgc_eq hrg_W (by assumption : lgC gm F T W gn (MeL w35_2) (MeL w35_4) Rw35) hlm hL61 ⟨by omega, by omega⟩ he84) (fun j => mel_o0 w35_4 j)
              refine r_lstore (pc := 99) (lv' := [(4, .long (w35_4 ||| (0 : Int64))), (2, .long (w35_2 ||| ((1 : Int64) <<< ((iv y6).toInt64 &&& 63)))), (7, .int (iv y6)), (0, .ref ga), (1, .ref n), (6, .int (iv v35_6))]) dX8_lightArcs_99 (by decide) rfl ?_
              refine r_iinc (pc := 101) (v := iv (v35_6 + 1)) (lv' := [(6, .int (iv (v35_6 + 1))), (4, .long (w35_4 ||| (0 : Int64))), (2, .long (w35_2 ||| ((1 : Int64) <<< ((iv y6).toInt64 &&& 63)))), (7, .int (iv y6)), (0, .ref ga), (1, .ref n)]) dX8_lightArcs_101 rfl (iv_add _ _) (by decide) rfl ?_
              refine r_goto (pc := 104) (tgt := 35) dX8_lightArcs_104 (by decide) ?_
              refine Rn.pick (lv' := [(0, .ref ga), (1, .ref n), (2, .long (w35_2 ||| ((1 : Int64) <<< ((iv y6).toInt64 &&& 63)))), (4, .long (w35_4 ||| (0 : Int64))), (6, .int (iv (v35_6 + 1)))]) [4, 5, 2, 1, 0] rfl ?_
              exact ih35 (Int.toNat (60 - (v35_6 + 1))) (by omega) fc84 _ ht17 (v35_6 + 1) (w35_2 ||| ((1 : Int64) <<< ((iv y6).toInt64 &&& 63))) (w35_4 ||| (0 : Int64)) ⟨by omega, by omega, by omega, by (first | exact hR84 | assumption), by (first | exact hlg | assumption | exact lgc_0 hrg_W mel_0 mel_0 (fun v hv => (by assumption : idR Rw9 v9_2) v (by omega))), by (first | exact hlk | exact lkd_0)⟩ (by omega)
            · obtain ⟨-, he84, hR84, hf84⟩ := hq84.resolve_left (fun g9 => by have := g9.1; omega)
              refine r_lconst (pc := 90) (v := 1) dX8_lightArcs_90 (by decide) ?_
              have hk90 : (1 : Int64).toInt = 1 := by decide
              refine r_iload (pc := 91) dX8_lightArcs_91 rfl ?_
              refine r_lshl (pc := 93) dX8_lightArcs_93 ?_
              refine r_goto (pc := 94) (tgt := 98) dX8_lightArcs_94 (by decide) ?_
              refine r_lor (pc := 98) (v := w35_4 ||| ((1 : Int64) <<< ((iv y6).toInt64 &&& 63))) dX8_lightArcs_98 rfl ?_
              have hlg : lgC gm F T W gn (MeL (w35_2 ||| ((1 : Int64) <<< ((iv y6).toInt64 &&& 63)))) (MeL (w35_4 ||| ((1 : Int64) <<< ((iv y6).toInt64 &&& 63)))) fc84 := lgc_ne hrg_W (by assumption : lgC gm F T W gn (MeL w35_2) (MeL w35_4) Rw35) hlm hL61 (fun j => mel_o1 w35_4 (by omega) j) ⟨by omega, by omega⟩ he84 hf84
              refine r_lstore (pc := 99) (lv' := [(4, .long (w35_4 ||| ((1 : Int64) <<< ((iv y6).toInt64 &&& 63)))), (2, .long (w35_2 ||| ((1 : Int64) <<< ((iv y6).toInt64 &&& 63)))), (7, .int (iv y6)), (0, .ref ga), (1, .ref n), (6, .int (iv v35_6))]) dX8_lightArcs_99 (by decide) rfl ?_
              refine r_iinc (pc := 101) (v := iv (v35_6 + 1)) (lv' := [(6, .int (iv (v35_6 + 1))), (4, .long (w35_4 ||| ((1 : Int64) <<< ((iv y6).toInt64 &&& 63)))), (2, .long (w35_2 ||| ((1 : Int64) <<< ((iv y6).toInt64 &&& 63)))), (7, .int (iv y6)), (0, .ref ga), (1, .ref n)]) dX8_lightArcs_101 rfl (iv_add _ _) (by decide) rfl ?_
              refine r_goto (pc := 104) (tgt := 35) dX8_lightArcs_104 (by decide) ?_
              refine Rn.pick (lv' := [(0, .ref ga), (1, .ref n), (2, .long (w35_2 ||| ((1 : Int64) <<< ((iv y6).toInt64 &&& 63)))), (4, .long (w35_4 ||| ((1 : Int64) <<< ((iv y6).toInt64 &&& 63)))), (6, .int (iv (v35_6 + 1)))]) [4, 5, 2, 1, 0] rfl ?_
              exact ih35 (Int.toNat (60 - (v35_6 + 1))) (by omega) fc84 _ ht17 (v35_6 + 1) (w35_2 ||| ((1 : Int64) <<< ((iv y6).toInt64 &&& 63))) (w35_4 ||| ((1 : Int64) <<< ((iv y6).toInt64 &&& 63))) ⟨by omega, by omega, by omega, by (first | exact hR84 | assumption), by (first | exact hlg | assumption | exact lgc_0 hrg_W mel_0 mel_0 (fun v hv => (by assumption : idR Rw9 v9_2) v (by omega))), by (first | exact hlk | exact lkd_0)⟩ (by omega)
      refine Rn.pick (lv' := [(0, .ref ga), (1, .ref n), (2, .long (0 : Int64)), (4, .long (0 : Int64)), (6, .int (iv 0))]) [3, 4, 2, 1, 0] rfl ?_
      exact B35 (Int.toNat (60 - 0)) Rw9 _ ht9 0 (0 : Int64) (0 : Int64) ⟨by omega, by omega, by omega, by (first | exact hR84 | assumption), by (first | exact hlg | assumption | exact lgc_0 hrg_W mel_0 mel_0 (fun v hv => (by assumption : idR Rw9 v9_2) v (by omega))), by (first | exact hlk | exact lkd_0)⟩ (by omega)
    · refine r_aload_n (pc := 17) dX8_lightArcs_17 (i := 1) rfl rfl ?_
      refine r_iload_n (pc := 18) dX8_lightArcs_18 (i := 2) rfl rfl ?_
      refine r_iload_n (pc := 19) dX8_lightArcs_19 (i := 2) rfl rfl ?_
      refine t_iastX (pc := 20) (t0 := 0) ht9 (ov_s _ _ _) dX8_lightArcs_20 rfl (by omega) (by omega) (by omega) (fun hp18 ht19 => ?_)
      rw [ov_ov] at ht19
      have hR20 : Rfx gn 0 15 (fup Rw9 (Int.toNat v9_2) v9_2) := Rfx_up (by assumption) (by omega)
      have hid := idr_up (by assumption : idR Rw9 v9_2) (by omega)
      refine r_iinc (pc := 21) (v := iv (v9_2 + 1)) (lv' := [(2, .int (iv (v9_2 + 1))), (0, .ref ga), (1, .ref n)]) dX8_lightArcs_21 rfl (iv_add _ _) (by decide) rfl ?_
      refine r_goto (pc := 24) (tgt := 9) dX8_lightArcs_24 (by decide) ?_
      refine Rn.pick (lv' := [(0, .ref ga), (1, .ref n), (2, .int (iv (v9_2 + 1)))]) [1, 2, 0] rfl ?_
      exact ih9 (Int.toNat (16 - (v9_2 + 1))) (by omega) (fup Rw9 (Int.toNat v9_2) v9_2) _ ht19 (v9_2 + 1) ⟨by omega, by omega, by omega, by (first | exact hR20 | exact hR0), by (first | exact hid | exact idr_0)⟩ (by omega)
  refine Rn.pick (lv' := [(0, .ref ga), (1, .ref n), (2, .int (iv 0))]) [2, 1, 0] rfl ?_
  exact B9 (Int.toNat (16 - 0)) Rw0 _ t7 0 ⟨by omega, by omega, by omega, by (first | exact hR20 | exact hR0), by (first | exact hid | exact idr_0)⟩ (by omega)
