def TyC (Γ : TG) (cI cJ cZ : ClassId) (a : Nat) (M : Nat) (n : Nat) : Prop := rd Γ a (tO 0 [fE (.int (iv (n : Int))), fE (.ref M)]) ∧ rd Γ M (tJ cJ n anyJ) ∧ (1 ≤ n ∧ n ≤ 16)
theorem TyC.ext {Γ Γ1 : TG} {cI cJ cZ : ClassId} {a : Nat} {M : Nat} {n : Nat} (hE : Ext Γ Γ1) (h : TyC Γ cI cJ cZ a M n) : TyC Γ1 cI cJ cZ a M n := ⟨rd_ext hE h.1, rd_ext hE h.2.1, h.2.2⟩
def TyCw (Γ : TG) (cI cJ cZ : ClassId) (a : Nat) (M : Nat) (n : Nat) : Prop := rd Γ a (tO 0 [fE (.int (iv (n : Int))), fE (.ref M)]) ∧ Γ M = some (tJ cJ n anyJ) ∧ (1 ≤ n ∧ n ≤ 16)
theorem TyCw.ext {Γ Γ1 : TG} {cI cJ cZ : ClassId} {a : Nat} {M : Nat} {n : Nat} (hE : Ext Γ Γ1) (h : TyCw Γ cI cJ cZ a M n) : TyCw Γ1 cI cJ cZ a M n := ⟨rd_ext hE h.1, hE _ _ h.2.1, h.2.2⟩
set_option maxHeartbeats 4000000 in
set_option maxRecDepth 100000 in
theorem t_X3_detail {D : va_G} {cI cJ cZ cT : ClassId} {lo b L : Nat} {xs : Nat → Int32} {hp : MH} {n d : Nat} {Γ : TG} {ga : Nat} {gF : Nat} {gT : Nat} {gW : Nat} {gC : Nat} {gTl : Nat} {gHd : Nat} {gBy : Nat} {gOu : Nat} {gIn : Nat} {gJo : Nat} {gn : Nat} {gm : Nat} {gq : Nat} {gdr : Int} {x1 x2 : Int} (hd0 : 0 ≤ d) (hg : TyG Γ cI cJ cZ ga gF gT gW gC gTl gHd gBy gOu gIn gJo gn gm gq gdr) (ht : Tw Γ hp) (hx1 : 0 ≤ x1 ∧ x1 ≤ 6) (hx2 : (-2147483648) ≤ x2 ∧ x2 ≤ 2147483647) (hk : 3 ≤ x1 → 0 ≤ x2 ∧ x2 < (gm : Int)) : Mt (gG D cI cJ cZ cT lo b L xs) mX3_detail d 0 0 [.ref ga, .int (iv x1), .int (iv x2)] hp n (pR Γ n (-2147483648) 2147483647) := by
  obtain ⟨hg_O, hg_from, hg_to, hg_weight, hg_cost, hg_tail, hg_head, hg_by, hg_out, hg_in, hg_joined, hg_b⟩ := id hg
  refine Mt.of rfl (Nat.le_of_ble_eq_true rfl) ?_
  refine Rn.pick (lv' := [(0, .ref ga), (1, .int (iv x1)), (2, .int (iv x2))]) [0, 1, 2] rfl ?_
  refine r_iload_n (pc := 0) dX3_detail_0 (i := 1) rfl rfl ?_
  by_cases c1 : x1 = 0
  · refine r_tableIn (pc := 1) (off := 39) (tgt := 40) dX3_detail_1 (by rw [iv_toInt (by omega) (by omega)]; omega) (by rw [iv_toInt (by omega) (by omega)]; omega) (by rw [iv_toInt (by omega) (by omega), c1]; decide) (by decide) ?_
    refine r_aload_n (pc := 40) dX3_detail_40 (i := 0) rfl rfl ?_
    refine t_getE (pc := 41) (.int (iv (gn : Int))) ht hg_O fX3_49 dX3_detail_41 rfl ?_
    exact r_iret (pc := 44) dX3_detail_44 rfl ⟨rfl, ht, _, rfl, by omega, by omega⟩
  by_cases c2 : x1 = 1
  · refine r_tableIn (pc := 1) (off := 44) (tgt := 45) dX3_detail_1 (by rw [iv_toInt (by omega) (by omega)]; omega) (by rw [iv_toInt (by omega) (by omega)]; omega) (by rw [iv_toInt (by omega) (by omega), c2]; decide) (by decide) ?_
    refine r_aload_n (pc := 45) dX3_detail_45 (i := 0) rfl rfl ?_
    refine t_getE (pc := 46) (.int (iv (gm : Int))) ht hg_O fX3_25 dX3_detail_46 rfl ?_
    exact r_iret (pc := 49) dX3_detail_49 rfl ⟨rfl, ht, _, rfl, by omega, by omega⟩
  by_cases c3 : x1 = 2
  · refine r_tableIn (pc := 1) (off := 49) (tgt := 50) dX3_detail_1 (by rw [iv_toInt (by omega) (by omega)]; omega) (by rw [iv_toInt (by omega) (by omega)]; omega) (by rw [iv_toInt (by omega) (by omega), c3]; decide) (by decide) ?_
    refine r_aload_n (pc := 50) dX3_detail_50 (i := 0) rfl rfl ?_
    refine t_getE (pc := 51) (.int (iv gdr)) ht hg_O fX3_19 dX3_detail_51 rfl ?_
    have B62 : ∀ hp62 : MH, Tw Γ hp62 → ∀  (u62_0 : Int), 0 ≤ u62_0 ∧ u62_0 ≤ 1 → Rn (gG D cI cJ cZ cT lo b L xs) mX3_detail d 62 [] [.int (iv u62_0)] hp62 n 0 0 (pR Γ n (-2147483648) 2147483647) := by
      intro hp62 ht62 u62_0 hf62
      exact r_iret (pc := 62) dX3_detail_62 rfl ⟨rfl, ht62, _, rfl, by omega, by omega⟩
    refine t_if_eq (pc := 54) (tgt := 61) dX3_detail_54 (by decide) (by omega) (fun c54 => ?_) (fun c54 => ?_)
    · refine r_iconst (pc := 61) (v := iv 0) dX3_detail_61 (by decide) ?_
      refine Rn.pick (lv' := []) [] rfl ?_
      exact B62 _ ht 0 ⟨by omega, by omega⟩
    · refine r_iconst (pc := 57) (v := iv 1) dX3_detail_57 (by decide) ?_
      refine r_goto (pc := 58) (tgt := 62) dX3_detail_58 (by decide) ?_
      refine Rn.pick (lv' := []) [] rfl ?_
      exact B62 _ ht 1 ⟨by omega, by omega⟩
  by_cases c4 : x1 = 3
  · refine r_tableIn (pc := 1) (off := 62) (tgt := 63) dX3_detail_1 (by rw [iv_toInt (by omega) (by omega)]; omega) (by rw [iv_toInt (by omega) (by omega)]; omega) (by rw [iv_toInt (by omega) (by omega), c4]; decide) (by decide) ?_
    refine r_aload_n (pc := 63) dX3_detail_63 (i := 0) rfl rfl ?_
    refine t_getE (pc := 64) (.ref gF) ht hg_O fX3_36 dX3_detail_64 rfl ?_
    refine r_iload_n (pc := 67) dX3_detail_67 (i := 2) rfl rfl ?_
    refine t_ialdR (pc := 68) (t0 := 0) ht hg_from dX3_detail_68 rfl (by omega) (by omega) (fun y5 by5 => ?_)
    exact r_iret (pc := 69) dX3_detail_69 rfl ⟨rfl, ht, _, rfl, by omega, by omega⟩
  by_cases c6 : x1 = 4
  · refine r_tableIn (pc := 1) (off := 69) (tgt := 70) dX3_detail_1 (by rw [iv_toInt (by omega) (by omega)]; omega) (by rw [iv_toInt (by omega) (by omega)]; omega) (by rw [iv_toInt (by omega) (by omega), c6]; decide) (by decide) ?_
    refine r_aload_n (pc := 70) dX3_detail_70 (i := 0) rfl rfl ?_
    refine t_getE (pc := 71) (.ref gT) ht hg_O fX3_40 dX3_detail_71 rfl ?_
    refine r_iload_n (pc := 74) dX3_detail_74 (i := 2) rfl rfl ?_
    refine t_ialdR (pc := 75) (t0 := 0) ht hg_to dX3_detail_75 rfl (by omega) (by omega) (fun y7 by7 => ?_)
    exact r_iret (pc := 76) dX3_detail_76 rfl ⟨rfl, ht, _, rfl, by omega, by omega⟩
  by_cases c8 : x1 = 5
  · refine r_tableIn (pc := 1) (off := 76) (tgt := 77) dX3_detail_1 (by rw [iv_toInt (by omega) (by omega)]; omega) (by rw [iv_toInt (by omega) (by omega)]; omega) (by rw [iv_toInt (by omega) (by omega), c8]; decide) (by decide) ?_
    refine r_aload_n (pc := 77) dX3_detail_77 (i := 0) rfl rfl ?_
    refine t_getE (pc := 78) (.ref gW) ht hg_O fX3_44 dX3_detail_78 rfl ?_
    refine r_iload_n (pc := 81) dX3_detail_81 (i := 2) rfl rfl ?_
    refine t_ialdR (pc := 82) (t0 := 0) ht hg_weight dX3_detail_82 rfl (by omega) (by omega) (fun y9 by9 => ?_)
    exact r_iret (pc := 83) dX3_detail_83 rfl ⟨rfl, ht, _, rfl, by omega, by omega⟩
  refine r_tableOut (pc := 1) (tgt := 84) dX3_detail_1 (by rw [iv_toInt (by omega) (by omega)]; omega) (by decide) ?_
  refine r_aload_n (pc := 84) dX3_detail_84 (i := 0) rfl rfl ?_
  refine t_getE (pc := 85) (.ref gC) ht hg_O fX3_48 dX3_detail_85 rfl ?_
  refine r_iload_n (pc := 88) dX3_detail_88 (i := 2) rfl rfl ?_
  refine t_ialdR (pc := 89) (t0 := 0) ht hg_cost dX3_detail_89 rfl (by omega) (by omega) (fun y10 by10 => ?_)
  exact r_iret (pc := 90) dX3_detail_90 rfl ⟨rfl, ht, _, rfl, by omega, by omega⟩
def pRu (Γ : TG) (n : Nat) (lo hi : Int) : Option Value → MH → Nat → Prop := fun r hp1 n1 => n ≤ n1 ∧ Tw Γ hp1 ∧ ∃ y : Int, r = some (.int (iv y)) ∧ lo ≤ y ∧ y ≤ hi
def pJu (Γ : TG) (n : Nat) : Option Value → MH → Nat → Prop := fun r hp1 n1 => n ≤ n1 ∧ Tw Γ hp1 ∧ ∃ y : Int64, r = some (.long y)
def pVu (Γ : TG) (n : Nat) : Option Value → MH → Nat → Prop := fun r hp1 n1 => n ≤ n1 ∧ Tw Γ hp1 ∧ r = none
set_option maxHeartbeats 4000000 in
set_option maxRecDepth 100000 in
theorem t_X8_ring {D : va_G} {cI cJ cZ cT : ClassId} {lo b L : Nat} {xs : Nat → Int32} {hp : MH} {n d : Nat} {Γ : TG} {ga : Nat} {gF : Nat} {gT : Nat} {gW : Nat} {gC : Nat} {gTl : Nat} {gHd : Nat} {gBy : Nat} {gOu : Nat} {gIn : Nat} {gJo : Nat} {gn : Nat} {gm : Nat} {gq : Nat} {gdr : Int} (hd0 : 4 ≤ d) (hg : TyG Γ cI cJ cZ ga gF gT gW gC gTl gHd gBy gOu gIn gJo gn gm gq gdr) (ht : Tw Γ hp) : Mt (gG D cI cJ cZ cT lo b L xs) mX8_ring d 1 gn [.ref ga] hp n (pRu Γ n 0 17) := by
  refine Mt.of rfl (Nat.le_of_ble_eq_true rfl) ?_
  refine Rn.pick (lv' := [(0, .ref ga)]) [0] rfl ?_
  obtain ⟨hg_O, hg_from, hg_to, hg_weight, hg_cost, hg_tail, hg_head, hg_by, hg_out, hg_in, hg_joined, hg_b⟩ := id hg
  refine r_aload_n (pc := 0) dX8_ring_0 (i := 0) rfl rfl ?_
  refine t_getE (pc := 1) (.int (iv gdr)) ht hg_O fX8_25 dX8_ring_1 rfl ?_
  refine t_if_eq (pc := 4) (tgt := 14) dX8_ring_4 (by decide) (by omega) (fun c4 => ?_) (fun c4 => ?_)
  · refine r_aload_n (pc := 14) dX8_ring_14 (i := 0) rfl rfl ?_
    refine t_callSRN (pc := 15) (as := [.ref ga]) (st := []) kX8_50 dX8_ring_15 (t_X8_undirectedRing (d := d - 1)  (by omega) hg  ht  ) rfl (by omega) (Nat.le_of_ble_eq_true rfl) rfl (by omega) (by omega) (fun hp1 y3 ht2 by3 => ?_)
    exact r_iret (pc := 18) dX8_ring_18 rfl ⟨by omega, ht2, _, rfl, by omega, by omega⟩
  · refine r_aload_n (pc := 7) dX8_ring_7 (i := 0) rfl rfl ?_
    refine t_callSR (pc := 8) (as := [.ref ga]) (st := []) kX8_46 dX8_ring_8 (t_X8_directedRing (d := d - 1)  (by omega) hg  ht  ) rfl (by omega) (Nat.le_of_ble_eq_true rfl) rfl (fun hp4 y6 ht5 by6 => ?_)
    refine r_goto (pc := 11) (tgt := 18) dX8_ring_11 (by decide) ?_
    exact r_iret (pc := 18) dX8_ring_18 rfl ⟨by omega, ht5, _, rfl, by omega, by omega⟩
set_option maxHeartbeats 4000000 in
set_option maxRecDepth 100000 in
theorem t_X0_total {D : va_G} {cI cJ cZ cT : ClassId} {lo b L : Nat} {xs : Nat → Int32} {hp : MH} {n d : Nat} {Γ : TG} {ca : Nat} {cM : Nat} {cn : Nat} (hd0 : 0 ≤ d) (hc : TyC Γ cI cJ cZ ca cM cn) (ht : Tw Γ hp)  : Mt (gG D cI cJ cZ cT lo b L xs) mX0_total d 0 0 [.ref ca] hp n (pJ Γ n yes64) := by
  obtain ⟨hc_O, hc_numbers, hc_b⟩ := id hc
  refine Mt.of rfl (Nat.le_of_ble_eq_true rfl) ?_
  refine Rn.pick (lv' := [(0, .ref ca)]) [0] rfl ?_
  refine r_lconst (pc := 0) (v := 0) dX0_total_0 (by decide) ?_
  refine r_lstore_n (pc := 1) (lv' := [(1, .long (0 : Int64)), (0, .ref ca)]) dX0_total_1 (i := 1) rfl (by decide) rfl ?_
  refine r_iconst (pc := 2) (v := iv 0) dX0_total_2 (by decide) ?_
  refine r_istore_n (pc := 3) (lv' := [(3, .int (iv 0)), (1, .long (0 : Int64)), (0, .ref ca)]) dX0_total_3 (i := 3) rfl (by decide) rfl ?_
  have B4 : ∀ k : Nat, ∀ hp4 : MH, Tw Γ hp4 → ∀  (v4_3 : Int) (w4_1 : Int64), 0 ≤ v4_3 ∧ v4_3 ≤ 16 → 16 - v4_3 ≤ (k : Int) → Rn (gG D cI cJ cZ cT lo b L xs) mX0_total d 4 [(0, .ref ca), (1, .long w4_1), (3, .int (iv v4_3))] [] hp4 n 0 0 (pJ Γ n yes64) := by
    refine lpS _ ?_
    intro k4 ih4 hp4 ht4 v4_3 w4_1 hf4 hm4
    refine r_iload_n (pc := 4) dX0_total_4 (i := 3) rfl rfl ?_
    refine r_aload_n (pc := 5) dX0_total_5 (i := 0) rfl rfl ?_
    refine t_getE (pc := 6) (.int (iv (cn : Int))) ht4 hc_O fX0_15 dX0_total_6 rfl ?_
    refine t_icmp_ge (pc := 9) (tgt := 27) dX0_total_9 (by decide) (by omega) (by omega) (fun c9 => ?_) (fun c9 => ?_)
    · refine r_lload_n (pc := 27) dX0_total_27 (i := 1) rfl rfl ?_
      exact r_lret (pc := 28) dX0_total_28 rfl ⟨rfl, ht4, _, rfl, trivial⟩
    · refine r_lload_n (pc := 12) dX0_total_12 (i := 1) rfl rfl ?_
      refine r_aload_n (pc := 13) dX0_total_13 (i := 0) rfl rfl ?_
      refine t_getE (pc := 14) (.ref cM) ht4 hc_O fX0_9 dX0_total_14 rfl ?_
      refine r_iload_n (pc := 17) dX0_total_17 (i := 3) rfl rfl ?_
      refine t_lald (pc := 18) (t0 := 1) ht4 hc_numbers dX0_total_18 rfl (by omega) (by omega) (fun w1 _ => ?_)
      refine r_ladd (pc := 19) (v := w4_1 + w1) dX0_total_19 rfl ?_
      refine r_lstore_n (pc := 20) (lv' := [(1, .long (w4_1 + w1)), (0, .ref ca), (3, .int (iv v4_3))]) dX0_total_20 (i := 1) rfl (by decide) rfl ?_
      refine r_iinc (pc := 21) (v := iv (v4_3 + 1)) (lv' := [(3, .int (iv (v4_3 + 1))), (1, .long (w4_1 + w1)), (0, .ref ca)]) dX0_total_21 rfl (iv_add _ _) (by decide) rfl ?_
      refine r_goto (pc := 24) (tgt := 4) dX0_total_24 (by decide) ?_
      refine Rn.pick (lv' := [(0, .ref ca), (1, .long (w4_1 + w1)), (3, .int (iv (v4_3 + 1)))]) [2, 1, 0] rfl ?_
      exact ih4 (Int.toNat (16 - (v4_3 + 1))) (by omega) _ ht4 (v4_3 + 1) (w4_1 + w1) ⟨by omega, by omega⟩ (by omega)
  refine Rn.pick (lv' := [(0, .ref ca), (1, .long (0 : Int64)), (3, .int (iv 0))]) [2, 1, 0] rfl ?_
  exact B4 (Int.toNat (16 - 0)) _ ht 0 (0 : Int64) ⟨by omega, by omega⟩ (by omega)
set_option maxHeartbeats 4000000 in
set_option maxRecDepth 100000 in
theorem t_X0_countEnds {D : va_G} {cI cJ cZ cT : ClassId} {lo b L : Nat} {xs : Nat → Int32} {hp : MH} {n d : Nat} {Γ : TG} {ga : Nat} {gF : Nat} {gT : Nat} {gW : Nat} {gC : Nat} {gTl : Nat} {gHd : Nat} {gBy : Nat} {gOu : Nat} {gIn : Nat} {gJo : Nat} {gn : Nat} {gm : Nat} {gq : Nat} {gdr : Int} {ca : Nat} {cM : Nat} {x2 x3 : Int} (hd0 : 0 ≤ d) (hg : TyG Γ cI cJ cZ ga gF gT gW gC gTl gHd gBy gOu gIn gJo gn gm gq gdr) (hc : TyCw Γ cI cJ cZ ca cM gn) (ht : Tw Γ hp) (hx2 : 0 ≤ x2 ∧ x2 ≤ 1) (hx3 : 0 ≤ x3 ∧ x3 ≤ 1) : Mt (gG D cI cJ cZ cT lo b L xs) mX0_countEnds d 0 0 [.ref ca, .ref ga, .int (iv x2), .int (iv x3)] hp n (pV Γ n) := by
  obtain ⟨hg_O, hg_from, hg_to, hg_weight, hg_cost, hg_tail, hg_head, hg_by, hg_out, hg_in, hg_joined, hg_b⟩ := id hg
  obtain ⟨hc_O, hc_numbers, hc_b⟩ := id hc
  refine Mt.of rfl (Nat.le_of_ble_eq_true rfl) ?_
  refine Rn.pick (lv' := [(0, .ref ca), (1, .ref ga), (2, .int (iv x2)), (3, .int (iv x3))]) [0, 1, 2, 3] rfl ?_
  refine r_iconst (pc := 0) (v := iv 0) dX0_countEnds_0 (by decide) ?_
  refine r_istore (pc := 1) (lv' := [(4, .int (iv 0)), (0, .ref ca), (1, .ref ga), (2, .int (iv x2)), (3, .int (iv x3))]) dX0_countEnds_1 (by decide) rfl ?_
  have B3 : ∀ k : Nat, ∀ hp3 : MH, Tw Γ hp3 → ∀  (v3_4 : Int), 0 ≤ v3_4 ∧ v3_4 ≤ 60 → 60 - v3_4 ≤ (k : Int) → Rn (gG D cI cJ cZ cT lo b L xs) mX0_countEnds d 3 [(0, .ref ca), (1, .ref ga), (2, .int (iv x2)), (3, .int (iv x3)), (4, .int (iv v3_4))] [] hp3 n 0 0 (pV Γ n) := by
    refine lpS _ ?_
    intro k3 ih3 hp3 ht3 v3_4 hf3 hm3
    refine r_iload (pc := 3) dX0_countEnds_3 rfl ?_
    refine r_aload_n (pc := 5) dX0_countEnds_5 (i := 1) rfl rfl ?_
    refine t_getE (pc := 6) (.int (iv (gm : Int))) ht3 hg_O fX0_54 dX0_countEnds_6 rfl ?_
    refine t_icmp_ge (pc := 9) (tgt := 58) dX0_countEnds_9 (by decide) (by omega) (by omega) (fun c9 => ?_) (fun c9 => ?_)
    · exact r_vret (pc := 58) dX0_countEnds_58 rfl ⟨rfl, ht3, rfl⟩
    · refine r_iload_n (pc := 12) dX0_countEnds_12 (i := 2) rfl rfl ?_
      have B32 : ∀ hp32 : MH, Tw Γ hp32 → True → Rn (gG D cI cJ cZ cT lo b L xs) mX0_countEnds d 32 [(0, .ref ca), (1, .ref ga), (2, .int (iv x2)), (3, .int (iv x3)), (4, .int (iv v3_4))] [] hp32 n 0 0 (pV Γ n) := by
        intro hp32 ht32 hf32
        refine r_iload_n (pc := 32) dX0_countEnds_32 (i := 3) rfl rfl ?_
        have B52 : ∀ hp52 : MH, Tw Γ hp52 → True → Rn (gG D cI cJ cZ cT lo b L xs) mX0_countEnds d 52 [(0, .ref ca), (1, .ref ga), (2, .int (iv x2)), (3, .int (iv x3)), (4, .int (iv v3_4))] [] hp52 n 0 0 (pV Γ n) := by
          intro hp52 ht52 hf52
          refine r_iinc (pc := 52) (v := iv (v3_4 + 1)) (lv' := [(4, .int (iv (v3_4 + 1))), (0, .ref ca), (1, .ref ga), (2, .int (iv x2)), (3, .int (iv x3))]) dX0_countEnds_52 rfl (iv_add _ _) (by decide) rfl ?_
          refine r_goto (pc := 55) (tgt := 3) dX0_countEnds_55 (by decide) ?_
          refine Rn.pick (lv' := [(0, .ref ca), (1, .ref ga), (2, .int (iv x2)), (3, .int (iv x3)), (4, .int (iv (v3_4 + 1)))]) [1, 2, 3, 4, 0] rfl ?_
          exact ih3 (Int.toNat (60 - (v3_4 + 1))) (by omega) _ ht52 (v3_4 + 1) ⟨by omega, by omega⟩ (by omega)
        refine t_if_eq (pc := 33) (tgt := 52) dX0_countEnds_33 (by decide) (by omega) (fun c33 => ?_) (fun c33 => ?_)
        · refine Rn.pick (lv' := [(0, .ref ca), (1, .ref ga), (2, .int (iv x2)), (3, .int (iv x3)), (4, .int (iv v3_4))]) [0, 1, 2, 3, 4] rfl ?_
          exact B52 _ ht32 trivial
        · refine r_aload_n (pc := 36) dX0_countEnds_36 (i := 0) rfl rfl ?_
          refine t_getE (pc := 37) (.ref cM) ht32 hc_O fX0_9 dX0_countEnds_37 rfl ?_
          refine r_aload_n (pc := 40) dX0_countEnds_40 (i := 1) rfl rfl ?_
          refine t_getE (pc := 41) (.ref gT) ht32 hg_O fX0_60 dX0_countEnds_41 rfl ?_
          refine r_iload (pc := 44) dX0_countEnds_44 rfl ?_
          refine t_ialdR (pc := 46) (t0 := 0) ht32 hg_to dX0_countEnds_46 rfl (by omega) (by omega) (fun y1 by1 => ?_)
          refine r_dup2_11 (pc := 47) dX0_countEnds_47 rfl rfl ?_
          refine t_lald (pc := 48) (t0 := 1) ht32 (rd_of hc_numbers) dX0_countEnds_48 rfl (by omega) (by omega) (fun w2 _ => ?_)
          refine r_lconst (pc := 49) (v := 1) dX0_countEnds_49 (by decide) ?_
          refine r_ladd (pc := 50) (v := w2 + (1 : Int64)) dX0_countEnds_50 rfl ?_
          refine t_last (pc := 51) (t0 := 1) ht32 hc_numbers dX0_countEnds_51 rfl (by omega) (by omega) trivial (fun hp3 ht4 => ?_)
          refine Rn.pick (lv' := [(0, .ref ca), (1, .ref ga), (2, .int (iv x2)), (3, .int (iv x3)), (4, .int (iv v3_4))]) [0, 1, 2, 3, 4] rfl ?_
          exact B52 _ ht4 trivial
      refine t_if_eq (pc := 13) (tgt := 32) dX0_countEnds_13 (by decide) (by omega) (fun c13 => ?_) (fun c13 => ?_)
      · refine Rn.pick (lv' := [(0, .ref ca), (1, .ref ga), (2, .int (iv x2)), (3, .int (iv x3)), (4, .int (iv v3_4))]) [0, 1, 2, 3, 4] rfl ?_
        exact B32 _ ht3 trivial
      · refine r_aload_n (pc := 16) dX0_countEnds_16 (i := 0) rfl rfl ?_
        refine t_getE (pc := 17) (.ref cM) ht3 hc_O fX0_9 dX0_countEnds_17 rfl ?_
        refine r_aload_n (pc := 20) dX0_countEnds_20 (i := 1) rfl rfl ?_
        refine t_getE (pc := 21) (.ref gF) ht3 hg_O fX0_57 dX0_countEnds_21 rfl ?_
        refine r_iload (pc := 24) dX0_countEnds_24 rfl ?_
        refine t_ialdR (pc := 26) (t0 := 0) ht3 hg_from dX0_countEnds_26 rfl (by omega) (by omega) (fun y5 by5 => ?_)
        refine r_dup2_11 (pc := 27) dX0_countEnds_27 rfl rfl ?_
        refine t_lald (pc := 28) (t0 := 1) ht3 (rd_of hc_numbers) dX0_countEnds_28 rfl (by omega) (by omega) (fun w6 _ => ?_)
        refine r_lconst (pc := 29) (v := 1) dX0_countEnds_29 (by decide) ?_
        refine r_ladd (pc := 30) (v := w6 + (1 : Int64)) dX0_countEnds_30 rfl ?_
        refine t_last (pc := 31) (t0 := 1) ht3 hc_numbers dX0_countEnds_31 rfl (by omega) (by omega) trivial (fun hp7 ht8 => ?_)
        refine Rn.pick (lv' := [(0, .ref ca), (1, .ref ga), (2, .int (iv x2)), (3, .int (iv x3)), (4, .int (iv v3_4))]) [0, 1, 2, 3, 4] rfl ?_
        exact B32 _ ht8 trivial
  refine Rn.pick (lv' := [(0, .ref ca), (1, .ref ga), (2, .int (iv x2)), (3, .int (iv x3)), (4, .int (iv 0))]) [1, 2, 3, 4, 0] rfl ?_
  exact B3 (Int.toNat (60 - 0)) _ ht 0 ⟨by omega, by omega⟩ (by omega)
set_option maxHeartbeats 4000000 in
set_option maxRecDepth 100000 in
theorem t_X0_sumWeights {D : va_G} {cI cJ cZ cT : ClassId} {lo b L : Nat} {xs : Nat → Int32} {hp : MH} {n d : Nat} {Γ : TG} {ga : Nat} {gF : Nat} {gT : Nat} {gW : Nat} {gC : Nat} {gTl : Nat} {gHd : Nat} {gBy : Nat} {gOu : Nat} {gIn : Nat} {gJo : Nat} {gn : Nat} {gm : Nat} {gq : Nat} {gdr : Int} {ca : Nat} {cM : Nat} (hd0 : 0 ≤ d) (hg : TyG Γ cI cJ cZ ga gF gT gW gC gTl gHd gBy gOu gIn gJo gn gm gq gdr) (hc : TyCw Γ cI cJ cZ ca cM gn) (ht : Tw Γ hp)  : Mt (gG D cI cJ cZ cT lo b L xs) mX0_sumWeights d 0 0 [.ref ca, .ref ga] hp n (pV Γ n) := by
  obtain ⟨hg_O, hg_from, hg_to, hg_weight, hg_cost, hg_tail, hg_head, hg_by, hg_out, hg_in, hg_joined, hg_b⟩ := id hg
  obtain ⟨hc_O, hc_numbers, hc_b⟩ := id hc
  refine Mt.of rfl (Nat.le_of_ble_eq_true rfl) ?_
  refine Rn.pick (lv' := [(0, .ref ca), (1, .ref ga)]) [0, 1] rfl ?_
  refine r_iconst (pc := 0) (v := iv 0) dX0_sumWeights_0 (by decide) ?_
  refine r_istore_n (pc := 1) (lv' := [(2, .int (iv 0)), (0, .ref ca), (1, .ref ga)]) dX0_sumWeights_1 (i := 2) rfl (by decide) rfl ?_
  have B2 : ∀ k : Nat, ∀ hp2 : MH, Tw Γ hp2 → ∀  (v2_2 : Int), 0 ≤ v2_2 ∧ v2_2 ≤ 120 → 120 - v2_2 ≤ (k : Int) → Rn (gG D cI cJ cZ cT lo b L xs) mX0_sumWeights d 2 [(0, .ref ca), (1, .ref ga), (2, .int (iv v2_2))] [] hp2 n 0 0 (pV Γ n) := by
    refine lpS _ ?_
    intro k2 ih2 hp2 ht2 v2_2 hf2 hm2
    refine r_iload_n (pc := 2) dX0_sumWeights_2 (i := 2) rfl rfl ?_
    refine r_aload_n (pc := 3) dX0_sumWeights_3 (i := 1) rfl rfl ?_
    refine t_getE (pc := 4) (.int (iv (gq : Int))) ht2 hg_O fX0_63 dX0_sumWeights_4 rfl ?_
    refine t_icmp_ge (pc := 7) (tgt := 42) dX0_sumWeights_7 (by decide) (by omega) (by omega) (fun c7 => ?_) (fun c7 => ?_)
    · exact r_vret (pc := 42) dX0_sumWeights_42 rfl ⟨rfl, ht2, rfl⟩
    · refine r_aload_n (pc := 10) dX0_sumWeights_10 (i := 0) rfl rfl ?_
      refine t_getE (pc := 11) (.ref cM) ht2 hc_O fX0_9 dX0_sumWeights_11 rfl ?_
      refine r_aload_n (pc := 14) dX0_sumWeights_14 (i := 1) rfl rfl ?_
      refine t_getE (pc := 15) (.ref gTl) ht2 hg_O fX0_66 dX0_sumWeights_15 rfl ?_
      refine r_iload_n (pc := 18) dX0_sumWeights_18 (i := 2) rfl rfl ?_
      refine t_ialdR (pc := 19) (t0 := 0) ht2 hg_tail dX0_sumWeights_19 rfl (by omega) (by omega) (fun y1 by1 => ?_)
      refine r_dup2_11 (pc := 20) dX0_sumWeights_20 rfl rfl ?_
      refine t_lald (pc := 21) (t0 := 1) ht2 (rd_of hc_numbers) dX0_sumWeights_21 rfl (by omega) (by omega) (fun w2 _ => ?_)
      refine r_aload_n (pc := 22) dX0_sumWeights_22 (i := 1) rfl rfl ?_
      refine t_getE (pc := 23) (.ref gW) ht2 hg_O fX0_69 dX0_sumWeights_23 rfl ?_
      refine r_aload_n (pc := 26) dX0_sumWeights_26 (i := 1) rfl rfl ?_
      refine t_getE (pc := 27) (.ref gBy) ht2 hg_O fX0_72 dX0_sumWeights_27 rfl ?_
      refine r_iload_n (pc := 30) dX0_sumWeights_30 (i := 2) rfl rfl ?_
      refine t_ialdR (pc := 31) (t0 := 0) ht2 hg_by dX0_sumWeights_31 rfl (by omega) (by omega) (fun y3 by3 => ?_)
      refine t_ialdR (pc := 32) (t0 := 0) ht2 hg_weight dX0_sumWeights_32 rfl (by omega) (by omega) (fun y4 by4 => ?_)
      refine r_i2l (pc := 33) (v := (iv y4).toInt64) dX0_sumWeights_33 rfl ?_
      refine r_ladd (pc := 34) (v := w2 + ((iv y4).toInt64)) dX0_sumWeights_34 rfl ?_
      refine t_last (pc := 35) (t0 := 1) ht2 hc_numbers dX0_sumWeights_35 rfl (by omega) (by omega) trivial (fun hp5 ht6 => ?_)
      refine r_iinc (pc := 36) (v := iv (v2_2 + 1)) (lv' := [(2, .int (iv (v2_2 + 1))), (0, .ref ca), (1, .ref ga)]) dX0_sumWeights_36 rfl (iv_add _ _) (by decide) rfl ?_
      refine r_goto (pc := 39) (tgt := 2) dX0_sumWeights_39 (by decide) ?_
      refine Rn.pick (lv' := [(0, .ref ca), (1, .ref ga), (2, .int (iv (v2_2 + 1)))]) [1, 2, 0] rfl ?_
      exact ih2 (Int.toNat (120 - (v2_2 + 1))) (by omega) _ ht6 (v2_2 + 1) ⟨by omega, by omega⟩ (by omega)
  refine Rn.pick (lv' := [(0, .ref ca), (1, .ref ga), (2, .int (iv 0))]) [1, 2, 0] rfl ?_
  exact B2 (Int.toNat (120 - 0)) _ ht 0 ⟨by omega, by omega⟩ (by omega)
set_option maxHeartbeats 4000000 in
set_option maxRecDepth 100000 in
theorem t_X0_countEndsWithin {D : va_G} {cI cJ cZ cT : ClassId} {lo b L : Nat} {xs : Nat → Int32} {hp : MH} {n d : Nat} {Γ : TG} {ga : Nat} {gF : Nat} {gT : Nat} {gW : Nat} {gC : Nat} {gTl : Nat} {gHd : Nat} {gBy : Nat} {gOu : Nat} {gIn : Nat} {gJo : Nat} {gn : Nat} {gm : Nat} {gq : Nat} {gdr : Int} {eA : Nat} {x1 : Int} (hd0 : 1 ≤ d) (hg : TyG Γ cI cJ cZ ga gF gT gW gC gTl gHd gBy gOu gIn gJo gn gm gq gdr) (heA : Γ eA = some (tI cI gn (rg (-2147483648) 2147483647))) (ht : Tw Γ hp) (hx1 : 0 ≤ x1 ∧ x1 ≤ 65535) : Mt (gG D cI cJ cZ cT lo b L xs) mX0_countEndsWithin d 0 0 [.ref ga, .int (iv x1), .ref eA] hp n (pV Γ n) := by
  obtain ⟨hg_O, hg_from, hg_to, hg_weight, hg_cost, hg_tail, hg_head, hg_by, hg_out, hg_in, hg_joined, hg_b⟩ := id hg
  refine Mt.of rfl (Nat.le_of_ble_eq_true rfl) ?_
  refine Rn.pick (lv' := [(0, .ref ga), (1, .int (iv x1)), (2, .ref eA)]) [0, 1, 2] rfl ?_
  refine r_aload_n (pc := 0) dX0_countEndsWithin_0 (i := 2) rfl rfl ?_
  refine r_iconst (pc := 1) (v := iv 0) dX0_countEndsWithin_1 (by decide) ?_
  refine t_fillI (pc := 2) ht heA kX0_89 dX0_countEndsWithin_2 (by omega) (by omega) (by omega) (by omega) (Nat.le_of_ble_eq_true rfl) (fun hp1 ht2 => ?_)
  refine r_iconst (pc := 5) (v := iv 0) dX0_countEndsWithin_5 (by decide) ?_
  refine r_istore_n (pc := 6) (lv' := [(3, .int (iv 0)), (0, .ref ga), (1, .int (iv x1)), (2, .ref eA)]) dX0_countEndsWithin_6 (i := 3) rfl (by decide) rfl ?_
  have B7 : ∀ k : Nat, ∀ hp7 : MH, Tw Γ hp7 → ∀  (v7_3 : Int), 0 ≤ v7_3 ∧ v7_3 ≤ 60 → 60 - v7_3 ≤ (k : Int) → Rn (gG D cI cJ cZ cT lo b L xs) mX0_countEndsWithin d 7 [(0, .ref ga), (1, .int (iv x1)), (2, .ref eA), (3, .int (iv v7_3))] [] hp7 n 0 0 (pV Γ n) := by
    refine lpS _ ?_
    intro k7 ih7 hp7 ht7 v7_3 hf7 hm7
    refine r_iload_n (pc := 7) dX0_countEndsWithin_7 (i := 3) rfl rfl ?_
    refine r_aload_n (pc := 8) dX0_countEndsWithin_8 (i := 0) rfl rfl ?_
    refine t_getE (pc := 9) (.int (iv (gm : Int))) ht7 hg_O fX0_54 dX0_countEndsWithin_9 rfl ?_
    refine t_icmp_ge (pc := 12) (tgt := 74) dX0_countEndsWithin_12 (by decide) (by omega) (by omega) (fun c12 => ?_) (fun c12 => ?_)
    · exact r_vret (pc := 74) dX0_countEndsWithin_74 rfl ⟨rfl, ht7, rfl⟩
    · refine r_aload_n (pc := 15) dX0_countEndsWithin_15 (i := 0) rfl rfl ?_
      refine t_getE (pc := 16) (.ref gF) ht7 hg_O fX0_57 dX0_countEndsWithin_16 rfl ?_
      refine r_iload_n (pc := 19) dX0_countEndsWithin_19 (i := 3) rfl rfl ?_
      refine t_ialdR (pc := 20) (t0 := 0) ht7 hg_from dX0_countEndsWithin_20 rfl (by omega) (by omega) (fun y3 by3 => ?_)
      refine r_istore (pc := 21) (lv' := [(4, .int (iv y3)), (0, .ref ga), (1, .int (iv x1)), (2, .ref eA), (3, .int (iv v7_3))]) dX0_countEndsWithin_21 (by decide) rfl ?_
      refine r_aload_n (pc := 23) dX0_countEndsWithin_23 (i := 0) rfl rfl ?_
      refine t_getE (pc := 24) (.ref gT) ht7 hg_O fX0_60 dX0_countEndsWithin_24 rfl ?_
      refine r_iload_n (pc := 27) dX0_countEndsWithin_27 (i := 3) rfl rfl ?_
      refine t_ialdR (pc := 28) (t0 := 0) ht7 hg_to dX0_countEndsWithin_28 rfl (by omega) (by omega) (fun y4 by4 => ?_)
      refine r_istore (pc := 29) (lv' := [(5, .int (iv y4)), (4, .int (iv y3)), (0, .ref ga), (1, .int (iv x1)), (2, .ref eA), (3, .int (iv v7_3))]) dX0_countEndsWithin_29 (by decide) rfl ?_
      refine r_iload (pc := 31) dX0_countEndsWithin_31 rfl ?_
      refine r_iload (pc := 33) dX0_countEndsWithin_33 rfl ?_
      have B68 : ∀ hp68 : MH, Tw Γ hp68 → True → Rn (gG D cI cJ cZ cT lo b L xs) mX0_countEndsWithin d 68 [(0, .ref ga), (1, .int (iv x1)), (2, .ref eA), (3, .int (iv v7_3))] [] hp68 n 0 0 (pV Γ n) := by
        intro hp68 ht68 hf68
        refine r_iinc (pc := 68) (v := iv (v7_3 + 1)) (lv' := [(3, .int (iv (v7_3 + 1))), (0, .ref ga), (1, .int (iv x1)), (2, .ref eA)]) dX0_countEndsWithin_68 rfl (iv_add _ _) (by decide) rfl ?_
        refine r_goto (pc := 71) (tgt := 7) dX0_countEndsWithin_71 (by decide) ?_
        refine Rn.pick (lv' := [(0, .ref ga), (1, .int (iv x1)), (2, .ref eA), (3, .int (iv (v7_3 + 1)))]) [1, 2, 3, 0] rfl ?_
        exact ih7 (Int.toNat (60 - (v7_3 + 1))) (by omega) _ ht68 (v7_3 + 1) ⟨by omega, by omega⟩ (by omega)
      refine t_icmp_eq (pc := 35) (tgt := 68) dX0_countEndsWithin_35 (by decide) (by omega) (by omega) (fun c35 => ?_) (fun c35 => ?_)
      · refine Rn.pick (lv' := [(0, .ref ga), (1, .int (iv x1)), (2, .ref eA), (3, .int (iv v7_3))]) [2, 3, 4, 5] rfl ?_
        exact B68 _ ht7 trivial
      · refine r_iload_n (pc := 38) dX0_countEndsWithin_38 (i := 1) rfl rfl ?_
        refine r_iload (pc := 39) dX0_countEndsWithin_39 rfl ?_
        obtain ⟨z5, hz5, bz5⟩ := shr_x x1 y3 (by omega) (by omega)
        refine r_ishr (pc := 41) (v := iv z5) dX0_countEndsWithin_41 hz5 ?_
        refine r_iload_n (pc := 42) dX0_countEndsWithin_42 (i := 1) rfl rfl ?_
        refine r_iload (pc := 43) dX0_countEndsWithin_43 rfl ?_
        obtain ⟨z6, hz6, bz6⟩ := shr_x x1 y4 (by omega) (by omega)
        refine r_ishr (pc := 45) (v := iv z6) dX0_countEndsWithin_45 hz6 ?_
        obtain ⟨z7, hz7, bz7⟩ := and_2 z5 z6 (by omega) (by omega)
        refine r_iand (pc := 46) (v := iv z7) dX0_countEndsWithin_46 hz7 ?_
        refine r_iconst (pc := 47) (v := iv 1) dX0_countEndsWithin_47 (by decide) ?_
        obtain ⟨z8, hz8, bz8⟩ := and_2 z7 1 (by omega) (by omega)
        refine r_iand (pc := 48) (v := iv z8) dX0_countEndsWithin_48 hz8 ?_
        refine t_if_eq (pc := 49) (tgt := 68) dX0_countEndsWithin_49 (by decide) (by omega) (fun c49 => ?_) (fun c49 => ?_)
        · refine Rn.pick (lv' := [(0, .ref ga), (1, .int (iv x1)), (2, .ref eA), (3, .int (iv v7_3))]) [2, 3, 4, 5] rfl ?_
          exact B68 _ ht7 trivial
        · refine r_aload_n (pc := 52) dX0_countEndsWithin_52 (i := 2) rfl rfl ?_
          refine r_iload (pc := 53) dX0_countEndsWithin_53 rfl ?_
          refine r_dup2_11 (pc := 55) dX0_countEndsWithin_55 rfl rfl ?_
          refine t_ialdR (pc := 56) (t0 := 0) ht7 (rd_of heA) dX0_countEndsWithin_56 rfl (by omega) (by omega) (fun y9 by9 => ?_)
          refine r_iconst (pc := 57) (v := iv 1) dX0_countEndsWithin_57 (by decide) ?_
          obtain ⟨z10, hz10, bz10⟩ := any_i (iv y9 + iv 1)
          refine r_iadd (pc := 58) (v := iv z10) dX0_countEndsWithin_58 hz10 ?_
          refine t_iastR (pc := 59) (t0 := 0) ht7 heA dX0_countEndsWithin_59 rfl (by omega) (by decide) (by omega) (by omega) (fun hp11 ht12 => ?_)
          refine r_aload_n (pc := 60) dX0_countEndsWithin_60 (i := 2) rfl rfl ?_
          refine r_iload (pc := 61) dX0_countEndsWithin_61 rfl ?_
          refine r_dup2_11 (pc := 63) dX0_countEndsWithin_63 rfl rfl ?_
          refine t_ialdR (pc := 64) (t0 := 0) ht12 (rd_of heA) dX0_countEndsWithin_64 rfl (by omega) (by omega) (fun y13 by13 => ?_)
          refine r_iconst (pc := 65) (v := iv 1) dX0_countEndsWithin_65 (by decide) ?_
          obtain ⟨z14, hz14, bz14⟩ := any_i (iv y13 + iv 1)
          refine r_iadd (pc := 66) (v := iv z14) dX0_countEndsWithin_66 hz14 ?_
          refine t_iastR (pc := 67) (t0 := 0) ht12 heA dX0_countEndsWithin_67 rfl (by omega) (by decide) (by omega) (by omega) (fun hp15 ht16 => ?_)
          refine Rn.pick (lv' := [(0, .ref ga), (1, .int (iv x1)), (2, .ref eA), (3, .int (iv v7_3))]) [2, 3, 4, 5] rfl ?_
          exact B68 _ ht16 trivial
  refine Rn.pick (lv' := [(0, .ref ga), (1, .int (iv x1)), (2, .ref eA), (3, .int (iv 0))]) [1, 2, 3, 0] rfl ?_
  exact B7 (Int.toNat (60 - 0)) _ ht2 0 ⟨by omega, by omega⟩ (by omega)
set_option maxHeartbeats 4000000 in
set_option maxRecDepth 100000 in
theorem t_X0_peel {D : va_G} {cI cJ cZ cT : ClassId} {lo b L : Nat} {xs : Nat → Int32} {hp : MH} {n d : Nat} {Γ : TG} {ga : Nat} {gF : Nat} {gT : Nat} {gW : Nat} {gC : Nat} {gTl : Nat} {gHd : Nat} {gBy : Nat} {gOu : Nat} {gIn : Nat} {gJo : Nat} {gn : Nat} {gm : Nat} {gq : Nat} {gdr : Int} {ca : Nat} {cM : Nat} (hd0 : 2 ≤ d) (hg : TyG Γ cI cJ cZ ga gF gT gW gC gTl gHd gBy gOu gIn gJo gn gm gq gdr) (hc : TyCw Γ cI cJ cZ ca cM gn) (ht : Tw Γ hp)  : Mt (gG D cI cJ cZ cT lo b L xs) mX0_peel d 1 gn [.ref ca, .ref ga] hp n (pV Γ (n + 1)) := by
  obtain ⟨hg_O, hg_from, hg_to, hg_weight, hg_cost, hg_tail, hg_head, hg_by, hg_out, hg_in, hg_joined, hg_b⟩ := id hg
  obtain ⟨hc_O, hc_numbers, hc_b⟩ := id hc
  refine Mt.of rfl (Nat.le_of_ble_eq_true rfl) ?_
  refine Rn.pick (lv' := [(0, .ref ca), (1, .ref ga)]) [0, 1] rfl ?_
  refine r_aload_n (pc := 0) dX0_peel_0 (i := 0) rfl rfl ?_
  refine t_getE (pc := 1) (.int (iv (gn : Int))) ht hc_O fX0_15 dX0_peel_1 rfl ?_
  refine t_newI (pc := 4) (t0 := 0) (N := gn) (-2147483648) 2147483647 ht dX0_peel_4 (tb_t (k := 68) (w := Cond.arrayClass .int) (by decide +kernel)) rfl (by omega) (by omega) (by decide) (by omega) (by omega) (fun hp1 Γ2 hE3 hN4 ht5 => ?_)
  refine r_astore_n (pc := 6) (lv' := [(2, .ref n), (0, .ref ca), (1, .ref ga)]) dX0_peel_6 (i := 2) rfl (by decide) rfl ?_
  refine r_aload_n (pc := 7) dX0_peel_7 (i := 1) rfl rfl ?_
  refine t_callVR (pc := 8) (as := []) (st := []) ht5 (rd_ext hE3 hg_O) kX0_75 rfl dX0_peel_8 (t_X3_allNodes (d := d - 1)  (by omega) (TyG.ext hE3 hg)  ht5  ) rfl (by omega) (Nat.le_of_ble_eq_true rfl) rfl (fun hp6 y8 ht7 by8 => ?_)
  refine r_istore_n (pc := 11) (lv' := [(3, .int (iv y8)), (2, .ref n), (0, .ref ca), (1, .ref ga)]) dX0_peel_11 (i := 3) rfl (by decide) rfl ?_
  refine r_iconst (pc := 12) (v := iv 0) dX0_peel_12 (by decide) ?_
  refine r_istore (pc := 13) (lv' := [(4, .int (iv 0)), (3, .int (iv y8)), (2, .ref n), (0, .ref ca), (1, .ref ga)]) dX0_peel_13 (by decide) rfl ?_
  refine r_iconst (pc := 15) (v := iv 0) dX0_peel_15 (by decide) ?_
  refine r_istore (pc := 16) (lv' := [(5, .int (iv 0)), (4, .int (iv 0)), (3, .int (iv y8)), (2, .ref n), (0, .ref ca), (1, .ref ga)]) dX0_peel_16 (by decide) rfl ?_
  have B18 : ∀ k : Nat, ∀ hp18 : MH, Tw Γ2 hp18 → ∀  (v18_3 : Int) (v18_4 : Int) (v18_5 : Int), 0 ≤ v18_3 ∧ v18_3 ≤ 65535 ∧ v18_3 ≤ y8 ∧ 0 ≤ v18_4 ∧ v18_4 ≤ 2147483647 ∧ 0 ≤ v18_5 ∧ v18_5 ≤ 16 → 16 - v18_5 ≤ (k : Int) → Rn (gG D cI cJ cZ cT lo b L xs) mX0_peel d 18 [(0, .ref ca), (1, .ref ga), (2, .ref n), (3, .int (iv v18_3)), (4, .int (iv v18_4)), (5, .int (iv v18_5))] [] hp18 (n + 1) (1 - 1) (gn - gn) (pV Γ (n + 1)) := by
    refine lpS _ ?_
    intro k18 ih18 hp18 ht18 v18_3 v18_4 v18_5 hf18 hm18
    refine r_iload (pc := 18) dX0_peel_18 rfl ?_
    refine r_aload_n (pc := 20) dX0_peel_20 (i := 0) rfl rfl ?_
    refine t_getE (pc := 21) (.int (iv (gn : Int))) ht18 (rd_ext hE3 hc_O) fX0_15 dX0_peel_21 rfl ?_
    refine t_icmp_ge (pc := 24) (tgt := 124) dX0_peel_24 (by decide) (by omega) (by omega) (fun c24 => ?_) (fun c24 => ?_)
    · exact r_vret (pc := 124) dX0_peel_124 rfl ⟨rfl, (Tw_ext hE3 ht18), rfl⟩
    · refine r_aload_n (pc := 27) dX0_peel_27 (i := 1) rfl rfl ?_
      refine r_iload_n (pc := 28) dX0_peel_28 (i := 3) rfl rfl ?_
      refine r_aload_n (pc := 29) dX0_peel_29 (i := 2) rfl rfl ?_
      refine t_callSV (pc := 30) (as := [.ref ga, .int (iv v18_3), .ref n]) (st := []) kX0_79 dX0_peel_30 (t_X0_countEndsWithin (d := d - 1) (x1 := v18_3) (eA := n) (by omega) (TyG.ext hE3 hg) hN4 ht18 (by omega) ) rfl (by omega) (Nat.le_of_ble_eq_true rfl) rfl (fun hp9 ht10 => ?_)
      refine r_iconst (pc := 33) (v := iv (-1)) dX0_peel_33 (by decide) ?_
      refine r_istore (pc := 34) (lv' := [(6, .int (iv (-1))), (0, .ref ca), (1, .ref ga), (2, .ref n), (3, .int (iv v18_3)), (4, .int (iv v18_4)), (5, .int (iv v18_5))]) dX0_peel_34 (by decide) rfl ?_
      refine r_iconst (pc := 36) (v := iv 0) dX0_peel_36 (by decide) ?_
      refine r_istore (pc := 37) (lv' := [(7, .int (iv 0)), (6, .int (iv (-1))), (0, .ref ca), (1, .ref ga), (2, .ref n), (3, .int (iv v18_3)), (4, .int (iv v18_4)), (5, .int (iv v18_5))]) dX0_peel_37 (by decide) rfl ?_
      have B39 : ∀ k : Nat, ∀ hp39 : MH, Tw Γ2 hp39 → ∀  (v39_6 : Int) (v39_7 : Int), (-1) ≤ v39_6 ∧ v39_6 ≤ 15 ∧ 0 ≤ v39_7 ∧ v39_7 ≤ 16 ∧ v39_6 < (gn : Int) → 16 - v39_7 ≤ (k : Int) → Rn (gG D cI cJ cZ cT lo b L xs) mX0_peel d 39 [(0, .ref ca), (1, .ref ga), (2, .ref n), (3, .int (iv v18_3)), (4, .int (iv v18_4)), (5, .int (iv v18_5)), (6, .int (iv v39_6)), (7, .int (iv v39_7))] [] hp39 (n + 1) (1 - 1) (gn - gn) (pV Γ (n + 1)) := by
        refine lpS _ ?_
        intro k39 ih39 hp39 ht39 v39_6 v39_7 hf39 hm39
        refine r_iload (pc := 39) dX0_peel_39 rfl ?_
        refine r_aload_n (pc := 41) dX0_peel_41 (i := 0) rfl rfl ?_
        refine t_getE (pc := 42) (.int (iv (gn : Int))) ht39 (rd_ext hE3 hc_O) fX0_15 dX0_peel_42 rfl ?_
        refine t_icmp_ge (pc := 45) (tgt := 83) dX0_peel_45 (by decide) (by omega) (by omega) (fun c45 => ?_) (fun c45 => ?_)
        · refine r_iload (pc := 83) dX0_peel_83 rfl ?_
          have B118 : ∀ hp118 : MH, Tw Γ2 hp118 → ∀  (v118_3 : Int) (v118_4 : Int), 0 ≤ v118_3 ∧ v118_3 ≤ 65535 ∧ v118_3 ≤ v18_3 ∧ 0 ≤ v118_4 ∧ v118_4 ≤ 2147483647 → Rn (gG D cI cJ cZ cT lo b L xs) mX0_peel d 118 [(0, .ref ca), (1, .ref ga), (2, .ref n), (3, .int (iv v118_3)), (4, .int (iv v118_4)), (5, .int (iv v18_5))] [] hp118 (n + 1) (1 - 1) (gn - gn) (pV Γ (n + 1)) := by
            intro hp118 ht118 v118_3 v118_4 hf118
            refine r_iinc (pc := 118) (v := iv (v18_5 + 1)) (lv' := [(5, .int (iv (v18_5 + 1))), (0, .ref ca), (1, .ref ga), (2, .ref n), (3, .int (iv v118_3)), (4, .int (iv v118_4))]) dX0_peel_118 rfl (iv_add _ _) (by decide) rfl ?_
            refine r_goto (pc := 121) (tgt := 18) dX0_peel_121 (by decide) ?_
            refine Rn.pick (lv' := [(0, .ref ca), (1, .ref ga), (2, .ref n), (3, .int (iv v118_3)), (4, .int (iv v118_4)), (5, .int (iv (v18_5 + 1)))]) [1, 2, 3, 4, 5, 0] rfl ?_
            exact ih18 (Int.toNat (16 - (v18_5 + 1))) (by omega) _ ht118 v118_3 v118_4 (v18_5 + 1) ⟨by omega, by omega, by omega, by omega, by omega, by omega, by omega⟩ (by omega)
          refine t_if_lt (pc := 85) (tgt := 118) dX0_peel_85 (by decide) (by omega) (fun c85 => ?_) (fun c85 => ?_)
          · refine Rn.pick (lv' := [(0, .ref ca), (1, .ref ga), (2, .ref n), (3, .int (iv v18_3)), (4, .int (iv v18_4)), (5, .int (iv v18_5))]) [0, 1, 2, 3, 4, 5] rfl ?_
            exact B118 _ ht39 v18_3 v18_4 ⟨by omega, by omega, by omega, by omega, by omega⟩
          · refine r_iload (pc := 88) dX0_peel_88 rfl ?_
            refine r_aload_n (pc := 90) dX0_peel_90 (i := 2) rfl rfl ?_
            refine r_iload (pc := 91) dX0_peel_91 rfl ?_
            refine t_ialdR (pc := 93) (t0 := 0) ht39 (rd_of hN4) dX0_peel_93 rfl (by omega) (by omega) (fun y12 by12 => ?_)
            obtain ⟨z13, hz13, bz13⟩ := max_b v18_4 y12 (by omega) (by omega)
            refine r_mmax (pc := 94) (v := iv z13) qX0_83 dX0_peel_94 (Nat.le_of_ble_eq_true rfl) hz13 ?_
            refine r_istore (pc := 97) (lv' := [(4, .int (iv z13)), (0, .ref ca), (1, .ref ga), (2, .ref n), (3, .int (iv v18_3)), (5, .int (iv v18_5)), (6, .int (iv v39_6)), (7, .int (iv v39_7))]) dX0_peel_97 (by decide) rfl ?_
            refine r_aload_n (pc := 99) dX0_peel_99 (i := 0) rfl rfl ?_
            refine t_getE (pc := 100) (.ref cM) ht39 (rd_ext hE3 hc_O) fX0_9 dX0_peel_100 rfl ?_
            refine r_iload (pc := 103) dX0_peel_103 rfl ?_
            refine r_iload (pc := 105) dX0_peel_105 rfl ?_
            refine r_i2l (pc := 107) (v := (iv z13).toInt64) dX0_peel_107 rfl ?_
            refine t_last (pc := 108) (t0 := 1) ht39 (hE3 _ _ hc_numbers) dX0_peel_108 rfl (by omega) (by omega) trivial (fun hp14 ht15 => ?_)
            refine r_iload_n (pc := 109) dX0_peel_109 (i := 3) rfl rfl ?_
            refine r_iconst (pc := 110) (v := iv 1) dX0_peel_110 (by decide) ?_
            refine r_iload (pc := 111) dX0_peel_111 rfl ?_
            obtain ⟨z16, hz16, bz16⟩ := shl_1 0 15 v39_6 (by omega) (by omega) (by decide)
            refine r_ishl (pc := 113) (v := iv z16) dX0_peel_113 hz16 ?_
            refine r_iconst (pc := 114) (v := iv (-1)) dX0_peel_114 (by decide) ?_
            refine r_ixor (pc := 115) (v := iv (-z16 - 1)) dX0_peel_115 (iv_not _) ?_
            obtain ⟨z17, hz17, bz17⟩ := and_l v18_3 (-z16 - 1) (by omega) (by omega)
            refine r_iand (pc := 116) (v := iv z17) dX0_peel_116 hz17 ?_
            refine r_istore_n (pc := 117) (lv' := [(3, .int (iv z17)), (4, .int (iv z13)), (0, .ref ca), (1, .ref ga), (2, .ref n), (5, .int (iv v18_5)), (6, .int (iv v39_6)), (7, .int (iv v39_7))]) dX0_peel_117 (i := 3) rfl (by decide) rfl ?_
            refine Rn.pick (lv' := [(0, .ref ca), (1, .ref ga), (2, .ref n), (3, .int (iv z17)), (4, .int (iv z13)), (5, .int (iv v18_5))]) [2, 3, 4, 0, 1, 5] rfl ?_
            exact B118 _ ht15 z17 z13 ⟨by omega, by omega, by omega, by omega, by omega⟩
        · refine r_iload_n (pc := 48) dX0_peel_48 (i := 3) rfl rfl ?_
          refine r_iload (pc := 49) dX0_peel_49 rfl ?_
          obtain ⟨z18, hz18, bz18⟩ := shr_x v18_3 v39_7 (by omega) (by omega)
          refine r_ishr (pc := 51) (v := iv z18) dX0_peel_51 hz18 ?_
          refine r_iconst (pc := 52) (v := iv 1) dX0_peel_52 (by decide) ?_
          obtain ⟨z19, hz19, bz19⟩ := and_2 z18 1 (by omega) (by omega)
          refine r_iand (pc := 53) (v := iv z19) dX0_peel_53 hz19 ?_
          have B77 : ∀ hp77 : MH, Tw Γ2 hp77 → ∀  (v77_6 : Int), (-1) ≤ v77_6 ∧ v77_6 ≤ 15 ∧ v77_6 < (gn : Int) → Rn (gG D cI cJ cZ cT lo b L xs) mX0_peel d 77 [(0, .ref ca), (1, .ref ga), (2, .ref n), (3, .int (iv v18_3)), (4, .int (iv v18_4)), (5, .int (iv v18_5)), (6, .int (iv v77_6)), (7, .int (iv v39_7))] [] hp77 (n + 1) (1 - 1) (gn - gn) (pV Γ (n + 1)) := by
            intro hp77 ht77 v77_6 hf77
            refine r_iinc (pc := 77) (v := iv (v39_7 + 1)) (lv' := [(7, .int (iv (v39_7 + 1))), (0, .ref ca), (1, .ref ga), (2, .ref n), (3, .int (iv v18_3)), (4, .int (iv v18_4)), (5, .int (iv v18_5)), (6, .int (iv v77_6))]) dX0_peel_77 rfl (iv_add _ _) (by decide) rfl ?_
            refine r_goto (pc := 80) (tgt := 39) dX0_peel_80 (by decide) ?_
            refine Rn.pick (lv' := [(0, .ref ca), (1, .ref ga), (2, .ref n), (3, .int (iv v18_3)), (4, .int (iv v18_4)), (5, .int (iv v18_5)), (6, .int (iv v77_6)), (7, .int (iv (v39_7 + 1)))]) [1, 2, 3, 4, 5, 6, 7, 0] rfl ?_
            exact ih39 (Int.toNat (16 - (v39_7 + 1))) (by omega) _ ht77 v77_6 (v39_7 + 1) ⟨by omega, by omega, by omega, by omega, by omega⟩ (by omega)
          refine t_if_eq (pc := 54) (tgt := 77) dX0_peel_54 (by decide) (by omega) (fun c54 => ?_) (fun c54 => ?_)
          · refine Rn.pick (lv' := [(0, .ref ca), (1, .ref ga), (2, .ref n), (3, .int (iv v18_3)), (4, .int (iv v18_4)), (5, .int (iv v18_5)), (6, .int (iv v39_6)), (7, .int (iv v39_7))]) [0, 1, 2, 3, 4, 5, 6, 7] rfl ?_
            exact B77 _ ht39 v39_6 ⟨by omega, by omega, by omega⟩
          · refine r_iload (pc := 57) dX0_peel_57 rfl ?_
            have B73 : ∀ hp73 : MH, Tw Γ2 hp73 → True → Rn (gG D cI cJ cZ cT lo b L xs) mX0_peel d 73 [(0, .ref ca), (1, .ref ga), (2, .ref n), (3, .int (iv v18_3)), (4, .int (iv v18_4)), (5, .int (iv v18_5)), (7, .int (iv v39_7))] [] hp73 (n + 1) (1 - 1) (gn - gn) (pV Γ (n + 1)) := by
              intro hp73 ht73 hf73
              refine r_iload (pc := 73) dX0_peel_73 rfl ?_
              refine r_istore (pc := 75) (lv' := [(6, .int (iv v39_7)), (0, .ref ca), (1, .ref ga), (2, .ref n), (3, .int (iv v18_3)), (4, .int (iv v18_4)), (5, .int (iv v18_5)), (7, .int (iv v39_7))]) dX0_peel_75 (by decide) rfl ?_
              refine Rn.pick (lv' := [(0, .ref ca), (1, .ref ga), (2, .ref n), (3, .int (iv v18_3)), (4, .int (iv v18_4)), (5, .int (iv v18_5)), (6, .int (iv v39_7)), (7, .int (iv v39_7))]) [1, 2, 3, 4, 5, 6, 0, 7] rfl ?_
              exact B77 _ ht73 v39_7 ⟨by omega, by omega, by omega⟩
            refine t_if_lt (pc := 59) (tgt := 73) dX0_peel_59 (by decide) (by omega) (fun c59 => ?_) (fun c59 => ?_)
            · refine Rn.pick (lv' := [(0, .ref ca), (1, .ref ga), (2, .ref n), (3, .int (iv v18_3)), (4, .int (iv v18_4)), (5, .int (iv v18_5)), (7, .int (iv v39_7))]) [0, 1, 2, 3, 4, 5, 7] rfl ?_
              exact B73 _ ht39 trivial
            · refine r_aload_n (pc := 62) dX0_peel_62 (i := 2) rfl rfl ?_
              refine r_iload (pc := 63) dX0_peel_63 rfl ?_
              refine t_ialdR (pc := 65) (t0 := 0) ht39 (rd_of hN4) dX0_peel_65 rfl (by omega) (by omega) (fun y20 by20 => ?_)
              refine r_aload_n (pc := 66) dX0_peel_66 (i := 2) rfl rfl ?_
              refine r_iload (pc := 67) dX0_peel_67 rfl ?_
              refine t_ialdR (pc := 69) (t0 := 0) ht39 (rd_of hN4) dX0_peel_69 rfl (by omega) (by omega) (fun y21 by21 => ?_)
              refine t_icmp_ge (pc := 70) (tgt := 77) dX0_peel_70 (by decide) (by omega) (by omega) (fun c70 => ?_) (fun c70 => ?_)
              · refine Rn.pick (lv' := [(0, .ref ca), (1, .ref ga), (2, .ref n), (3, .int (iv v18_3)), (4, .int (iv v18_4)), (5, .int (iv v18_5)), (6, .int (iv v39_6)), (7, .int (iv v39_7))]) [0, 1, 2, 3, 4, 5, 6, 7] rfl ?_
                exact B77 _ ht39 v39_6 ⟨by omega, by omega, by omega⟩
              · refine Rn.pick (lv' := [(0, .ref ca), (1, .ref ga), (2, .ref n), (3, .int (iv v18_3)), (4, .int (iv v18_4)), (5, .int (iv v18_5)), (7, .int (iv v39_7))]) [0, 1, 2, 3, 4, 5, 7] rfl ?_
                exact B73 _ ht39 trivial
      refine Rn.pick (lv' := [(0, .ref ca), (1, .ref ga), (2, .ref n), (3, .int (iv v18_3)), (4, .int (iv v18_4)), (5, .int (iv v18_5)), (6, .int (iv (-1))), (7, .int (iv 0))]) [2, 3, 4, 5, 6, 7, 1, 0] rfl ?_
      exact B39 (Int.toNat (16 - 0)) _ ht10 (-1) 0 ⟨by omega, by omega, by omega, by omega, by omega⟩ (by omega)
  refine Rn.pick (lv' := [(0, .ref ca), (1, .ref ga), (2, .ref n), (3, .int (iv y8)), (4, .int (iv 0)), (5, .int (iv 0))]) [4, 5, 3, 2, 1, 0] rfl ?_
  exact B18 (Int.toNat (16 - 0)) _ ht7 y8 0 0 ⟨by omega, by omega, by omega, by omega, by omega, by omega, by omega⟩ (by omega)
set_option maxHeartbeats 4000000 in
set_option maxRecDepth 100000 in
theorem t_X0_countWalks {D : va_G} {cI cJ cZ cT : ClassId} {lo b L : Nat} {xs : Nat → Int32} {hp : MH} {n d : Nat} {Γ : TG} {ga : Nat} {gF : Nat} {gT : Nat} {gW : Nat} {gC : Nat} {gTl : Nat} {gHd : Nat} {gBy : Nat} {gOu : Nat} {gIn : Nat} {gJo : Nat} {gn : Nat} {gm : Nat} {gq : Nat} {gdr : Int} {ca : Nat} {cM : Nat} {x2 : Int} (hd0 : 1 ≤ d) (hg : TyG Γ cI cJ cZ ga gF gT gW gC gTl gHd gBy gOu gIn gJo gn gm gq gdr) (hc : TyCw Γ cI cJ cZ ca cM gn) (ht : Tw Γ hp) (hx2 : 0 ≤ x2 ∧ x2 ≤ 1000) : Mt (gG D cI cJ cZ cT lo b L xs) mX0_countWalks d 1 gn [.ref ca, .ref ga, .int (iv x2)] hp n (pV Γ (n + 1)) := by
  obtain ⟨hg_O, hg_from, hg_to, hg_weight, hg_cost, hg_tail, hg_head, hg_by, hg_out, hg_in, hg_joined, hg_b⟩ := id hg
  obtain ⟨hc_O, hc_numbers, hc_b⟩ := id hc
  refine Mt.of rfl (Nat.le_of_ble_eq_true rfl) ?_
  refine Rn.pick (lv' := [(0, .ref ca), (1, .ref ga), (2, .int (iv x2))]) [0, 1, 2] rfl ?_
  refine r_aload_n (pc := 0) dX0_countWalks_0 (i := 0) rfl rfl ?_
  refine t_getE (pc := 1) (.ref cM) ht hc_O fX0_9 dX0_countWalks_1 rfl ?_
  refine r_lconst (pc := 4) (v := 1) dX0_countWalks_4 (by decide) ?_
  refine t_fillJ (pc := 5) ht hc_numbers kX0_95 dX0_countWalks_5 (by omega) (by omega) (Nat.le_of_ble_eq_true rfl) (fun hp1 ht2 => ?_)
  refine r_aload_n (pc := 8) dX0_countWalks_8 (i := 0) rfl rfl ?_
  refine t_getE (pc := 9) (.int (iv (gn : Int))) ht2 hc_O fX0_15 dX0_countWalks_9 rfl ?_
  refine t_newJ (pc := 12) (t0 := 1) (N := gn) ht2 dX0_countWalks_12 (tb_t (k := 79) (w := Cond.arrayClass .long) (by decide +kernel)) rfl (by omega) (by omega) (by omega) (by omega) (fun hp3 Γ4 hE5 hN6 ht7 => ?_)
  refine r_astore_n (pc := 14) (lv' := [(3, .ref n), (0, .ref ca), (1, .ref ga), (2, .int (iv x2))]) dX0_countWalks_14 (i := 3) rfl (by decide) rfl ?_
  refine r_aload_n (pc := 15) dX0_countWalks_15 (i := 1) rfl rfl ?_
  refine t_getE (pc := 16) (.ref gTl) ht7 (rd_ext hE5 hg_O) fX0_66 dX0_countWalks_16 rfl ?_
  refine r_astore (pc := 19) (lv' := [(4, .ref gTl), (3, .ref n), (0, .ref ca), (1, .ref ga), (2, .int (iv x2))]) dX0_countWalks_19 (by decide) rfl ?_
  refine r_aload_n (pc := 21) dX0_countWalks_21 (i := 1) rfl rfl ?_
  refine t_getE (pc := 22) (.ref gHd) ht7 (rd_ext hE5 hg_O) fX0_98 dX0_countWalks_22 rfl ?_
  refine r_astore (pc := 25) (lv' := [(5, .ref gHd), (4, .ref gTl), (3, .ref n), (0, .ref ca), (1, .ref ga), (2, .int (iv x2))]) dX0_countWalks_25 (by decide) rfl ?_
  refine r_iconst (pc := 27) (v := iv 0) dX0_countWalks_27 (by decide) ?_
  refine r_istore (pc := 28) (lv' := [(6, .int (iv 0)), (5, .ref gHd), (4, .ref gTl), (3, .ref n), (0, .ref ca), (1, .ref ga), (2, .int (iv x2))]) dX0_countWalks_28 (by decide) rfl ?_
  have B30 : ∀ k : Nat, ∀ hp30 : MH, Tw Γ4 hp30 → ∀  (v30_6 : Int), 0 ≤ v30_6 ∧ v30_6 ≤ 1001 → 1001 - v30_6 ≤ (k : Int) → Rn (gG D cI cJ cZ cT lo b L xs) mX0_countWalks d 30 [(0, .ref ca), (2, .int (iv x2)), (3, .ref n), (4, .ref gTl), (5, .ref gHd), (6, .int (iv v30_6))] [] hp30 (n + 1) (1 - 1) (gn - gn) (pV Γ (n + 1)) := by
    refine lpS _ ?_
    intro k30 ih30 hp30 ht30 v30_6 hf30 hm30
    refine r_iload (pc := 30) dX0_countWalks_30 rfl ?_
    refine r_iload_n (pc := 32) dX0_countWalks_32 (i := 2) rfl rfl ?_
    refine t_icmp_ge (pc := 33) (tgt := 106) dX0_countWalks_33 (by decide) (by omega) (by omega) (fun c33 => ?_) (fun c33 => ?_)
    · exact r_vret (pc := 106) dX0_countWalks_106 rfl ⟨rfl, (Tw_ext hE5 ht30), rfl⟩
    · refine r_aload_n (pc := 36) dX0_countWalks_36 (i := 3) rfl rfl ?_
      refine r_lconst (pc := 37) (v := 0) dX0_countWalks_37 (by decide) ?_
      refine t_fillJ (pc := 38) ht30 hN6 kX0_95 dX0_countWalks_38 (by omega) (by omega) (Nat.le_of_ble_eq_true rfl) (fun hp8 ht9 => ?_)
      refine r_iconst (pc := 41) (v := iv 0) dX0_countWalks_41 (by decide) ?_
      refine r_istore (pc := 42) (lv' := [(7, .int (iv 0)), (0, .ref ca), (2, .int (iv x2)), (3, .ref n), (4, .ref gTl), (5, .ref gHd), (6, .int (iv v30_6))]) dX0_countWalks_42 (by decide) rfl ?_
      have B44 : ∀ k : Nat, ∀ hp44 : MH, Tw Γ4 hp44 → ∀  (v44_7 : Int), 0 ≤ v44_7 ∧ v44_7 ≤ 120 → 120 - v44_7 ≤ (k : Int) → Rn (gG D cI cJ cZ cT lo b L xs) mX0_countWalks d 44 [(0, .ref ca), (2, .int (iv x2)), (3, .ref n), (4, .ref gTl), (5, .ref gHd), (6, .int (iv v30_6)), (7, .int (iv v44_7))] [] hp44 (n + 1) (1 - 1) (gn - gn) (pV Γ (n + 1)) := by
        refine lpS _ ?_
        intro k44 ih44 hp44 ht44 v44_7 hf44 hm44
        refine r_iload (pc := 44) dX0_countWalks_44 rfl ?_
        refine r_aload (pc := 46) dX0_countWalks_46 rfl ?_
        refine t_lenI (pc := 48) (t0 := 0) ht44 (rd_ext hE5 hg_tail) dX0_countWalks_48 rfl ?_
        have B86 : ∀ hp86 : MH, Tw Γ4 hp86 → True → Rn (gG D cI cJ cZ cT lo b L xs) mX0_countWalks d 86 [(0, .ref ca), (2, .int (iv x2)), (3, .ref n), (4, .ref gTl), (5, .ref gHd), (6, .int (iv v30_6))] [] hp86 (n + 1) (1 - 1) (gn - gn) (pV Γ (n + 1)) := by
          intro hp86 ht86 hf86
          refine r_aload_n (pc := 86) dX0_countWalks_86 (i := 3) rfl rfl ?_
          refine r_iconst (pc := 87) (v := iv 0) dX0_countWalks_87 (by decide) ?_
          refine r_aload_n (pc := 88) dX0_countWalks_88 (i := 0) rfl rfl ?_
          refine t_getE (pc := 89) (.ref cM) ht86 (rd_ext hE5 hc_O) fX0_9 dX0_countWalks_89 rfl ?_
          refine r_iconst (pc := 92) (v := iv 0) dX0_countWalks_92 (by decide) ?_
          refine r_aload_n (pc := 93) dX0_countWalks_93 (i := 0) rfl rfl ?_
          refine t_getE (pc := 94) (.int (iv (gn : Int))) ht86 (rd_ext hE5 hc_O) fX0_15 dX0_countWalks_94 rfl ?_
          refine t_copyJ (pc := 97) (t0 := 1) ht86 (rd_of hN6) (hE5 _ _ hc_numbers) aX0_101 dX0_countWalks_97 rfl (by omega) (by omega) (Nat.le_of_ble_eq_true rfl) (fun hp10 ht11 => ?_)
          refine r_iinc (pc := 100) (v := iv (v30_6 + 1)) (lv' := [(6, .int (iv (v30_6 + 1))), (0, .ref ca), (2, .int (iv x2)), (3, .ref n), (4, .ref gTl), (5, .ref gHd)]) dX0_countWalks_100 rfl (iv_add _ _) (by decide) rfl ?_
          refine r_goto (pc := 103) (tgt := 30) dX0_countWalks_103 (by decide) ?_
          refine Rn.pick (lv' := [(0, .ref ca), (2, .int (iv x2)), (3, .ref n), (4, .ref gTl), (5, .ref gHd), (6, .int (iv (v30_6 + 1)))]) [1, 2, 3, 4, 5, 0] rfl ?_
          exact ih30 (Int.toNat (1001 - (v30_6 + 1))) (by omega) _ ht11 (v30_6 + 1) ⟨by omega, by omega⟩ (by omega)
        refine t_icmp_ge (pc := 49) (tgt := 86) dX0_countWalks_49 (by decide) (by omega) (by omega) (fun c49 => ?_) (fun c49 => ?_)
        · refine Rn.pick (lv' := [(0, .ref ca), (2, .int (iv x2)), (3, .ref n), (4, .ref gTl), (5, .ref gHd), (6, .int (iv v30_6))]) [0, 1, 2, 3, 4, 5] rfl ?_
          exact B86 _ ht44 trivial
        · refine r_iload (pc := 52) dX0_countWalks_52 rfl ?_
          refine r_aload (pc := 54) dX0_countWalks_54 rfl ?_
          refine t_lenI (pc := 56) (t0 := 0) ht44 (rd_ext hE5 hg_head) dX0_countWalks_56 rfl ?_
          refine t_icmp_ge (pc := 57) (tgt := 86) dX0_countWalks_57 (by decide) (by omega) (by omega) (fun c57 => ?_) (fun c57 => ?_)
          · refine Rn.pick (lv' := [(0, .ref ca), (2, .int (iv x2)), (3, .ref n), (4, .ref gTl), (5, .ref gHd), (6, .int (iv v30_6))]) [0, 1, 2, 3, 4, 5] rfl ?_
            exact B86 _ ht44 trivial
          · refine r_aload_n (pc := 60) dX0_countWalks_60 (i := 3) rfl rfl ?_
            refine r_aload (pc := 61) dX0_countWalks_61 rfl ?_
            refine r_iload (pc := 63) dX0_countWalks_63 rfl ?_
            refine t_ialdR (pc := 65) (t0 := 0) ht44 (rd_ext hE5 hg_tail) dX0_countWalks_65 rfl (by omega) (by omega) (fun y12 by12 => ?_)
            refine r_dup2_11 (pc := 66) dX0_countWalks_66 rfl rfl ?_
            refine t_lald (pc := 67) (t0 := 1) ht44 (rd_of hN6) dX0_countWalks_67 rfl (by omega) (by omega) (fun w13 _ => ?_)
            refine r_aload_n (pc := 68) dX0_countWalks_68 (i := 0) rfl rfl ?_
            refine t_getE (pc := 69) (.ref cM) ht44 (rd_ext hE5 hc_O) fX0_9 dX0_countWalks_69 rfl ?_
            refine r_aload (pc := 72) dX0_countWalks_72 rfl ?_
            refine r_iload (pc := 74) dX0_countWalks_74 rfl ?_
            refine t_ialdR (pc := 76) (t0 := 0) ht44 (rd_ext hE5 hg_head) dX0_countWalks_76 rfl (by omega) (by omega) (fun y14 by14 => ?_)
            refine t_lald (pc := 77) (t0 := 1) ht44 (rd_ext hE5 (rd_of hc_numbers)) dX0_countWalks_77 rfl (by omega) (by omega) (fun w15 _ => ?_)
            refine r_ladd (pc := 78) (v := w13 + w15) dX0_countWalks_78 rfl ?_
            refine t_last (pc := 79) (t0 := 1) ht44 hN6 dX0_countWalks_79 rfl (by omega) (by omega) trivial (fun hp16 ht17 => ?_)
            refine r_iinc (pc := 80) (v := iv (v44_7 + 1)) (lv' := [(7, .int (iv (v44_7 + 1))), (0, .ref ca), (2, .int (iv x2)), (3, .ref n), (4, .ref gTl), (5, .ref gHd), (6, .int (iv v30_6))]) dX0_countWalks_80 rfl (iv_add _ _) (by decide) rfl ?_
            refine r_goto (pc := 83) (tgt := 44) dX0_countWalks_83 (by decide) ?_
            refine Rn.pick (lv' := [(0, .ref ca), (2, .int (iv x2)), (3, .ref n), (4, .ref gTl), (5, .ref gHd), (6, .int (iv v30_6)), (7, .int (iv (v44_7 + 1)))]) [1, 2, 3, 4, 5, 6, 0] rfl ?_
            exact ih44 (Int.toNat (120 - (v44_7 + 1))) (by omega) _ ht17 (v44_7 + 1) ⟨by omega, by omega⟩ (by omega)
      refine Rn.pick (lv' := [(0, .ref ca), (2, .int (iv x2)), (3, .ref n), (4, .ref gTl), (5, .ref gHd), (6, .int (iv v30_6)), (7, .int (iv 0))]) [1, 2, 3, 4, 5, 6, 0] rfl ?_
      exact B44 (Int.toNat (120 - 0)) _ ht9 0 ⟨by omega, by omega⟩ (by omega)
  refine Rn.pick (lv' := [(0, .ref ca), (2, .int (iv x2)), (3, .ref n), (4, .ref gTl), (5, .ref gHd), (6, .int (iv 0))]) [4, 6, 3, 2, 1, 0] rfl ?_
  exact B30 (Int.toNat (1001 - 0)) _ ht7 0 ⟨by omega, by omega⟩ (by omega)
set_option maxHeartbeats 4000000 in
set_option maxRecDepth 100000 in
theorem t_X0_blendOf {D : va_G} {cI cJ cZ cT : ClassId} {lo b L : Nat} {xs : Nat → Int32} {hp : MH} {n d : Nat} {Γ : TG}  {x2 : Int} {j0 j1 : Int64} (hd0 : 0 ≤ d)  (ht : Tw Γ hp) (hx2 : (-2147483648) ≤ x2 ∧ x2 ≤ 2147483647) : Mt (gG D cI cJ cZ cT lo b L xs) mX0_blendOf d 0 0 [.long j0, .long j1, .int (iv x2)] hp n (pJ Γ n yes64) := by
  refine Mt.of rfl (Nat.le_of_ble_eq_true rfl) ?_
  refine Rn.pick (lv' := [(0, .long j0), (2, .long j1), (4, .int (iv x2))]) [0, 1, 2] rfl ?_
  refine r_iload (pc := 0) dX0_blendOf_0 rfl ?_
  by_cases c1 : x2 = 0
  · refine r_tableIn (pc := 2) (off := 38) (tgt := 40) dX0_blendOf_2 (by rw [iv_toInt (by omega) (by omega)]; omega) (by rw [iv_toInt (by omega) (by omega)]; omega) (by rw [iv_toInt (by omega) (by omega), c1]; decide) (by decide) ?_
    refine r_lload_n (pc := 40) dX0_blendOf_40 (i := 0) rfl rfl ?_
    refine r_lload_n (pc := 41) dX0_blendOf_41 (i := 2) rfl rfl ?_
    refine r_ladd (pc := 42) (v := j0 + j1) dX0_blendOf_42 rfl ?_
    exact r_lret (pc := 43) dX0_blendOf_43 rfl ⟨rfl, ht, _, rfl, trivial⟩
  by_cases c2 : x2 = 1
  · refine r_tableIn (pc := 2) (off := 42) (tgt := 44) dX0_blendOf_2 (by rw [iv_toInt (by omega) (by omega)]; omega) (by rw [iv_toInt (by omega) (by omega)]; omega) (by rw [iv_toInt (by omega) (by omega), c2]; decide) (by decide) ?_
    refine r_lload_n (pc := 44) dX0_blendOf_44 (i := 0) rfl rfl ?_
    refine r_lload_n (pc := 45) dX0_blendOf_45 (i := 2) rfl rfl ?_
    refine r_lsub (pc := 46) (v := j0 - j1) dX0_blendOf_46 rfl ?_
    exact r_lret (pc := 47) dX0_blendOf_47 rfl ⟨rfl, ht, _, rfl, trivial⟩
  by_cases c3 : x2 = 2
  · refine r_tableIn (pc := 2) (off := 46) (tgt := 48) dX0_blendOf_2 (by rw [iv_toInt (by omega) (by omega)]; omega) (by rw [iv_toInt (by omega) (by omega)]; omega) (by rw [iv_toInt (by omega) (by omega), c3]; decide) (by decide) ?_
    refine r_lload_n (pc := 48) dX0_blendOf_48 (i := 0) rfl rfl ?_
    refine r_lload_n (pc := 49) dX0_blendOf_49 (i := 2) rfl rfl ?_
    refine r_lmul (pc := 50) (v := j0 * j1) dX0_blendOf_50 rfl ?_
    exact r_lret (pc := 51) dX0_blendOf_51 rfl ⟨rfl, ht, _, rfl, trivial⟩
  by_cases c4 : x2 = 3
  · refine r_tableIn (pc := 2) (off := 50) (tgt := 52) dX0_blendOf_2 (by rw [iv_toInt (by omega) (by omega)]; omega) (by rw [iv_toInt (by omega) (by omega)]; omega) (by rw [iv_toInt (by omega) (by omega), c4]; decide) (by decide) ?_
    refine r_lload_n (pc := 52) dX0_blendOf_52 (i := 0) rfl rfl ?_
    refine r_lload_n (pc := 53) dX0_blendOf_53 (i := 2) rfl rfl ?_
    refine r_lmin (pc := 54) (v := if j1 < j0 then j1 else j0) qX0_111 dX0_blendOf_54 (Nat.le_of_ble_eq_true rfl) rfl ?_
    exact r_lret (pc := 57) dX0_blendOf_57 rfl ⟨rfl, ht, _, rfl, trivial⟩
  by_cases c6 : x2 = 4
  · refine r_tableIn (pc := 2) (off := 56) (tgt := 58) dX0_blendOf_2 (by rw [iv_toInt (by omega) (by omega)]; omega) (by rw [iv_toInt (by omega) (by omega)]; omega) (by rw [iv_toInt (by omega) (by omega), c6]; decide) (by decide) ?_
    refine r_lload_n (pc := 58) dX0_blendOf_58 (i := 0) rfl rfl ?_
    refine r_lload_n (pc := 59) dX0_blendOf_59 (i := 2) rfl rfl ?_
    refine r_lmax (pc := 60) (v := if j1 < j0 then j0 else j1) qX0_115 dX0_blendOf_60 (Nat.le_of_ble_eq_true rfl) rfl ?_
    exact r_lret (pc := 63) dX0_blendOf_63 rfl ⟨rfl, ht, _, rfl, trivial⟩
  by_cases c8 : x2 = 5
  · refine r_tableIn (pc := 2) (off := 62) (tgt := 64) dX0_blendOf_2 (by rw [iv_toInt (by omega) (by omega)]; omega) (by rw [iv_toInt (by omega) (by omega)]; omega) (by rw [iv_toInt (by omega) (by omega), c8]; decide) (by decide) ?_
    refine r_lload_n (pc := 64) dX0_blendOf_64 (i := 0) rfl rfl ?_
    refine r_lload_n (pc := 65) dX0_blendOf_65 (i := 2) rfl rfl ?_
    refine r_lxor (pc := 66) (v := j0 ^^^ j1) dX0_blendOf_66 rfl ?_
    exact r_lret (pc := 67) dX0_blendOf_67 rfl ⟨rfl, ht, _, rfl, trivial⟩
  refine r_tableOut (pc := 2) (tgt := 68) dX0_blendOf_2 (by rw [iv_toInt (by omega) (by omega)]; omega) (by decide) ?_
  refine r_lload_n (pc := 68) dX0_blendOf_68 (i := 0) rfl rfl ?_
  refine r_lload_n (pc := 69) dX0_blendOf_69 (i := 2) rfl rfl ?_
  refine r_lcmp (pc := 70) dX0_blendOf_70 ?_
  have B79 : ∀ hp79 : MH, Tw Γ hp79 → ∀  (x79_0 : Int64), True → Rn (gG D cI cJ cZ cT lo b L xs) mX0_blendOf d 79 [] [.long x79_0] hp79 n 0 0 (pJ Γ n yes64) := by
    intro hp79 ht79 x79_0 hf79
    exact r_lret (pc := 79) dX0_blendOf_79 rfl ⟨rfl, ht79, _, rfl, trivial⟩
  refine r_if_ge (pc := 71) (tgt := 78) dX0_blendOf_71 (by decide) (fun c71 => ?_) (fun c71 => ?_)
  · refine r_lconst (pc := 78) (v := 0) dX0_blendOf_78 (by decide) ?_
    refine Rn.pick (lv' := []) [] rfl ?_
    exact B79 _ ht (0 : Int64) trivial
  · refine r_lconst (pc := 74) (v := 1) dX0_blendOf_74 (by decide) ?_
    refine r_goto (pc := 75) (tgt := 79) dX0_blendOf_75 (by decide) ?_
    refine Rn.pick (lv' := []) [] rfl ?_
    exact B79 _ ht (1 : Int64) trivial
set_option maxHeartbeats 4000000 in
set_option maxRecDepth 100000 in
theorem t_X0_messageOf {D : va_G} {cI cJ cZ cT : ClassId} {lo b L : Nat} {xs : Nat → Int32} {hp : MH} {n d : Nat} {Γ : TG}  {x2 : Int} {j0 j1 : Int64} (hd0 : 0 ≤ d)  (ht : Tw Γ hp) (hx2 : (-2147483648) ≤ x2 ∧ x2 ≤ 2147483647) : Mt (gG D cI cJ cZ cT lo b L xs) mX0_messageOf d 0 0 [.long j0, .long j1, .int (iv x2)] hp n (pJ Γ n yes64) := by
  refine Mt.of rfl (Nat.le_of_ble_eq_true rfl) ?_
  refine Rn.pick (lv' := [(0, .long j0), (2, .long j1), (4, .int (iv x2))]) [0, 1, 2] rfl ?_
  refine r_iload (pc := 0) dX0_messageOf_0 rfl ?_
  by_cases c1 : x2 = 0
  · refine r_tableIn (pc := 2) (off := 30) (tgt := 32) dX0_messageOf_2 (by rw [iv_toInt (by omega) (by omega)]; omega) (by rw [iv_toInt (by omega) (by omega)]; omega) (by rw [iv_toInt (by omega) (by omega), c1]; decide) (by decide) ?_
    refine r_lload_n (pc := 32) dX0_messageOf_32 (i := 0) rfl rfl ?_
    exact r_lret (pc := 33) dX0_messageOf_33 rfl ⟨rfl, ht, _, rfl, trivial⟩
  by_cases c2 : x2 = 1
  · refine r_tableIn (pc := 2) (off := 32) (tgt := 34) dX0_messageOf_2 (by rw [iv_toInt (by omega) (by omega)]; omega) (by rw [iv_toInt (by omega) (by omega)]; omega) (by rw [iv_toInt (by omega) (by omega), c2]; decide) (by decide) ?_
    refine r_lload_n (pc := 34) dX0_messageOf_34 (i := 0) rfl rfl ?_
    refine r_lload_n (pc := 35) dX0_messageOf_35 (i := 2) rfl rfl ?_
    refine r_ladd (pc := 36) (v := j0 + j1) dX0_messageOf_36 rfl ?_
    exact r_lret (pc := 37) dX0_messageOf_37 rfl ⟨rfl, ht, _, rfl, trivial⟩
  by_cases c3 : x2 = 2
  · refine r_tableIn (pc := 2) (off := 36) (tgt := 38) dX0_messageOf_2 (by rw [iv_toInt (by omega) (by omega)]; omega) (by rw [iv_toInt (by omega) (by omega)]; omega) (by rw [iv_toInt (by omega) (by omega), c3]; decide) (by decide) ?_
    refine r_lload_n (pc := 38) dX0_messageOf_38 (i := 0) rfl rfl ?_
    refine r_lload_n (pc := 39) dX0_messageOf_39 (i := 2) rfl rfl ?_
    refine r_lmul (pc := 40) (v := j0 * j1) dX0_messageOf_40 rfl ?_
    exact r_lret (pc := 41) dX0_messageOf_41 rfl ⟨rfl, ht, _, rfl, trivial⟩
  by_cases c4 : x2 = 3
  · refine r_tableIn (pc := 2) (off := 40) (tgt := 42) dX0_messageOf_2 (by rw [iv_toInt (by omega) (by omega)]; omega) (by rw [iv_toInt (by omega) (by omega)]; omega) (by rw [iv_toInt (by omega) (by omega), c4]; decide) (by decide) ?_
    refine r_lload_n (pc := 42) dX0_messageOf_42 (i := 0) rfl rfl ?_
    refine r_lload_n (pc := 43) dX0_messageOf_43 (i := 2) rfl rfl ?_
    refine r_lmin (pc := 44) (v := if j1 < j0 then j1 else j0) qX0_111 dX0_messageOf_44 (Nat.le_of_ble_eq_true rfl) rfl ?_
    exact r_lret (pc := 47) dX0_messageOf_47 rfl ⟨rfl, ht, _, rfl, trivial⟩
  refine r_tableOut (pc := 2) (tgt := 48) dX0_messageOf_2 (by rw [iv_toInt (by omega) (by omega)]; omega) (by decide) ?_
  refine r_lload_n (pc := 48) dX0_messageOf_48 (i := 0) rfl rfl ?_
  refine r_lload_n (pc := 49) dX0_messageOf_49 (i := 2) rfl rfl ?_
  refine r_lxor (pc := 50) (v := j0 ^^^ j1) dX0_messageOf_50 rfl ?_
  exact r_lret (pc := 51) dX0_messageOf_51 rfl ⟨rfl, ht, _, rfl, trivial⟩
set_option maxHeartbeats 4000000 in
set_option maxRecDepth 100000 in
theorem t_X0_joinOf {D : va_G} {cI cJ cZ cT : ClassId} {lo b L : Nat} {xs : Nat → Int32} {hp : MH} {n d : Nat} {Γ : TG}  {x2 : Int} {j0 j1 : Int64} (hd0 : 0 ≤ d)  (ht : Tw Γ hp) (hx2 : (-2147483648) ≤ x2 ∧ x2 ≤ 2147483647) : Mt (gG D cI cJ cZ cT lo b L xs) mX0_joinOf d 0 0 [.long j0, .long j1, .int (iv x2)] hp n (pJ Γ n yes64) := by
  refine Mt.of rfl (Nat.le_of_ble_eq_true rfl) ?_
  refine Rn.pick (lv' := [(0, .long j0), (2, .long j1), (4, .int (iv x2))]) [0, 1, 2] rfl ?_
  refine r_iload (pc := 0) dX0_joinOf_0 rfl ?_
  by_cases c1 : x2 = 0
  · refine r_tableIn (pc := 2) (off := 26) (tgt := 28) dX0_joinOf_2 (by rw [iv_toInt (by omega) (by omega)]; omega) (by rw [iv_toInt (by omega) (by omega)]; omega) (by rw [iv_toInt (by omega) (by omega), c1]; decide) (by decide) ?_
    refine r_lload_n (pc := 28) dX0_joinOf_28 (i := 0) rfl rfl ?_
    refine r_lload_n (pc := 29) dX0_joinOf_29 (i := 2) rfl rfl ?_
    refine r_lmin (pc := 30) (v := if j1 < j0 then j1 else j0) qX0_111 dX0_joinOf_30 (Nat.le_of_ble_eq_true rfl) rfl ?_
    exact r_lret (pc := 33) dX0_joinOf_33 rfl ⟨rfl, ht, _, rfl, trivial⟩
  by_cases c3 : x2 = 1
  · refine r_tableIn (pc := 2) (off := 32) (tgt := 34) dX0_joinOf_2 (by rw [iv_toInt (by omega) (by omega)]; omega) (by rw [iv_toInt (by omega) (by omega)]; omega) (by rw [iv_toInt (by omega) (by omega), c3]; decide) (by decide) ?_
    refine r_lload_n (pc := 34) dX0_joinOf_34 (i := 0) rfl rfl ?_
    refine r_lload_n (pc := 35) dX0_joinOf_35 (i := 2) rfl rfl ?_
    refine r_lmax (pc := 36) (v := if j1 < j0 then j0 else j1) qX0_115 dX0_joinOf_36 (Nat.le_of_ble_eq_true rfl) rfl ?_
    exact r_lret (pc := 39) dX0_joinOf_39 rfl ⟨rfl, ht, _, rfl, trivial⟩
  by_cases c5 : x2 = 2
  · refine r_tableIn (pc := 2) (off := 38) (tgt := 40) dX0_joinOf_2 (by rw [iv_toInt (by omega) (by omega)]; omega) (by rw [iv_toInt (by omega) (by omega)]; omega) (by rw [iv_toInt (by omega) (by omega), c5]; decide) (by decide) ?_
    refine r_lload_n (pc := 40) dX0_joinOf_40 (i := 0) rfl rfl ?_
    refine r_lload_n (pc := 41) dX0_joinOf_41 (i := 2) rfl rfl ?_
    refine r_ladd (pc := 42) (v := j0 + j1) dX0_joinOf_42 rfl ?_
    exact r_lret (pc := 43) dX0_joinOf_43 rfl ⟨rfl, ht, _, rfl, trivial⟩
  refine r_tableOut (pc := 2) (tgt := 44) dX0_joinOf_2 (by rw [iv_toInt (by omega) (by omega)]; omega) (by decide) ?_
  refine r_lload_n (pc := 44) dX0_joinOf_44 (i := 0) rfl rfl ?_
  refine r_lload_n (pc := 45) dX0_joinOf_45 (i := 2) rfl rfl ?_
  refine r_lxor (pc := 46) (v := j0 ^^^ j1) dX0_joinOf_46 rfl ?_
  exact r_lret (pc := 47) dX0_joinOf_47 rfl ⟨rfl, ht, _, rfl, trivial⟩
set_option maxHeartbeats 4000000 in
set_option maxRecDepth 100000 in
theorem t_X0_blend {D : va_G} {cI cJ cZ cT : ClassId} {lo b L : Nat} {xs : Nat → Int32} {hp : MH} {n d : Nat} {Γ : TG} {ca : Nat} {cM : Nat} {cn : Nat} {ia : Nat} {iM : Nat} {ka : Nat} {kM : Nat} {x3 : Int} (hd0 : 1 ≤ d) (hc : TyCw Γ cI cJ cZ ca cM cn) (hi : TyC Γ cI cJ cZ ia iM cn) (hk : TyC Γ cI cJ cZ ka kM cn) (ht : Tw Γ hp) (hx3 : (-2147483648) ≤ x3 ∧ x3 ≤ 2147483647) : Mt (gG D cI cJ cZ cT lo b L xs) mX0_blend d 0 0 [.ref ca, .ref ia, .ref ka, .int (iv x3)] hp n (pV Γ n) := by
  obtain ⟨hc_O, hc_numbers, hc_b⟩ := id hc
  obtain ⟨hi_O, hi_numbers, hi_b⟩ := id hi
  obtain ⟨hk_O, hk_numbers, hk_b⟩ := id hk
  refine Mt.of rfl (Nat.le_of_ble_eq_true rfl) ?_
  refine Rn.pick (lv' := [(0, .ref ca), (1, .ref ia), (2, .ref ka), (3, .int (iv x3))]) [0, 1, 2, 3] rfl ?_
  refine r_iconst (pc := 0) (v := iv 0) dX0_blend_0 (by decide) ?_
  refine r_istore (pc := 1) (lv' := [(4, .int (iv 0)), (0, .ref ca), (1, .ref ia), (2, .ref ka), (3, .int (iv x3))]) dX0_blend_1 (by decide) rfl ?_
  have B3 : ∀ k : Nat, ∀ hp3 : MH, Tw Γ hp3 → ∀  (v3_4 : Int), 0 ≤ v3_4 ∧ v3_4 ≤ 16 → 16 - v3_4 ≤ (k : Int) → Rn (gG D cI cJ cZ cT lo b L xs) mX0_blend d 3 [(0, .ref ca), (1, .ref ia), (2, .ref ka), (3, .int (iv x3)), (4, .int (iv v3_4))] [] hp3 n 0 0 (pV Γ n) := by
    refine lpS _ ?_
    intro k3 ih3 hp3 ht3 v3_4 hf3 hm3
    refine r_iload (pc := 3) dX0_blend_3 rfl ?_
    refine r_aload_n (pc := 5) dX0_blend_5 (i := 0) rfl rfl ?_
    refine t_getE (pc := 6) (.int (iv (cn : Int))) ht3 hc_O fX0_15 dX0_blend_6 rfl ?_
    refine t_icmp_ge (pc := 9) (tgt := 43) dX0_blend_9 (by decide) (by omega) (by omega) (fun c9 => ?_) (fun c9 => ?_)
    · exact r_vret (pc := 43) dX0_blend_43 rfl ⟨rfl, ht3, rfl⟩
    · refine r_aload_n (pc := 12) dX0_blend_12 (i := 0) rfl rfl ?_
      refine t_getE (pc := 13) (.ref cM) ht3 hc_O fX0_9 dX0_blend_13 rfl ?_
      refine r_iload (pc := 16) dX0_blend_16 rfl ?_
      refine r_aload_n (pc := 18) dX0_blend_18 (i := 1) rfl rfl ?_
      refine t_getE (pc := 19) (.ref iM) ht3 hi_O fX0_9 dX0_blend_19 rfl ?_
      refine r_iload (pc := 22) dX0_blend_22 rfl ?_
      refine t_lald (pc := 24) (t0 := 1) ht3 hi_numbers dX0_blend_24 rfl (by omega) (by omega) (fun w1 _ => ?_)
      refine r_aload_n (pc := 25) dX0_blend_25 (i := 2) rfl rfl ?_
      refine t_getE (pc := 26) (.ref kM) ht3 hk_O fX0_9 dX0_blend_26 rfl ?_
      refine r_iload (pc := 29) dX0_blend_29 rfl ?_
      refine t_lald (pc := 31) (t0 := 1) ht3 hk_numbers dX0_blend_31 rfl (by omega) (by omega) (fun w2 _ => ?_)
      refine r_iload_n (pc := 32) dX0_blend_32 (i := 3) rfl rfl ?_
      refine t_callSJ (pc := 33) (as := [.long w1, .long w2, .int (iv x3)]) (st := [.int (iv v3_4), .ref cM]) kX0_107 dX0_blend_33 (t_X0_blendOf (d := d - 1) (j0 := w1) (j1 := w2) (x2 := x3) (by omega)   ht3 (by omega) ) rfl (by omega) (Nat.le_of_ble_eq_true rfl) rfl (fun hp3 y5 ht4 _ => ?_)
      refine t_last (pc := 36) (t0 := 1) ht4 hc_numbers dX0_blend_36 rfl (by omega) (by omega) trivial (fun hp6 ht7 => ?_)
      refine r_iinc (pc := 37) (v := iv (v3_4 + 1)) (lv' := [(4, .int (iv (v3_4 + 1))), (0, .ref ca), (1, .ref ia), (2, .ref ka), (3, .int (iv x3))]) dX0_blend_37 rfl (iv_add _ _) (by decide) rfl ?_
      refine r_goto (pc := 40) (tgt := 3) dX0_blend_40 (by decide) ?_
      refine Rn.pick (lv' := [(0, .ref ca), (1, .ref ia), (2, .ref ka), (3, .int (iv x3)), (4, .int (iv (v3_4 + 1)))]) [1, 2, 3, 4, 0] rfl ?_
      exact ih3 (Int.toNat (16 - (v3_4 + 1))) (by omega) _ ht7 (v3_4 + 1) ⟨by omega, by omega⟩ (by omega)
  refine Rn.pick (lv' := [(0, .ref ca), (1, .ref ia), (2, .ref ka), (3, .int (iv x3)), (4, .int (iv 0))]) [1, 2, 3, 4, 0] rfl ?_
  exact B3 (Int.toNat (16 - 0)) _ ht 0 ⟨by omega, by omega⟩ (by omega)
set_option maxHeartbeats 4000000 in
set_option maxRecDepth 100000 in
theorem t_X0_play {D : va_G} {cI cJ cZ cT : ClassId} {lo b L : Nat} {xs : Nat → Int32} {hp : MH} {n d : Nat} {Γ : TG} {ga : Nat} {gF : Nat} {gT : Nat} {gW : Nat} {gC : Nat} {gTl : Nat} {gHd : Nat} {gBy : Nat} {gOu : Nat} {gIn : Nat} {gJo : Nat} {gn : Nat} {gm : Nat} {gq : Nat} {gdr : Int} {ca : Nat} {cM : Nat} {x2 x3 x4 x5 : Int} (hd0 : 1 ≤ d) (hg : TyG Γ cI cJ cZ ga gF gT gW gC gTl gHd gBy gOu gIn gJo gn gm gq gdr) (hc : TyCw Γ cI cJ cZ ca cM gn) (ht : Tw Γ hp) (hx2 : (-2147483648) ≤ x2 ∧ x2 ≤ 2147483647) (hx3 : (-2147483648) ≤ x3 ∧ x3 ≤ 2147483647) (hx4 : 0 ≤ x4 ∧ x4 ≤ 1) (hx5 : 0 ≤ x5 ∧ x5 ≤ 200) : Mt (gG D cI cJ cZ cT lo b L xs) mX0_play d 1 gn [.ref ca, .ref ga, .int (iv x2), .int (iv x3), .int (iv x4), .int (iv x5)] hp n (pV Γ (n + 1)) := by
  obtain ⟨hg_O, hg_from, hg_to, hg_weight, hg_cost, hg_tail, hg_head, hg_by, hg_out, hg_in, hg_joined, hg_b⟩ := id hg
  obtain ⟨hc_O, hc_numbers, hc_b⟩ := id hc
  refine Mt.of rfl (Nat.le_of_ble_eq_true rfl) ?_
  refine Rn.pick (lv' := [(0, .ref ca), (1, .ref ga), (2, .int (iv x2)), (3, .int (iv x3)), (4, .int (iv x4)), (5, .int (iv x5))]) [0, 1, 2, 3, 4, 5] rfl ?_
  refine r_aload_n (pc := 0) dX0_play_0 (i := 0) rfl rfl ?_
  refine t_getE (pc := 1) (.int (iv (gn : Int))) ht hc_O fX0_15 dX0_play_1 rfl ?_
  refine t_newJ (pc := 4) (t0 := 1) (N := gn) ht dX0_play_4 (tb_t (k := 79) (w := Cond.arrayClass .long) (by decide +kernel)) rfl (by omega) (by omega) (by omega) (by omega) (fun hp1 Γ2 hE3 hN4 ht5 => ?_)
  refine r_astore (pc := 6) (lv' := [(6, .ref n), (0, .ref ca), (1, .ref ga), (2, .int (iv x2)), (3, .int (iv x3)), (4, .int (iv x4)), (5, .int (iv x5))]) dX0_play_6 (by decide) rfl ?_
  refine r_iconst (pc := 8) (v := iv 0) dX0_play_8 (by decide) ?_
  refine r_istore (pc := 9) (lv' := [(7, .int (iv 0)), (6, .ref n), (0, .ref ca), (1, .ref ga), (2, .int (iv x2)), (3, .int (iv x3)), (4, .int (iv x4)), (5, .int (iv x5))]) dX0_play_9 (by decide) rfl ?_
  have B11 : ∀ k : Nat, ∀ hp11 : MH, Tw Γ2 hp11 → ∀  (v11_7 : Int), 0 ≤ v11_7 ∧ v11_7 ≤ 241 → 241 - v11_7 ≤ (k : Int) → Rn (gG D cI cJ cZ cT lo b L xs) mX0_play d 11 [(0, .ref ca), (1, .ref ga), (2, .int (iv x2)), (3, .int (iv x3)), (4, .int (iv x4)), (5, .int (iv x5)), (6, .ref n), (7, .int (iv v11_7))] [] hp11 (n + 1) (1 - 1) (gn - gn) (pV Γ (n + 1)) := by
    refine lpS _ ?_
    intro k11 ih11 hp11 ht11 v11_7 hf11 hm11
    refine r_iload (pc := 11) dX0_play_11 rfl ?_
    refine r_iload (pc := 13) dX0_play_13 rfl ?_
    refine t_icmp_ge (pc := 15) (tgt := 167) dX0_play_15 (by decide) (by omega) (by omega) (fun c15 => ?_) (fun c15 => ?_)
    · exact r_vret (pc := 167) dX0_play_167 rfl ⟨rfl, (Tw_ext hE3 ht11), rfl⟩
    · refine r_aload_n (pc := 18) dX0_play_18 (i := 0) rfl rfl ?_
      refine t_getE (pc := 19) (.ref cM) ht11 (rd_ext hE3 hc_O) fX0_9 dX0_play_19 rfl ?_
      refine r_iconst (pc := 22) (v := iv 0) dX0_play_22 (by decide) ?_
      refine r_aload (pc := 23) dX0_play_23 rfl ?_
      refine r_iconst (pc := 25) (v := iv 0) dX0_play_25 (by decide) ?_
      refine r_aload_n (pc := 26) dX0_play_26 (i := 0) rfl rfl ?_
      refine t_getE (pc := 27) (.int (iv (gn : Int))) ht11 (rd_ext hE3 hc_O) fX0_15 dX0_play_27 rfl ?_
      refine t_copyJ (pc := 30) (t0 := 1) ht11 (rd_ext hE3 (rd_of hc_numbers)) hN4 aX0_101 dX0_play_30 rfl (by omega) (by omega) (Nat.le_of_ble_eq_true rfl) (fun hp6 ht7 => ?_)
      refine r_iload (pc := 33) dX0_play_33 rfl ?_
      have B46 : ∀ hp46 : MH, Tw Γ2 hp46 → ∀  (u46_0 : Int), 0 ≤ u46_0 ∧ u46_0 ≤ 65535 → Rn (gG D cI cJ cZ cT lo b L xs) mX0_play d 46 [(0, .ref ca), (1, .ref ga), (2, .int (iv x2)), (3, .int (iv x3)), (4, .int (iv x4)), (5, .int (iv x5)), (6, .ref n), (7, .int (iv v11_7))] [.int (iv u46_0)] hp46 (n + 1) (1 - 1) (gn - gn) (pV Γ (n + 1)) := by
        intro hp46 ht46 u46_0 hf46
        refine r_istore (pc := 46) (lv' := [(8, .int (iv u46_0)), (0, .ref ca), (1, .ref ga), (2, .int (iv x2)), (3, .int (iv x3)), (4, .int (iv x4)), (5, .int (iv x5)), (6, .ref n), (7, .int (iv v11_7))]) dX0_play_46 (by decide) rfl ?_
        refine r_iconst (pc := 48) (v := iv 0) dX0_play_48 (by decide) ?_
        refine r_istore (pc := 49) (lv' := [(9, .int (iv 0)), (8, .int (iv u46_0)), (0, .ref ca), (1, .ref ga), (2, .int (iv x2)), (3, .int (iv x3)), (4, .int (iv x4)), (5, .int (iv x5)), (6, .ref n), (7, .int (iv v11_7))]) dX0_play_49 (by decide) rfl ?_
        have B51 : ∀ k : Nat, ∀ hp51 : MH, Tw Γ2 hp51 → ∀  (v51_8 : Int) (v51_9 : Int), 0 ≤ v51_8 ∧ v51_8 ≤ 65535 ∧ u46_0 ≤ v51_8 ∧ 0 ≤ v51_9 ∧ v51_9 ≤ 120 → 120 - v51_9 ≤ (k : Int) → Rn (gG D cI cJ cZ cT lo b L xs) mX0_play d 51 [(0, .ref ca), (1, .ref ga), (2, .int (iv x2)), (3, .int (iv x3)), (4, .int (iv x4)), (5, .int (iv x5)), (6, .ref n), (7, .int (iv v11_7)), (8, .int (iv v51_8)), (9, .int (iv v51_9))] [] hp51 (n + 1) (1 - 1) (gn - gn) (pV Γ (n + 1)) := by
          refine lpS _ ?_
          intro k51 ih51 hp51 ht51 v51_8 v51_9 hf51 hm51
          refine r_iload (pc := 51) dX0_play_51 rfl ?_
          refine r_aload_n (pc := 53) dX0_play_53 (i := 1) rfl rfl ?_
          refine t_getE (pc := 54) (.int (iv (gq : Int))) ht51 (rd_ext hE3 hg_O) fX0_63 dX0_play_54 rfl ?_
          refine t_icmp_ge (pc := 57) (tgt := 146) dX0_play_57 (by decide) (by omega) (by omega) (fun c57 => ?_) (fun c57 => ?_)
          · refine r_aload (pc := 146) dX0_play_146 rfl ?_
            refine r_iconst (pc := 148) (v := iv 0) dX0_play_148 (by decide) ?_
            refine r_aload_n (pc := 149) dX0_play_149 (i := 0) rfl rfl ?_
            refine t_getE (pc := 150) (.ref cM) ht51 (rd_ext hE3 hc_O) fX0_9 dX0_play_150 rfl ?_
            refine r_iconst (pc := 153) (v := iv 0) dX0_play_153 (by decide) ?_
            refine r_aload_n (pc := 154) dX0_play_154 (i := 0) rfl rfl ?_
            refine t_getE (pc := 155) (.int (iv (gn : Int))) ht51 (rd_ext hE3 hc_O) fX0_15 dX0_play_155 rfl ?_
            refine t_copyJ (pc := 158) (t0 := 1) ht51 (rd_of hN4) (hE3 _ _ hc_numbers) aX0_101 dX0_play_158 rfl (by omega) (by omega) (Nat.le_of_ble_eq_true rfl) (fun hp8 ht9 => ?_)
            refine r_iinc (pc := 161) (v := iv (v11_7 + 1)) (lv' := [(7, .int (iv (v11_7 + 1))), (0, .ref ca), (1, .ref ga), (2, .int (iv x2)), (3, .int (iv x3)), (4, .int (iv x4)), (5, .int (iv x5)), (6, .ref n), (8, .int (iv v51_8)), (9, .int (iv v51_9))]) dX0_play_161 rfl (iv_add _ _) (by decide) rfl ?_
            refine r_goto (pc := 164) (tgt := 11) dX0_play_164 (by decide) ?_
            refine Rn.pick (lv' := [(0, .ref ca), (1, .ref ga), (2, .int (iv x2)), (3, .int (iv x3)), (4, .int (iv x4)), (5, .int (iv x5)), (6, .ref n), (7, .int (iv (v11_7 + 1)))]) [1, 2, 3, 4, 5, 6, 7, 0] rfl ?_
            exact ih11 (Int.toNat (241 - (v11_7 + 1))) (by omega) _ ht9 (v11_7 + 1) ⟨by omega, by omega⟩ (by omega)
          · refine r_aload_n (pc := 60) dX0_play_60 (i := 1) rfl rfl ?_
            refine t_getE (pc := 61) (.ref gHd) ht51 (rd_ext hE3 hg_O) fX0_98 dX0_play_61 rfl ?_
            refine r_iload (pc := 64) dX0_play_64 rfl ?_
            refine t_ialdR (pc := 66) (t0 := 0) ht51 (rd_ext hE3 hg_head) dX0_play_66 rfl (by omega) (by omega) (fun y10 by10 => ?_)
            refine r_istore (pc := 67) (lv' := [(10, .int (iv y10)), (0, .ref ca), (1, .ref ga), (2, .int (iv x2)), (3, .int (iv x3)), (4, .int (iv x4)), (5, .int (iv x5)), (6, .ref n), (7, .int (iv v11_7)), (8, .int (iv v51_8)), (9, .int (iv v51_9))]) dX0_play_67 (by decide) rfl ?_
            refine r_aload_n (pc := 69) dX0_play_69 (i := 0) rfl rfl ?_
            refine t_getE (pc := 70) (.ref cM) ht51 (rd_ext hE3 hc_O) fX0_9 dX0_play_70 rfl ?_
            refine r_aload_n (pc := 73) dX0_play_73 (i := 1) rfl rfl ?_
            refine t_getE (pc := 74) (.ref gTl) ht51 (rd_ext hE3 hg_O) fX0_66 dX0_play_74 rfl ?_
            refine r_iload (pc := 77) dX0_play_77 rfl ?_
            refine t_ialdR (pc := 79) (t0 := 0) ht51 (rd_ext hE3 hg_tail) dX0_play_79 rfl (by omega) (by omega) (fun y11 by11 => ?_)
            refine t_lald (pc := 80) (t0 := 1) ht51 (rd_ext hE3 (rd_of hc_numbers)) dX0_play_80 rfl (by omega) (by omega) (fun w12 _ => ?_)
            refine r_aload_n (pc := 81) dX0_play_81 (i := 1) rfl rfl ?_
            refine t_getE (pc := 82) (.ref gW) ht51 (rd_ext hE3 hg_O) fX0_69 dX0_play_82 rfl ?_
            refine r_aload_n (pc := 85) dX0_play_85 (i := 1) rfl rfl ?_
            refine t_getE (pc := 86) (.ref gBy) ht51 (rd_ext hE3 hg_O) fX0_72 dX0_play_86 rfl ?_
            refine r_iload (pc := 89) dX0_play_89 rfl ?_
            refine t_ialdR (pc := 91) (t0 := 0) ht51 (rd_ext hE3 hg_by) dX0_play_91 rfl (by omega) (by omega) (fun y13 by13 => ?_)
            refine t_ialdR (pc := 92) (t0 := 0) ht51 (rd_ext hE3 hg_weight) dX0_play_92 rfl (by omega) (by omega) (fun y14 by14 => ?_)
            refine r_i2l (pc := 93) (v := (iv y14).toInt64) dX0_play_93 rfl ?_
            refine r_iload_n (pc := 94) dX0_play_94 (i := 2) rfl rfl ?_
            refine t_callSJ (pc := 95) (as := [.long w12, .long ((iv y14).toInt64), .int (iv x2)]) (st := []) kX0_117 dX0_play_95 (t_X0_messageOf (d := d - 1) (j0 := w12) (j1 := (iv y14).toInt64) (x2 := x2) (by omega)   ht51 (by omega) ) rfl (by omega) (Nat.le_of_ble_eq_true rfl) rfl (fun hp15 y17 ht16 _ => ?_)
            refine r_lstore (pc := 98) (lv' := [(11, .long y17), (10, .int (iv y10)), (0, .ref ca), (1, .ref ga), (2, .int (iv x2)), (3, .int (iv x3)), (4, .int (iv x4)), (5, .int (iv x5)), (6, .ref n), (7, .int (iv v11_7)), (8, .int (iv v51_8)), (9, .int (iv v51_9))]) dX0_play_98 (by decide) rfl ?_
            refine r_aload (pc := 100) dX0_play_100 rfl ?_
            refine r_iload (pc := 102) dX0_play_102 rfl ?_
            refine r_iload (pc := 104) dX0_play_104 rfl ?_
            refine r_iload (pc := 106) dX0_play_106 rfl ?_
            obtain ⟨z18, hz18, bz18⟩ := shr_x v51_8 y10 (by omega) (by omega)
            refine r_ishr (pc := 108) (v := iv z18) dX0_play_108 hz18 ?_
            refine r_iconst (pc := 109) (v := iv 1) dX0_play_109 (by decide) ?_
            obtain ⟨z19, hz19, bz19⟩ := and_2 z18 1 (by omega) (by omega)
            refine r_iand (pc := 110) (v := iv z19) dX0_play_110 hz19 ?_
            have B130 : ∀ hp130 : MH, Tw Γ2 hp130 → ∀  (x130_2 : Int64), True → Rn (gG D cI cJ cZ cT lo b L xs) mX0_play d 130 [(0, .ref ca), (1, .ref ga), (2, .int (iv x2)), (3, .int (iv x3)), (4, .int (iv x4)), (5, .int (iv x5)), (6, .ref n), (7, .int (iv v11_7)), (8, .int (iv v51_8)), (9, .int (iv v51_9)), (10, .int (iv y10))] [.long x130_2, .int (iv y10), .ref n] hp130 (n + 1) (1 - 1) (gn - gn) (pV Γ (n + 1)) := by
              intro hp130 ht130 x130_2 hf130
              refine t_last (pc := 130) (t0 := 1) ht130 hN4 dX0_play_130 rfl (by omega) (by omega) trivial (fun hp20 ht21 => ?_)
              refine r_iload (pc := 131) dX0_play_131 rfl ?_
              refine r_iconst (pc := 133) (v := iv 1) dX0_play_133 (by decide) ?_
              refine r_iload (pc := 134) dX0_play_134 rfl ?_
              obtain ⟨z22, hz22, bz22⟩ := shl_1 0 15 y10 (by omega) (by omega) (by decide)
              refine r_ishl (pc := 136) (v := iv z22) dX0_play_136 hz22 ?_
              obtain ⟨z23, hz23, bz23⟩ := or_2 16 v51_8 z22 (by omega) (by omega) (by decide)
              refine r_ior (pc := 137) (v := iv z23) dX0_play_137 hz23 ?_
              refine r_istore (pc := 138) (lv' := [(8, .int (iv z23)), (0, .ref ca), (1, .ref ga), (2, .int (iv x2)), (3, .int (iv x3)), (4, .int (iv x4)), (5, .int (iv x5)), (6, .ref n), (7, .int (iv v11_7)), (9, .int (iv v51_9)), (10, .int (iv y10))]) dX0_play_138 (by decide) rfl ?_
              refine r_iinc (pc := 140) (v := iv (v51_9 + 1)) (lv' := [(9, .int (iv (v51_9 + 1))), (8, .int (iv z23)), (0, .ref ca), (1, .ref ga), (2, .int (iv x2)), (3, .int (iv x3)), (4, .int (iv x4)), (5, .int (iv x5)), (6, .ref n), (7, .int (iv v11_7)), (10, .int (iv y10))]) dX0_play_140 rfl (iv_add _ _) (by decide) rfl ?_
              refine r_goto (pc := 143) (tgt := 51) dX0_play_143 (by decide) ?_
              refine Rn.pick (lv' := [(0, .ref ca), (1, .ref ga), (2, .int (iv x2)), (3, .int (iv x3)), (4, .int (iv x4)), (5, .int (iv x5)), (6, .ref n), (7, .int (iv v11_7)), (8, .int (iv z23)), (9, .int (iv (v51_9 + 1)))]) [2, 3, 4, 5, 6, 7, 8, 9, 1, 0] rfl ?_
              exact ih51 (Int.toNat (120 - (v51_9 + 1))) (by omega) _ ht21 z23 (v51_9 + 1) ⟨by omega, by omega, by omega, by omega, by omega⟩ (by omega)
            refine t_if_ne (pc := 111) (tgt := 119) dX0_play_111 (by decide) (by omega) (fun c111 => ?_) (fun c111 => ?_)
            · refine r_aload (pc := 119) dX0_play_119 rfl ?_
              refine r_iload (pc := 121) dX0_play_121 rfl ?_
              refine t_lald (pc := 123) (t0 := 1) ht16 (rd_of hN4) dX0_play_123 rfl (by omega) (by omega) (fun w24 _ => ?_)
              refine r_lload (pc := 124) dX0_play_124 rfl ?_
              refine r_iload_n (pc := 126) dX0_play_126 (i := 3) rfl rfl ?_
              refine t_callSJ (pc := 127) (as := [.long w24, .long y17, .int (iv x3)]) (st := [.int (iv y10), .ref n]) kX0_120 dX0_play_127 (t_X0_joinOf (d := d - 1) (j0 := w24) (j1 := y17) (x2 := x3) (by omega)   ht16 (by omega) ) rfl (by omega) (Nat.le_of_ble_eq_true rfl) rfl (fun hp25 y27 ht26 _ => ?_)
              refine Rn.pick (lv' := [(0, .ref ca), (1, .ref ga), (2, .int (iv x2)), (3, .int (iv x3)), (4, .int (iv x4)), (5, .int (iv x5)), (6, .ref n), (7, .int (iv v11_7)), (8, .int (iv v51_8)), (9, .int (iv v51_9)), (10, .int (iv y10))]) [2, 3, 4, 5, 6, 7, 8, 9, 10, 11, 1] rfl ?_
              exact B130 _ ht26 y27 trivial
            · refine r_lload (pc := 114) dX0_play_114 rfl ?_
              refine r_goto (pc := 116) (tgt := 130) dX0_play_116 (by decide) ?_
              refine Rn.pick (lv' := [(0, .ref ca), (1, .ref ga), (2, .int (iv x2)), (3, .int (iv x3)), (4, .int (iv x4)), (5, .int (iv x5)), (6, .ref n), (7, .int (iv v11_7)), (8, .int (iv v51_8)), (9, .int (iv v51_9)), (10, .int (iv y10))]) [2, 3, 4, 5, 6, 7, 8, 9, 10, 11, 1] rfl ?_
              exact B130 _ ht16 y17 trivial
        refine Rn.pick (lv' := [(0, .ref ca), (1, .ref ga), (2, .int (iv x2)), (3, .int (iv x3)), (4, .int (iv x4)), (5, .int (iv x5)), (6, .ref n), (7, .int (iv v11_7)), (8, .int (iv u46_0)), (9, .int (iv 0))]) [2, 3, 4, 5, 6, 7, 8, 9, 1, 0] rfl ?_
        exact B51 (Int.toNat (120 - 0)) _ ht46 u46_0 0 ⟨by omega, by omega, by omega, by omega, by omega⟩ (by omega)
      refine t_if_eq (pc := 35) (tgt := 45) dX0_play_35 (by decide) (by omega) (fun c35 => ?_) (fun c35 => ?_)
      · refine r_iconst (pc := 45) (v := iv 0) dX0_play_45 (by decide) ?_
        refine Rn.pick (lv' := [(0, .ref ca), (1, .ref ga), (2, .int (iv x2)), (3, .int (iv x3)), (4, .int (iv x4)), (5, .int (iv x5)), (6, .ref n), (7, .int (iv v11_7))]) [0, 1, 2, 3, 4, 5, 6, 7] rfl ?_
        exact B46 _ ht7 0 ⟨by omega, by omega⟩
      · refine r_aload_n (pc := 38) dX0_play_38 (i := 1) rfl rfl ?_
        refine t_callVR (pc := 39) (as := []) (st := []) ht7 (rd_ext hE3 hg_O) kX0_75 rfl dX0_play_39 (t_X3_allNodes (d := d - 1)  (by omega) (TyG.ext hE3 hg)  ht7  ) rfl (by omega) (Nat.le_of_ble_eq_true rfl) rfl (fun hp28 y30 ht29 by30 => ?_)
        refine r_goto (pc := 42) (tgt := 46) dX0_play_42 (by decide) ?_
        refine Rn.pick (lv' := [(0, .ref ca), (1, .ref ga), (2, .int (iv x2)), (3, .int (iv x3)), (4, .int (iv x4)), (5, .int (iv x5)), (6, .ref n), (7, .int (iv v11_7))]) [0, 1, 2, 3, 4, 5, 6, 7] rfl ?_
        exact B46 _ ht29 y30 ⟨by omega, by omega⟩
  refine Rn.pick (lv' := [(0, .ref ca), (1, .ref ga), (2, .int (iv x2)), (3, .int (iv x3)), (4, .int (iv x4)), (5, .int (iv x5)), (6, .ref n), (7, .int (iv 0))]) [2, 3, 4, 5, 6, 7, 1, 0] rfl ?_
  exact B11 (Int.toNat (241 - 0)) _ ht5 0 ⟨by omega, by omega⟩ (by omega)
set_option maxHeartbeats 4000000 in
set_option maxRecDepth 100000 in
theorem t_X0_measure {D : va_G} {cI cJ cZ cT : ClassId} {lo b L : Nat} {xs : Nat → Int32} {hp : MH} {n d : Nat} {Γ : TG} {ga : Nat} {gF : Nat} {gT : Nat} {gW : Nat} {gC : Nat} {gTl : Nat} {gHd : Nat} {gBy : Nat} {gOu : Nat} {gIn : Nat} {gJo : Nat} {gn : Nat} {gm : Nat} {gq : Nat} {gdr : Int} {ca : Nat} {cM : Nat} {x2 x3 : Int} (hd0 : 3 ≤ d) (hg : TyG Γ cI cJ cZ ga gF gT gW gC gTl gHd gBy gOu gIn gJo gn gm gq gdr) (hc : TyCw Γ cI cJ cZ ca cM gn) (ht : Tw Γ hp) (hx2 : 0 ≤ x2 ∧ x2 ≤ 6) (hx3 : -2147483648 ≤ x3 ∧ x3 ≤ 2147483647) (hw5 : x2 = 5 → 0 ≤ x3 ∧ x3 ≤ 1000) : Mt (gG D cI cJ cZ cT lo b L xs) mX0_measure d 1 gn [.ref ca, .ref ga, .int (iv x2), .int (iv x3)] hp n (pVu Γ n) := by
  refine Mt.of rfl (Nat.le_of_ble_eq_true rfl) ?_
  refine Rn.pick (lv' := [(0, .ref ca), (1, .ref ga), (2, .int (iv x2)), (3, .int (iv x3))]) [0, 1, 2, 3] rfl ?_
  obtain ⟨hg_O, hg_from, hg_to, hg_weight, hg_cost, hg_tail, hg_head, hg_by, hg_out, hg_in, hg_joined, hg_b⟩ := id hg
  obtain ⟨hc_O, hc_numbers, hc_b⟩ := id hc
  refine r_iload_n (pc := 0) dX0_measure_0 (i := 2) rfl rfl ?_
  by_cases c1 : x2 = 0
  · refine r_tableIn (pc := 1) (off := 39) (tgt := 40) dX0_measure_1 (by rw [iv_toInt (by omega) (by omega)]; omega) (by rw [iv_toInt (by omega) (by omega)]; omega) (by rw [iv_toInt (by omega) (by omega), c1]; decide) (by decide) ?_
    refine r_aload_n (pc := 40) dX0_measure_40 (i := 0) rfl rfl ?_
    refine r_aload_n (pc := 41) dX0_measure_41 (i := 1) rfl rfl ?_
    refine r_iload_n (pc := 42) dX0_measure_42 (i := 2) rfl rfl ?_
    have B58 : ∀ hp58 : MH, Tw Γ hp58 → ∀  (u58_2 : Int), 0 ≤ u58_2 ∧ u58_2 ≤ 1 → Rn (gG D cI cJ cZ cT lo b L xs) mX0_measure d 58 [(1, .ref ga), (2, .int (iv x2))] [.int (iv u58_2), .ref ga, .ref ca] hp58 n 1 gn (pVu Γ n) := by
      intro hp58 ht58 u58_2 hf58
      refine r_iload_n (pc := 58) dX0_measure_58 (i := 2) rfl rfl ?_
      refine r_iconst (pc := 59) (v := iv 1) dX0_measure_59 (by decide) ?_
      have B75 : ∀ hp75 : MH, Tw Γ hp75 → ∀  (u75_3 : Int), 0 ≤ u75_3 ∧ u75_3 ≤ 1 → Rn (gG D cI cJ cZ cT lo b L xs) mX0_measure d 75 [] [.int (iv u75_3), .int (iv u58_2), .ref ga, .ref ca] hp75 n 1 gn (pVu Γ n) := by
        intro hp75 ht75 u75_3 hf75
        refine t_callVV (pc := 75) (as := [.ref ga, .int (iv u58_2), .int (iv u75_3)]) (st := []) ht75 hc_O kX0_25 rfl dX0_measure_75 (t_X0_countEnds (d := d - 1) (x2 := u58_2) (x3 := u75_3) (by omega) hg hc  ht75 (by omega) (by omega) ) rfl (by omega) (Nat.le_of_ble_eq_true rfl) rfl (fun hp2 ht3 => ?_)
        refine r_goto (pc := 78) (tgt := 156) dX0_measure_78 (by decide) ?_
        exact r_vret (pc := 156) dX0_measure_156 rfl ⟨by omega, ht3, rfl⟩
      have B70 : ∀ hp70 : MH, Tw Γ hp70 → True → Rn (gG D cI cJ cZ cT lo b L xs) mX0_measure d 70 [] [.int (iv u58_2), .ref ga, .ref ca] hp70 n 1 gn (pVu Γ n) := by
        intro hp70 ht70 hf70
        refine r_iconst (pc := 70) (v := iv 1) dX0_measure_70 (by decide) ?_
        refine r_goto (pc := 71) (tgt := 75) dX0_measure_71 (by decide) ?_
        refine Rn.pick (lv' := []) [] rfl ?_
        exact B75 _ ht70 1 ⟨by omega, by omega⟩
      refine t_icmp_eq (pc := 60) (tgt := 70) dX0_measure_60 (by decide) (by omega) (by omega) (fun c60 => ?_) (fun c60 => ?_)
      · exfalso
        omega
      · refine r_aload_n (pc := 63) dX0_measure_63 (i := 1) rfl rfl ?_
        refine t_getE (pc := 64) (.int (iv gdr)) ht58 hg_O fX0_19 dX0_measure_64 rfl ?_
        refine t_if_ne (pc := 67) (tgt := 74) dX0_measure_67 (by decide) (by omega) (fun c67 => ?_) (fun c67 => ?_)
        · refine r_iconst (pc := 74) (v := iv 0) dX0_measure_74 (by decide) ?_
          refine Rn.pick (lv' := []) [] rfl ?_
          exact B75 _ ht58 0 ⟨by omega, by omega⟩
        · refine Rn.pick (lv' := []) [] rfl ?_
          exact B70 _ ht58 trivial
    have B53 : ∀ hp53 : MH, Tw Γ hp53 → True → Rn (gG D cI cJ cZ cT lo b L xs) mX0_measure d 53 [(1, .ref ga), (2, .int (iv x2))] [.ref ga, .ref ca] hp53 n 1 gn (pVu Γ n) := by
      intro hp53 ht53 hf53
      refine r_iconst (pc := 53) (v := iv 1) dX0_measure_53 (by decide) ?_
      refine r_goto (pc := 54) (tgt := 58) dX0_measure_54 (by decide) ?_
      refine Rn.pick (lv' := [(1, .ref ga), (2, .int (iv x2))]) [0, 1] rfl ?_
      exact B58 _ ht53 1 ⟨by omega, by omega⟩
    refine t_if_eq (pc := 43) (tgt := 53) dX0_measure_43 (by decide) (by omega) (fun c43 => ?_) (fun c43 => ?_)
    · refine Rn.pick (lv' := [(1, .ref ga), (2, .int (iv x2))]) [1, 2] rfl ?_
      exact B53 _ ht trivial
    · exfalso
      omega
  by_cases c5 : x2 = 1
  · refine r_tableIn (pc := 1) (off := 39) (tgt := 40) dX0_measure_1 (by rw [iv_toInt (by omega) (by omega)]; omega) (by rw [iv_toInt (by omega) (by omega)]; omega) (by rw [iv_toInt (by omega) (by omega), c5]; decide) (by decide) ?_
    refine r_aload_n (pc := 40) dX0_measure_40 (i := 0) rfl rfl ?_
    refine r_aload_n (pc := 41) dX0_measure_41 (i := 1) rfl rfl ?_
    refine r_iload_n (pc := 42) dX0_measure_42 (i := 2) rfl rfl ?_
    have B58 : ∀ hp58 : MH, Tw Γ hp58 → ∀  (u58_2 : Int), 0 ≤ u58_2 ∧ u58_2 ≤ 1 → Rn (gG D cI cJ cZ cT lo b L xs) mX0_measure d 58 [(1, .ref ga), (2, .int (iv x2))] [.int (iv u58_2), .ref ga, .ref ca] hp58 n 1 gn (pVu Γ n) := by
      intro hp58 ht58 u58_2 hf58
      refine r_iload_n (pc := 58) dX0_measure_58 (i := 2) rfl rfl ?_
      refine r_iconst (pc := 59) (v := iv 1) dX0_measure_59 (by decide) ?_
      have B75 : ∀ hp75 : MH, Tw Γ hp75 → ∀  (u75_3 : Int), 0 ≤ u75_3 ∧ u75_3 ≤ 1 → Rn (gG D cI cJ cZ cT lo b L xs) mX0_measure d 75 [] [.int (iv u75_3), .int (iv u58_2), .ref ga, .ref ca] hp75 n 1 gn (pVu Γ n) := by
        intro hp75 ht75 u75_3 hf75
        refine t_callVV (pc := 75) (as := [.ref ga, .int (iv u58_2), .int (iv u75_3)]) (st := []) ht75 hc_O kX0_25 rfl dX0_measure_75 (t_X0_countEnds (d := d - 1) (x2 := u58_2) (x3 := u75_3) (by omega) hg hc  ht75 (by omega) (by omega) ) rfl (by omega) (Nat.le_of_ble_eq_true rfl) rfl (fun hp6 ht7 => ?_)
        refine r_goto (pc := 78) (tgt := 156) dX0_measure_78 (by decide) ?_
        exact r_vret (pc := 156) dX0_measure_156 rfl ⟨by omega, ht7, rfl⟩
      have B70 : ∀ hp70 : MH, Tw Γ hp70 → True → Rn (gG D cI cJ cZ cT lo b L xs) mX0_measure d 70 [] [.int (iv u58_2), .ref ga, .ref ca] hp70 n 1 gn (pVu Γ n) := by
        intro hp70 ht70 hf70
        refine r_iconst (pc := 70) (v := iv 1) dX0_measure_70 (by decide) ?_
        refine r_goto (pc := 71) (tgt := 75) dX0_measure_71 (by decide) ?_
        refine Rn.pick (lv' := []) [] rfl ?_
        exact B75 _ ht70 1 ⟨by omega, by omega⟩
      refine t_icmp_eq (pc := 60) (tgt := 70) dX0_measure_60 (by decide) (by omega) (by omega) (fun c60 => ?_) (fun c60 => ?_)
      · refine Rn.pick (lv' := []) [] rfl ?_
        exact B70 _ ht58 trivial
      · exfalso
        omega
    have B53 : ∀ hp53 : MH, Tw Γ hp53 → True → Rn (gG D cI cJ cZ cT lo b L xs) mX0_measure d 53 [(1, .ref ga), (2, .int (iv x2))] [.ref ga, .ref ca] hp53 n 1 gn (pVu Γ n) := by
      intro hp53 ht53 hf53
      refine r_iconst (pc := 53) (v := iv 1) dX0_measure_53 (by decide) ?_
      refine r_goto (pc := 54) (tgt := 58) dX0_measure_54 (by decide) ?_
      refine Rn.pick (lv' := [(1, .ref ga), (2, .int (iv x2))]) [0, 1] rfl ?_
      exact B58 _ ht53 1 ⟨by omega, by omega⟩
    refine t_if_eq (pc := 43) (tgt := 53) dX0_measure_43 (by decide) (by omega) (fun c43 => ?_) (fun c43 => ?_)
    · exfalso
      omega
    · refine r_aload_n (pc := 46) dX0_measure_46 (i := 1) rfl rfl ?_
      refine t_getE (pc := 47) (.int (iv gdr)) ht hg_O fX0_19 dX0_measure_47 rfl ?_
      refine t_if_ne (pc := 50) (tgt := 57) dX0_measure_50 (by decide) (by omega) (fun c50 => ?_) (fun c50 => ?_)
      · refine r_iconst (pc := 57) (v := iv 0) dX0_measure_57 (by decide) ?_
        refine Rn.pick (lv' := [(1, .ref ga), (2, .int (iv x2))]) [1, 2] rfl ?_
        exact B58 _ ht 0 ⟨by omega, by omega⟩
      · refine Rn.pick (lv' := [(1, .ref ga), (2, .int (iv x2))]) [1, 2] rfl ?_
        exact B53 _ ht trivial
  by_cases c9 : x2 = 2
  · refine r_tableIn (pc := 1) (off := 80) (tgt := 81) dX0_measure_1 (by rw [iv_toInt (by omega) (by omega)]; omega) (by rw [iv_toInt (by omega) (by omega)]; omega) (by rw [iv_toInt (by omega) (by omega), c9]; decide) (by decide) ?_
    refine r_aload_n (pc := 81) dX0_measure_81 (i := 0) rfl rfl ?_
    refine r_aload_n (pc := 82) dX0_measure_82 (i := 1) rfl rfl ?_
    refine t_callVV (pc := 83) (as := [.ref ga]) (st := []) ht hc_O kX0_29 rfl dX0_measure_83 (t_X0_sumWeights (d := d - 1)  (by omega) hg hc  ht  ) rfl (by omega) (Nat.le_of_ble_eq_true rfl) rfl (fun hp10 ht11 => ?_)
    refine r_goto (pc := 86) (tgt := 156) dX0_measure_86 (by decide) ?_
    exact r_vret (pc := 156) dX0_measure_156 rfl ⟨by omega, ht11, rfl⟩
  by_cases c13 : x2 = 3
  · refine r_tableIn (pc := 1) (off := 88) (tgt := 89) dX0_measure_1 (by rw [iv_toInt (by omega) (by omega)]; omega) (by rw [iv_toInt (by omega) (by omega)]; omega) (by rw [iv_toInt (by omega) (by omega), c13]; decide) (by decide) ?_
    refine r_aload_n (pc := 89) dX0_measure_89 (i := 0) rfl rfl ?_
    refine r_aload_n (pc := 90) dX0_measure_90 (i := 1) rfl rfl ?_
    refine t_callVVN (pc := 91) (as := [.ref ga]) (st := []) ht hc_O kX0_33 rfl dX0_measure_91 (t_X0_peel (d := d - 1)  (by omega) hg hc  ht  ) rfl (by omega) (Nat.le_of_ble_eq_true rfl) rfl (by omega) (by omega) (fun hp14 ht15 => ?_)
    refine r_goto (pc := 94) (tgt := 156) dX0_measure_94 (by decide) ?_
    exact r_vret (pc := 156) dX0_measure_156 rfl ⟨by omega, ht15, rfl⟩
  by_cases c17 : x2 = 4
  · refine r_tableIn (pc := 1) (off := 105) (tgt := 106) dX0_measure_1 (by rw [iv_toInt (by omega) (by omega)]; omega) (by rw [iv_toInt (by omega) (by omega)]; omega) (by rw [iv_toInt (by omega) (by omega), c17]; decide) (by decide) ?_
    refine r_iconst (pc := 106) (v := iv 0) dX0_measure_106 (by decide) ?_
    refine r_istore (pc := 107) (lv' := [(4, .int (iv 0)), (0, .ref ca), (1, .ref ga), (2, .int (iv x2)), (3, .int (iv x3))]) dX0_measure_107 (by decide) rfl ?_
    have B109 : ∀ k : Nat, ∀ hp109 : MH, Tw Γ hp109 → ∀  (v109_4 : Int), 0 ≤ v109_4 ∧ v109_4 ≤ 16 → 16 - v109_4 ≤ (k : Int) → Rn (gG D cI cJ cZ cT lo b L xs) mX0_measure d 109 [(0, .ref ca), (1, .ref ga), (2, .int (iv x2)), (4, .int (iv v109_4))] [] hp109 n 1 gn (pVu Γ n) := by
      refine lpS _ ?_
      intro k109 ih109 hp109 ht109 v109_4 hf109 hm109
      refine r_iload (pc := 109) dX0_measure_109 rfl ?_
      refine r_aload_n (pc := 111) dX0_measure_111 (i := 0) rfl rfl ?_
      refine t_getE (pc := 112) (.int (iv (gn : Int))) ht109 hc_O fX0_15 dX0_measure_112 rfl ?_
      refine t_icmp_ge (pc := 115) (tgt := 156) dX0_measure_115 (by decide) (by omega) (by omega) (fun c115 => ?_) (fun c115 => ?_)
      · exact r_vret (pc := 156) dX0_measure_156 rfl ⟨by omega, ht109, rfl⟩
      · refine r_aload_n (pc := 118) dX0_measure_118 (i := 0) rfl rfl ?_
        refine t_getE (pc := 119) (.ref cM) ht109 hc_O fX0_9 dX0_measure_119 rfl ?_
        refine r_iload (pc := 122) dX0_measure_122 rfl ?_
        refine r_iload_n (pc := 124) dX0_measure_124 (i := 2) rfl rfl ?_
        refine r_iconst (pc := 125) (v := iv 4) dX0_measure_125 (by decide) ?_
        have B149 : ∀ hp149 : MH, Tw Γ hp149 → ∀  (x149_2 : Int64), True → Rn (gG D cI cJ cZ cT lo b L xs) mX0_measure d 149 [(0, .ref ca), (1, .ref ga), (2, .int (iv x2)), (4, .int (iv v109_4))] [.long x149_2, .int (iv v109_4), .ref cM] hp149 n 1 gn (pVu Γ n) := by
          intro hp149 ht149 x149_2 hf149
          refine t_last (pc := 149) (t0 := 1) ht149 hc_numbers dX0_measure_149 rfl (by omega) (by omega) trivial (fun hp18 ht19 => ?_)
          refine r_iinc (pc := 150) (v := iv (v109_4 + 1)) (lv' := [(4, .int (iv (v109_4 + 1))), (0, .ref ca), (1, .ref ga), (2, .int (iv x2))]) dX0_measure_150 rfl (iv_add _ _) (by decide) rfl ?_
          refine r_goto (pc := 153) (tgt := 109) dX0_measure_153 (by decide) ?_
          refine Rn.pick (lv' := [(0, .ref ca), (1, .ref ga), (2, .int (iv x2)), (4, .int (iv (v109_4 + 1)))]) [1, 2, 3, 0] rfl ?_
          exact ih109 (Int.toNat (16 - (v109_4 + 1))) (by omega) _ ht19 (v109_4 + 1) ⟨by omega, by omega⟩ (by omega)
        refine t_icmp_ne (pc := 126) (tgt := 142) dX0_measure_126 (by decide) (by omega) (by omega) (fun c126 => ?_) (fun c126 => ?_)
        · exfalso
          omega
        · refine r_aload_n (pc := 129) dX0_measure_129 (i := 1) rfl rfl ?_
          refine t_getE (pc := 130) (.ref gOu) ht109 hg_O fX0_40 dX0_measure_130 rfl ?_
          refine r_iload (pc := 133) dX0_measure_133 rfl ?_
          refine t_callSR (pc := 135) (as := [.ref gOu, .int (iv v109_4)]) (st := [.int (iv v109_4), .ref cM]) kX0_44 dX0_measure_135 (t_X8_far (d := d - 1) (rA := gOu) (rL := gn) (x1 := v109_4) (by omega)  hg_out (by omega) ht109 (by omega) ) rfl (by omega) (Nat.le_of_ble_eq_true rfl) rfl (fun hp20 y22 ht21 by22 => ?_)
          refine r_i2l (pc := 138) (v := (iv y22).toInt64) dX0_measure_138 rfl ?_
          refine r_goto (pc := 139) (tgt := 149) dX0_measure_139 (by decide) ?_
          refine Rn.pick (lv' := [(0, .ref ca), (1, .ref ga), (2, .int (iv x2)), (4, .int (iv v109_4))]) [0, 1, 2, 3] rfl ?_
          exact B149 _ ht21 ((iv y22).toInt64) trivial
    refine Rn.pick (lv' := [(0, .ref ca), (1, .ref ga), (2, .int (iv x2)), (4, .int (iv 0))]) [1, 2, 3, 0] rfl ?_
    exact B109 (Int.toNat (16 - 0)) _ ht 0 ⟨by omega, by omega⟩ (by omega)
  by_cases c23 : x2 = 5
  · refine r_tableIn (pc := 1) (off := 96) (tgt := 97) dX0_measure_1 (by rw [iv_toInt (by omega) (by omega)]; omega) (by rw [iv_toInt (by omega) (by omega)]; omega) (by rw [iv_toInt (by omega) (by omega), c23]; decide) (by decide) ?_
    refine r_aload_n (pc := 97) dX0_measure_97 (i := 0) rfl rfl ?_
    refine r_aload_n (pc := 98) dX0_measure_98 (i := 1) rfl rfl ?_
    refine r_iload_n (pc := 99) dX0_measure_99 (i := 3) rfl rfl ?_
    refine t_callVVN (pc := 100) (as := [.ref ga, .int (iv x3)]) (st := []) ht hc_O kX0_36 rfl dX0_measure_100 (t_X0_countWalks (d := d - 1) (x2 := x3) (by omega) hg hc  ht (by omega) ) rfl (by omega) (Nat.le_of_ble_eq_true rfl) rfl (by omega) (by omega) (fun hp24 ht25 => ?_)
    refine r_goto (pc := 103) (tgt := 156) dX0_measure_103 (by decide) ?_
    exact r_vret (pc := 156) dX0_measure_156 rfl ⟨by omega, ht25, rfl⟩
  refine r_tableOut (pc := 1) (tgt := 106) dX0_measure_1 (by rw [iv_toInt (by omega) (by omega)]; omega) (by decide) ?_
  refine r_iconst (pc := 106) (v := iv 0) dX0_measure_106 (by decide) ?_
  refine r_istore (pc := 107) (lv' := [(4, .int (iv 0)), (0, .ref ca), (1, .ref ga), (2, .int (iv x2)), (3, .int (iv x3))]) dX0_measure_107 (by decide) rfl ?_
  have B109 : ∀ k : Nat, ∀ hp109 : MH, Tw Γ hp109 → ∀  (v109_4 : Int), 0 ≤ v109_4 ∧ v109_4 ≤ 16 → 16 - v109_4 ≤ (k : Int) → Rn (gG D cI cJ cZ cT lo b L xs) mX0_measure d 109 [(0, .ref ca), (1, .ref ga), (2, .int (iv x2)), (4, .int (iv v109_4))] [] hp109 n 1 gn (pVu Γ n) := by
    refine lpS _ ?_
    intro k109 ih109 hp109 ht109 v109_4 hf109 hm109
    refine r_iload (pc := 109) dX0_measure_109 rfl ?_
    refine r_aload_n (pc := 111) dX0_measure_111 (i := 0) rfl rfl ?_
    refine t_getE (pc := 112) (.int (iv (gn : Int))) ht109 hc_O fX0_15 dX0_measure_112 rfl ?_
    refine t_icmp_ge (pc := 115) (tgt := 156) dX0_measure_115 (by decide) (by omega) (by omega) (fun c115 => ?_) (fun c115 => ?_)
    · exact r_vret (pc := 156) dX0_measure_156 rfl ⟨by omega, ht109, rfl⟩
    · refine r_aload_n (pc := 118) dX0_measure_118 (i := 0) rfl rfl ?_
      refine t_getE (pc := 119) (.ref cM) ht109 hc_O fX0_9 dX0_measure_119 rfl ?_
      refine r_iload (pc := 122) dX0_measure_122 rfl ?_
      refine r_iload_n (pc := 124) dX0_measure_124 (i := 2) rfl rfl ?_
      refine r_iconst (pc := 125) (v := iv 4) dX0_measure_125 (by decide) ?_
      have B149 : ∀ hp149 : MH, Tw Γ hp149 → ∀  (x149_2 : Int64), True → Rn (gG D cI cJ cZ cT lo b L xs) mX0_measure d 149 [(0, .ref ca), (1, .ref ga), (2, .int (iv x2)), (4, .int (iv v109_4))] [.long x149_2, .int (iv v109_4), .ref cM] hp149 n 1 gn (pVu Γ n) := by
        intro hp149 ht149 x149_2 hf149
        refine t_last (pc := 149) (t0 := 1) ht149 hc_numbers dX0_measure_149 rfl (by omega) (by omega) trivial (fun hp27 ht28 => ?_)
        refine r_iinc (pc := 150) (v := iv (v109_4 + 1)) (lv' := [(4, .int (iv (v109_4 + 1))), (0, .ref ca), (1, .ref ga), (2, .int (iv x2))]) dX0_measure_150 rfl (iv_add _ _) (by decide) rfl ?_
        refine r_goto (pc := 153) (tgt := 109) dX0_measure_153 (by decide) ?_
        refine Rn.pick (lv' := [(0, .ref ca), (1, .ref ga), (2, .int (iv x2)), (4, .int (iv (v109_4 + 1)))]) [1, 2, 3, 0] rfl ?_
        exact ih109 (Int.toNat (16 - (v109_4 + 1))) (by omega) _ ht28 (v109_4 + 1) ⟨by omega, by omega⟩ (by omega)
      refine t_icmp_ne (pc := 126) (tgt := 142) dX0_measure_126 (by decide) (by omega) (by omega) (fun c126 => ?_) (fun c126 => ?_)
      · refine r_aload_n (pc := 142) dX0_measure_142 (i := 1) rfl rfl ?_
        refine r_iload (pc := 143) dX0_measure_143 rfl ?_
        refine t_callSR (pc := 145) (as := [.ref ga, .int (iv v109_4)]) (st := [.int (iv v109_4), .ref cM]) kX0_50 dX0_measure_145 (t_X8_blocks (d := d - 1) (x1 := v109_4) (by omega) hg  ht109 (by omega) ) rfl (by omega) (Nat.le_of_ble_eq_true rfl) rfl (fun hp29 y31 ht30 by31 => ?_)
        refine r_i2l (pc := 148) (v := (iv y31).toInt64) dX0_measure_148 rfl ?_
        refine Rn.pick (lv' := [(0, .ref ca), (1, .ref ga), (2, .int (iv x2)), (4, .int (iv v109_4))]) [0, 1, 2, 3] rfl ?_
        exact B149 _ ht30 ((iv y31).toInt64) trivial
      · refine r_aload_n (pc := 129) dX0_measure_129 (i := 1) rfl rfl ?_
        refine t_getE (pc := 130) (.ref gOu) ht109 hg_O fX0_40 dX0_measure_130 rfl ?_
        refine r_iload (pc := 133) dX0_measure_133 rfl ?_
        refine t_callSR (pc := 135) (as := [.ref gOu, .int (iv v109_4)]) (st := [.int (iv v109_4), .ref cM]) kX0_44 dX0_measure_135 (t_X8_far (d := d - 1) (rA := gOu) (rL := gn) (x1 := v109_4) (by omega)  hg_out (by omega) ht109 (by omega) ) rfl (by omega) (Nat.le_of_ble_eq_true rfl) rfl (fun hp32 y34 ht33 by34 => ?_)
        refine r_i2l (pc := 138) (v := (iv y34).toInt64) dX0_measure_138 rfl ?_
        refine r_goto (pc := 139) (tgt := 149) dX0_measure_139 (by decide) ?_
        refine Rn.pick (lv' := [(0, .ref ca), (1, .ref ga), (2, .int (iv x2)), (4, .int (iv v109_4))]) [0, 1, 2, 3] rfl ?_
        exact B149 _ ht33 ((iv y34).toInt64) trivial
  refine Rn.pick (lv' := [(0, .ref ca), (1, .ref ga), (2, .int (iv x2)), (4, .int (iv 0))]) [1, 2, 3, 0] rfl ?_
  exact B109 (Int.toNat (16 - 0)) _ ht 0 ⟨by omega, by omega⟩ (by omega)
