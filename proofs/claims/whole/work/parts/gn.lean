theorem lgw_sy {W : Nat → Int} {g : Nat → Bool} {m : Nat} {x : Int64} {k : Int} (hW : ∀ k, k < m → -1000 ≤ W k ∧ W k ≤ 1000) (hx : x.toInt = lgW W g (Int.toNat k)) (h0 : 0 ≤ k) (hk : k < (m : Int)) (hm : m ≤ 60) (hg : g (Int.toNat k) = true) : (x + (iv (W (Int.toNat k))).toInt64).toInt = lgW W g (Int.toNat (k + 1)) := by
  have hb := lgw_b (g := g) hW (Int.toNat k) (by omega)
  have hw := hW (Int.toNat k) (by omega)
  have e9 := iv_long (x := W (Int.toNat k)) (by omega)
  rw [l_add (by omega), e9, hx, show Int.toNat (k + 1) = Int.toNat k + 1 by omega]
  show _ = lgW W g (Int.toNat k) + (if g (Int.toNat k) then W (Int.toNat k) else 0)
  rw [if_pos hg]
theorem lgw_sn {W : Nat → Int} {g : Nat → Bool} {m : Nat} {x : Int64} {k : Int} (hW : ∀ k, k < m → -1000 ≤ W k ∧ W k ≤ 1000) (hx : x.toInt = lgW W g (Int.toNat k)) (h0 : 0 ≤ k) (hk : k < (m : Int)) (hm : m ≤ 60) (hg : g (Int.toNat k) = false) : (x + 0).toInt = lgW W g (Int.toNat (k + 1)) := by
  have hb := lgw_b (g := g) hW (Int.toNat k) (by omega)
  have e9 : (0 : Int64).toInt = 0 := by decide
  rw [l_add (by omega), e9, hx, show Int.toNat (k + 1) = Int.toNat k + 1 by omega]
  show _ = lgW W g (Int.toNat k) + (if g (Int.toNat k) then W (Int.toNat k) else 0)
  rw [if_neg (fun h => by rw [hg] at h; cases h)]
set_option maxHeartbeats 4000000 in
set_option maxRecDepth 100000 in
theorem c_X8_lightWeightx {D : va_G} {cI cJ cZ cT : ClassId} {lo b L : Nat} {xs : Nat → Int32} {hp : MH} {n d : Nat} {Γ : TG} {ga : Nat} {gF : Nat} {gT : Nat} {gW : Nat} {gC : Nat} {gTl : Nat} {gHd : Nat} {gBy : Nat} {gOu : Nat} {gIn : Nat} {gJo : Nat} {gn : Nat} {gm : Nat} {gq : Nat} {gdr : Int} {F T W C Tl Hd By Ou In Jo : Nat → Int} (hd0 : 2 ≤ d) (hg : TyG Γ cI cJ cZ ga gF gT gW gC gTl gHd gBy gOu gIn gJo gn gm gq gdr) (hxg : XG Γ cI gF gT gW gC gTl gHd gBy gOu gIn gJo gn gm gq F T W C Tl Hd By Ou In Jo) (ht : Tw Γ hp) : Mt (gG D cI cJ cZ cT lo b L xs) mX8_lightWeight d 1 gn [.ref ga] hp n (fun r hp1 n1 => n1 = n + 1 ∧ Tw Γ hp1 ∧ ∃ q : Int64, r = some (.long q) ∧ q.toInt = lgW W (lgA gm F T W 1001 0).2 gm) := by
  refine Mt.of rfl (Nat.le_of_ble_eq_true rfl) ?_
  refine Rn.pick (lv' := [(0, .ref ga)]) [0] rfl ?_
  obtain ⟨hg_O, hg_from, hg_to, hg_weight, hg_cost, hg_tail, hg_head, hg_by, hg_out, hg_in, hg_joined, hg_b⟩ := id hg
  obtain ⟨⟨hxg_F, hxg_T, hxg_W, hxg_C, hxg_Tl, hxg_Hd, hxg_By, hxg_Ou, hxg_In, hxg_Jo⟩, ⟨hrg_F, hrg_T, hrg_W, hrg_C, hrg_Tl, hrg_Hd, hrg_By, hrg_Ou, hrg_In, hrg_Jo⟩, houg⟩ := id hxg
  have hgb := hg_b
  refine r_aload_n (pc := 0) dX8_lightWeight_0 (i := 0) rfl rfl ?_
  refine r_callS (pc := 1) (as := [.ref ga]) (st := []) kX8_93 dX8_lightWeight_1 (c_X8_lightArcsx (d := d - 1) (by omega) hg hxg ht) rfl (by omega) (Nat.le_of_ble_eq_true rfl) (by omega) (by omega) rfl (fun r1 hp2 n3 q4 => ?_)
  obtain ⟨hnn3, ht5, ch1, hrr1, hch⟩ := q4
  subst n3 r1
  change Rn _ _ _ 4 _ [.long ch1] _ _ _ _ _
  refine r_lstore_n (pc := 4) (lv' := [(1, .long ch1), (0, .ref ga)]) dX8_lightWeight_4 (i := 1) rfl (by decide) rfl ?_
  refine r_lconst (pc := 5) (v := 0) dX8_lightWeight_5 (by decide) ?_
  have hk5 : (0 : Int64).toInt = 0 := by decide
  refine r_lstore_n (pc := 6) (lv' := [(3, .long (0 : Int64)), (1, .long ch1), (0, .ref ga)]) dX8_lightWeight_6 (i := 3) rfl (by decide) rfl ?_
  refine r_iconst (pc := 7) (v := iv 0) dX8_lightWeight_7 (by decide) ?_
  refine r_istore (pc := 8) (lv' := [(5, .int (iv 0)), (3, .long (0 : Int64)), (1, .long ch1), (0, .ref ga)]) dX8_lightWeight_8 (by decide) rfl ?_
  have B10 : ∀ k : Nat, ∀ hp10 : MH, Tw Γ hp10 → ∀  (v10_5 : Int) (w10_3 : Int64), 0 ≤ v10_5 ∧ v10_5 ≤ 60 ∧ (v10_5 ≤ (gm : Int)) ∧ (w10_3.toInt = lgW W (lgA gm F T W 1001 0).2 (Int.toNat v10_5)) → 60 - v10_5 ≤ (k : Int) → Rn (gG D cI cJ cZ cT lo b L xs) mX8_lightWeight d 10 [(0, .ref ga), (1, .long ch1), (3, .long w10_3), (5, .int (iv v10_5))] [] hp10 (n + 1) (1 - 1) (gn - gn) (fun r hp1 n1 => n1 = n + 1 ∧ Tw Γ hp1 ∧ ∃ q : Int64, r = some (.long q) ∧ q.toInt = lgW W (lgA gm F T W 1001 0).2 gm) := by
    refine lpS _ ?_
    intro k10 ih10 hp10 ht10 v10_5 w10_3 hf10 hm10
    obtain ⟨hf10_0, hf10_1, hf10_2, ha10_3⟩ := hf10
    refine r_iload (pc := 10) dX8_lightWeight_10 rfl ?_
    refine r_aload_n (pc := 12) dX8_lightWeight_12 (i := 0) rfl rfl ?_
    refine t_getE (pc := 13) (.int (iv (gm : Int))) ht10 hg_O fX8_31 dX8_lightWeight_13 rfl ?_
    refine t_icmp_ge (pc := 16) (tgt := 51) dX8_lightWeight_16 (by decide) (by omega) (by omega) (fun c16 => ?_) (fun c16 => ?_)
    · refine r_lload_n (pc := 51) dX8_lightWeight_51 (i := 3) rfl rfl ?_
      exact r_lret (pc := 52) dX8_lightWeight_52 rfl ⟨rfl, ht10, _, rfl, by have h9 := (by assumption : w10_3.toInt = lgW W (lgA gm F T W 1001 0).2 (Int.toNat v10_5)); rw [h9, show Int.toNat v10_5 = gm by omega]⟩
    · refine r_lload_n (pc := 19) dX8_lightWeight_19 (i := 3) rfl rfl ?_
      refine r_lload_n (pc := 20) dX8_lightWeight_20 (i := 1) rfl rfl ?_
      refine r_iload (pc := 21) dX8_lightWeight_21 rfl ?_
      refine r_lshr (pc := 23) dX8_lightWeight_23 ?_
      refine r_lconst (pc := 24) (v := 1) dX8_lightWeight_24 (by decide) ?_
      have hk24 : (1 : Int64).toInt = 1 := by decide
      refine r_land (pc := 25) (v := (ch1 >>> ((iv v10_5).toInt64 &&& 63)) &&& (1 : Int64)) dX8_lightWeight_25 rfl ?_
      refine r_lconst (pc := 26) (v := 0) dX8_lightWeight_26 (by decide) ?_
      have hk26 : (0 : Int64).toInt = 0 := by decide
      refine r_lcmp (pc := 27) dX8_lightWeight_27 ?_
      refine t_lif_ne (pc := 28) (tgt := 35) dX8_lightWeight_28 (by decide) (fun c28 => ?_) (fun c28 => ?_)
      · have hmb := mel_bit ch1 (k := Int.toNat v10_5) (by omega)
        rw [show ((Int.toNat v10_5 : Nat) : Int) = v10_5 by omega] at hmb
        have hLy := (hch _).mp (Classical.byContradiction (fun g => c28 (hmb.mpr g)))
        refine r_aload_n (pc := 35) dX8_lightWeight_35 (i := 0) rfl rfl ?_
        refine t_getE (pc := 36) (.ref gW) ht10 hg_O fX8_97 dX8_lightWeight_36 rfl ?_
        refine r_iload (pc := 39) dX8_lightWeight_39 rfl ?_
        refine t_ialdX (pc := 41) (t0 := 0) ht10 hxg_W dX8_lightWeight_41 rfl (by omega) (by omega) (fun b6 => ?_)
        have rb6 := (show Rfx gm (-1000) 1000 W by assumption) (Int.toNat v10_5) (by omega)
        refine r_i2l (pc := 42) (v := (iv (W (Int.toNat v10_5))).toInt64) dX8_lightWeight_42 rfl ?_
        refine r_ladd (pc := 43) (v := w10_3 + ((iv (W (Int.toNat v10_5))).toInt64)) dX8_lightWeight_43 rfl ?_
        have hlw : (w10_3 + ((iv (W (Int.toNat v10_5))).toInt64)).toInt = lgW W (lgA gm F T W 1001 0).2 (Int.toNat (v10_5 + 1)) := lgw_sy hrg_W (by assumption : w10_3.toInt = lgW W (lgA gm F T W 1001 0).2 (Int.toNat v10_5)) (by omega) (by omega) (by omega) hLy
        refine r_lstore_n (pc := 44) (lv' := [(3, .long (w10_3 + ((iv (W (Int.toNat v10_5))).toInt64))), (0, .ref ga), (1, .long ch1), (5, .int (iv v10_5))]) dX8_lightWeight_44 (i := 3) rfl (by decide) rfl ?_
        refine r_iinc (pc := 45) (v := iv (v10_5 + 1)) (lv' := [(5, .int (iv (v10_5 + 1))), (3, .long (w10_3 + ((iv (W (Int.toNat v10_5))).toInt64))), (0, .ref ga), (1, .long ch1)]) dX8_lightWeight_45 rfl (iv_add _ _) (by decide) rfl ?_
        refine r_goto (pc := 48) (tgt := 10) dX8_lightWeight_48 (by decide) ?_
        refine Rn.pick (lv' := [(0, .ref ga), (1, .long ch1), (3, .long (w10_3 + ((iv (W (Int.toNat v10_5))).toInt64))), (5, .int (iv (v10_5 + 1)))]) [2, 3, 1, 0] rfl ?_
        exact ih10 (Int.toNat (60 - (v10_5 + 1))) (by omega) _ ht10 (v10_5 + 1) (w10_3 + ((iv (W (Int.toNat v10_5))).toInt64)) ⟨by omega, by omega, by omega, by (first | exact hlw | (show (0 : Int64).toInt = 0; decide))⟩ (by omega)
      · have hmb := mel_bit ch1 (k := Int.toNat v10_5) (by omega)
        rw [show ((Int.toNat v10_5 : Nat) : Int) = v10_5 by omega] at hmb
        have hLn : (lgA gm F T W 1001 0).2 (Int.toNat v10_5) = false := Bool.eq_false_iff.mpr (fun g9 => hmb.mp (Classical.byContradiction c28) ((hch _).mpr g9))
        refine r_lconst (pc := 31) (v := 0) dX8_lightWeight_31 (by decide) ?_
        have hk31 : (0 : Int64).toInt = 0 := by decide
        refine r_goto (pc := 32) (tgt := 43) dX8_lightWeight_32 (by decide) ?_
        refine r_ladd (pc := 43) (v := w10_3 + (0 : Int64)) dX8_lightWeight_43 rfl ?_
        have hlw : (w10_3 + (0 : Int64)).toInt = lgW W (lgA gm F T W 1001 0).2 (Int.toNat (v10_5 + 1)) := lgw_sn hrg_W (by assumption : w10_3.toInt = lgW W (lgA gm F T W 1001 0).2 (Int.toNat v10_5)) (by omega) (by omega) (by omega) hLn
        refine r_lstore_n (pc := 44) (lv' := [(3, .long (w10_3 + (0 : Int64))), (0, .ref ga), (1, .long ch1), (5, .int (iv v10_5))]) dX8_lightWeight_44 (i := 3) rfl (by decide) rfl ?_
        refine r_iinc (pc := 45) (v := iv (v10_5 + 1)) (lv' := [(5, .int (iv (v10_5 + 1))), (3, .long (w10_3 + (0 : Int64))), (0, .ref ga), (1, .long ch1)]) dX8_lightWeight_45 rfl (iv_add _ _) (by decide) rfl ?_
        refine r_goto (pc := 48) (tgt := 10) dX8_lightWeight_48 (by decide) ?_
        refine Rn.pick (lv' := [(0, .ref ga), (1, .long ch1), (3, .long (w10_3 + (0 : Int64))), (5, .int (iv (v10_5 + 1)))]) [2, 3, 1, 0] rfl ?_
        exact ih10 (Int.toNat (60 - (v10_5 + 1))) (by omega) _ ht10 (v10_5 + 1) (w10_3 + (0 : Int64)) ⟨by omega, by omega, by omega, by (first | exact hlw | (show (0 : Int64).toInt = 0; decide))⟩ (by omega)
  refine Rn.pick (lv' := [(0, .ref ga), (1, .long ch1), (3, .long (0 : Int64)), (5, .int (iv 0))]) [3, 2, 1, 0] rfl ?_
  exact B10 (Int.toNat (60 - 0)) _ ht5 0 (0 : Int64) ⟨by omega, by omega, by omega, by (first | exact hlw | (show (0 : Int64).toInt = 0; decide))⟩ (by omega)
