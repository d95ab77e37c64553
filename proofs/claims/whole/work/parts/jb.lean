theorem Rfx_cI2 {L N : Nat} {lo up : Int} {f g : Nat → Int} {x : Nat} (hf : Rfx N lo up f) (hg : Rfx L lo up g) (hx : x ≤ N) : Rfx L lo up (cpI f g (Int.toNat 0) (Int.toNat 0) x) := fun i hi => by
  show lo ≤ (if 0 ≤ i ∧ i < 0 + x then f (0 + (i - 0)) else g i) ∧ (if 0 ≤ i ∧ i < 0 + x then f (0 + (i - 0)) else g i) ≤ up
  by_cases e : 0 ≤ i ∧ i < 0 + x
  · rw [if_pos e]; exact hf _ (by omega)
  · rw [if_neg e]; exact hg i hi
theorem joX_irr {m : Nat} {F T : Nat → Int} {X : Nat → Prop} {a : Nat} (h : joX m F T X a a) : False := by
  obtain ⟨k, _, _, h3, h4⟩ := h
  rcases h4 with q | q <;> omega
set_option maxHeartbeats 4000000 in
set_option maxRecDepth 100000 in
theorem c_X7_lowWidthx {D : va_G} {cI cJ cZ cT : ClassId} {lo b L : Nat} {xs : Nat → Int32} {hp : MH} {n d : Nat} {Γ : TG} {ga : Nat} {gF : Nat} {gT : Nat} {gW : Nat} {gC : Nat} {gTl : Nat} {gHd : Nat} {gBy : Nat} {gOu : Nat} {gIn : Nat} {gJo : Nat} {gn : Nat} {gm : Nat} {gq : Nat} {gdr : Int} {F T W C Tl Hd By Ou In Jo : Nat → Int} {s : Nat} {Ml : Nat → Int} {x1 : Int} (hd0 : 2 ≤ d) (hg : TyG Γ cI cJ cZ ga gF gT gW gC gTl gHd gBy gOu gIn gJo gn gm gq gdr) (hxg : XG Γ cI gF gT gW gC gTl gHd gBy gOu gIn gJo gn gm gq F T W C Tl Hd By Ou In Jo) (hne4 : nE (s + 4) ga ∧ nE (s + 4) gF ∧ nE (s + 4) gT ∧ nE (s + 4) gW ∧ nE (s + 4) gC ∧ nE (s + 4) gTl ∧ nE (s + 4) gHd ∧ nE (s + 4) gBy ∧ nE (s + 4) gOu ∧ nE (s + 4) gIn ∧ nE (s + 4) gJo) (hO : rd Γ s (tO 7 [fE (.ref (s + 1)), fE (.ref (s + 2)), fE (.ref (s + 3)), fE (.ref (s + 4)), fE (.ref (s + 5))])) (hR9 : Rfx 16 0 65535 Ml) (ht : Tw (ov Γ (s + 4) (xI cI 16 Ml)) hp) (hx1 : 0 ≤ x1 ∧ x1 ≤ 65535) (hjo : rwP Jo gn (joX gm F T (fun _ => True))) (hPn : ∀ v, Me x1 v → v < gn) (hPc : ∀ v u, Me x1 v → (joA gm F T) v u → Me x1 u) : Mt (gG D cI cJ cZ cT lo b L xs) mX7_lowWidth d 0 0 [.ref s, .ref ga, .int (iv x1)] hp n (pRo Γ cI (s + 4) 16 n (fun v f => Rfx 16 0 65535 f ∧ (0 ≤ v ∧ v ≤ 16) ∧ ∀ k : Int, 0 ≤ k → (∃ l, ewL k.toNat l (joA gm F T) (Me x1)) → v ≤ k)) := by
  refine Mt.of rfl (Nat.le_of_ble_eq_true rfl) ?_
  refine Rn.pick (lv' := [(0, .ref s), (1, .ref ga), (2, .int (iv x1))]) [0, 1, 2] rfl ?_
  obtain ⟨hg_O, hg_from, hg_to, hg_weight, hg_cost, hg_tail, hg_head, hg_by, hg_out, hg_in, hg_joined, hg_b⟩ := id hg
  obtain ⟨⟨hxg_F, hxg_T, hxg_W, hxg_C, hxg_Tl, hxg_Hd, hxg_By, hxg_Ou, hxg_In, hxg_Jo⟩, ⟨hrg_F, hrg_T, hrg_W, hrg_C, hrg_Tl, hrg_Hd, hrg_By, hrg_Ou, hrg_In, hrg_Jo⟩, houg⟩ := id hxg
  obtain ⟨hr4_ga, hr4_gF, hr4_gT, hr4_gW, hr4_gC, hr4_gTl, hr4_gHd, hr4_gBy, hr4_gOu, hr4_gIn, hr4_gJo⟩ := id hne4
  have hgb := hg_b
  refine r_aload_n (pc := 0) dX7_lowWidth_0 (i := 1) rfl rfl ?_
  refine t_getE (pc := 1) (.ref gJo) ht (rd_ov (Ne.symm hr4_ga) hg_O) fX7_41 dX7_lowWidth_1 rfl ?_
  refine r_iconst (pc := 4) (v := iv 0) dX7_lowWidth_4 (by decide) ?_
  refine r_aload_n (pc := 5) dX7_lowWidth_5 (i := 0) rfl rfl ?_
  refine t_getE (pc := 6) (.ref (s + 4)) ht (rd_ov (by omega) hO) fX7_21 dX7_lowWidth_6 rfl ?_
  refine r_iconst (pc := 9) (v := iv 0) dX7_lowWidth_9 (by decide) ?_
  refine r_aload_n (pc := 10) dX7_lowWidth_10 (i := 1) rfl rfl ?_
  refine t_getE (pc := 11) (.int (iv (gn : Int))) ht (rd_ov (Ne.symm hr4_ga) hg_O) fX7_44 dX7_lowWidth_11 rfl ?_
  refine t_copyIX (pc := 14) (t0 := 0) ht (rd_ov (Ne.symm hr4_gJo) hxg_Jo) (rd_of (ov_s _ _ _)) aX7_90 dX7_lowWidth_14 rfl (by omega) (by omega) (Nat.le_of_ble_eq_true rfl) (fun hp1 ht2 => ?_)
  rw [ov_ov] at ht2
  have hR1 : Rfx 16 0 65535 (cpI Jo Ml (Int.toNat 0) (Int.toNat 0) (Int.toNat (gn : Int))) := Rfx_cI2 hrg_Jo hR9 (by omega)
  have hlo := lo_cp (M := Ml) (by omega) (fun a b h => joX_sym a b h) (fun a h => joX_irr h) hjo hrg_Jo hPn hPc
  refine r_iload_n (pc := 17) dX7_lowWidth_17 (i := 2) rfl rfl ?_
  refine r_istore_n (pc := 18) (lv' := [(3, .int (iv x1)), (0, .ref s), (1, .ref ga), (2, .int (iv x1))]) dX7_lowWidth_18 (i := 3) rfl (by decide) rfl ?_
  refine r_iconst (pc := 19) (v := iv 0) dX7_lowWidth_19 (by decide) ?_
  refine r_istore (pc := 20) (lv' := [(4, .int (iv 0)), (3, .int (iv x1)), (0, .ref s), (1, .ref ga), (2, .int (iv x1))]) dX7_lowWidth_20 (by decide) rfl ?_
  refine r_iconst (pc := 22) (v := iv 0) dX7_lowWidth_22 (by decide) ?_
  refine r_istore (pc := 23) (lv' := [(5, .int (iv 0)), (4, .int (iv 0)), (3, .int (iv x1)), (0, .ref s), (1, .ref ga), (2, .int (iv x1))]) dX7_lowWidth_23 (by decide) rfl ?_
  have B25 : ∀ k : Nat, ∀ Ml25 : Nat → Int, ∀ hp25 : MH, Tw (ov Γ (s + 4) (xI cI 16 Ml25)) hp25 → ∀  (v25_3 : Int) (v25_4 : Int) (v25_5 : Int), 0 ≤ v25_3 ∧ v25_3 ≤ 65535 ∧ v25_3 ≤ x1 ∧ 0 ≤ v25_4 ∧ v25_4 ≤ 16 ∧ 0 ≤ v25_5 ∧ v25_5 ≤ 16 ∧ (Rfx 16 0 65535 Ml25) ∧ (loI (joA gm F T) x1 Ml25 v25_3 v25_4) → 16 - v25_5 ≤ (k : Int) → Rn (gG D cI cJ cZ cT lo b L xs) mX7_lowWidth d 25 [(0, .ref s), (3, .int (iv v25_3)), (4, .int (iv v25_4)), (5, .int (iv v25_5))] [] hp25 n 0 0 (pRo Γ cI (s + 4) 16 n (fun v f => Rfx 16 0 65535 f ∧ (0 ≤ v ∧ v ≤ 16) ∧ ∀ k : Int, 0 ≤ k → (∃ l, ewL k.toNat l (joA gm F T) (Me x1)) → v ≤ k)) := by
    refine lpS _ ?_
    intro k25 ih25 Ml25 hp25 ht25 v25_3 v25_4 v25_5 hf25 hm25
    obtain ⟨hf25_0, hf25_1, hf25_2, hf25_3, hf25_4, hf25_5, hf25_6, ha25_7, ha25_8⟩ := hf25
    refine r_iload (pc := 25) dX7_lowWidth_25 rfl ?_
    refine r_bipush (pc := 27) (v := iv 16) dX7_lowWidth_27 (by decide) ?_
    refine t_icmp_ge (pc := 29) (tgt := 94) dX7_lowWidth_29 (by decide) (by omega) (by omega) (fun c29 => ?_) (fun c29 => ?_)
    · refine r_iload (pc := 94) dX7_lowWidth_94 rfl ?_
      exact r_iret (pc := 96) dX7_lowWidth_96 rfl ⟨rfl, _, Ml25, rfl, ht25, by assumption, by omega, fun k9 hk9 he9 => ((by assumption : loI (joA gm F T) x1 Ml25 v25_3 v25_4).2.2 k9 hk9 he9).1⟩
    · refine r_iload_n (pc := 32) dX7_lowWidth_32 (i := 3) rfl rfl ?_
      refine t_callSI (pc := 33) (as := [.int (iv v25_3)]) (st := []) kX7_52 dX7_lowWidth_33 (t_bitCountx (d := d - 1) (x := v25_3) (by omega) ht25 (by omega)) rfl (by omega) (Nat.le_of_ble_eq_true rfl) rfl (fun hp4 y3 ht5 by3 => ?_)
      have ey3 : y3 = bcI v25_3 16 := by3
      subst ey3
      have ry3 := bc_le v25_3 16
      refine r_iload (pc := 36) dX7_lowWidth_36 rfl ?_
      refine r_iconst (pc := 38) (v := iv 1) dX7_lowWidth_38 (by decide) ?_
      refine r_iadd (pc := 39) (v := iv (v25_4 + 1)) dX7_lowWidth_39 (iv_add _ _) ?_
      refine t_icmp_le (pc := 40) (tgt := 94) dX7_lowWidth_40 (by decide) (by omega) (by omega) (fun c40 => ?_) (fun c40 => ?_)
      · refine r_iload (pc := 94) dX7_lowWidth_94 rfl ?_
        exact r_iret (pc := 96) dX7_lowWidth_96 rfl ⟨rfl, _, Ml25, rfl, ht5, by assumption, by omega, fun k9 hk9 he9 => ((by assumption : loI (joA gm F T) x1 Ml25 v25_3 v25_4).2.2 k9 hk9 he9).1⟩
      · obtain ⟨u9, hu9⟩ := bc_ne (L := v25_3) (by omega) (by omega)
        refine r_aload_n (pc := 43) dX7_lowWidth_43 (i := 0) rfl rfl ?_
        refine r_iload_n (pc := 44) dX7_lowWidth_44 (i := 3) rfl rfl ?_
        refine t_callVI (pc := 45) (as := [.int (iv v25_3)]) (st := []) ht5 (rd_ov (by omega) hO) kX7_103 rfl dX7_lowWidth_45 (c_X7_leastDegreex (d := d - 1) (x1 := v25_3) (by omega) (rd_ov (by omega) hO) (rd_of (ov_s _ _ _)) (by assumption) ht5 (by omega) (lo_dg (by assumption : loI (joA gm F T) x1 Ml25 v25_3 v25_4) (by omega))) rfl (by omega) (Nat.le_of_ble_eq_true rfl) rfl (fun hp6 yv ht7 hyv => ?_)
        obtain ⟨byv, hyq⟩ := hyv
        obtain ⟨hmv, hle⟩ := hyq u9 hu9
        clear hyq
        refine r_istore (pc := 48) (lv' := [(6, .int (iv yv)), (0, .ref s), (3, .int (iv v25_3)), (4, .int (iv v25_4)), (5, .int (iv v25_5))]) dX7_lowWidth_48 (by decide) rfl ?_
        refine r_iload (pc := 50) dX7_lowWidth_50 rfl ?_
        refine r_aload_n (pc := 52) dX7_lowWidth_52 (i := 0) rfl rfl ?_
        refine t_getE (pc := 53) (.ref (s + 4)) ht7 (rd_ov (by omega) hO) fX7_21 dX7_lowWidth_53 rfl ?_
        refine r_iload (pc := 56) dX7_lowWidth_56 rfl ?_
        refine t_ialdX (pc := 58) (t0 := 0) ht7 (rd_of (ov_s _ _ _)) dX7_lowWidth_58 rfl (by decide) (by omega) (fun b8 => ?_)
        have rb8 := (show Rfx 16 0 65535 Ml25 by assumption) (Int.toNat yv) (by omega)
        refine t_callSI (pc := 59) (as := [.int (iv (Ml25 (Int.toNat yv)))]) (st := [.int (iv v25_4)]) kX7_52 dX7_lowWidth_59 (t_bitCountx (d := d - 1) (x := Ml25 (Int.toNat yv)) (by omega) ht7 (by omega)) rfl (by omega) (Nat.le_of_ble_eq_true rfl) rfl (fun hp10 y9 ht11 by9 => ?_)
        have ey9 : y9 = bcI (Ml25 (Int.toNat yv)) 16 := by9
        subst ey9
        have ry9 := bc_le (Ml25 (Int.toNat yv)) 16
        obtain ⟨z12, hz12, bz12⟩ := max_b v25_4 (bcI (Ml25 (Int.toNat yv)) 16) (by omega) (by omega)
        refine r_mmax (pc := 62) (v := iv z12) qX7_58 dX7_lowWidth_62 (Nat.le_of_ble_eq_true rfl) hz12 ?_
        refine r_istore (pc := 65) (lv' := [(4, .int (iv z12)), (6, .int (iv yv)), (0, .ref s), (3, .int (iv v25_3)), (5, .int (iv v25_5))]) dX7_lowWidth_65 (by decide) rfl ?_
        refine r_iload_n (pc := 67) dX7_lowWidth_67 (i := 3) rfl rfl ?_
        refine r_iconst (pc := 68) (v := iv 1) dX7_lowWidth_68 (by decide) ?_
        refine r_iload (pc := 69) dX7_lowWidth_69 rfl ?_
        refine r_ishl (pc := 71) (v := iv ((2 ^ Int.toNat yv : Nat) : Int)) dX7_lowWidth_71 (shl_e (by omega)) ?_
        have mp71_13 : 1 ≤ 2 ^ Int.toNat yv := Nat.one_le_two_pow
        have mq71_14 : 2 ^ Int.toNat yv ≤ 2 ^ 15 := Nat.pow_le_pow_right (by omega) (by omega)
        have ms71 := Me_shl (Int.toNat yv)
        refine r_iconst (pc := 72) (v := iv (-1)) dX7_lowWidth_72 (by decide) ?_
        refine r_ixor (pc := 73) (v := iv (-((2 ^ Int.toNat yv : Nat) : Int) - 1)) dX7_lowWidth_73 (iv_not _) ?_
        obtain ⟨z15, hz15, bz15⟩ := and_l v25_3 (-((2 ^ Int.toNat yv : Nat) : Int) - 1) (by omega) (by omega)
        refine r_iand (pc := 74) (v := iv z15) dX7_lowWidth_74 hz15 ?_
        have mez15 := Me_not (y := ((2 ^ Int.toNat yv : Nat) : Int)) hz15 (by omega) (by omega) (by omega)
        have hz74 : ∀ i, Me z15 i ↔ Me v25_3 i ∧ i ≠ Int.toNat yv := fun i => by rw [mez15 i, ms71 i]
        refine r_istore_n (pc := 75) (lv' := [(3, .int (iv z15)), (4, .int (iv z12)), (6, .int (iv yv)), (0, .ref s), (5, .int (iv v25_5))]) dX7_lowWidth_75 (i := 3) rfl (by decide) rfl ?_
        refine r_aload_n (pc := 76) dX7_lowWidth_76 (i := 0) rfl rfl ?_
        refine r_iload (pc := 77) dX7_lowWidth_77 rfl ?_
        refine r_aload_n (pc := 79) dX7_lowWidth_79 (i := 0) rfl rfl ?_
        refine r_iload (pc := 80) dX7_lowWidth_80 rfl ?_
        refine t_callVI (pc := 82) (as := [.int (iv yv)]) (st := [.int (iv yv), .ref s]) ht11 (rd_ov (by omega) hO) kX7_106 rfl dX7_lowWidth_82 (c_X7_leastSharedx (d := d - 1) (x1 := yv) (by omega) (rd_ov (by omega) hO) (rd_of (ov_s _ _ _)) (by assumption) ht11 (by omega) (lo_dg (by assumption : loI (joA gm F T) x1 Ml25 v25_3 v25_4) (by omega) _ hmv)) rfl (by omega) (Nat.le_of_ble_eq_true rfl) rfl (fun hp16 yu ht17 hyu => ?_)
        obtain ⟨byu, hlu⟩ := hyu
        obtain ⟨fs9, hfs9⟩ := t_obj ht17 (rd_ov (by omega) hO)
        refine r_callV (pc := 85) (as := [.int (iv yv), .int (iv yu)]) (st := []) kX7_109 rfl dX7_lowWidth_85 hfs9 (c_X7_meltIntox (d := d - 1) (x1 := yv) (x2 := yu) (by omega) hO (by assumption) ht17 (by omega) (by omega)) rfl (by omega) (Nat.le_of_ble_eq_true rfl) (Nat.zero_le _) (Nat.zero_le _) rfl (fun r18 hp19 n20 q21 => ?_)
        obtain ⟨hnn20, hrr18, M1, ht22, hR1, hmq⟩ := q21
        subst n20 r18
        change Rn _ _ _ 88 _ [] _ _ _ _ _
        have hlo : loI (joA gm F T) x1 M1 z15 z12 := lo_mt (by assumption : loI (joA gm F T) x1 Ml25 v25_3 v25_4) (by omega) hmv hle hz74 (by omega) hlu hmq hR1
        refine r_iinc (pc := 88) (v := iv (v25_5 + 1)) (lv' := [(5, .int (iv (v25_5 + 1))), (3, .int (iv z15)), (4, .int (iv z12)), (6, .int (iv yv)), (0, .ref s)]) dX7_lowWidth_88 rfl (iv_add _ _) (by decide) rfl ?_
        refine r_goto (pc := 91) (tgt := 25) dX7_lowWidth_91 (by decide) ?_
        refine Rn.pick (lv' := [(0, .ref s), (3, .int (iv z15)), (4, .int (iv z12)), (5, .int (iv (v25_5 + 1)))]) [4, 1, 2, 0] rfl ?_
        exact ih25 (Int.toNat (16 - (v25_5 + 1))) (by omega) M1 _ ht22 z15 z12 (v25_5 + 1) ⟨by omega, by omega, by omega, by omega, by omega, by omega, by omega, by exact hR1, by exact hlo⟩ (by omega)
  refine Rn.pick (lv' := [(0, .ref s), (3, .int (iv x1)), (4, .int (iv 0)), (5, .int (iv 0))]) [3, 2, 1, 0] rfl ?_
  exact B25 (Int.toNat (16 - 0)) (cpI Jo Ml (Int.toNat 0) (Int.toNat 0) (Int.toNat (gn : Int))) _ ht2 x1 0 0 ⟨by omega, by omega, by omega, by omega, by omega, by omega, by omega, by exact hR1, by exact hlo⟩ (by omega)
