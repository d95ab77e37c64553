/-- whom a node is not joined with -/
def snP (f Jo : Nat → Int) (gn : Nat) (v : Int) : Prop := ∀ i : Nat, (i : Int) < v → ∀ j : Nat, Me (f i) j ↔ (j < gn ∧ ¬ Me (Jo i) j) ∧ j ≠ i
theorem sn_0 {f Jo : Nat → Int} {gn : Nat} : snP f Jo gn 0 := fun i h => by omega
theorem sn_up {f Jo : Nat → Int} {gn : Nat} {v z : Int} (h : snP f Jo gn v) (hv : 0 ≤ v) (hz : ∀ j, Me z j ↔ (j < gn ∧ ¬ Me (Jo (Int.toNat v)) j) ∧ j ≠ Int.toNat v) : snP (fup f (Int.toNat v) z) Jo gn (v + 1) := by
  intro i hi j
  by_cases e : i = Int.toNat v
  · subst e
    have e9 : fup f (Int.toNat v) z (Int.toNat v) = z := if_pos rfl
    rw [e9]; exact hz j
  · rw [show fup f (Int.toNat v) z i = f i from if_neg e]
    exact h i (by omega) j
theorem sn_e {f Jo : Nat → Int} {gn : Nat} {v w : Int} (h : snP f Jo gn v) (hv : w ≤ v) : snP f Jo gn w := fun i hi => h i (by omega)
/-- the relation of those that are not joined -/
def njA (m : Nat) (F T : Nat → Int) (gn : Nat) (i j : Nat) : Prop := (i < gn ∧ j < gn) ∧ ¬ joA m F T i j ∧ i ≠ j
theorem nj_sym {m : Nat} {F T : Nat → Int} {gn : Nat} (i j : Nat) (h : njA m F T gn i j) : njA m F T gn j i := ⟨⟨h.1.2, h.1.1⟩, fun g => h.2.1 (joX_sym _ _ g), fun e => h.2.2 e.symm⟩
theorem sn_nj {f Jo : Nat → Int} {gn m : Nat} {F T : Nat → Int} (h : snP f Jo gn (gn : Int)) (hj : ∀ i, i < gn → ∀ j, Me (Jo i) j ↔ joA m F T i j) (i : Nat) (hi : i < gn) (j : Nat) : Me (f i) j ↔ njA m F T gn i j := by
  rw [h i (by omega) j, hj i hi j]
  exact ⟨fun g => ⟨⟨hi, g.1.1⟩, g.1.2, fun e => g.2 e.symm⟩, fun g => ⟨⟨g.1.2, g.2.1⟩, fun e => g.2.2 e.symm⟩⟩
/-- the greatest of which all are joined -/
theorem cl_nj {m : Nat} {F T : Nat → Int} {gn : Nat} {r : Int} (h : clA (njA m F T gn) (((2 ^ gn : Nat) : Int) - 1) r) : clA (fun i j => ¬ joA m F T i j) (((2 ^ gn : Nat) : Int) - 1) r := cl_cg (fun i j hi hj hne => ⟨fun g => g.2.1, fun g => ⟨⟨(Me_all i).mp hi, (Me_all j).mp hj⟩, g, hne⟩⟩) h
theorem xI_rg {cA : ClassId} {L : Nat} {lo hi : Int} {f : Nat → Int} (h : Rfx L lo hi f) (e : va_E) (he : xI cA L f e) : tI cA L (rg lo hi) e := tI_imp (fun i v hi hv => by
  have h9 := h i hi
  rw [← (show v = f i from hv)] at h9
  exact h9) e he
set_option maxHeartbeats 4000000 in
set_option maxRecDepth 100000 in
theorem c_X7_fillStrangersx {D : va_G} {cI cJ cZ cT : ClassId} {lo b L : Nat} {xs : Nat → Int32} {hp : MH} {n d : Nat} {Γ : TG} {ga : Nat} {gF : Nat} {gT : Nat} {gW : Nat} {gC : Nat} {gTl : Nat} {gHd : Nat} {gBy : Nat} {gOu : Nat} {gIn : Nat} {gJo : Nat} {gn : Nat} {gm : Nat} {gq : Nat} {gdr : Int} {F T W C Tl Hd By Ou In Jo : Nat → Int} {s : Nat} {Sf : Nat → Int} (hd0 : 1 ≤ d) (hg : TyG Γ cI cJ cZ ga gF gT gW gC gTl gHd gBy gOu gIn gJo gn gm gq gdr) (hxg : XG Γ cI gF gT gW gC gTl gHd gBy gOu gIn gJo gn gm gq F T W C Tl Hd By Ou In Jo) (hne : nE (s + 1) ga ∧ nE (s + 1) gF ∧ nE (s + 1) gT ∧ nE (s + 1) gW ∧ nE (s + 1) gC ∧ nE (s + 1) gTl ∧ nE (s + 1) gHd ∧ nE (s + 1) gBy ∧ nE (s + 1) gOu ∧ nE (s + 1) gIn ∧ nE (s + 1) gJo) (hO : rd Γ s (tO 7 [fE (.ref (s + 1)), fE (.ref (s + 2)), fE (.ref (s + 3)), fE (.ref (s + 4)), fE (.ref (s + 5))])) (hR9 : Rfx 16 0 65535 Sf) (ht : Tw (ov Γ (s + 1) (xI cI 16 Sf)) hp) : Mt (gG D cI cJ cZ cT lo b L xs) mX7_fillStrangers d 0 0 [.ref s, .ref ga] hp n (fun r hp1 n1 => n1 = n ∧ r = none ∧ ∃ f : Nat → Int, Tw (ov Γ (s + 1) (xI cI 16 f)) hp1 ∧ Rfx 16 0 65535 f ∧ snP f Jo gn (gn : Int)) := by
  refine Mt.of rfl (Nat.le_of_ble_eq_true rfl) ?_
  refine Rn.pick (lv' := [(0, .ref s), (1, .ref ga)]) [0, 1] rfl ?_
  obtain ⟨hg_O, hg_from, hg_to, hg_weight, hg_cost, hg_tail, hg_head, hg_by, hg_out, hg_in, hg_joined, hg_b⟩ := id hg
  obtain ⟨⟨hxg_F, hxg_T, hxg_W, hxg_C, hxg_Tl, hxg_Hd, hxg_By, hxg_Ou, hxg_In, hxg_Jo⟩, ⟨hrg_F, hrg_T, hrg_W, hrg_C, hrg_Tl, hrg_Hd, hrg_By, hrg_Ou, hrg_In, hrg_Jo⟩, houg⟩ := id hxg
  obtain ⟨hq_ga, hq_gF, hq_gT, hq_gW, hq_gC, hq_gTl, hq_gHd, hq_gBy, hq_gOu, hq_gIn, hq_gJo⟩ := id hne
  have hgb := hg_b
  refine r_iconst (pc := 0) (v := iv 0) dX7_fillStrangers_0 (by decide) ?_
  refine r_istore_n (pc := 1) (lv' := [(2, .int (iv 0)), (0, .ref s), (1, .ref ga)]) dX7_fillStrangers_1 (i := 2) rfl (by decide) rfl ?_
  have B2 : ∀ k : Nat, ∀ Sf2 : Nat → Int, ∀ hp2 : MH, Tw (ov Γ (s + 1) (xI cI 16 Sf2)) hp2 → ∀  (v2_2 : Int), 0 ≤ v2_2 ∧ v2_2 ≤ 16 ∧ (v2_2 ≤ (gn : Int)) ∧ (Rfx 16 0 65535 Sf2) ∧ (snP Sf2 Jo gn v2_2) → 16 - v2_2 ≤ (k : Int) → Rn (gG D cI cJ cZ cT lo b L xs) mX7_fillStrangers d 2 [(0, .ref s), (1, .ref ga), (2, .int (iv v2_2))] [] hp2 n 0 0 (fun r hp1 n1 => n1 = n ∧ r = none ∧ ∃ f : Nat → Int, Tw (ov Γ (s + 1) (xI cI 16 f)) hp1 ∧ Rfx 16 0 65535 f ∧ snP f Jo gn (gn : Int)) := by
    refine lpS _ ?_
    intro k2 ih2 Sf2 hp2 ht2 v2_2 hf2 hm2
    obtain ⟨hf2_0, hf2_1, hf2_2, ha2_3, ha2_4⟩ := hf2
    refine r_iload_n (pc := 2) dX7_fillStrangers_2 (i := 2) rfl rfl ?_
    refine r_aload_n (pc := 3) dX7_fillStrangers_3 (i := 1) rfl rfl ?_
    refine t_getE (pc := 4) (.int (iv (gn : Int))) ht2 (rd_ov (Ne.symm hq_ga) hg_O) fX7_44 dX7_fillStrangers_4 rfl ?_
    refine t_icmp_ge (pc := 7) (tgt := 41) dX7_fillStrangers_7 (by decide) (by omega) (by omega) (fun c7 => ?_) (fun c7 => ?_)
    · exact r_vret (pc := 41) dX7_fillStrangers_41 rfl ⟨rfl, rfl, Sf2, ht2, by assumption, sn_e (by assumption : snP Sf2 Jo gn v2_2) (by omega)⟩
    · refine r_aload_n (pc := 10) dX7_fillStrangers_10 (i := 0) rfl rfl ?_
      refine t_getE (pc := 11) (.ref (s + 1)) ht2 (rd_ov (by omega) hO) fX7_9 dX7_fillStrangers_11 rfl ?_
      refine r_iload_n (pc := 14) dX7_fillStrangers_14 (i := 2) rfl rfl ?_
      refine r_aload_n (pc := 15) dX7_fillStrangers_15 (i := 1) rfl rfl ?_
      refine t_callVI (pc := 16) (as := []) (st := [.int (iv v2_2), .ref (s + 1)]) ht2 (rd_ov (Ne.symm hq_ga) hg_O) kX7_31 rfl dX7_fillStrangers_16 (c_X3_allNodesx (d := d - 1)  (by omega) (TyG.ovx ⟨hq_ga, hq_gF, hq_gT, hq_gW, hq_gC, hq_gTl, hq_gHd, hq_gBy, hq_gOu, hq_gIn, hq_gJo⟩ hg) (XG.ovx ⟨hq_gF, hq_gT, hq_gW, hq_gC, hq_gTl, hq_gHd, hq_gBy, hq_gOu, hq_gIn, hq_gJo⟩ hxg) ht2  ) rfl (by omega) (Nat.le_of_ble_eq_true rfl) rfl (fun hp2 y1 ht3 by1 => ?_)
      have fy1 : (y1 = ((2 ^ gn : Nat) : Int) - 1) := by1
      have ey16 : y1 = ((2 ^ gn : Nat) : Int) - 1 := fy1
      subst ey16
      have mp5 : 1 ≤ 2 ^ gn := Nat.one_le_two_pow
      have mq5 : 2 ^ gn ≤ 2 ^ 16 := Nat.pow_le_pow_right (by omega) (by omega)
      refine r_aload_n (pc := 19) dX7_fillStrangers_19 (i := 1) rfl rfl ?_
      refine t_getE (pc := 20) (.ref gJo) ht3 (rd_ov (Ne.symm hq_ga) hg_O) fX7_41 dX7_fillStrangers_20 rfl ?_
      refine r_iload_n (pc := 23) dX7_fillStrangers_23 (i := 2) rfl rfl ?_
      refine t_ialdX (pc := 24) (t0 := 0) ht3 (rd_ov (Ne.symm hq_gJo) hxg_Jo) dX7_fillStrangers_24 rfl (by omega) (by omega) (fun b4 => ?_)
      have rb4 := (show Rfx gn 0 65535 Jo by assumption) (Int.toNat v2_2) (by omega)
      refine r_iconst (pc := 25) (v := iv (-1)) dX7_fillStrangers_25 (by decide) ?_
      refine r_ixor (pc := 26) (v := iv (-(Jo (Int.toNat v2_2)) - 1)) dX7_fillStrangers_26 (iv_not _) ?_
      obtain ⟨z5, hz5, bz5⟩ := and_l (((2 ^ gn : Nat) : Int) - 1) (-(Jo (Int.toNat v2_2)) - 1) (by omega) (by omega)
      refine r_iand (pc := 27) (v := iv z5) dX7_fillStrangers_27 hz5 ?_
      have mez5 := Me_not (y := (Jo (Int.toNat v2_2))) hz5 (by omega) (by omega) (by omega)
      refine r_iconst (pc := 28) (v := iv 1) dX7_fillStrangers_28 (by decide) ?_
      refine r_iload_n (pc := 29) dX7_fillStrangers_29 (i := 2) rfl rfl ?_
      refine r_ishl (pc := 30) (v := iv ((2 ^ Int.toNat v2_2 : Nat) : Int)) dX7_fillStrangers_30 (shl_e (by omega)) ?_
      have mp30_6 : 1 ≤ 2 ^ Int.toNat v2_2 := Nat.one_le_two_pow
      have mq30_7 : 2 ^ Int.toNat v2_2 ≤ 2 ^ 15 := Nat.pow_le_pow_right (by omega) (by omega)
      have ms30 := Me_shl (Int.toNat v2_2)
      refine r_iconst (pc := 31) (v := iv (-1)) dX7_fillStrangers_31 (by decide) ?_
      refine r_ixor (pc := 32) (v := iv (-((2 ^ Int.toNat v2_2 : Nat) : Int) - 1)) dX7_fillStrangers_32 (iv_not _) ?_
      obtain ⟨z8, hz8, bz8⟩ := and_l z5 (-((2 ^ Int.toNat v2_2 : Nat) : Int) - 1) (by omega) (by omega)
      refine r_iand (pc := 33) (v := iv z8) dX7_fillStrangers_33 hz8 ?_
      have mez8 := Me_not (y := ((2 ^ Int.toNat v2_2 : Nat) : Int)) hz8 (by omega) (by omega) (by omega)
      have hz33 : ∀ j, Me z8 j ↔ (j < gn ∧ ¬ Me (Jo (Int.toNat v2_2)) j) ∧ j ≠ Int.toNat v2_2 := fun j => by rw [mez8 j, ms30 j, mez5 j, Me_all j]
      refine t_iastX (pc := 34) (t0 := 0) ht3 (ov_s _ _ _) dX7_fillStrangers_34 rfl (by decide) (by omega) (by omega) (fun hp9 ht10 => ?_)
      rw [ov_ov] at ht10
      have hR34 : Rfx 16 0 65535 (fup Sf2 (Int.toNat v2_2) z8) := Rfx_up (by assumption) (by omega)
      have hsn := sn_up (by assumption : snP Sf2 Jo gn v2_2) (by omega) hz33
      refine r_iinc (pc := 35) (v := iv (v2_2 + 1)) (lv' := [(2, .int (iv (v2_2 + 1))), (0, .ref s), (1, .ref ga)]) dX7_fillStrangers_35 rfl (iv_add _ _) (by decide) rfl ?_
      refine r_goto (pc := 38) (tgt := 2) dX7_fillStrangers_38 (by decide) ?_
      refine Rn.pick (lv' := [(0, .ref s), (1, .ref ga), (2, .int (iv (v2_2 + 1)))]) [1, 2, 0] rfl ?_
      exact ih2 (Int.toNat (16 - (v2_2 + 1))) (by omega) (fup Sf2 (Int.toNat v2_2) z8) _ ht10 (v2_2 + 1) ⟨by omega, by omega, by omega, by (first | exact hR34 | exact hR9), by (first | exact hsn | exact sn_0)⟩ (by omega)
  refine Rn.pick (lv' := [(0, .ref s), (1, .ref ga), (2, .int (iv 0))]) [1, 2, 0] rfl ?_
  exact B2 (Int.toNat (16 - 0)) Sf _ ht 0 ⟨by omega, by omega, by omega, by (first | exact hR34 | exact hR9), by (first | exact hsn | exact sn_0)⟩ (by omega)
