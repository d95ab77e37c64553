/-- the lightest so far -/
def lmI (W : Nat → Int) (L : Nat → Prop) (v b : Int) : Prop := (b = -1 ∧ ∀ j : Nat, (j : Int) < v → L j) ∨ ((0 ≤ b ∧ b < v) ∧ ¬ L b.toNat ∧ ∀ j : Nat, (j : Int) < v → ¬ L j → W b.toNat < W j ∨ (W b.toNat = W j ∧ b.toNat ≤ j))
theorem lmi_0 {W : Nat → Int} {L : Nat → Prop} : lmI W L 0 (-1) := Or.inl ⟨rfl, fun j h => by omega⟩
theorem lmi_sk {W : Nat → Int} {L : Nat → Prop} {v b : Int} (h : lmI W L v b) (hv : 0 ≤ v) (hL : L v.toNat) : lmI W L (v + 1) b := by
  rcases h with ⟨h1, h2⟩ | ⟨h1, h2, h3⟩
  · refine Or.inl ⟨h1, fun j hj => ?_⟩
    by_cases e : j = v.toNat
    · rw [e]; exact hL
    · exact h2 j (by omega)
  · refine Or.inr ⟨by omega, h2, fun j hj hn => ?_⟩
    by_cases e : j = v.toNat
    · exact absurd (e ▸ hL) hn
    · exact h3 j (by omega) hn
theorem lmi_y {W : Nat → Int} {L : Nat → Prop} {v b : Int} (h : lmI W L v b) (hv : 0 ≤ v) (hL : ¬ L v.toNat) (hb : b < 0 ∨ W v.toNat < W b.toNat) : lmI W L (v + 1) v := by
  refine Or.inr ⟨by omega, hL, fun j hj hn => ?_⟩
  by_cases e : j = v.toNat
  · subst e; exact Or.inr ⟨rfl, Nat.le_refl _⟩
  · rcases h with ⟨h1, h2⟩ | ⟨h1, h2, h3⟩
    · exact absurd (h2 j (by omega)) hn
    · have := h3 j (by omega) hn
      omega
theorem lmi_n {W : Nat → Int} {L : Nat → Prop} {v b : Int} (h : lmI W L v b) (hv : 0 ≤ v) (hb : 0 ≤ b) (hw : W b.toNat ≤ W v.toNat) : lmI W L (v + 1) b := by
  rcases h with ⟨h1, h2⟩ | ⟨h1, h2, h3⟩
  · omega
  · refine Or.inr ⟨by omega, h2, fun j hj hn => ?_⟩
    by_cases e : j = v.toNat
    · subst e; omega
    · exact h3 j (by omega) hn
theorem lmi_end {W : Nat → Int} {L : Nat → Prop} {v b : Int} {m : Nat} (h : lmI W L v b) (hv : v = (m : Int)) : (-1 ≤ b ∧ b < (m : Int)) ∧ (b < 0 → ∀ j, j < m → L j) ∧ (0 ≤ b → lmP m W L b.toNat) := by
  rcases h with ⟨h1, h2⟩ | ⟨h1, h2, h3⟩
  · exact ⟨by omega, fun _ j hj => h2 j (by omega), fun g => by omega⟩
  · exact ⟨by omega, fun g => by omega, fun _ => ⟨⟨by omega, h2⟩, fun j hj => h3 j (by omega)⟩⟩
set_option maxHeartbeats 4000000 in
set_option maxRecDepth 100000 in
theorem c_X8_lightestArcx {D : va_G} {cI cJ cZ cT : ClassId} {lo b L : Nat} {xs : Nat → Int32} {hp : MH} {n d : Nat} {Γ : TG} {ga : Nat} {gF : Nat} {gT : Nat} {gW : Nat} {gC : Nat} {gTl : Nat} {gHd : Nat} {gBy : Nat} {gOu : Nat} {gIn : Nat} {gJo : Nat} {gn : Nat} {gm : Nat} {gq : Nat} {gdr : Int} {F T W C Tl Hd By Ou In Jo : Nat → Int} {j1 : Int64} (hd0 : 0 ≤ d) (hg : TyG Γ cI cJ cZ ga gF gT gW gC gTl gHd gBy gOu gIn gJo gn gm gq gdr) (hxg : XG Γ cI gF gT gW gC gTl gHd gBy gOu gIn gJo gn gm gq F T W C Tl Hd By Ou In Jo) (ht : Tw Γ hp) : Mt (gG D cI cJ cZ cT lo b L xs) mX8_lightestArc d 0 0 [.ref ga, .long j1] hp n (pI Γ n (fun r => ((-1 ≤ r ∧ r < (gm : Int)) ∧ (r < 0 → ∀ j, j < gm → MeL j1 j) ∧ (0 ≤ r → lmP gm W (MeL j1) (Int.toNat r))))) := by
  refine Mt.of rfl (Nat.le_of_ble_eq_true rfl) ?_
  refine Rn.pick (lv' := [(0, .ref ga), (1, .long j1)]) [0, 1] rfl ?_
  obtain ⟨hg_O, hg_from, hg_to, hg_weight, hg_cost, hg_tail, hg_head, hg_by, hg_out, hg_in, hg_joined, hg_b⟩ := id hg
  obtain ⟨⟨hxg_F, hxg_T, hxg_W, hxg_C, hxg_Tl, hxg_Hd, hxg_By, hxg_Ou, hxg_In, hxg_Jo⟩, ⟨hrg_F, hrg_T, hrg_W, hrg_C, hrg_Tl, hrg_Hd, hrg_By, hrg_Ou, hrg_In, hrg_Jo⟩, houg⟩ := id hxg
  have hgb := hg_b
  refine r_iconst (pc := 0) (v := iv (-1)) dX8_lightestArc_0 (by decide) ?_
  refine r_istore_n (pc := 1) (lv' := [(3, .int (iv (-1))), (0, .ref ga), (1, .long j1)]) dX8_lightestArc_1 (i := 3) rfl (by decide) rfl ?_
  refine r_iconst (pc := 2) (v := iv 0) dX8_lightestArc_2 (by decide) ?_
  refine r_istore (pc := 3) (lv' := [(4, .int (iv 0)), (3, .int (iv (-1))), (0, .ref ga), (1, .long j1)]) dX8_lightestArc_3 (by decide) rfl ?_
  have B5 : ∀ k : Nat, ∀ hp5 : MH, Tw Γ hp5 → ∀  (v5_3 : Int) (v5_4 : Int), (-1) ≤ v5_3 ∧ v5_3 ≤ 59 ∧ 0 ≤ v5_4 ∧ v5_4 ≤ 60 ∧ (v5_4 ≤ (gm : Int)) ∧ (v5_3 < (gm : Int)) ∧ (lmI W (MeL j1) v5_4 v5_3) → 60 - v5_4 ≤ (k : Int) → Rn (gG D cI cJ cZ cT lo b L xs) mX8_lightestArc d 5 [(0, .ref ga), (1, .long j1), (3, .int (iv v5_3)), (4, .int (iv v5_4))] [] hp5 n 0 0 (pI Γ n (fun r => ((-1 ≤ r ∧ r < (gm : Int)) ∧ (r < 0 → ∀ j, j < gm → MeL j1 j) ∧ (0 ≤ r → lmP gm W (MeL j1) (Int.toNat r))))) := by
    refine lpS _ ?_
    intro k5 ih5 hp5 ht5 v5_3 v5_4 hf5 hm5
    obtain ⟨hf5_0, hf5_1, hf5_2, hf5_3, hf5_4, hf5_5, ha5_6⟩ := hf5
    refine r_iload (pc := 5) dX8_lightestArc_5 rfl ?_
    refine r_aload_n (pc := 7) dX8_lightestArc_7 (i := 0) rfl rfl ?_
    refine t_getE (pc := 8) (.int (iv (gm : Int))) ht5 hg_O fX8_31 dX8_lightestArc_8 rfl ?_
    refine t_icmp_ge (pc := 11) (tgt := 54) dX8_lightestArc_11 (by decide) (by omega) (by omega) (fun c11 => ?_) (fun c11 => ?_)
    · refine r_iload_n (pc := 54) dX8_lightestArc_54 (i := 3) rfl rfl ?_
      exact r_iret (pc := 55) dX8_lightestArc_55 rfl ⟨rfl, ht5, _, rfl, lmi_end (by assumption : lmI W (MeL j1) v5_4 v5_3) (by omega)⟩
    · refine r_lload_n (pc := 14) dX8_lightestArc_14 (i := 1) rfl rfl ?_
      refine r_iload (pc := 15) dX8_lightestArc_15 rfl ?_
      refine r_lshr (pc := 17) dX8_lightestArc_17 ?_
      refine r_lconst (pc := 18) (v := 1) dX8_lightestArc_18 (by decide) ?_
      have hk18 : (1 : Int64).toInt = 1 := by decide
      refine r_land (pc := 19) (v := (j1 >>> ((iv v5_4).toInt64 &&& 63)) &&& (1 : Int64)) dX8_lightestArc_19 rfl ?_
      refine r_lconst (pc := 20) (v := 0) dX8_lightestArc_20 (by decide) ?_
      have hk20 : (0 : Int64).toInt = 0 := by decide
      refine r_lcmp (pc := 21) dX8_lightestArc_21 ?_
      refine t_lif_ne (pc := 22) (tgt := 48) dX8_lightestArc_22 (by decide) (fun c22 => ?_) (fun c22 => ?_)
      · have hmb := mel_bit j1 (k := Int.toNat v5_4) (by omega)
        rw [show ((Int.toNat v5_4 : Nat) : Int) = v5_4 by omega] at hmb
        have hLy := Classical.byContradiction (fun g => c22 (hmb.mpr g))
        have hlm := lmi_sk (by assumption : lmI W (MeL j1) v5_4 v5_3) (by omega) hLy
        refine r_iinc (pc := 48) (v := iv (v5_4 + 1)) (lv' := [(4, .int (iv (v5_4 + 1))), (0, .ref ga), (1, .long j1), (3, .int (iv v5_3))]) dX8_lightestArc_48 rfl (iv_add _ _) (by decide) rfl ?_
        refine r_goto (pc := 51) (tgt := 5) dX8_lightestArc_51 (by decide) ?_
        refine Rn.pick (lv' := [(0, .ref ga), (1, .long j1), (3, .int (iv v5_3)), (4, .int (iv (v5_4 + 1)))]) [1, 2, 3, 0] rfl ?_
        exact ih5 (Int.toNat (60 - (v5_4 + 1))) (by omega) _ ht5 v5_3 (v5_4 + 1) ⟨by omega, by omega, by omega, by omega, by omega, by omega, by (first | exact hlm | exact lmi_0)⟩ (by omega)
      · have hmb := mel_bit j1 (k := Int.toNat v5_4) (by omega)
        rw [show ((Int.toNat v5_4 : Nat) : Int) = v5_4 by omega] at hmb
        have hLn := hmb.mp (Classical.byContradiction c22)
        refine r_iload_n (pc := 25) dX8_lightestArc_25 (i := 3) rfl rfl ?_
        refine t_if_lt (pc := 26) (tgt := 45) dX8_lightestArc_26 (by decide) (by omega) (fun c26 => ?_) (fun c26 => ?_)
        · have hlm := lmi_y (by assumption : lmI W (MeL j1) v5_4 v5_3) (by omega) hLn (Or.inl (by omega))
          refine r_iload (pc := 45) dX8_lightestArc_45 rfl ?_
          refine r_istore_n (pc := 47) (lv' := [(3, .int (iv v5_4)), (0, .ref ga), (1, .long j1), (4, .int (iv v5_4))]) dX8_lightestArc_47 (i := 3) rfl (by decide) rfl ?_
          refine r_iinc (pc := 48) (v := iv (v5_4 + 1)) (lv' := [(4, .int (iv (v5_4 + 1))), (3, .int (iv v5_4)), (0, .ref ga), (1, .long j1)]) dX8_lightestArc_48 rfl (iv_add _ _) (by decide) rfl ?_
          refine r_goto (pc := 51) (tgt := 5) dX8_lightestArc_51 (by decide) ?_
          refine Rn.pick (lv' := [(0, .ref ga), (1, .long j1), (3, .int (iv v5_4)), (4, .int (iv (v5_4 + 1)))]) [2, 3, 1, 0] rfl ?_
          exact ih5 (Int.toNat (60 - (v5_4 + 1))) (by omega) _ ht5 v5_4 (v5_4 + 1) ⟨by omega, by omega, by omega, by omega, by omega, by omega, by (first | exact hlm | exact lmi_0)⟩ (by omega)
        · refine r_aload_n (pc := 29) dX8_lightestArc_29 (i := 0) rfl rfl ?_
          refine t_getE (pc := 30) (.ref gW) ht5 hg_O fX8_97 dX8_lightestArc_30 rfl ?_
          refine r_iload (pc := 33) dX8_lightestArc_33 rfl ?_
          refine t_ialdX (pc := 35) (t0 := 0) ht5 hxg_W dX8_lightestArc_35 rfl (by omega) (by omega) (fun b1 => ?_)
          have rb1 := (show Rfx gm (-1000) 1000 W by assumption) (Int.toNat v5_4) (by omega)
          refine r_aload_n (pc := 36) dX8_lightestArc_36 (i := 0) rfl rfl ?_
          refine t_getE (pc := 37) (.ref gW) ht5 hg_O fX8_97 dX8_lightestArc_37 rfl ?_
          refine r_iload_n (pc := 40) dX8_lightestArc_40 (i := 3) rfl rfl ?_
          refine t_ialdX (pc := 41) (t0 := 0) ht5 hxg_W dX8_lightestArc_41 rfl (by omega) (by omega) (fun b2 => ?_)
          have rb2 := (show Rfx gm (-1000) 1000 W by assumption) (Int.toNat v5_3) (by omega)
          refine t_icmp_ge (pc := 42) (tgt := 48) dX8_lightestArc_42 (by decide) (by omega) (by omega) (fun c42 => ?_) (fun c42 => ?_)
          · have hlm := lmi_n (by assumption : lmI W (MeL j1) v5_4 v5_3) (by omega) (by omega) (by omega)
            refine r_iinc (pc := 48) (v := iv (v5_4 + 1)) (lv' := [(4, .int (iv (v5_4 + 1))), (0, .ref ga), (1, .long j1), (3, .int (iv v5_3))]) dX8_lightestArc_48 rfl (iv_add _ _) (by decide) rfl ?_
            refine r_goto (pc := 51) (tgt := 5) dX8_lightestArc_51 (by decide) ?_
            refine Rn.pick (lv' := [(0, .ref ga), (1, .long j1), (3, .int (iv v5_3)), (4, .int (iv (v5_4 + 1)))]) [1, 2, 3, 0] rfl ?_
            exact ih5 (Int.toNat (60 - (v5_4 + 1))) (by omega) _ ht5 v5_3 (v5_4 + 1) ⟨by omega, by omega, by omega, by omega, by omega, by omega, by (first | exact hlm | exact lmi_0)⟩ (by omega)
          · have hlm := lmi_y (by assumption : lmI W (MeL j1) v5_4 v5_3) (by omega) hLn (Or.inr (by omega))
            refine r_iload (pc := 45) dX8_lightestArc_45 rfl ?_
            refine r_istore_n (pc := 47) (lv' := [(3, .int (iv v5_4)), (0, .ref ga), (1, .long j1), (4, .int (iv v5_4))]) dX8_lightestArc_47 (i := 3) rfl (by decide) rfl ?_
            refine r_iinc (pc := 48) (v := iv (v5_4 + 1)) (lv' := [(4, .int (iv (v5_4 + 1))), (3, .int (iv v5_4)), (0, .ref ga), (1, .long j1)]) dX8_lightestArc_48 rfl (iv_add _ _) (by decide) rfl ?_
            refine r_goto (pc := 51) (tgt := 5) dX8_lightestArc_51 (by decide) ?_
            refine Rn.pick (lv' := [(0, .ref ga), (1, .long j1), (3, .int (iv v5_4)), (4, .int (iv (v5_4 + 1)))]) [2, 3, 1, 0] rfl ?_
            exact ih5 (Int.toNat (60 - (v5_4 + 1))) (by omega) _ ht5 v5_4 (v5_4 + 1) ⟨by omega, by omega, by omega, by omega, by omega, by omega, by (first | exact hlm | exact lmi_0)⟩ (by omega)
  refine Rn.pick (lv' := [(0, .ref ga), (1, .long j1), (3, .int (iv (-1))), (4, .int (iv 0))]) [2, 3, 1, 0] rfl ?_
  exact B5 (Int.toNat (60 - 0)) _ ht (-1) 0 ⟨by omega, by omega, by omega, by omega, by omega, by omega, by (first | exact hlm | exact lmi_0)⟩ (by omega)
