theorem lbi_up {jw : Nat → Int} {v : Int} (h : ∀ u : Nat, (u : Int) < v → jw u = (u : Int)) (hv : 0 ≤ v) : ∀ u : Nat, (u : Int) < v + 1 → fup jw v.toNat v u = (u : Int) := by
  intro u hu
  by_cases e : u = v.toNat
  · rw [show fup jw v.toNat v u = v from if_pos e]; omega
  · rw [show fup jw v.toNat v u = jw u from if_neg e]; exact h u (by omega)
theorem lgp_k {m : Nat} {F T W : Nat → Int} {n : Nat} {x w : Int} {k k1 : Nat} {jw : Nat → Int} {sm is : Int} (h : lgRw m F T W n x w k jw sm is) (e : k1 = k) : lgRw m F T W n x w k1 jw sm is := by rw [e]; exact h
theorem lw_s {m : Nat} {F T W : Nat → Int} {n : Nat} {x : Int} {jw : Nat → Int} {sm is : Int} (h : lgRw m F T W n x 1001 0 jw sm is) (hx : x < 0) : lwA m F T W x sm := Or.inl ⟨hx, h.2.1⟩
theorem lw_1 {m : Nat} {F T W : Nat → Int} {n : Nat} {x : Int} {jw : Nat → Int} {sm is : Int} (h : lgRw m F T W n x 1001 0 jw sm is) (hx : 0 ≤ x) (hi : is ≠ 0) : lwA m F T W x 1 := by
  refine Or.inr ⟨hx, Or.inl ⟨?_, rfl⟩⟩
  rcases h.2.2 with g | g
  · exact g.2.2
  · exact absurd g.1 hi
theorem lw_0 {m : Nat} {F T W : Nat → Int} {n : Nat} {x : Int} {jw : Nat → Int} {sm is : Int} (h : lgRw m F T W n x 1001 0 jw sm is) (hx : 0 ≤ x) (hi : is = 0) : lwA m F T W x 0 := by
  refine Or.inr ⟨hx, Or.inr ⟨?_, rfl⟩⟩
  rcases h.2.2 with g | g
  · omega
  · cases e : (lgA m F T W 1001 0).2 x.toNat with
    | false => rfl
    | true => exact absurd ⟨hx, e⟩ g.2
set_option maxHeartbeats 4000000 in
set_option maxRecDepth 100000 in
theorem x_X12_light {D : va_G} {cI cJ cZ cT : ClassId} {lo b L : Nat} {xs : Nat → Int32} {hp : MH} {n d : Nat} {Γ : TG} {y : Nat} {rf cn nm : Int} {so sz dr mn fr tt wt co : Nat → Int} {nu : Nat → Int64} {sa : Nat → Int} {wo : Nat → Int64} {ln : Nat → Int} {hw : Nat → Int64} {ro qi qc nf nt nw nc : Nat → Int} {cl nx : Nat → Int64} {ie be sd bl : Nat → Int} {bs wy ra rb : Nat → Int64} {lb bg os js ls : Nat → Int} {sp : Nat → Int64} {jw go : Nat → Int} {de : Nat → Int64} {yb ah im : Nat → Int} {x1 x2 : Int} {Po9 : Option Value → MH → Nat → Prop} (hd0 : 1 ≤ d) (hR_sizes : Rfx 121 0 16 sz) (hR_many : Rfx 121 0 60 mn) (hR_from : Rfx 7260 0 15 fr) (hR_to : Rfx 7260 0 15 tt) (hR_weight : Rfx 7260 (-1000) 1000 wt) (hR_joinedWith : Rfx 16 0 15 jw) (ht : Tw (RX Γ cI cJ cZ y rf cn nm so sz dr mn fr tt wt co nu sa wo ln hw ro qi qc nf nt nw nc cl nx ie be sd bl bs wy ra rb lb bg os js ls sp jw go de yb ah im) hp) (hx1 : 0 ≤ x1 ∧ x1 ≤ 120) (hx2 : (-1) ≤ x2 ∧ x2 ≤ 59) (hEn : enP fr tt mn sz x1) (hPo : ∀ r hp1 n1, (n1 = n ∧ ∃ (q9 : Int64) (w1 : Nat → Int), Tw (RX Γ cI cJ cZ y rf cn nm so sz dr mn fr tt wt co nu sa wo ln hw ro qi qc nf nt nw nc cl nx ie be sd bl bs wy ra rb lb bg os js ls sp w1 go de yb ah im) hp1 ∧ r = some (.long q9) ∧ (lwA (Int.toNat (mn (Int.toNat x1))) (sh fr (60 * x1)) (sh tt (60 * x1)) (sh wt (60 * x1)) x2 q9.toInt) ∧ (Rfx 16 0 15 w1)) → Po9 r hp1 n1) : Mt (gG D cI cJ cZ cT lo b L xs) mX12_light d 0 0 [.ref y, .int (iv x1), .int (iv x2)] hp n Po9 := by
  refine Mt.of rfl (Nat.le_of_ble_eq_true rfl) ?_
  refine Rn.pick (lv' := [(0, .ref y), (1, .int (iv x1)), (2, .int (iv x2))]) [0, 1, 2] rfl ?_
  have rsz := hR_sizes (Int.toNat x1) (by omega)
  have rmn := hR_many (Int.toNat x1) (by omega)
  have hFT := enF hEn (by assumption) (by assumption) (by omega) (by omega)
  have hWb : ∀ k, k < (Int.toNat (mn (Int.toNat x1))) → -1000 ≤ (sh wt (60 * x1)) k ∧ (sh wt (60 * x1)) k ≤ 1000 := fun k hk => hR_weight (60 * x1 + (k : Int)).toNat (by omega)
  refine r_aload_n (pc := 0) dX12_light_0 (i := 0) rfl rfl ?_
  refine t_getE (pc := 1) (.ref (y + 2)) ht (rd_of RX_y) fX12_13 dX12_light_1 rfl ?_
  refine r_iload_n (pc := 4) dX12_light_4 (i := 1) rfl rfl ?_
  refine t_ialdX (pc := 5) (t0 := 0) ht (rd_of RX_sizes) dX12_light_5 rfl (by decide) (by omega) (fun b1 => ?_)
  have rb1 := (show Rfx 121 0 16 sz by assumption) (Int.toNat x1) (by omega)
  refine r_istore_n (pc := 6) (lv' := [(3, .int (iv (sz (Int.toNat x1)))), (0, .ref y), (1, .int (iv x1)), (2, .int (iv x2))]) dX12_light_6 (i := 3) rfl (by decide) rfl ?_
  refine r_iconst (pc := 7) (v := iv 0) dX12_light_7 (by decide) ?_
  refine r_istore (pc := 8) (lv' := [(4, .int (iv 0)), (3, .int (iv (sz (Int.toNat x1)))), (0, .ref y), (1, .int (iv x1)), (2, .int (iv x2))]) dX12_light_8 (by decide) rfl ?_
  have B10 : ∀ k : Nat, ∀ jw10 : Nat → Int, ∀ hp10 : MH, Tw (RX Γ cI cJ cZ y rf cn nm so sz dr mn fr tt wt co nu sa wo ln hw ro qi qc nf nt nw nc cl nx ie be sd bl bs wy ra rb lb bg os js ls sp jw10 go de yb ah im) hp10 → ∀  (v10_4 : Int), 0 ≤ v10_4 ∧ v10_4 ≤ 16 ∧ (Rfx 16 0 15 jw10) ∧ (v10_4 ≤ (sz (Int.toNat x1))) ∧ (∀ u : Nat, (u : Int) < v10_4 → jw10 u = (u : Int)) → 16 - v10_4 ≤ (k : Int) → Rn (gG D cI cJ cZ cT lo b L xs) mX12_light d 10 [(0, .ref y), (1, .int (iv x1)), (2, .int (iv x2)), (3, .int (iv (sz (Int.toNat x1)))), (4, .int (iv v10_4))] [] hp10 n 0 0 Po9 := by
    refine lpS _ ?_
    intro k10 ih10 jw10 hp10 ht10 v10_4 hf10 hm10
    obtain ⟨hf10_0, hf10_1, ha10_2, hf10_3, ha10_4⟩ := hf10
    refine r_iload (pc := 10) dX12_light_10 rfl ?_
    refine r_iload_n (pc := 12) dX12_light_12 (i := 3) rfl rfl ?_
    refine t_icmp_ge (pc := 13) (tgt := 31) dX12_light_13 (by decide) (by omega) (by omega) (fun c13 => ?_) (fun c13 => ?_)
    · have hl0 : lgRw (Int.toNat (mn (Int.toNat x1))) (sh fr (60 * x1)) (sh tt (60 * x1)) (sh wt (60 * x1)) (Int.toNat (sz (Int.toNat x1))) x2 (-1000) 0 jw10 0 0 := lgp_0 (fun v hv => (by assumption : ∀ u : Nat, (u : Int) < v10_4 → jw10 u = (u : Int)) v (by omega))
      refine r_lconst (pc := 31) (v := 0) dX12_light_31 (by decide) ?_
      have hk31 : (0 : Int64).toInt = 0 := by decide
      refine r_lstore (pc := 32) (lv' := [(4, .long (0 : Int64)), (0, .ref y), (1, .int (iv x1)), (2, .int (iv x2)), (3, .int (iv (sz (Int.toNat x1))))]) dX12_light_32 (by decide) rfl ?_
      refine r_iconst (pc := 34) (v := iv 0) dX12_light_34 (by decide) ?_
      refine r_istore (pc := 35) (lv' := [(6, .int (iv 0)), (4, .long (0 : Int64)), (0, .ref y), (1, .int (iv x1)), (2, .int (iv x2)), (3, .int (iv (sz (Int.toNat x1))))]) dX12_light_35 (by decide) rfl ?_
      refine r_sipush (pc := 37) (v := iv (-1000)) dX12_light_37 (by decide) ?_
      refine r_istore (pc := 40) (lv' := [(7, .int (iv (-1000))), (6, .int (iv 0)), (4, .long (0 : Int64)), (0, .ref y), (1, .int (iv x1)), (2, .int (iv x2)), (3, .int (iv (sz (Int.toNat x1))))]) dX12_light_40 (by decide) rfl ?_
      have B42 : ∀ k : Nat, ∀ jw42 : Nat → Int, ∀ hp42 : MH, Tw (RX Γ cI cJ cZ y rf cn nm so sz dr mn fr tt wt co nu sa wo ln hw ro qi qc nf nt nw nc cl nx ie be sd bl bs wy ra rb lb bg os js ls sp jw42 go de yb ah im) hp42 → ∀  (v42_6 : Int) (v42_7 : Int) (w42_4 : Int64), 0 ≤ v42_6 ∧ v42_6 ≤ 1 ∧ (-1000) ≤ v42_7 ∧ v42_7 ≤ 1001 ∧ (Rfx 16 0 15 jw42) ∧ (lgRw (Int.toNat (mn (Int.toNat x1))) (sh fr (60 * x1)) (sh tt (60 * x1)) (sh wt (60 * x1)) (Int.toNat (sz (Int.toNat x1))) x2 v42_7 0 jw42 w42_4.toInt v42_6) → 1001 - v42_7 ≤ (k : Int) → Rn (gG D cI cJ cZ cT lo b L xs) mX12_light d 42 [(0, .ref y), (1, .int (iv x1)), (2, .int (iv x2)), (3, .int (iv (sz (Int.toNat x1)))), (4, .long w42_4), (6, .int (iv v42_6)), (7, .int (iv v42_7))] [] hp42 n 0 0 Po9 := by
        refine lpS _ ?_
        intro k42 ih42 jw42 hp42 ht42 v42_6 v42_7 w42_4 hf42 hm42
        obtain ⟨hf42_0, hf42_1, hf42_2, hf42_3, ha42_4, ha42_5⟩ := hf42
        refine r_iload (pc := 42) dX12_light_42 rfl ?_
        refine r_sipush (pc := 44) (v := iv 1000) dX12_light_44 (by decide) ?_
        refine t_icmp_gt (pc := 47) (tgt := 203) dX12_light_47 (by decide) (by omega) (by omega) (fun c47 => ?_) (fun c47 => ?_)
        · have hfin : lgRw (Int.toNat (mn (Int.toNat x1))) (sh fr (60 * x1)) (sh tt (60 * x1)) (sh wt (60 * x1)) (Int.toNat (sz (Int.toNat x1))) x2 1001 0 jw42 w42_4.toInt v42_6 := by
            have h9 := (by assumption : lgRw (Int.toNat (mn (Int.toNat x1))) (sh fr (60 * x1)) (sh tt (60 * x1)) (sh wt (60 * x1)) (Int.toNat (sz (Int.toNat x1))) x2 v42_7 0 jw42 w42_4.toInt v42_6)
            rw [show v42_7 = 1001 by omega] at h9
            exact h9
          refine r_iload_n (pc := 203) dX12_light_203 (i := 2) rfl rfl ?_
          refine t_if_ge (pc := 204) (tgt := 212) dX12_light_204 (by decide) (by omega) (fun c204 => ?_) (fun c204 => ?_)
          · refine r_iload (pc := 212) dX12_light_212 rfl ?_
            refine t_if_eq (pc := 214) (tgt := 221) dX12_light_214 (by decide) (by omega) (fun c214 => ?_) (fun c214 => ?_)
            · refine r_lconst (pc := 221) (v := 0) dX12_light_221 (by decide) ?_
              have hk221 : (0 : Int64).toInt = 0 := by decide
              exact r_lret (pc := 222) dX12_light_222 rfl (hPo _ _ _ ⟨rfl, (0 : Int64), jw42, ht42, rfl, (by (rw [hk221]; exact lw_0 hfin (by omega) (by omega))), (by assumption)⟩)
            · refine r_lconst (pc := 217) (v := 1) dX12_light_217 (by decide) ?_
              have hk217 : (1 : Int64).toInt = 1 := by decide
              refine r_goto (pc := 218) (tgt := 222) dX12_light_218 (by decide) ?_
              exact r_lret (pc := 222) dX12_light_222 rfl (hPo _ _ _ ⟨rfl, (1 : Int64), jw42, ht42, rfl, (by (rw [hk217]; exact lw_1 hfin (by omega) (by omega))), (by assumption)⟩)
          · refine r_lload (pc := 207) dX12_light_207 rfl ?_
            refine r_goto (pc := 209) (tgt := 222) dX12_light_209 (by decide) ?_
            exact r_lret (pc := 222) dX12_light_222 rfl (hPo _ _ _ ⟨rfl, w42_4, jw42, ht42, rfl, (by exact lw_s hfin (by omega)), (by assumption)⟩)
        · have h42 := (by assumption : lgRw (Int.toNat (mn (Int.toNat x1))) (sh fr (60 * x1)) (sh tt (60 * x1)) (sh wt (60 * x1)) (Int.toNat (sz (Int.toNat x1))) x2 v42_7 0 jw42 w42_4.toInt v42_6)
          refine r_iconst (pc := 50) (v := iv 0) dX12_light_50 (by decide) ?_
          refine r_istore (pc := 51) (lv' := [(8, .int (iv 0)), (0, .ref y), (1, .int (iv x1)), (2, .int (iv x2)), (3, .int (iv (sz (Int.toNat x1)))), (4, .long w42_4), (6, .int (iv v42_6)), (7, .int (iv v42_7))]) dX12_light_51 (by decide) rfl ?_
          have B53 : ∀ k : Nat, ∀ jw53 : Nat → Int, ∀ hp53 : MH, Tw (RX Γ cI cJ cZ y rf cn nm so sz dr mn fr tt wt co nu sa wo ln hw ro qi qc nf nt nw nc cl nx ie be sd bl bs wy ra rb lb bg os js ls sp jw53 go de yb ah im) hp53 → ∀  (v53_6 : Int) (v53_8 : Int) (w53_4 : Int64), 0 ≤ v53_6 ∧ v53_6 ≤ 1 ∧ 0 ≤ v53_8 ∧ v53_8 ≤ 60 ∧ (Rfx 16 0 15 jw53) ∧ (v53_8 ≤ (mn (Int.toNat x1))) ∧ (lgRw (Int.toNat (mn (Int.toNat x1))) (sh fr (60 * x1)) (sh tt (60 * x1)) (sh wt (60 * x1)) (Int.toNat (sz (Int.toNat x1))) x2 v42_7 (Int.toNat v53_8) jw53 w53_4.toInt v53_6) → 60 - v53_8 ≤ (k : Int) → Rn (gG D cI cJ cZ cT lo b L xs) mX12_light d 53 [(0, .ref y), (1, .int (iv x1)), (2, .int (iv x2)), (3, .int (iv (sz (Int.toNat x1)))), (4, .long w53_4), (6, .int (iv v53_6)), (7, .int (iv v42_7)), (8, .int (iv v53_8))] [] hp53 n 0 0 Po9 := by
            refine lpS _ ?_
            intro k53 ih53 jw53 hp53 ht53 v53_6 v53_8 w53_4 hf53 hm53
            obtain ⟨hf53_0, hf53_1, hf53_2, hf53_3, ha53_4, hf53_5, ha53_6⟩ := hf53
            refine r_iload (pc := 53) dX12_light_53 rfl ?_
            refine r_aload_n (pc := 55) dX12_light_55 (i := 0) rfl rfl ?_
            refine t_getE (pc := 56) (.ref (y + 4)) ht53 (rd_of RX_y) fX12_20 dX12_light_56 rfl ?_
            refine r_iload_n (pc := 59) dX12_light_59 (i := 1) rfl rfl ?_
            refine t_ialdX (pc := 60) (t0 := 0) ht53 (rd_of RX_many) dX12_light_60 rfl (by decide) (by omega) (fun b2 => ?_)
            have rb2 := (show Rfx 121 0 60 mn by assumption) (Int.toNat x1) (by omega)
            refine t_icmp_ge (pc := 61) (tgt := 197) dX12_light_61 (by decide) (by omega) (by omega) (fun c61 => ?_) (fun c61 => ?_)
            · have h53 := (by assumption : lgRw (Int.toNat (mn (Int.toNat x1))) (sh fr (60 * x1)) (sh tt (60 * x1)) (sh wt (60 * x1)) (Int.toNat (sz (Int.toNat x1))) x2 v42_7 (Int.toNat v53_8) jw53 w53_4.toInt v53_6)
              have hlw := lgp_w (by omega) (by omega) h53
              refine r_iinc (pc := 197) (v := iv (v42_7 + 1)) (lv' := [(7, .int (iv (v42_7 + 1))), (0, .ref y), (1, .int (iv x1)), (2, .int (iv x2)), (3, .int (iv (sz (Int.toNat x1)))), (4, .long w53_4), (6, .int (iv v53_6)), (8, .int (iv v53_8))]) dX12_light_197 rfl (iv_add _ _) (by decide) rfl ?_
              refine r_goto (pc := 200) (tgt := 42) dX12_light_200 (by decide) ?_
              refine Rn.pick (lv' := [(0, .ref y), (1, .int (iv x1)), (2, .int (iv x2)), (3, .int (iv (sz (Int.toNat x1)))), (4, .long w53_4), (6, .int (iv v53_6)), (7, .int (iv (v42_7 + 1)))]) [1, 2, 3, 4, 5, 6, 0] rfl ?_
              exact ih42 (Int.toNat (1001 - (v42_7 + 1))) (by omega) jw53 _ ht53 v53_6 (v42_7 + 1) w53_4 ⟨by omega, by omega, by omega, by omega, by assumption, by (first | exact hlw | (rw [hk31]; exact hl0))⟩ (by omega)
            · have h53 := (by assumption : lgRw (Int.toNat (mn (Int.toNat x1))) (sh fr (60 * x1)) (sh tt (60 * x1)) (sh wt (60 * x1)) (Int.toNat (sz (Int.toNat x1))) x2 v42_7 (Int.toNat v53_8) jw53 w53_4.toInt v53_6)
              refine r_iload_n (pc := 64) dX12_light_64 (i := 1) rfl rfl ?_
              refine r_iload (pc := 65) dX12_light_65 rfl ?_
              refine t_callSI (pc := 67) (as := [.int (iv x1), .int (iv v53_8)]) (st := []) kX12_157 dX12_light_67 (t_X12_at1x (d := d - 1) (x1 := x1) (x2 := v53_8) (by omega)  ht53 (by omega) (by omega)) rfl (by omega) (Nat.le_of_ble_eq_true rfl) rfl (fun hp3 y5 ht4 by5 => ?_)
              have ey5 : y5 = 60 * x1 + v53_8 := by5
              subst ey5
              refine r_istore (pc := 70) (lv' := [(9, .int (iv (60 * x1 + v53_8))), (0, .ref y), (1, .int (iv x1)), (2, .int (iv x2)), (3, .int (iv (sz (Int.toNat x1)))), (4, .long w53_4), (6, .int (iv v53_6)), (7, .int (iv v42_7)), (8, .int (iv v53_8))]) dX12_light_70 (by decide) rfl ?_
              have eF := sh_at fr (60 * x1) (v := v53_8) (by omega)
              have eT := sh_at tt (60 * x1) (v := v53_8) (by omega)
              have eW := sh_at wt (60 * x1) (v := v53_8) (by omega)
              have hFk : ((sh fr (60 * x1)) (Int.toNat v53_8)).toNat < (Int.toNat (sz (Int.toNat x1))) ∧ ((sh tt (60 * x1)) (Int.toNat v53_8)).toNat < (Int.toNat (sz (Int.toNat x1))) := by have h9 := hFT (Int.toNat v53_8) (by omega); omega
              refine r_aload_n (pc := 72) dX12_light_72 (i := 0) rfl rfl ?_
              refine t_getE (pc := 73) (.ref (y + 37)) ht4 (rd_of RX_y) fX12_121 dX12_light_73 rfl ?_
              refine r_aload_n (pc := 76) dX12_light_76 (i := 0) rfl rfl ?_
              refine t_getE (pc := 77) (.ref (y + 5)) ht4 (rd_of RX_y) fX12_23 dX12_light_77 rfl ?_
              refine r_iload (pc := 80) dX12_light_80 rfl ?_
              refine t_ialdX (pc := 82) (t0 := 0) ht4 (rd_of RX_from) dX12_light_82 rfl (by decide) (by omega) (fun b6 => ?_)
              have rb6 := (show Rfx 7260 0 15 fr by assumption) (Int.toNat (60 * x1 + v53_8)) (by omega)
              refine t_ialdX (pc := 83) (t0 := 0) ht4 (rd_of RX_joinedWith) dX12_light_83 rfl (by decide) (by omega) (fun b7 => ?_)
              have rb7 := (show Rfx 16 0 15 jw53 by assumption) (Int.toNat (fr (Int.toNat (60 * x1 + v53_8)))) (by omega)
              refine r_istore (pc := 84) (lv' := [(10, .int (iv (jw53 (Int.toNat (fr (Int.toNat (60 * x1 + v53_8))))))), (9, .int (iv (60 * x1 + v53_8))), (0, .ref y), (1, .int (iv x1)), (2, .int (iv x2)), (3, .int (iv (sz (Int.toNat x1)))), (4, .long w53_4), (6, .int (iv v53_6)), (7, .int (iv v42_7)), (8, .int (iv v53_8))]) dX12_light_84 (by decide) rfl ?_
              refine r_aload_n (pc := 86) dX12_light_86 (i := 0) rfl rfl ?_
              refine t_getE (pc := 87) (.ref (y + 37)) ht4 (rd_of RX_y) fX12_121 dX12_light_87 rfl ?_
              refine r_aload_n (pc := 90) dX12_light_90 (i := 0) rfl rfl ?_
              refine t_getE (pc := 91) (.ref (y + 6)) ht4 (rd_of RX_y) fX12_26 dX12_light_91 rfl ?_
              refine r_iload (pc := 94) dX12_light_94 rfl ?_
              refine t_ialdX (pc := 96) (t0 := 0) ht4 (rd_of RX_to) dX12_light_96 rfl (by decide) (by omega) (fun b8 => ?_)
              have rb8 := (show Rfx 7260 0 15 tt by assumption) (Int.toNat (60 * x1 + v53_8)) (by omega)
              refine t_ialdX (pc := 97) (t0 := 0) ht4 (rd_of RX_joinedWith) dX12_light_97 rfl (by decide) (by omega) (fun b9 => ?_)
              have rb9 := (show Rfx 16 0 15 jw53 by assumption) (Int.toNat (tt (Int.toNat (60 * x1 + v53_8)))) (by omega)
              refine r_istore (pc := 98) (lv' := [(11, .int (iv (jw53 (Int.toNat (tt (Int.toNat (60 * x1 + v53_8))))))), (10, .int (iv (jw53 (Int.toNat (fr (Int.toNat (60 * x1 + v53_8))))))), (9, .int (iv (60 * x1 + v53_8))), (0, .ref y), (1, .int (iv x1)), (2, .int (iv x2)), (3, .int (iv (sz (Int.toNat x1)))), (4, .long w53_4), (6, .int (iv v53_6)), (7, .int (iv v42_7)), (8, .int (iv v53_8))]) dX12_light_98 (by decide) rfl ?_
              refine r_aload_n (pc := 100) dX12_light_100 (i := 0) rfl rfl ?_
              refine t_getE (pc := 101) (.ref (y + 7)) ht4 (rd_of RX_y) fX12_29 dX12_light_101 rfl ?_
              refine r_iload (pc := 104) dX12_light_104 rfl ?_
              refine t_ialdX (pc := 106) (t0 := 0) ht4 (rd_of RX_weight) dX12_light_106 rfl (by decide) (by omega) (fun b10 => ?_)
              have rb10 := (show Rfx 7260 (-1000) 1000 wt by assumption) (Int.toNat (60 * x1 + v53_8)) (by omega)
              refine r_iload (pc := 107) dX12_light_107 rfl ?_
              refine t_icmp_ne (pc := 109) (tgt := 191) dX12_light_109 (by decide) (by omega) (by omega) (fun c109 => ?_) (fun c109 => ?_)
              · have hlg := lgp_no (by rw [← eW]; omega) h53
                refine r_iinc (pc := 191) (v := iv (v53_8 + 1)) (lv' := [(8, .int (iv (v53_8 + 1))), (11, .int (iv (jw53 (Int.toNat (tt (Int.toNat (60 * x1 + v53_8))))))), (10, .int (iv (jw53 (Int.toNat (fr (Int.toNat (60 * x1 + v53_8))))))), (9, .int (iv (60 * x1 + v53_8))), (0, .ref y), (1, .int (iv x1)), (2, .int (iv x2)), (3, .int (iv (sz (Int.toNat x1)))), (4, .long w53_4), (6, .int (iv v53_6)), (7, .int (iv v42_7))]) dX12_light_191 rfl (iv_add _ _) (by decide) rfl ?_
                refine r_goto (pc := 194) (tgt := 53) dX12_light_194 (by decide) ?_
                refine Rn.pick (lv' := [(0, .ref y), (1, .int (iv x1)), (2, .int (iv x2)), (3, .int (iv (sz (Int.toNat x1)))), (4, .long w53_4), (6, .int (iv v53_6)), (7, .int (iv v42_7)), (8, .int (iv (v53_8 + 1)))]) [4, 5, 6, 7, 8, 9, 10, 0] rfl ?_
                exact ih53 (Int.toNat (60 - (v53_8 + 1))) (by omega) jw53 _ ht4 v53_6 (v53_8 + 1) w53_4 ⟨by omega, by omega, by omega, by omega, by assumption, by omega, by (first | exact lgp_k hlg (by omega) | exact h42)⟩ (by omega)
              · refine r_iload (pc := 112) dX12_light_112 rfl ?_
                refine r_iload (pc := 114) dX12_light_114 rfl ?_
                refine t_icmp_eq (pc := 116) (tgt := 191) dX12_light_116 (by decide) (by omega) (by omega) (fun c116 => ?_) (fun c116 => ?_)
                · have hlg := lgp_eq hFk (by rw [← eF, ← eT]; omega) h53
                  refine r_iinc (pc := 191) (v := iv (v53_8 + 1)) (lv' := [(8, .int (iv (v53_8 + 1))), (11, .int (iv (jw53 (Int.toNat (tt (Int.toNat (60 * x1 + v53_8))))))), (10, .int (iv (jw53 (Int.toNat (fr (Int.toNat (60 * x1 + v53_8))))))), (9, .int (iv (60 * x1 + v53_8))), (0, .ref y), (1, .int (iv x1)), (2, .int (iv x2)), (3, .int (iv (sz (Int.toNat x1)))), (4, .long w53_4), (6, .int (iv v53_6)), (7, .int (iv v42_7))]) dX12_light_191 rfl (iv_add _ _) (by decide) rfl ?_
                  refine r_goto (pc := 194) (tgt := 53) dX12_light_194 (by decide) ?_
                  refine Rn.pick (lv' := [(0, .ref y), (1, .int (iv x1)), (2, .int (iv x2)), (3, .int (iv (sz (Int.toNat x1)))), (4, .long w53_4), (6, .int (iv v53_6)), (7, .int (iv v42_7)), (8, .int (iv (v53_8 + 1)))]) [4, 5, 6, 7, 8, 9, 10, 0] rfl ?_
                  exact ih53 (Int.toNat (60 - (v53_8 + 1))) (by omega) jw53 _ ht4 v53_6 (v53_8 + 1) w53_4 ⟨by omega, by omega, by omega, by omega, by assumption, by omega, by (first | exact lgp_k hlg (by omega) | exact h42)⟩ (by omega)
                · have hne9 : jw53 ((sh fr (60 * x1)) (Int.toNat v53_8)).toNat ≠ jw53 ((sh tt (60 * x1)) (Int.toNat v53_8)).toNat := by rw [← eF, ← eT]; omega
                  refine r_lload (pc := 119) dX12_light_119 rfl ?_
                  refine r_iload (pc := 121) dX12_light_121 rfl ?_
                  refine r_i2l (pc := 123) (v := (iv v42_7).toInt64) dX12_light_123 rfl ?_
                  refine r_ladd (pc := 124) (v := w53_4 + ((iv v42_7).toInt64)) dX12_light_124 rfl ?_
                  refine r_lstore (pc := 125) (lv' := [(4, .long (w53_4 + ((iv v42_7).toInt64))), (11, .int (iv (jw53 (Int.toNat (tt (Int.toNat (60 * x1 + v53_8))))))), (10, .int (iv (jw53 (Int.toNat (fr (Int.toNat (60 * x1 + v53_8))))))), (9, .int (iv (60 * x1 + v53_8))), (0, .ref y), (1, .int (iv x1)), (2, .int (iv x2)), (3, .int (iv (sz (Int.toNat x1)))), (6, .int (iv v53_6)), (7, .int (iv v42_7)), (8, .int (iv v53_8))]) dX12_light_125 (by decide) rfl ?_
                  have hsb := lgw_b (g := (lgA (Int.toNat (mn (Int.toNat x1))) (sh fr (60 * x1)) (sh tt (60 * x1)) (sh wt (60 * x1)) v42_7 (Int.toNat v53_8)).2) hWb (Int.toNat (mn (Int.toNat x1))) (Nat.le_refl _)
                  have hs2 := h53.2.1
                  have hsm : (w53_4 + ((iv v42_7).toInt64)).toInt = w53_4.toInt + v42_7 := by
                    have e9 := iv_long (x := v42_7) (by omega)
                    rw [l_add (by omega)]; omega
                  refine r_iload (pc := 127) dX12_light_127 rfl ?_
                  refine t_if_ne (pc := 129) (tgt := 138) dX12_light_129 (by decide) (by omega) (fun c129 => ?_) (fun c129 => ?_)
                  · refine r_iconst (pc := 138) (v := iv 1) dX12_light_138 (by decide) ?_
                    refine r_goto (pc := 139) (tgt := 143) dX12_light_139 (by decide) ?_
                    refine r_istore (pc := 143) (lv' := [(6, .int (iv 1)), (4, .long (w53_4 + ((iv v42_7).toInt64))), (11, .int (iv (jw53 (Int.toNat (tt (Int.toNat (60 * x1 + v53_8))))))), (10, .int (iv (jw53 (Int.toNat (fr (Int.toNat (60 * x1 + v53_8))))))), (9, .int (iv (60 * x1 + v53_8))), (0, .ref y), (1, .int (iv x1)), (2, .int (iv x2)), (3, .int (iv (sz (Int.toNat x1)))), (7, .int (iv v42_7)), (8, .int (iv v53_8))]) dX12_light_143 (by decide) rfl ?_
                    have hWk : (sh wt (60 * x1)) (Int.toNat v53_8) = v42_7 := by rw [← eW]; omega
                    have hq0 : lgQ (Int.toNat (mn (Int.toNat x1))) (sh fr (60 * x1)) (sh tt (60 * x1)) (sh wt (60 * x1)) (Int.toNat (sz (Int.toNat x1))) x2 v42_7 (Int.toNat v53_8) 0 jw53 (w53_4.toInt + v42_7) 1 := lgq_0 (by omega) (by omega) hFk hWk hne9 h53 (by omega)
                    have hc9 : (sh wt (60 * x1)) (Int.toNat v53_8) = v42_7 ∧ (lgA (Int.toNat (mn (Int.toNat x1))) (sh fr (60 * x1)) (sh tt (60 * x1)) (sh wt (60 * x1)) v42_7 (Int.toNat v53_8)).1 ((sh fr (60 * x1)) (Int.toNat v53_8)).toNat ≠ (lgA (Int.toNat (mn (Int.toNat x1))) (sh fr (60 * x1)) (sh tt (60 * x1)) (sh wt (60 * x1)) v42_7 (Int.toNat v53_8)).1 ((sh tt (60 * x1)) (Int.toNat v53_8)).toNat := ⟨hWk, by rw [← h53.1 _ hFk.1, ← h53.1 _ hFk.2]; exact hne9⟩
                    have ha9 : jw53 (Int.toNat (fr (Int.toNat (60 * x1 + v53_8)))) = (lgA (Int.toNat (mn (Int.toNat x1))) (sh fr (60 * x1)) (sh tt (60 * x1)) (sh wt (60 * x1)) v42_7 (Int.toNat v53_8)).1 ((sh fr (60 * x1)) (Int.toNat v53_8)).toNat := by rw [← h53.1 _ hFk.1, ← eF]
                    have hb9 : jw53 (Int.toNat (tt (Int.toNat (60 * x1 + v53_8)))) = (lgA (Int.toNat (mn (Int.toNat x1))) (sh fr (60 * x1)) (sh tt (60 * x1)) (sh wt (60 * x1)) v42_7 (Int.toNat v53_8)).1 ((sh tt (60 * x1)) (Int.toNat v53_8)).toNat := by rw [← h53.1 _ hFk.2, ← eT]
                    refine r_iconst (pc := 145) (v := iv 0) dX12_light_145 (by decide) ?_
                    refine r_istore (pc := 146) (lv' := [(12, .int (iv 0)), (6, .int (iv 1)), (4, .long (w53_4 + ((iv v42_7).toInt64))), (11, .int (iv (jw53 (Int.toNat (tt (Int.toNat (60 * x1 + v53_8))))))), (10, .int (iv (jw53 (Int.toNat (fr (Int.toNat (60 * x1 + v53_8))))))), (9, .int (iv (60 * x1 + v53_8))), (0, .ref y), (1, .int (iv x1)), (2, .int (iv x2)), (3, .int (iv (sz (Int.toNat x1)))), (7, .int (iv v42_7)), (8, .int (iv v53_8))]) dX12_light_146 (by decide) rfl ?_
                    have B148 : ∀ k : Nat, ∀ jw148 : Nat → Int, ∀ hp148 : MH, Tw (RX Γ cI cJ cZ y rf cn nm so sz dr mn fr tt wt co nu sa wo ln hw ro qi qc nf nt nw nc cl nx ie be sd bl bs wy ra rb lb bg os js ls sp jw148 go de yb ah im) hp148 → ∀  (v148_12 : Int), 0 ≤ v148_12 ∧ v148_12 ≤ 16 ∧ (Rfx 16 0 15 jw148) ∧ (v148_12 ≤ (sz (Int.toNat x1))) ∧ (lgQ (Int.toNat (mn (Int.toNat x1))) (sh fr (60 * x1)) (sh tt (60 * x1)) (sh wt (60 * x1)) (Int.toNat (sz (Int.toNat x1))) x2 v42_7 (Int.toNat v53_8) v148_12 jw148 ((w53_4 + ((iv v42_7).toInt64))).toInt 1) → 16 - v148_12 ≤ (k : Int) → Rn (gG D cI cJ cZ cT lo b L xs) mX12_light d 148 [(0, .ref y), (1, .int (iv x1)), (2, .int (iv x2)), (3, .int (iv (sz (Int.toNat x1)))), (4, .long (w53_4 + ((iv v42_7).toInt64))), (6, .int (iv 1)), (7, .int (iv v42_7)), (8, .int (iv v53_8)), (10, .int (iv (jw53 (Int.toNat (fr (Int.toNat (60 * x1 + v53_8))))))), (11, .int (iv (jw53 (Int.toNat (tt (Int.toNat (60 * x1 + v53_8))))))), (12, .int (iv v148_12))] [] hp148 n 0 0 Po9 := by
                      refine lpS _ ?_
                      intro k148 ih148 jw148 hp148 ht148 v148_12 hf148 hm148
                      obtain ⟨hf148_0, hf148_1, ha148_2, hf148_3, ha148_4⟩ := hf148
                      refine r_iload (pc := 148) dX12_light_148 rfl ?_
                      refine r_iload_n (pc := 150) dX12_light_150 (i := 3) rfl rfl ?_
                      refine t_icmp_ge (pc := 151) (tgt := 191) dX12_light_151 (by decide) (by omega) (by omega) (fun c151 => ?_) (fun c151 => ?_)
                      · have hlg := lgq_end (by omega) (by assumption : lgQ (Int.toNat (mn (Int.toNat x1))) (sh fr (60 * x1)) (sh tt (60 * x1)) (sh wt (60 * x1)) (Int.toNat (sz (Int.toNat x1))) x2 v42_7 (Int.toNat v53_8) v148_12 jw148 (w53_4 + ((iv v42_7).toInt64)).toInt 1)
                        refine r_iinc (pc := 191) (v := iv (v53_8 + 1)) (lv' := [(8, .int (iv (v53_8 + 1))), (0, .ref y), (1, .int (iv x1)), (2, .int (iv x2)), (3, .int (iv (sz (Int.toNat x1)))), (4, .long (w53_4 + ((iv v42_7).toInt64))), (6, .int (iv 1)), (7, .int (iv v42_7)), (10, .int (iv (jw53 (Int.toNat (fr (Int.toNat (60 * x1 + v53_8))))))), (11, .int (iv (jw53 (Int.toNat (tt (Int.toNat (60 * x1 + v53_8))))))), (12, .int (iv v148_12))]) dX12_light_191 rfl (iv_add _ _) (by decide) rfl ?_
                        refine r_goto (pc := 194) (tgt := 53) dX12_light_194 (by decide) ?_
                        refine Rn.pick (lv' := [(0, .ref y), (1, .int (iv x1)), (2, .int (iv x2)), (3, .int (iv (sz (Int.toNat x1)))), (4, .long (w53_4 + ((iv v42_7).toInt64))), (6, .int (iv 1)), (7, .int (iv v42_7)), (8, .int (iv (v53_8 + 1)))]) [1, 2, 3, 4, 5, 6, 7, 0] rfl ?_
                        exact ih53 (Int.toNat (60 - (v53_8 + 1))) (by omega) jw148 _ ht148 1 (v53_8 + 1) (w53_4 + ((iv v42_7).toInt64)) ⟨by omega, by omega, by omega, by omega, by assumption, by omega, by (first | exact lgp_k hlg (by omega) | exact h42)⟩ (by omega)
                      · refine r_aload_n (pc := 154) dX12_light_154 (i := 0) rfl rfl ?_
                        refine t_getE (pc := 155) (.ref (y + 37)) ht148 (rd_of RX_y) fX12_121 dX12_light_155 rfl ?_
                        refine r_iload (pc := 158) dX12_light_158 rfl ?_
                        refine r_aload_n (pc := 160) dX12_light_160 (i := 0) rfl rfl ?_
                        refine t_getE (pc := 161) (.ref (y + 37)) ht148 (rd_of RX_y) fX12_121 dX12_light_161 rfl ?_
                        refine r_iload (pc := 164) dX12_light_164 rfl ?_
                        refine t_ialdX (pc := 166) (t0 := 0) ht148 (rd_of RX_joinedWith) dX12_light_166 rfl (by decide) (by omega) (fun b11 => ?_)
                        have rb11 := (show Rfx 16 0 15 jw148 by assumption) (Int.toNat v148_12) (by omega)
                        refine r_iload (pc := 167) dX12_light_167 rfl ?_
                        refine t_icmp_ne (pc := 169) (tgt := 177) dX12_light_169 (by decide) (by omega) (by omega) (fun c169 => ?_) (fun c169 => ?_)
                        · refine r_aload_n (pc := 177) dX12_light_177 (i := 0) rfl rfl ?_
                          refine t_getE (pc := 178) (.ref (y + 37)) ht148 (rd_of RX_y) fX12_121 dX12_light_178 rfl ?_
                          refine r_iload (pc := 181) dX12_light_181 rfl ?_
                          refine t_ialdX (pc := 183) (t0 := 0) ht148 (rd_of RX_joinedWith) dX12_light_183 rfl (by decide) (by omega) (fun b12 => ?_)
                          have rb12 := (show Rfx 16 0 15 jw148 by assumption) (Int.toNat v148_12) (by omega)
                          refine t_iastX (pc := 184) (t0 := 0) ht148 RX_joinedWith dX12_light_184 rfl (by decide) (by omega) (by omega) (fun hp13 ht14 => ?_)
                          have ht15 := RXw_jw ht14
                          have hqht15 : Rfx 16 0 15 (fup jw148 (Int.toNat v148_12) (jw148 (Int.toNat v148_12))) := Rfx_up (by assumption) (by omega)
                          have hqu := lgq_up (by omega) hc9 ha9 hb9 (Or.inr ⟨by omega, rfl⟩) (by assumption : lgQ (Int.toNat (mn (Int.toNat x1))) (sh fr (60 * x1)) (sh tt (60 * x1)) (sh wt (60 * x1)) (Int.toNat (sz (Int.toNat x1))) x2 v42_7 (Int.toNat v53_8) v148_12 jw148 (w53_4 + ((iv v42_7).toInt64)).toInt 1)
                          refine r_iinc (pc := 185) (v := iv (v148_12 + 1)) (lv' := [(12, .int (iv (v148_12 + 1))), (0, .ref y), (1, .int (iv x1)), (2, .int (iv x2)), (3, .int (iv (sz (Int.toNat x1)))), (4, .long (w53_4 + ((iv v42_7).toInt64))), (6, .int (iv 1)), (7, .int (iv v42_7)), (8, .int (iv v53_8)), (10, .int (iv (jw53 (Int.toNat (fr (Int.toNat (60 * x1 + v53_8))))))), (11, .int (iv (jw53 (Int.toNat (tt (Int.toNat (60 * x1 + v53_8)))))))]) dX12_light_185 rfl (iv_add _ _) (by decide) rfl ?_
                          refine r_goto (pc := 188) (tgt := 148) dX12_light_188 (by decide) ?_
                          refine Rn.pick (lv' := [(0, .ref y), (1, .int (iv x1)), (2, .int (iv x2)), (3, .int (iv (sz (Int.toNat x1)))), (4, .long (w53_4 + ((iv v42_7).toInt64))), (6, .int (iv 1)), (7, .int (iv v42_7)), (8, .int (iv v53_8)), (10, .int (iv (jw53 (Int.toNat (fr (Int.toNat (60 * x1 + v53_8))))))), (11, .int (iv (jw53 (Int.toNat (tt (Int.toNat (60 * x1 + v53_8))))))), (12, .int (iv (v148_12 + 1)))]) [1, 2, 3, 4, 5, 6, 7, 8, 9, 10, 0] rfl ?_
                          exact ih148 (Int.toNat (16 - (v148_12 + 1))) (by omega) (fup jw148 (Int.toNat v148_12) (jw148 (Int.toNat v148_12))) _ ht15 (v148_12 + 1) ⟨by omega, by omega, by assumption, by omega, by (first | exact hqu | (rw [hsm]; exact hq0))⟩ (by omega)
                        · refine r_iload (pc := 172) dX12_light_172 rfl ?_
                          refine r_goto (pc := 174) (tgt := 184) dX12_light_174 (by decide) ?_
                          refine t_iastX (pc := 184) (t0 := 0) ht148 RX_joinedWith dX12_light_184 rfl (by decide) (by omega) (by omega) (fun hp16 ht17 => ?_)
                          have ht18 := RXw_jw ht17
                          have hqht18 : Rfx 16 0 15 (fup jw148 (Int.toNat v148_12) (jw53 (Int.toNat (fr (Int.toNat (60 * x1 + v53_8)))))) := Rfx_up (by assumption) (by omega)
                          have hqu := lgq_up (by omega) hc9 ha9 hb9 (Or.inl ⟨by omega, rfl⟩) (by assumption : lgQ (Int.toNat (mn (Int.toNat x1))) (sh fr (60 * x1)) (sh tt (60 * x1)) (sh wt (60 * x1)) (Int.toNat (sz (Int.toNat x1))) x2 v42_7 (Int.toNat v53_8) v148_12 jw148 (w53_4 + ((iv v42_7).toInt64)).toInt 1)
                          refine r_iinc (pc := 185) (v := iv (v148_12 + 1)) (lv' := [(12, .int (iv (v148_12 + 1))), (0, .ref y), (1, .int (iv x1)), (2, .int (iv x2)), (3, .int (iv (sz (Int.toNat x1)))), (4, .long (w53_4 + ((iv v42_7).toInt64))), (6, .int (iv 1)), (7, .int (iv v42_7)), (8, .int (iv v53_8)), (10, .int (iv (jw53 (Int.toNat (fr (Int.toNat (60 * x1 + v53_8))))))), (11, .int (iv (jw53 (Int.toNat (tt (Int.toNat (60 * x1 + v53_8)))))))]) dX12_light_185 rfl (iv_add _ _) (by decide) rfl ?_
                          refine r_goto (pc := 188) (tgt := 148) dX12_light_188 (by decide) ?_
                          refine Rn.pick (lv' := [(0, .ref y), (1, .int (iv x1)), (2, .int (iv x2)), (3, .int (iv (sz (Int.toNat x1)))), (4, .long (w53_4 + ((iv v42_7).toInt64))), (6, .int (iv 1)), (7, .int (iv v42_7)), (8, .int (iv v53_8)), (10, .int (iv (jw53 (Int.toNat (fr (Int.toNat (60 * x1 + v53_8))))))), (11, .int (iv (jw53 (Int.toNat (tt (Int.toNat (60 * x1 + v53_8))))))), (12, .int (iv (v148_12 + 1)))]) [1, 2, 3, 4, 5, 6, 7, 8, 9, 10, 0] rfl ?_
                          exact ih148 (Int.toNat (16 - (v148_12 + 1))) (by omega) (fup jw148 (Int.toNat v148_12) (jw53 (Int.toNat (fr (Int.toNat (60 * x1 + v53_8)))))) _ ht18 (v148_12 + 1) ⟨by omega, by omega, by assumption, by omega, by (first | exact hqu | (rw [hsm]; exact hq0))⟩ (by omega)
                    refine Rn.pick (lv' := [(0, .ref y), (1, .int (iv x1)), (2, .int (iv x2)), (3, .int (iv (sz (Int.toNat x1)))), (4, .long (w53_4 + ((iv v42_7).toInt64))), (6, .int (iv 1)), (7, .int (iv v42_7)), (8, .int (iv v53_8)), (10, .int (iv (jw53 (Int.toNat (fr (Int.toNat (60 * x1 + v53_8))))))), (11, .int (iv (jw53 (Int.toNat (tt (Int.toNat (60 * x1 + v53_8))))))), (12, .int (iv 0))]) [6, 7, 8, 9, 2, 1, 10, 11, 4, 3, 0] rfl ?_
                    exact B148 (Int.toNat (16 - 0)) jw53 _ ht4 0 ⟨by omega, by omega, by assumption, by omega, by (first | exact hqu | (rw [hsm]; exact hq0))⟩ (by omega)
                  · refine r_iload (pc := 132) dX12_light_132 rfl ?_
                    refine r_iload_n (pc := 134) dX12_light_134 (i := 2) rfl rfl ?_
                    refine t_icmp_ne (pc := 135) (tgt := 142) dX12_light_135 (by decide) (by omega) (by omega) (fun c135 => ?_) (fun c135 => ?_)
                    · refine r_iconst (pc := 142) (v := iv 0) dX12_light_142 (by decide) ?_
                      refine r_istore (pc := 143) (lv' := [(6, .int (iv 0)), (4, .long (w53_4 + ((iv v42_7).toInt64))), (11, .int (iv (jw53 (Int.toNat (tt (Int.toNat (60 * x1 + v53_8))))))), (10, .int (iv (jw53 (Int.toNat (fr (Int.toNat (60 * x1 + v53_8))))))), (9, .int (iv (60 * x1 + v53_8))), (0, .ref y), (1, .int (iv x1)), (2, .int (iv x2)), (3, .int (iv (sz (Int.toNat x1)))), (7, .int (iv v42_7)), (8, .int (iv v53_8))]) dX12_light_143 (by decide) rfl ?_
                      have hWk : (sh wt (60 * x1)) (Int.toNat v53_8) = v42_7 := by rw [← eW]; omega
                      have hq0 : lgQ (Int.toNat (mn (Int.toNat x1))) (sh fr (60 * x1)) (sh tt (60 * x1)) (sh wt (60 * x1)) (Int.toNat (sz (Int.toNat x1))) x2 v42_7 (Int.toNat v53_8) 0 jw53 (w53_4.toInt + v42_7) 0 := lgq_0 (by omega) (by omega) hFk hWk hne9 h53 (by omega)
                      have hc9 : (sh wt (60 * x1)) (Int.toNat v53_8) = v42_7 ∧ (lgA (Int.toNat (mn (Int.toNat x1))) (sh fr (60 * x1)) (sh tt (60 * x1)) (sh wt (60 * x1)) v42_7 (Int.toNat v53_8)).1 ((sh fr (60 * x1)) (Int.toNat v53_8)).toNat ≠ (lgA (Int.toNat (mn (Int.toNat x1))) (sh fr (60 * x1)) (sh tt (60 * x1)) (sh wt (60 * x1)) v42_7 (Int.toNat v53_8)).1 ((sh tt (60 * x1)) (Int.toNat v53_8)).toNat := ⟨hWk, by rw [← h53.1 _ hFk.1, ← h53.1 _ hFk.2]; exact hne9⟩
                      have ha9 : jw53 (Int.toNat (fr (Int.toNat (60 * x1 + v53_8)))) = (lgA (Int.toNat (mn (Int.toNat x1))) (sh fr (60 * x1)) (sh tt (60 * x1)) (sh wt (60 * x1)) v42_7 (Int.toNat v53_8)).1 ((sh fr (60 * x1)) (Int.toNat v53_8)).toNat := by rw [← h53.1 _ hFk.1, ← eF]
                      have hb9 : jw53 (Int.toNat (tt (Int.toNat (60 * x1 + v53_8)))) = (lgA (Int.toNat (mn (Int.toNat x1))) (sh fr (60 * x1)) (sh tt (60 * x1)) (sh wt (60 * x1)) v42_7 (Int.toNat v53_8)).1 ((sh tt (60 * x1)) (Int.toNat v53_8)).toNat := by rw [← h53.1 _ hFk.2, ← eT]
                      refine r_iconst (pc := 145) (v := iv 0) dX12_light_145 (by decide) ?_
                      refine r_istore (pc := 146) (lv' := [(12, .int (iv 0)), (6, .int (iv 0)), (4, .long (w53_4 + ((iv v42_7).toInt64))), (11, .int (iv (jw53 (Int.toNat (tt (Int.toNat (60 * x1 + v53_8))))))), (10, .int (iv (jw53 (Int.toNat (fr (Int.toNat (60 * x1 + v53_8))))))), (9, .int (iv (60 * x1 + v53_8))), (0, .ref y), (1, .int (iv x1)), (2, .int (iv x2)), (3, .int (iv (sz (Int.toNat x1)))), (7, .int (iv v42_7)), (8, .int (iv v53_8))]) dX12_light_146 (by decide) rfl ?_
                      have B148 : ∀ k : Nat, ∀ jw148 : Nat → Int, ∀ hp148 : MH, Tw (RX Γ cI cJ cZ y rf cn nm so sz dr mn fr tt wt co nu sa wo ln hw ro qi qc nf nt nw nc cl nx ie be sd bl bs wy ra rb lb bg os js ls sp jw148 go de yb ah im) hp148 → ∀  (v148_12 : Int), 0 ≤ v148_12 ∧ v148_12 ≤ 16 ∧ (Rfx 16 0 15 jw148) ∧ (v148_12 ≤ (sz (Int.toNat x1))) ∧ (lgQ (Int.toNat (mn (Int.toNat x1))) (sh fr (60 * x1)) (sh tt (60 * x1)) (sh wt (60 * x1)) (Int.toNat (sz (Int.toNat x1))) x2 v42_7 (Int.toNat v53_8) v148_12 jw148 ((w53_4 + ((iv v42_7).toInt64))).toInt 0) → 16 - v148_12 ≤ (k : Int) → Rn (gG D cI cJ cZ cT lo b L xs) mX12_light d 148 [(0, .ref y), (1, .int (iv x1)), (2, .int (iv x2)), (3, .int (iv (sz (Int.toNat x1)))), (4, .long (w53_4 + ((iv v42_7).toInt64))), (6, .int (iv 0)), (7, .int (iv v42_7)), (8, .int (iv v53_8)), (10, .int (iv (jw53 (Int.toNat (fr (Int.toNat (60 * x1 + v53_8))))))), (11, .int (iv (jw53 (Int.toNat (tt (Int.toNat (60 * x1 + v53_8))))))), (12, .int (iv v148_12))] [] hp148 n 0 0 Po9 := by
                        refine lpS _ ?_
                        intro k148 ih148 jw148 hp148 ht148 v148_12 hf148 hm148
                        obtain ⟨hf148_0, hf148_1, ha148_2, hf148_3, ha148_4⟩ := hf148
                        refine r_iload (pc := 148) dX12_light_148 rfl ?_
                        refine r_iload_n (pc := 150) dX12_light_150 (i := 3) rfl rfl ?_
                        refine t_icmp_ge (pc := 151) (tgt := 191) dX12_light_151 (by decide) (by omega) (by omega) (fun c151 => ?_) (fun c151 => ?_)
                        · have hlg := lgq_end (by omega) (by assumption : lgQ (Int.toNat (mn (Int.toNat x1))) (sh fr (60 * x1)) (sh tt (60 * x1)) (sh wt (60 * x1)) (Int.toNat (sz (Int.toNat x1))) x2 v42_7 (Int.toNat v53_8) v148_12 jw148 (w53_4 + ((iv v42_7).toInt64)).toInt 0)
                          refine r_iinc (pc := 191) (v := iv (v53_8 + 1)) (lv' := [(8, .int (iv (v53_8 + 1))), (0, .ref y), (1, .int (iv x1)), (2, .int (iv x2)), (3, .int (iv (sz (Int.toNat x1)))), (4, .long (w53_4 + ((iv v42_7).toInt64))), (6, .int (iv 0)), (7, .int (iv v42_7)), (10, .int (iv (jw53 (Int.toNat (fr (Int.toNat (60 * x1 + v53_8))))))), (11, .int (iv (jw53 (Int.toNat (tt (Int.toNat (60 * x1 + v53_8))))))), (12, .int (iv v148_12))]) dX12_light_191 rfl (iv_add _ _) (by decide) rfl ?_
                          refine r_goto (pc := 194) (tgt := 53) dX12_light_194 (by decide) ?_
                          refine Rn.pick (lv' := [(0, .ref y), (1, .int (iv x1)), (2, .int (iv x2)), (3, .int (iv (sz (Int.toNat x1)))), (4, .long (w53_4 + ((iv v42_7).toInt64))), (6, .int (iv 0)), (7, .int (iv v42_7)), (8, .int (iv (v53_8 + 1)))]) [1, 2, 3, 4, 5, 6, 7, 0] rfl ?_
                          exact ih53 (Int.toNat (60 - (v53_8 + 1))) (by omega) jw148 _ ht148 0 (v53_8 + 1) (w53_4 + ((iv v42_7).toInt64)) ⟨by omega, by omega, by omega, by omega, by assumption, by omega, by (first | exact lgp_k hlg (by omega) | exact h42)⟩ (by omega)
                        · refine r_aload_n (pc := 154) dX12_light_154 (i := 0) rfl rfl ?_
                          refine t_getE (pc := 155) (.ref (y + 37)) ht148 (rd_of RX_y) fX12_121 dX12_light_155 rfl ?_
                          refine r_iload (pc := 158) dX12_light_158 rfl ?_
                          refine r_aload_n (pc := 160) dX12_light_160 (i := 0) rfl rfl ?_
                          refine t_getE (pc := 161) (.ref (y + 37)) ht148 (rd_of RX_y) fX12_121 dX12_light_161 rfl ?_
                          refine r_iload (pc := 164) dX12_light_164 rfl ?_
                          refine t_ialdX (pc := 166) (t0 := 0) ht148 (rd_of RX_joinedWith) dX12_light_166 rfl (by decide) (by omega) (fun b19 => ?_)
                          have rb19 := (show Rfx 16 0 15 jw148 by assumption) (Int.toNat v148_12) (by omega)
                          refine r_iload (pc := 167) dX12_light_167 rfl ?_
                          refine t_icmp_ne (pc := 169) (tgt := 177) dX12_light_169 (by decide) (by omega) (by omega) (fun c169 => ?_) (fun c169 => ?_)
                          · refine r_aload_n (pc := 177) dX12_light_177 (i := 0) rfl rfl ?_
                            refine t_getE (pc := 178) (.ref (y + 37)) ht148 (rd_of RX_y) fX12_121 dX12_light_178 rfl ?_
                            refine r_iload (pc := 181) dX12_light_181 rfl ?_
                            refine t_ialdX (pc := 183) (t0 := 0) ht148 (rd_of RX_joinedWith) dX12_light_183 rfl (by decide) (by omega) (fun b20 => ?_)
                            have rb20 := (show Rfx 16 0 15 jw148 by assumption) (Int.toNat v148_12) (by omega)
                            refine t_iastX (pc := 184) (t0 := 0) ht148 RX_joinedWith dX12_light_184 rfl (by decide) (by omega) (by omega) (fun hp21 ht22 => ?_)
                            have ht23 := RXw_jw ht22
                            have hqht23 : Rfx 16 0 15 (fup jw148 (Int.toNat v148_12) (jw148 (Int.toNat v148_12))) := Rfx_up (by assumption) (by omega)
                            have hqu := lgq_up (by omega) hc9 ha9 hb9 (Or.inr ⟨by omega, rfl⟩) (by assumption : lgQ (Int.toNat (mn (Int.toNat x1))) (sh fr (60 * x1)) (sh tt (60 * x1)) (sh wt (60 * x1)) (Int.toNat (sz (Int.toNat x1))) x2 v42_7 (Int.toNat v53_8) v148_12 jw148 (w53_4 + ((iv v42_7).toInt64)).toInt 0)
                            refine r_iinc (pc := 185) (v := iv (v148_12 + 1)) (lv' := [(12, .int (iv (v148_12 + 1))), (0, .ref y), (1, .int (iv x1)), (2, .int (iv x2)), (3, .int (iv (sz (Int.toNat x1)))), (4, .long (w53_4 + ((iv v42_7).toInt64))), (6, .int (iv 0)), (7, .int (iv v42_7)), (8, .int (iv v53_8)), (10, .int (iv (jw53 (Int.toNat (fr (Int.toNat (60 * x1 + v53_8))))))), (11, .int (iv (jw53 (Int.toNat (tt (Int.toNat (60 * x1 + v53_8)))))))]) dX12_light_185 rfl (iv_add _ _) (by decide) rfl ?_
                            refine r_goto (pc := 188) (tgt := 148) dX12_light_188 (by decide) ?_
                            refine Rn.pick (lv' := [(0, .ref y), (1, .int (iv x1)), (2, .int (iv x2)), (3, .int (iv (sz (Int.toNat x1)))), (4, .long (w53_4 + ((iv v42_7).toInt64))), (6, .int (iv 0)), (7, .int (iv v42_7)), (8, .int (iv v53_8)), (10, .int (iv (jw53 (Int.toNat (fr (Int.toNat (60 * x1 + v53_8))))))), (11, .int (iv (jw53 (Int.toNat (tt (Int.toNat (60 * x1 + v53_8))))))), (12, .int (iv (v148_12 + 1)))]) [1, 2, 3, 4, 5, 6, 7, 8, 9, 10, 0] rfl ?_
                            exact ih148 (Int.toNat (16 - (v148_12 + 1))) (by omega) (fup jw148 (Int.toNat v148_12) (jw148 (Int.toNat v148_12))) _ ht23 (v148_12 + 1) ⟨by omega, by omega, by assumption, by omega, by (first | exact hqu | (rw [hsm]; exact hq0))⟩ (by omega)
                          · refine r_iload (pc := 172) dX12_light_172 rfl ?_
                            refine r_goto (pc := 174) (tgt := 184) dX12_light_174 (by decide) ?_
                            refine t_iastX (pc := 184) (t0 := 0) ht148 RX_joinedWith dX12_light_184 rfl (by decide) (by omega) (by omega) (fun hp24 ht25 => ?_)
                            have ht26 := RXw_jw ht25
                            have hqht26 : Rfx 16 0 15 (fup jw148 (Int.toNat v148_12) (jw53 (Int.toNat (fr (Int.toNat (60 * x1 + v53_8)))))) := Rfx_up (by assumption) (by omega)
                            have hqu := lgq_up (by omega) hc9 ha9 hb9 (Or.inl ⟨by omega, rfl⟩) (by assumption : lgQ (Int.toNat (mn (Int.toNat x1))) (sh fr (60 * x1)) (sh tt (60 * x1)) (sh wt (60 * x1)) (Int.toNat (sz (Int.toNat x1))) x2 v42_7 (Int.toNat v53_8) v148_12 jw148 (w53_4 + ((iv v42_7).toInt64)).toInt 0)
                            refine r_iinc (pc := 185) (v := iv (v148_12 + 1)) (lv' := [(12, .int (iv (v148_12 + 1))), (0, .ref y), (1, .int (iv x1)), (2, .int (iv x2)), (3, .int (iv (sz (Int.toNat x1)))), (4, .long (w53_4 + ((iv v42_7).toInt64))), (6, .int (iv 0)), (7, .int (iv v42_7)), (8, .int (iv v53_8)), (10, .int (iv (jw53 (Int.toNat (fr (Int.toNat (60 * x1 + v53_8))))))), (11, .int (iv (jw53 (Int.toNat (tt (Int.toNat (60 * x1 + v53_8)))))))]) dX12_light_185 rfl (iv_add _ _) (by decide) rfl ?_
                            refine r_goto (pc := 188) (tgt := 148) dX12_light_188 (by decide) ?_
                            refine Rn.pick (lv' := [(0, .ref y), (1, .int (iv x1)), (2, .int (iv x2)), (3, .int (iv (sz (Int.toNat x1)))), (4, .long (w53_4 + ((iv v42_7).toInt64))), (6, .int (iv 0)), (7, .int (iv v42_7)), (8, .int (iv v53_8)), (10, .int (iv (jw53 (Int.toNat (fr (Int.toNat (60 * x1 + v53_8))))))), (11, .int (iv (jw53 (Int.toNat (tt (Int.toNat (60 * x1 + v53_8))))))), (12, .int (iv (v148_12 + 1)))]) [1, 2, 3, 4, 5, 6, 7, 8, 9, 10, 0] rfl ?_
                            exact ih148 (Int.toNat (16 - (v148_12 + 1))) (by omega) (fup jw148 (Int.toNat v148_12) (jw53 (Int.toNat (fr (Int.toNat (60 * x1 + v53_8)))))) _ ht26 (v148_12 + 1) ⟨by omega, by omega, by assumption, by omega, by (first | exact hqu | (rw [hsm]; exact hq0))⟩ (by omega)
                      refine Rn.pick (lv' := [(0, .ref y), (1, .int (iv x1)), (2, .int (iv x2)), (3, .int (iv (sz (Int.toNat x1)))), (4, .long (w53_4 + ((iv v42_7).toInt64))), (6, .int (iv 0)), (7, .int (iv v42_7)), (8, .int (iv v53_8)), (10, .int (iv (jw53 (Int.toNat (fr (Int.toNat (60 * x1 + v53_8))))))), (11, .int (iv (jw53 (Int.toNat (tt (Int.toNat (60 * x1 + v53_8))))))), (12, .int (iv 0))]) [6, 7, 8, 9, 2, 1, 10, 11, 4, 3, 0] rfl ?_
                      exact B148 (Int.toNat (16 - 0)) jw53 _ ht4 0 ⟨by omega, by omega, by assumption, by omega, by (first | exact hqu | (rw [hsm]; exact hq0))⟩ (by omega)
                    · refine r_iconst (pc := 138) (v := iv 1) dX12_light_138 (by decide) ?_
                      refine r_goto (pc := 139) (tgt := 143) dX12_light_139 (by decide) ?_
                      refine r_istore (pc := 143) (lv' := [(6, .int (iv 1)), (4, .long (w53_4 + ((iv v42_7).toInt64))), (11, .int (iv (jw53 (Int.toNat (tt (Int.toNat (60 * x1 + v53_8))))))), (10, .int (iv (jw53 (Int.toNat (fr (Int.toNat (60 * x1 + v53_8))))))), (9, .int (iv (60 * x1 + v53_8))), (0, .ref y), (1, .int (iv x1)), (2, .int (iv x2)), (3, .int (iv (sz (Int.toNat x1)))), (7, .int (iv v42_7)), (8, .int (iv v53_8))]) dX12_light_143 (by decide) rfl ?_
                      have hWk : (sh wt (60 * x1)) (Int.toNat v53_8) = v42_7 := by rw [← eW]; omega
                      have hq0 : lgQ (Int.toNat (mn (Int.toNat x1))) (sh fr (60 * x1)) (sh tt (60 * x1)) (sh wt (60 * x1)) (Int.toNat (sz (Int.toNat x1))) x2 v42_7 (Int.toNat v53_8) 0 jw53 (w53_4.toInt + v42_7) 1 := lgq_0 (by omega) (by omega) hFk hWk hne9 h53 (by omega)
                      have hc9 : (sh wt (60 * x1)) (Int.toNat v53_8) = v42_7 ∧ (lgA (Int.toNat (mn (Int.toNat x1))) (sh fr (60 * x1)) (sh tt (60 * x1)) (sh wt (60 * x1)) v42_7 (Int.toNat v53_8)).1 ((sh fr (60 * x1)) (Int.toNat v53_8)).toNat ≠ (lgA (Int.toNat (mn (Int.toNat x1))) (sh fr (60 * x1)) (sh tt (60 * x1)) (sh wt (60 * x1)) v42_7 (Int.toNat v53_8)).1 ((sh tt (60 * x1)) (Int.toNat v53_8)).toNat := ⟨hWk, by rw [← h53.1 _ hFk.1, ← h53.1 _ hFk.2]; exact hne9⟩
                      have ha9 : jw53 (Int.toNat (fr (Int.toNat (60 * x1 + v53_8)))) = (lgA (Int.toNat (mn (Int.toNat x1))) (sh fr (60 * x1)) (sh tt (60 * x1)) (sh wt (60 * x1)) v42_7 (Int.toNat v53_8)).1 ((sh fr (60 * x1)) (Int.toNat v53_8)).toNat := by rw [← h53.1 _ hFk.1, ← eF]
                      have hb9 : jw53 (Int.toNat (tt (Int.toNat (60 * x1 + v53_8)))) = (lgA (Int.toNat (mn (Int.toNat x1))) (sh fr (60 * x1)) (sh tt (60 * x1)) (sh wt (60 * x1)) v42_7 (Int.toNat v53_8)).1 ((sh tt (60 * x1)) (Int.toNat v53_8)).toNat := by rw [← h53.1 _ hFk.2, ← eT]
                      refine r_iconst (pc := 145) (v := iv 0) dX12_light_145 (by decide) ?_
                      refine r_istore (pc := 146) (lv' := [(12, .int (iv 0)), (6, .int (iv 1)), (4, .long (w53_4 + ((iv v42_7).toInt64))), (11, .int (iv (jw53 (Int.toNat (tt (Int.toNat (60 * x1 + v53_8))))))), (10, .int (iv (jw53 (Int.toNat (fr (Int.toNat (60 * x1 + v53_8))))))), (9, .int (iv (60 * x1 + v53_8))), (0, .ref y), (1, .int (iv x1)), (2, .int (iv x2)), (3, .int (iv (sz (Int.toNat x1)))), (7, .int (iv v42_7)), (8, .int (iv v53_8))]) dX12_light_146 (by decide) rfl ?_
                      have B148 : ∀ k : Nat, ∀ jw148 : Nat → Int, ∀ hp148 : MH, Tw (RX Γ cI cJ cZ y rf cn nm so sz dr mn fr tt wt co nu sa wo ln hw ro qi qc nf nt nw nc cl nx ie be sd bl bs wy ra rb lb bg os js ls sp jw148 go de yb ah im) hp148 → ∀  (v148_12 : Int), 0 ≤ v148_12 ∧ v148_12 ≤ 16 ∧ (Rfx 16 0 15 jw148) ∧ (v148_12 ≤ (sz (Int.toNat x1))) ∧ (lgQ (Int.toNat (mn (Int.toNat x1))) (sh fr (60 * x1)) (sh tt (60 * x1)) (sh wt (60 * x1)) (Int.toNat (sz (Int.toNat x1))) x2 v42_7 (Int.toNat v53_8) v148_12 jw148 ((w53_4 + ((iv v42_7).toInt64))).toInt 1) → 16 - v148_12 ≤ (k : Int) → Rn (gG D cI cJ cZ cT lo b L xs) mX12_light d 148 [(0, .ref y), (1, .int (iv x1)), (2, .int (iv x2)), (3, .int (iv (sz (Int.toNat x1)))), (4, .long (w53_4 + ((iv v42_7).toInt64))), (6, .int (iv 1)), (7, .int (iv v42_7)), (8, .int (iv v53_8)), (10, .int (iv (jw53 (Int.toNat (fr (Int.toNat (60 * x1 + v53_8))))))), (11, .int (iv (jw53 (Int.toNat (tt (Int.toNat (60 * x1 + v53_8))))))), (12, .int (iv v148_12))] [] hp148 n 0 0 Po9 := by
                        refine lpS _ ?_
                        intro k148 ih148 jw148 hp148 ht148 v148_12 hf148 hm148
                        obtain ⟨hf148_0, hf148_1, ha148_2, hf148_3, ha148_4⟩ := hf148
                        refine r_iload (pc := 148) dX12_light_148 rfl ?_
                        refine r_iload_n (pc := 150) dX12_light_150 (i := 3) rfl rfl ?_
                        refine t_icmp_ge (pc := 151) (tgt := 191) dX12_light_151 (by decide) (by omega) (by omega) (fun c151 => ?_) (fun c151 => ?_)
                        · have hlg := lgq_end (by omega) (by assumption : lgQ (Int.toNat (mn (Int.toNat x1))) (sh fr (60 * x1)) (sh tt (60 * x1)) (sh wt (60 * x1)) (Int.toNat (sz (Int.toNat x1))) x2 v42_7 (Int.toNat v53_8) v148_12 jw148 (w53_4 + ((iv v42_7).toInt64)).toInt 1)
                          refine r_iinc (pc := 191) (v := iv (v53_8 + 1)) (lv' := [(8, .int (iv (v53_8 + 1))), (0, .ref y), (1, .int (iv x1)), (2, .int (iv x2)), (3, .int (iv (sz (Int.toNat x1)))), (4, .long (w53_4 + ((iv v42_7).toInt64))), (6, .int (iv 1)), (7, .int (iv v42_7)), (10, .int (iv (jw53 (Int.toNat (fr (Int.toNat (60 * x1 + v53_8))))))), (11, .int (iv (jw53 (Int.toNat (tt (Int.toNat (60 * x1 + v53_8))))))), (12, .int (iv v148_12))]) dX12_light_191 rfl (iv_add _ _) (by decide) rfl ?_
                          refine r_goto (pc := 194) (tgt := 53) dX12_light_194 (by decide) ?_
                          refine Rn.pick (lv' := [(0, .ref y), (1, .int (iv x1)), (2, .int (iv x2)), (3, .int (iv (sz (Int.toNat x1)))), (4, .long (w53_4 + ((iv v42_7).toInt64))), (6, .int (iv 1)), (7, .int (iv v42_7)), (8, .int (iv (v53_8 + 1)))]) [1, 2, 3, 4, 5, 6, 7, 0] rfl ?_
                          exact ih53 (Int.toNat (60 - (v53_8 + 1))) (by omega) jw148 _ ht148 1 (v53_8 + 1) (w53_4 + ((iv v42_7).toInt64)) ⟨by omega, by omega, by omega, by omega, by assumption, by omega, by (first | exact lgp_k hlg (by omega) | exact h42)⟩ (by omega)
                        · refine r_aload_n (pc := 154) dX12_light_154 (i := 0) rfl rfl ?_
                          refine t_getE (pc := 155) (.ref (y + 37)) ht148 (rd_of RX_y) fX12_121 dX12_light_155 rfl ?_
                          refine r_iload (pc := 158) dX12_light_158 rfl ?_
                          refine r_aload_n (pc := 160) dX12_light_160 (i := 0) rfl rfl ?_
                          refine t_getE (pc := 161) (.ref (y + 37)) ht148 (rd_of RX_y) fX12_121 dX12_light_161 rfl ?_
                          refine r_iload (pc := 164) dX12_light_164 rfl ?_
                          refine t_ialdX (pc := 166) (t0 := 0) ht148 (rd_of RX_joinedWith) dX12_light_166 rfl (by decide) (by omega) (fun b27 => ?_)
                          have rb27 := (show Rfx 16 0 15 jw148 by assumption) (Int.toNat v148_12) (by omega)
                          refine r_iload (pc := 167) dX12_light_167 rfl ?_
                          refine t_icmp_ne (pc := 169) (tgt := 177) dX12_light_169 (by decide) (by omega) (by omega) (fun c169 => ?_) (fun c169 => ?_)
                          · refine r_aload_n (pc := 177) dX12_light_177 (i := 0) rfl rfl ?_
                            refine t_getE (pc := 178) (.ref (y + 37)) ht148 (rd_of RX_y) fX12_121 dX12_light_178 rfl ?_
                            refine r_iload (pc := 181) dX12_light_181 rfl ?_
                            refine t_ialdX (pc := 183) (t0 := 0) ht148 (rd_of RX_joinedWith) dX12_light_183 rfl (by decide) (by omega) (fun b28 => ?_)
                            have rb28 := (show Rfx 16 0 15 jw148 by assumption) (Int.toNat v148_12) (by omega)
                            refine t_iastX (pc := 184) (t0 := 0) ht148 RX_joinedWith dX12_light_184 rfl (by decide) (by omega) (by omega) (fun hp29 ht30 => ?_)
                            have ht31 := RXw_jw ht30
                            have hqht31 : Rfx 16 0 15 (fup jw148 (Int.toNat v148_12) (jw148 (Int.toNat v148_12))) := Rfx_up (by assumption) (by omega)
                            have hqu := lgq_up (by omega) hc9 ha9 hb9 (Or.inr ⟨by omega, rfl⟩) (by assumption : lgQ (Int.toNat (mn (Int.toNat x1))) (sh fr (60 * x1)) (sh tt (60 * x1)) (sh wt (60 * x1)) (Int.toNat (sz (Int.toNat x1))) x2 v42_7 (Int.toNat v53_8) v148_12 jw148 (w53_4 + ((iv v42_7).toInt64)).toInt 1)
                            refine r_iinc (pc := 185) (v := iv (v148_12 + 1)) (lv' := [(12, .int (iv (v148_12 + 1))), (0, .ref y), (1, .int (iv x1)), (2, .int (iv x2)), (3, .int (iv (sz (Int.toNat x1)))), (4, .long (w53_4 + ((iv v42_7).toInt64))), (6, .int (iv 1)), (7, .int (iv v42_7)), (8, .int (iv v53_8)), (10, .int (iv (jw53 (Int.toNat (fr (Int.toNat (60 * x1 + v53_8))))))), (11, .int (iv (jw53 (Int.toNat (tt (Int.toNat (60 * x1 + v53_8)))))))]) dX12_light_185 rfl (iv_add _ _) (by decide) rfl ?_
                            refine r_goto (pc := 188) (tgt := 148) dX12_light_188 (by decide) ?_
                            refine Rn.pick (lv' := [(0, .ref y), (1, .int (iv x1)), (2, .int (iv x2)), (3, .int (iv (sz (Int.toNat x1)))), (4, .long (w53_4 + ((iv v42_7).toInt64))), (6, .int (iv 1)), (7, .int (iv v42_7)), (8, .int (iv v53_8)), (10, .int (iv (jw53 (Int.toNat (fr (Int.toNat (60 * x1 + v53_8))))))), (11, .int (iv (jw53 (Int.toNat (tt (Int.toNat (60 * x1 + v53_8))))))), (12, .int (iv (v148_12 + 1)))]) [1, 2, 3, 4, 5, 6, 7, 8, 9, 10, 0] rfl ?_
                            exact ih148 (Int.toNat (16 - (v148_12 + 1))) (by omega) (fup jw148 (Int.toNat v148_12) (jw148 (Int.toNat v148_12))) _ ht31 (v148_12 + 1) ⟨by omega, by omega, by assumption, by omega, by (first | exact hqu | (rw [hsm]; exact hq0))⟩ (by omega)
                          · refine r_iload (pc := 172) dX12_light_172 rfl ?_
                            refine r_goto (pc := 174) (tgt := 184) dX12_light_174 (by decide) ?_
                            refine t_iastX (pc := 184) (t0 := 0) ht148 RX_joinedWith dX12_light_184 rfl (by decide) (by omega) (by omega) (fun hp32 ht33 => ?_)
                            have ht34 := RXw_jw ht33
                            have hqht34 : Rfx 16 0 15 (fup jw148 (Int.toNat v148_12) (jw53 (Int.toNat (fr (Int.toNat (60 * x1 + v53_8)))))) := Rfx_up (by assumption) (by omega)
                            have hqu := lgq_up (by omega) hc9 ha9 hb9 (Or.inl ⟨by omega, rfl⟩) (by assumption : lgQ (Int.toNat (mn (Int.toNat x1))) (sh fr (60 * x1)) (sh tt (60 * x1)) (sh wt (60 * x1)) (Int.toNat (sz (Int.toNat x1))) x2 v42_7 (Int.toNat v53_8) v148_12 jw148 (w53_4 + ((iv v42_7).toInt64)).toInt 1)
                            refine r_iinc (pc := 185) (v := iv (v148_12 + 1)) (lv' := [(12, .int (iv (v148_12 + 1))), (0, .ref y), (1, .int (iv x1)), (2, .int (iv x2)), (3, .int (iv (sz (Int.toNat x1)))), (4, .long (w53_4 + ((iv v42_7).toInt64))), (6, .int (iv 1)), (7, .int (iv v42_7)), (8, .int (iv v53_8)), (10, .int (iv (jw53 (Int.toNat (fr (Int.toNat (60 * x1 + v53_8))))))), (11, .int (iv (jw53 (Int.toNat (tt (Int.toNat (60 * x1 + v53_8)))))))]) dX12_light_185 rfl (iv_add _ _) (by decide) rfl ?_
                            refine r_goto (pc := 188) (tgt := 148) dX12_light_188 (by decide) ?_
                            refine Rn.pick (lv' := [(0, .ref y), (1, .int (iv x1)), (2, .int (iv x2)), (3, .int (iv (sz (Int.toNat x1)))), (4, .long (w53_4 + ((iv v42_7).toInt64))), (6, .int (iv 1)), (7, .int (iv v42_7)), (8, .int (iv v53_8)), (10, .int (iv (jw53 (Int.toNat (fr (Int.toNat (60 * x1 + v53_8))))))), (11, .int (iv (jw53 (Int.toNat (tt (Int.toNat (60 * x1 + v53_8))))))), (12, .int (iv (v148_12 + 1)))]) [1, 2, 3, 4, 5, 6, 7, 8, 9, 10, 0] rfl ?_
                            exact ih148 (Int.toNat (16 - (v148_12 + 1))) (by omega) (fup jw148 (Int.toNat v148_12) (jw53 (Int.toNat (fr (Int.toNat (60 * x1 + v53_8)))))) _ ht34 (v148_12 + 1) ⟨by omega, by omega, by assumption, by omega, by (first | exact hqu | (rw [hsm]; exact hq0))⟩ (by omega)
                      refine Rn.pick (lv' := [(0, .ref y), (1, .int (iv x1)), (2, .int (iv x2)), (3, .int (iv (sz (Int.toNat x1)))), (4, .long (w53_4 + ((iv v42_7).toInt64))), (6, .int (iv 1)), (7, .int (iv v42_7)), (8, .int (iv v53_8)), (10, .int (iv (jw53 (Int.toNat (fr (Int.toNat (60 * x1 + v53_8))))))), (11, .int (iv (jw53 (Int.toNat (tt (Int.toNat (60 * x1 + v53_8))))))), (12, .int (iv 0))]) [6, 7, 8, 9, 2, 1, 10, 11, 4, 3, 0] rfl ?_
                      exact B148 (Int.toNat (16 - 0)) jw53 _ ht4 0 ⟨by omega, by omega, by assumption, by omega, by (first | exact hqu | (rw [hsm]; exact hq0))⟩ (by omega)
          refine Rn.pick (lv' := [(0, .ref y), (1, .int (iv x1)), (2, .int (iv x2)), (3, .int (iv (sz (Int.toNat x1)))), (4, .long w42_4), (6, .int (iv v42_6)), (7, .int (iv v42_7)), (8, .int (iv 0))]) [1, 2, 3, 4, 5, 6, 7, 0] rfl ?_
          exact B53 (Int.toNat (60 - 0)) jw42 _ ht42 v42_6 0 w42_4 ⟨by omega, by omega, by omega, by omega, by assumption, by omega, by (first | exact lgp_k hlg (by omega) | exact h42)⟩ (by omega)
      refine Rn.pick (lv' := [(0, .ref y), (1, .int (iv x1)), (2, .int (iv x2)), (3, .int (iv (sz (Int.toNat x1)))), (4, .long (0 : Int64)), (6, .int (iv 0)), (7, .int (iv (-1000)))]) [3, 4, 5, 6, 2, 1, 0] rfl ?_
      exact B42 (Int.toNat (1001 - (-1000))) jw10 _ ht10 0 (-1000) (0 : Int64) ⟨by omega, by omega, by omega, by omega, by assumption, by (first | exact hlw | (rw [hk31]; exact hl0))⟩ (by omega)
    · refine r_aload_n (pc := 16) dX12_light_16 (i := 0) rfl rfl ?_
      refine t_getE (pc := 17) (.ref (y + 37)) ht10 (rd_of RX_y) fX12_121 dX12_light_17 rfl ?_
      refine r_iload (pc := 20) dX12_light_20 rfl ?_
      refine r_iload (pc := 22) dX12_light_22 rfl ?_
      refine t_iastX (pc := 24) (t0 := 0) ht10 RX_joinedWith dX12_light_24 rfl (by decide) (by omega) (by omega) (fun hp35 ht36 => ?_)
      have ht37 := RXw_jw ht36
      have hqht37 : Rfx 16 0 15 (fup jw10 (Int.toNat v10_4) v10_4) := Rfx_up (by assumption) (by omega)
      have hli := lbi_up (by assumption : ∀ u : Nat, (u : Int) < v10_4 → jw10 u = (u : Int)) (by omega)
      refine r_iinc (pc := 25) (v := iv (v10_4 + 1)) (lv' := [(4, .int (iv (v10_4 + 1))), (0, .ref y), (1, .int (iv x1)), (2, .int (iv x2)), (3, .int (iv (sz (Int.toNat x1))))]) dX12_light_25 rfl (iv_add _ _) (by decide) rfl ?_
      refine r_goto (pc := 28) (tgt := 10) dX12_light_28 (by decide) ?_
      refine Rn.pick (lv' := [(0, .ref y), (1, .int (iv x1)), (2, .int (iv x2)), (3, .int (iv (sz (Int.toNat x1)))), (4, .int (iv (v10_4 + 1)))]) [1, 2, 3, 4, 0] rfl ?_
      exact ih10 (Int.toNat (16 - (v10_4 + 1))) (by omega) (fup jw10 (Int.toNat v10_4) v10_4) _ ht37 (v10_4 + 1) ⟨by omega, by omega, by assumption, by omega, by (first | exact hli | (intro u hu; exfalso; omega))⟩ (by omega)
  refine Rn.pick (lv' := [(0, .ref y), (1, .int (iv x1)), (2, .int (iv x2)), (3, .int (iv (sz (Int.toNat x1)))), (4, .int (iv 0))]) [2, 3, 4, 1, 0] rfl ?_
  exact B10 (Int.toNat (16 - 0)) jw _ ht 0 ⟨by omega, by omega, by assumption, by omega, by (first | exact hli | (intro u hu; exfalso; omega))⟩ (by omega)
