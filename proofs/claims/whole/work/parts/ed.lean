set_option maxHeartbeats 4000000 in
set_option maxRecDepth 100000 in
theorem x_X12_widest {D : va_G} {cI cJ cZ cT : ClassId} {lo b L : Nat} {xs : Nat → Int32} {hp : MH} {n d : Nat} {Γ : TG} {y : Nat} {rf cn nm : Int} {so sz dr mn fr tt wt co : Nat → Int} {nu : Nat → Int64} {sa : Nat → Int} {wo : Nat → Int64} {ln : Nat → Int} {hw : Nat → Int64} {ro qi qc nf nt nw nc : Nat → Int} {cl nx : Nat → Int64} {ie be sd bl : Nat → Int} {bs wy ra rb : Nat → Int64} {lb bg os js ls : Nat → Int} {sp : Nat → Int64} {jw go : Nat → Int} {de : Nat → Int64} {yb ah im : Nat → Int} {x1 x2 x3 : Int} {Po9 : Option Value → MH → Nat → Prop} (hd0 : 1 ≤ d) (hR_sizes : Rfx 121 0 16 sz) (hR_many : Rfx 121 0 60 mn) (hR_from : Rfx 7260 0 15 fr) (hR_to : Rfx 7260 0 15 tt) (hR_weight : Rfx 7260 (-1000) 1000 wt) (hR_directs : Rfx 121 0 1 dr) (ht : Tw (RX Γ cI cJ cZ y rf cn nm so sz dr mn fr tt wt co nu sa wo ln hw ro qi qc nf nt nw nc cl nx ie be sd bl bs wy ra rb lb bg os js ls sp jw go de yb ah im) hp) (hx1 : 0 ≤ x1 ∧ x1 ≤ 120) (hx2 : 0 ≤ x2 ∧ x2 ≤ 15) (hx3 : 0 ≤ x3 ∧ x3 ≤ 15) (hEn : enP fr tt mn sz x1) (hx9 : x2 < (sz (Int.toNat x1)) ∧ x3 < (sz (Int.toNat x1))) (hPo : ∀ r hp1 n1, (n1 = n ∧ ∃ (q9 : Int64), Tw (RX Γ cI cJ cZ y rf cn nm so sz dr mn fr tt wt co nu sa wo ln hw ro qi qc nf nt nw nc cl nx ie be sd bl bs wy ra rb lb bg os js ls sp jw go de yb ah im) hp1 ∧ r = some (.long q9) ∧ (wdP (Int.toNat (mn (Int.toNat x1))) (dr (Int.toNat x1)) (sh fr (60 * x1)) (sh tt (60 * x1)) (sh wt (60 * x1)) (Int.toNat x2) (Int.toNat x3) q9.toInt)) → Po9 r hp1 n1) : Mt (gG D cI cJ cZ cT lo b L xs) mX12_widest d 0 0 [.ref y, .int (iv x1), .int (iv x2), .int (iv x3)] hp n Po9 := by
  refine Mt.of rfl (Nat.le_of_ble_eq_true rfl) ?_
  refine Rn.pick (lv' := [(0, .ref y), (1, .int (iv x1)), (2, .int (iv x2)), (3, .int (iv x3))]) [0, 1, 2, 3] rfl ?_
  have rsz := hR_sizes (Int.toNat x1) (by omega)
  have rmn := hR_many (Int.toNat x1) (by omega)
  have rdr := hR_directs (Int.toNat x1) (by omega)
  have hFT := enF hEn (by assumption) (by assumption) (by omega) (by omega)
  have hF0 : ∀ k, k < (Int.toNat (mn (Int.toNat x1))) → (0 ≤ (sh fr (60 * x1)) k ∧ 0 ≤ (sh tt (60 * x1)) k) := fun k hk => by have h9 := hFT k hk; omega
  refine r_iload_n (pc := 0) dX12_widest_0 (i := 2) rfl rfl ?_
  refine r_iload_n (pc := 1) dX12_widest_1 (i := 3) rfl rfl ?_
  refine t_icmp_ne (pc := 2) (tgt := 9) dX12_widest_2 (by decide) (by omega) (by omega) (fun c2 => ?_) (fun c2 => ?_)
  · refine r_sipush (pc := 9) (v := iv 1000) dX12_widest_9 (by decide) ?_
    refine r_istore (pc := 12) (lv' := [(4, .int (iv 1000)), (0, .ref y), (1, .int (iv x1)), (2, .int (iv x2)), (3, .int (iv x3))]) dX12_widest_12 (by decide) rfl ?_
    have B14 : ∀ k : Nat, ∀ hp14 : MH, Tw (RX Γ cI cJ cZ y rf cn nm so sz dr mn fr tt wt co nu sa wo ln hw ro qi qc nf nt nw nc cl nx ie be sd bl bs wy ra rb lb bg os js ls sp jw go de yb ah im) hp14 → ∀  (v14_4 : Int), (-1001) ≤ v14_4 ∧ v14_4 ≤ 1000 ∧ (nwP (Int.toNat (mn (Int.toNat x1))) (dr (Int.toNat x1)) (sh fr (60 * x1)) (sh tt (60 * x1)) (sh wt (60 * x1)) (Int.toNat x2) (Int.toNat x3) v14_4) → v14_4 + 1001 ≤ (k : Int) → Rn (gG D cI cJ cZ cT lo b L xs) mX12_widest d 14 [(0, .ref y), (1, .int (iv x1)), (2, .int (iv x2)), (3, .int (iv x3)), (4, .int (iv v14_4))] [] hp14 n 0 0 Po9 := by
      refine lpS _ ?_
      intro k14 ih14 hp14 ht14 v14_4 hf14 hm14
      obtain ⟨hf14_0, hf14_1, ha14_2⟩ := hf14
      refine r_iload (pc := 14) dX12_widest_14 rfl ?_
      refine r_sipush (pc := 16) (v := iv (-1000)) dX12_widest_16 (by decide) ?_
      refine t_icmp_lt (pc := 19) (tgt := 181) dX12_widest_19 (by decide) (by omega) (by omega) (fun c19 => ?_) (fun c19 => ?_)
      · refine r_ldc2 (pc := 181) (v := (-5000)) dX12_widest_181 kX12_270 ?_
        have hk181 : ((-5000) : Int64).toInt = (-5000) := by decide
        exact r_lret (pc := 184) dX12_widest_184 rfl (hPo _ _ _ ⟨rfl, ((-5000) : Int64), ht14, rfl, (by exact Or.inr (Or.inr ⟨by omega, by decide, fun w h1 h2 => (by assumption : nwP (Int.toNat (mn (Int.toNat x1))) (dr (Int.toNat x1)) (sh fr (60 * x1)) (sh tt (60 * x1)) (sh wt (60 * x1)) (Int.toNat x2) (Int.toNat x3) v14_4) w (by omega) h2⟩))⟩)
      · refine r_iconst (pc := 22) (v := iv 1) dX12_widest_22 (by decide) ?_
        refine r_iload_n (pc := 23) dX12_widest_23 (i := 2) rfl rfl ?_
        refine r_ishl (pc := 24) (v := iv ((2 ^ Int.toNat x2 : Nat) : Int)) dX12_widest_24 (shl_e (by omega)) ?_
        have mp24_1 : 1 ≤ 2 ^ Int.toNat x2 := Nat.one_le_two_pow
        have mq24_2 : 2 ^ Int.toNat x2 ≤ 2 ^ 15 := Nat.pow_le_pow_right (by omega) (by omega)
        have ms24 := Me_shl (Int.toNat x2)
        refine r_istore (pc := 25) (lv' := [(5, .int (iv ((2 ^ Int.toNat x2 : Nat) : Int))), (0, .ref y), (1, .int (iv x1)), (2, .int (iv x2)), (3, .int (iv x3)), (4, .int (iv v14_4))]) dX12_widest_25 (by decide) rfl ?_
        refine r_iconst (pc := 27) (v := iv 0) dX12_widest_27 (by decide) ?_
        refine r_istore (pc := 28) (lv' := [(6, .int (iv 0)), (5, .int (iv ((2 ^ Int.toNat x2 : Nat) : Int))), (0, .ref y), (1, .int (iv x1)), (2, .int (iv x2)), (3, .int (iv x3)), (4, .int (iv v14_4))]) dX12_widest_28 (by decide) rfl ?_
        have B30 : ∀ k : Nat, ∀ hp30 : MH, Tw (RX Γ cI cJ cZ y rf cn nm so sz dr mn fr tt wt co nu sa wo ln hw ro qi qc nf nt nw nc cl nx ie be sd bl bs wy ra rb lb bg os js ls sp jw go de yb ah im) hp30 → ∀  (v30_5 : Int) (v30_6 : Int), 1 ≤ v30_5 ∧ v30_5 ≤ 65535 ∧ ((2 ^ Int.toNat x2 : Nat) : Int) ≤ v30_5 ∧ 0 ≤ v30_6 ∧ v30_6 ≤ 65535 ∧ (v30_6 ≤ v30_5) ∧ (wiP (Int.toNat (mn (Int.toNat x1))) (dr (Int.toNat x1)) (sh fr (60 * x1)) (sh tt (60 * x1)) (sh wt (60 * x1)) v14_4 (Int.toNat x2) v30_6 (Int.toNat (mn (Int.toNat x1))) v30_5) → 65536 - v30_6 ≤ (k : Int) → Rn (gG D cI cJ cZ cT lo b L xs) mX12_widest d 30 [(0, .ref y), (1, .int (iv x1)), (2, .int (iv x2)), (3, .int (iv x3)), (4, .int (iv v14_4)), (5, .int (iv v30_5)), (6, .int (iv v30_6))] [] hp30 n 0 0 Po9 := by
          refine lpS _ ?_
          intro k30 ih30 hp30 ht30 v30_5 v30_6 hf30 hm30
          obtain ⟨hf30_0, hf30_1, hf30_2, hf30_3, hf30_4, hf30_5, ha30_6⟩ := hf30
          refine r_iload (pc := 30) dX12_widest_30 rfl ?_
          refine r_iload (pc := 32) dX12_widest_32 rfl ?_
          refine t_icmp_eq (pc := 34) (tgt := 161) dX12_widest_34 (by decide) (by omega) (by omega) (fun c34 => ?_) (fun c34 => ?_)
          · have hwe := wi_end (by assumption : wiP (Int.toNat (mn (Int.toNat x1))) (dr (Int.toNat x1)) (sh fr (60 * x1)) (sh tt (60 * x1)) (sh wt (60 * x1)) v14_4 (Int.toNat x2) v30_6 (Int.toNat (mn (Int.toNat x1))) v30_5) (by omega) (Int.toNat x3)
            refine r_iload (pc := 161) dX12_widest_161 rfl ?_
            refine r_iload_n (pc := 163) dX12_widest_163 (i := 3) rfl rfl ?_
            have hq164_3 := shr_le (Int.toNat v30_5) (Int.toNat x3)
            refine r_ishr (pc := 164) (v := iv ((Int.toNat v30_5 >>> Int.toNat x3 : Nat) : Int)) dX12_widest_164 (shr_e (by omega) (by omega)) ?_
            refine r_iconst (pc := 165) (v := iv 1) dX12_widest_165 (by decide) ?_
            refine r_iand (pc := 166) (v := iv (((Int.toNat v30_5 >>> Int.toNat x3 : Nat) : Int) % 2)) dX12_widest_166 (and1_e _ (by omega)) ?_
            have mb166 := @Me_bit v30_5 x3
            refine r_iconst (pc := 167) (v := iv 1) dX12_widest_167 (by decide) ?_
            refine t_icmp_ne (pc := 168) (tgt := 175) dX12_widest_168 (by decide) (by omega) (by omega) (fun c168 => ?_) (fun c168 => ?_)
            · have nm168 : ¬ Me v30_5 (Int.toNat x3) := fun h9 => absurd (Me_bit.mpr h9) (by omega)
              refine r_iinc (pc := 175) (v := iv (v14_4 - 1)) (lv' := [(4, .int (iv (v14_4 - 1))), (0, .ref y), (1, .int (iv x1)), (2, .int (iv x2)), (3, .int (iv x3)), (5, .int (iv v30_5)), (6, .int (iv v30_6))]) dX12_widest_175 rfl ((iv_add _ _).trans (congrArg iv (show v14_4 + (-1) = v14_4 - 1 by omega))) (by decide) rfl ?_
              refine r_goto (pc := 178) (tgt := 14) dX12_widest_178 (by decide) ?_
              refine Rn.pick (lv' := [(0, .ref y), (1, .int (iv x1)), (2, .int (iv x2)), (3, .int (iv x3)), (4, .int (iv (v14_4 - 1)))]) [1, 2, 3, 4, 0] rfl ?_
              exact ih14 (Int.toNat ((v14_4 - 1) + 1001)) (by omega) _ ht30 (v14_4 - 1) ⟨by omega, by omega, by (first | (intro x h1 h2; exfalso; omega) | exact nw_st (by assumption) (fun h9 => nm168 (hwe.mpr h9)))⟩ (by omega)
            · have pm168 : Me v30_5 (Int.toNat x3) := Me_bit.mp (by omega)
              refine r_iload (pc := 171) dX12_widest_171 rfl ?_
              refine r_i2l (pc := 173) (v := (iv v14_4).toInt64) dX12_widest_173 rfl ?_
              exact r_lret (pc := 174) dX12_widest_174 rfl (hPo _ _ _ ⟨rfl, ((iv v14_4).toInt64), ht30, rfl, (by (have e9 := iv_long (x := v14_4) (by omega); rw [e9]; exact Or.inr (Or.inl ⟨by omega, by omega, by omega, hwe.mp pm168, by assumption⟩)))⟩)
          · refine r_iload (pc := 37) dX12_widest_37 rfl ?_
            refine r_istore (pc := 39) (lv' := [(6, .int (iv v30_5)), (0, .ref y), (1, .int (iv x1)), (2, .int (iv x2)), (3, .int (iv x3)), (4, .int (iv v14_4)), (5, .int (iv v30_5))]) dX12_widest_39 (by decide) rfl ?_
            have hg0 := wi_go (by assumption : wiP (Int.toNat (mn (Int.toNat x1))) (dr (Int.toNat x1)) (sh fr (60 * x1)) (sh tt (60 * x1)) (sh wt (60 * x1)) v14_4 (Int.toNat x2) v30_6 (Int.toNat (mn (Int.toNat x1))) v30_5)
            refine r_iconst (pc := 41) (v := iv 0) dX12_widest_41 (by decide) ?_
            refine r_istore (pc := 42) (lv' := [(7, .int (iv 0)), (6, .int (iv v30_5)), (0, .ref y), (1, .int (iv x1)), (2, .int (iv x2)), (3, .int (iv x3)), (4, .int (iv v14_4)), (5, .int (iv v30_5))]) dX12_widest_42 (by decide) rfl ?_
            have B44 : ∀ k : Nat, ∀ hp44 : MH, Tw (RX Γ cI cJ cZ y rf cn nm so sz dr mn fr tt wt co nu sa wo ln hw ro qi qc nf nt nw nc cl nx ie be sd bl bs wy ra rb lb bg os js ls sp jw go de yb ah im) hp44 → ∀  (v44_5 : Int) (v44_7 : Int), 1 ≤ v44_5 ∧ v44_5 ≤ 65535 ∧ v30_5 ≤ v44_5 ∧ 0 ≤ v44_7 ∧ v44_7 ≤ 60 ∧ (v44_7 ≤ (mn (Int.toNat x1))) ∧ (v30_5 ≤ v44_5) ∧ (wiP (Int.toNat (mn (Int.toNat x1))) (dr (Int.toNat x1)) (sh fr (60 * x1)) (sh tt (60 * x1)) (sh wt (60 * x1)) v14_4 (Int.toNat x2) v30_5 (Int.toNat v44_7) v44_5) → 60 - v44_7 ≤ (k : Int) → Rn (gG D cI cJ cZ cT lo b L xs) mX12_widest d 44 [(0, .ref y), (1, .int (iv x1)), (2, .int (iv x2)), (3, .int (iv x3)), (4, .int (iv v14_4)), (5, .int (iv v44_5)), (6, .int (iv v30_5)), (7, .int (iv v44_7))] [] hp44 n 0 0 Po9 := by
              refine lpS _ ?_
              intro k44 ih44 hp44 ht44 v44_5 v44_7 hf44 hm44
              obtain ⟨hf44_0, hf44_1, hf44_2, hf44_3, hf44_4, hf44_5, hf44_6, ha44_7⟩ := hf44
              refine r_iload (pc := 44) dX12_widest_44 rfl ?_
              refine r_aload_n (pc := 46) dX12_widest_46 (i := 0) rfl rfl ?_
              refine t_getE (pc := 47) (.ref (y + 4)) ht44 (rd_of RX_y) fX12_20 dX12_widest_47 rfl ?_
              refine r_iload_n (pc := 50) dX12_widest_50 (i := 1) rfl rfl ?_
              refine t_ialdX (pc := 51) (t0 := 0) ht44 (rd_of RX_many) dX12_widest_51 rfl (by decide) (by omega) (fun b4 => ?_)
              have rb4 := (show Rfx 121 0 60 mn by assumption) (Int.toNat x1) (by omega)
              refine t_icmp_ge (pc := 52) (tgt := 158) dX12_widest_52 (by decide) (by omega) (by omega) (fun c52 => ?_) (fun c52 => ?_)
              · refine r_goto (pc := 158) (tgt := 30) dX12_widest_158 (by decide) ?_
                refine Rn.pick (lv' := [(0, .ref y), (1, .int (iv x1)), (2, .int (iv x2)), (3, .int (iv x3)), (4, .int (iv v14_4)), (5, .int (iv v44_5)), (6, .int (iv v30_5))]) [0, 1, 2, 3, 4, 5, 6] rfl ?_
                exact ih30 (Int.toNat (65536 - v30_5)) (by omega) _ ht44 v44_5 v30_5 ⟨by omega, by omega, by omega, by omega, by omega, by omega, by (first | exact wi_0 ms24 | (have h8 : wiP (Int.toNat (mn (Int.toNat x1))) (dr (Int.toNat x1)) (sh fr (60 * x1)) (sh tt (60 * x1)) (sh wt (60 * x1)) v14_4 (Int.toNat x2) v30_5 (Int.toNat v44_7) v44_5 := (by assumption); rw [show v44_7 = (mn (Int.toNat x1)) by omega] at h8; exact h8))⟩ (by omega)
              · refine r_iload_n (pc := 55) dX12_widest_55 (i := 1) rfl rfl ?_
                refine r_iload (pc := 56) dX12_widest_56 rfl ?_
                refine t_callSI (pc := 58) (as := [.int (iv x1), .int (iv v44_7)]) (st := []) kX12_157 dX12_widest_58 (t_X12_at1x (d := d - 1) (x1 := x1) (x2 := v44_7) (by omega)  ht44 (by omega) (by omega)) rfl (by omega) (Nat.le_of_ble_eq_true rfl) rfl (fun hp5 y7 ht6 by7 => ?_)
                have ey7 : y7 = 60 * x1 + v44_7 := by7
                subst ey7
                refine r_istore (pc := 61) (lv' := [(8, .int (iv (60 * x1 + v44_7))), (0, .ref y), (1, .int (iv x1)), (2, .int (iv x2)), (3, .int (iv x3)), (4, .int (iv v14_4)), (5, .int (iv v44_5)), (6, .int (iv v30_5)), (7, .int (iv v44_7))]) dX12_widest_61 (by decide) rfl ?_
                have eF : (sh fr (60 * x1)) (Int.toNat v44_7) = fr (Int.toNat (60 * x1 + v44_7)) := (sh_at fr (60 * x1) (v := v44_7) (by omega)).symm
                have eT : (sh tt (60 * x1)) (Int.toNat v44_7) = tt (Int.toNat (60 * x1 + v44_7)) := (sh_at tt (60 * x1) (v := v44_7) (by omega)).symm
                have eW : (sh wt (60 * x1)) (Int.toNat v44_7) = wt (Int.toNat (60 * x1 + v44_7)) := (sh_at wt (60 * x1) (v := v44_7) (by omega)).symm
                have hwi := (by assumption : wiP (Int.toNat (mn (Int.toNat x1))) (dr (Int.toNat x1)) (sh fr (60 * x1)) (sh tt (60 * x1)) (sh wt (60 * x1)) v14_4 (Int.toNat x2) v30_5 (Int.toNat v44_7) v44_5)
                refine r_aload_n (pc := 63) dX12_widest_63 (i := 0) rfl rfl ?_
                refine t_getE (pc := 64) (.ref (y + 7)) ht6 (rd_of RX_y) fX12_29 dX12_widest_64 rfl ?_
                refine r_iload (pc := 67) dX12_widest_67 rfl ?_
                refine t_ialdX (pc := 69) (t0 := 0) ht6 (rd_of RX_weight) dX12_widest_69 rfl (by decide) (by omega) (fun b8 => ?_)
                have rb8 := (show Rfx 7260 (-1000) 1000 wt by assumption) (Int.toNat (60 * x1 + v44_7)) (by omega)
                refine r_iload (pc := 70) dX12_widest_70 rfl ?_
                refine t_icmp_lt (pc := 72) (tgt := 152) dX12_widest_72 (by decide) (by omega) (by omega) (fun c72 => ?_) (fun c72 => ?_)
                · refine r_iinc (pc := 152) (v := iv (v44_7 + 1)) (lv' := [(7, .int (iv (v44_7 + 1))), (8, .int (iv (60 * x1 + v44_7))), (0, .ref y), (1, .int (iv x1)), (2, .int (iv x2)), (3, .int (iv x3)), (4, .int (iv v14_4)), (5, .int (iv v44_5)), (6, .int (iv v30_5))]) dX12_widest_152 rfl (iv_add _ _) (by decide) rfl ?_
                  refine r_goto (pc := 155) (tgt := 44) dX12_widest_155 (by decide) ?_
                  refine Rn.pick (lv' := [(0, .ref y), (1, .int (iv x1)), (2, .int (iv x2)), (3, .int (iv x3)), (4, .int (iv v14_4)), (5, .int (iv v44_5)), (6, .int (iv v30_5)), (7, .int (iv (v44_7 + 1)))]) [2, 3, 4, 5, 6, 7, 8, 0] rfl ?_
                  exact ih44 (Int.toNat (60 - (v44_7 + 1))) (by omega) _ ht6 v44_5 (v44_7 + 1) ⟨by omega, by omega, by omega, by omega, by omega, by omega, by omega, by (first | exact hg0 | exact hup | exact wi_up hwi (by omega) (fun _ g => g) hwi.2.1 (fun h9 => by exfalso; omega))⟩ (by omega)
                · refine r_iload (pc := 75) dX12_widest_75 rfl ?_
                  refine r_iload (pc := 77) dX12_widest_77 rfl ?_
                  refine r_aload_n (pc := 79) dX12_widest_79 (i := 0) rfl rfl ?_
                  refine t_getE (pc := 80) (.ref (y + 5)) ht6 (rd_of RX_y) fX12_23 dX12_widest_80 rfl ?_
                  refine r_iload (pc := 83) dX12_widest_83 rfl ?_
                  refine t_ialdX (pc := 85) (t0 := 0) ht6 (rd_of RX_from) dX12_widest_85 rfl (by decide) (by omega) (fun b9 => ?_)
                  have rb9 := (show Rfx 7260 0 15 fr by assumption) (Int.toNat (60 * x1 + v44_7)) (by omega)
                  have hq86_10 := shr_le (Int.toNat v44_5) (Int.toNat (fr (Int.toNat (60 * x1 + v44_7))))
                  refine r_ishr (pc := 86) (v := iv ((Int.toNat v44_5 >>> Int.toNat (fr (Int.toNat (60 * x1 + v44_7))) : Nat) : Int)) dX12_widest_86 (shr_e (by omega) (by omega)) ?_
                  refine r_iconst (pc := 87) (v := iv 1) dX12_widest_87 (by decide) ?_
                  refine r_iand (pc := 88) (v := iv (((Int.toNat v44_5 >>> Int.toNat (fr (Int.toNat (60 * x1 + v44_7))) : Nat) : Int) % 2)) dX12_widest_88 (and1_e _ (by omega)) ?_
                  have mb88 := @Me_bit v44_5 (fr (Int.toNat (60 * x1 + v44_7)))
                  refine r_iconst (pc := 89) (v := iv 1) dX12_widest_89 (by decide) ?_
                  refine t_icmp_ne (pc := 90) (tgt := 105) dX12_widest_90 (by decide) (by omega) (by omega) (fun c90 => ?_) (fun c90 => ?_)
                  · have nm90 : ¬ Me v44_5 (Int.toNat (fr (Int.toNat (60 * x1 + v44_7)))) := fun h9 => absurd (Me_bit.mpr h9) (by omega)
                    refine r_iconst (pc := 105) (v := iv 0) dX12_widest_105 (by decide) ?_
                    obtain ⟨z11, hz11, bz11⟩ := or_2 16 v44_5 0 (by omega) (by omega) (by decide)
                    refine r_ior (pc := 106) (v := iv z11) dX12_widest_106 hz11 ?_
                    have mez11 := Me_or hz11 (by omega) (by omega) (by omega)
                    have hr1 : ∀ j, Me z11 j → RC (stW (Int.toNat (mn (Int.toNat x1))) (dr (Int.toNat x1)) (sh fr (60 * x1)) (sh tt (60 * x1)) (sh wt (60 * x1)) v14_4) (fun x => x = Int.toNat x2) j := by
                      intro j hj
                      rcases (mez11 j).mp hj with g | g
                      · exact hwi.2.1 j g
                      · first
                        | exact absurd g (Me_0 j)
                        | (rw [(ms101 j).mp g, ← eT]; exact wi_T hF0 (by omega) (by omega) (by rw [eF]; exact hwi.2.1 _ pm90))
                    have hc1 : Me v44_5 (Int.toNat (fr (Int.toNat (60 * x1 + v44_7)))) → Me z11 (Int.toNat (tt (Int.toNat (60 * x1 + v44_7)))) := by
                      intro g
                      first
                      | exact (mez11 _).mpr (Or.inr ((ms101 _).mpr rfl))
                      | exact absurd g nm90
                    refine r_istore (pc := 107) (lv' := [(5, .int (iv z11)), (8, .int (iv (60 * x1 + v44_7))), (0, .ref y), (1, .int (iv x1)), (2, .int (iv x2)), (3, .int (iv x3)), (4, .int (iv v14_4)), (6, .int (iv v30_5)), (7, .int (iv v44_7))]) dX12_widest_107 (by decide) rfl ?_
                    refine r_iload (pc := 109) dX12_widest_109 rfl ?_
                    refine r_aload_n (pc := 111) dX12_widest_111 (i := 0) rfl rfl ?_
                    refine t_getE (pc := 112) (.ref (y + 3)) ht6 (rd_of RX_y) fX12_16 dX12_widest_112 rfl ?_
                    refine r_iload_n (pc := 115) dX12_widest_115 (i := 1) rfl rfl ?_
                    refine t_zaldX (pc := 116) (t0 := 2) ht6 (rd_of RX_directs) dX12_widest_116 rfl (by decide) (by omega) (fun b12 => ?_)
                    have rb12 := (show Rfx 121 0 1 dr by assumption) (Int.toNat x1) (by omega)
                    refine t_if_ne (pc := 117) (tgt := 148) dX12_widest_117 (by decide) (by omega) (fun c117 => ?_) (fun c117 => ?_)
                    · refine r_iconst (pc := 148) (v := iv 0) dX12_widest_148 (by decide) ?_
                      obtain ⟨z13, hz13, bz13⟩ := or_2 16 z11 0 (by omega) (by omega) (by decide)
                      refine r_ior (pc := 149) (v := iv z13) dX12_widest_149 hz13 ?_
                      have mez13 := Me_or hz13 (by omega) (by omega) (by omega)
                      have hr2 : ∀ j, Me z13 j → RC (stW (Int.toNat (mn (Int.toNat x1))) (dr (Int.toNat x1)) (sh fr (60 * x1)) (sh tt (60 * x1)) (sh wt (60 * x1)) v14_4) (fun x => x = Int.toNat x2) j := by
                        intro j hj
                        rcases (mez13 j).mp hj with g | g
                        · exact hr1 j g
                        · first
                          | exact absurd g (Me_0 j)
                          | (rw [(ms144 j).mp g, ← eF]; exact wi_F hF0 (by omega) (by omega) (by omega) (by rw [eT]; exact hr1 _ pm133))
                      have hc2 : (dr (Int.toNat x1)) = 0 → Me z11 (Int.toNat (tt (Int.toNat (60 * x1 + v44_7)))) → Me z13 (Int.toNat (fr (Int.toNat (60 * x1 + v44_7)))) := by
                        intro g0 g
                        first
                        | (exfalso; omega)
                        | exact (mez13 _).mpr (Or.inr ((ms144 _).mpr rfl))
                        | exact absurd g nm133
                      have hup := wi_up (set2 := z13) hwi (by omega) (fun j g => (mez13 j).mpr (Or.inl ((mez11 j).mpr (Or.inl g)))) hr2 (fun _ => by rw [eF, eT]; exact ⟨fun g => (mez13 _).mpr (Or.inl (hc1 g)), fun g0 g => hc2 g0 ((mez11 _).mpr (Or.inl g))⟩)
                      refine r_istore (pc := 150) (lv' := [(5, .int (iv z13)), (8, .int (iv (60 * x1 + v44_7))), (0, .ref y), (1, .int (iv x1)), (2, .int (iv x2)), (3, .int (iv x3)), (4, .int (iv v14_4)), (6, .int (iv v30_5)), (7, .int (iv v44_7))]) dX12_widest_150 (by decide) rfl ?_
                      refine r_iinc (pc := 152) (v := iv (v44_7 + 1)) (lv' := [(7, .int (iv (v44_7 + 1))), (5, .int (iv z13)), (8, .int (iv (60 * x1 + v44_7))), (0, .ref y), (1, .int (iv x1)), (2, .int (iv x2)), (3, .int (iv x3)), (4, .int (iv v14_4)), (6, .int (iv v30_5))]) dX12_widest_152 rfl (iv_add _ _) (by decide) rfl ?_
                      refine r_goto (pc := 155) (tgt := 44) dX12_widest_155 (by decide) ?_
                      refine Rn.pick (lv' := [(0, .ref y), (1, .int (iv x1)), (2, .int (iv x2)), (3, .int (iv x3)), (4, .int (iv v14_4)), (5, .int (iv z13)), (6, .int (iv v30_5)), (7, .int (iv (v44_7 + 1)))]) [3, 4, 5, 6, 7, 1, 8, 0] rfl ?_
                      exact ih44 (Int.toNat (60 - (v44_7 + 1))) (by omega) _ ht6 z13 (v44_7 + 1) ⟨by omega, by omega, by omega, by omega, by omega, by omega, by omega, by (first | exact hg0 | exact hup | exact wi_up hwi (by omega) (fun _ g => g) hwi.2.1 (fun h9 => by exfalso; omega))⟩ (by omega)
                    · refine r_iload (pc := 120) dX12_widest_120 rfl ?_
                      refine r_aload_n (pc := 122) dX12_widest_122 (i := 0) rfl rfl ?_
                      refine t_getE (pc := 123) (.ref (y + 6)) ht6 (rd_of RX_y) fX12_26 dX12_widest_123 rfl ?_
                      refine r_iload (pc := 126) dX12_widest_126 rfl ?_
                      refine t_ialdX (pc := 128) (t0 := 0) ht6 (rd_of RX_to) dX12_widest_128 rfl (by decide) (by omega) (fun b14 => ?_)
                      have rb14 := (show Rfx 7260 0 15 tt by assumption) (Int.toNat (60 * x1 + v44_7)) (by omega)
                      have hq129_15 := shr_le (Int.toNat z11) (Int.toNat (tt (Int.toNat (60 * x1 + v44_7))))
                      refine r_ishr (pc := 129) (v := iv ((Int.toNat z11 >>> Int.toNat (tt (Int.toNat (60 * x1 + v44_7))) : Nat) : Int)) dX12_widest_129 (shr_e (by omega) (by omega)) ?_
                      refine r_iconst (pc := 130) (v := iv 1) dX12_widest_130 (by decide) ?_
                      refine r_iand (pc := 131) (v := iv (((Int.toNat z11 >>> Int.toNat (tt (Int.toNat (60 * x1 + v44_7))) : Nat) : Int) % 2)) dX12_widest_131 (and1_e _ (by omega)) ?_
                      have mb131 := @Me_bit z11 (tt (Int.toNat (60 * x1 + v44_7)))
                      refine r_iconst (pc := 132) (v := iv 1) dX12_widest_132 (by decide) ?_
                      refine t_icmp_ne (pc := 133) (tgt := 148) dX12_widest_133 (by decide) (by omega) (by omega) (fun c133 => ?_) (fun c133 => ?_)
                      · have nm133 : ¬ Me z11 (Int.toNat (tt (Int.toNat (60 * x1 + v44_7)))) := fun h9 => absurd (Me_bit.mpr h9) (by omega)
                        refine r_iconst (pc := 148) (v := iv 0) dX12_widest_148 (by decide) ?_
                        obtain ⟨z16, hz16, bz16⟩ := or_2 16 z11 0 (by omega) (by omega) (by decide)
                        refine r_ior (pc := 149) (v := iv z16) dX12_widest_149 hz16 ?_
                        have mez16 := Me_or hz16 (by omega) (by omega) (by omega)
                        have hr2 : ∀ j, Me z16 j → RC (stW (Int.toNat (mn (Int.toNat x1))) (dr (Int.toNat x1)) (sh fr (60 * x1)) (sh tt (60 * x1)) (sh wt (60 * x1)) v14_4) (fun x => x = Int.toNat x2) j := by
                          intro j hj
                          rcases (mez16 j).mp hj with g | g
                          · exact hr1 j g
                          · first
                            | exact absurd g (Me_0 j)
                            | (rw [(ms144 j).mp g, ← eF]; exact wi_F hF0 (by omega) (by omega) (by omega) (by rw [eT]; exact hr1 _ pm133))
                        have hc2 : (dr (Int.toNat x1)) = 0 → Me z11 (Int.toNat (tt (Int.toNat (60 * x1 + v44_7)))) → Me z16 (Int.toNat (fr (Int.toNat (60 * x1 + v44_7)))) := by
                          intro g0 g
                          first
                          | (exfalso; omega)
                          | exact (mez16 _).mpr (Or.inr ((ms144 _).mpr rfl))
                          | exact absurd g nm133
                        have hup := wi_up (set2 := z16) hwi (by omega) (fun j g => (mez16 j).mpr (Or.inl ((mez11 j).mpr (Or.inl g)))) hr2 (fun _ => by rw [eF, eT]; exact ⟨fun g => (mez16 _).mpr (Or.inl (hc1 g)), fun g0 g => hc2 g0 ((mez11 _).mpr (Or.inl g))⟩)
                        refine r_istore (pc := 150) (lv' := [(5, .int (iv z16)), (8, .int (iv (60 * x1 + v44_7))), (0, .ref y), (1, .int (iv x1)), (2, .int (iv x2)), (3, .int (iv x3)), (4, .int (iv v14_4)), (6, .int (iv v30_5)), (7, .int (iv v44_7))]) dX12_widest_150 (by decide) rfl ?_
                        refine r_iinc (pc := 152) (v := iv (v44_7 + 1)) (lv' := [(7, .int (iv (v44_7 + 1))), (5, .int (iv z16)), (8, .int (iv (60 * x1 + v44_7))), (0, .ref y), (1, .int (iv x1)), (2, .int (iv x2)), (3, .int (iv x3)), (4, .int (iv v14_4)), (6, .int (iv v30_5))]) dX12_widest_152 rfl (iv_add _ _) (by decide) rfl ?_
                        refine r_goto (pc := 155) (tgt := 44) dX12_widest_155 (by decide) ?_
                        refine Rn.pick (lv' := [(0, .ref y), (1, .int (iv x1)), (2, .int (iv x2)), (3, .int (iv x3)), (4, .int (iv v14_4)), (5, .int (iv z16)), (6, .int (iv v30_5)), (7, .int (iv (v44_7 + 1)))]) [3, 4, 5, 6, 7, 1, 8, 0] rfl ?_
                        exact ih44 (Int.toNat (60 - (v44_7 + 1))) (by omega) _ ht6 z16 (v44_7 + 1) ⟨by omega, by omega, by omega, by omega, by omega, by omega, by omega, by (first | exact hg0 | exact hup | exact wi_up hwi (by omega) (fun _ g => g) hwi.2.1 (fun h9 => by exfalso; omega))⟩ (by omega)
                      · have pm133 : Me z11 (Int.toNat (tt (Int.toNat (60 * x1 + v44_7)))) := Me_bit.mp (by omega)
                        refine r_iconst (pc := 136) (v := iv 1) dX12_widest_136 (by decide) ?_
                        refine r_aload_n (pc := 137) dX12_widest_137 (i := 0) rfl rfl ?_
                        refine t_getE (pc := 138) (.ref (y + 5)) ht6 (rd_of RX_y) fX12_23 dX12_widest_138 rfl ?_
                        refine r_iload (pc := 141) dX12_widest_141 rfl ?_
                        refine t_ialdX (pc := 143) (t0 := 0) ht6 (rd_of RX_from) dX12_widest_143 rfl (by decide) (by omega) (fun b17 => ?_)
                        have rb17 := (show Rfx 7260 0 15 fr by assumption) (Int.toNat (60 * x1 + v44_7)) (by omega)
                        refine r_ishl (pc := 144) (v := iv ((2 ^ Int.toNat (fr (Int.toNat (60 * x1 + v44_7))) : Nat) : Int)) dX12_widest_144 (shl_e (by omega)) ?_
                        have mp144_18 : 1 ≤ 2 ^ Int.toNat (fr (Int.toNat (60 * x1 + v44_7))) := Nat.one_le_two_pow
                        have mq144_19 : 2 ^ Int.toNat (fr (Int.toNat (60 * x1 + v44_7))) ≤ 2 ^ 15 := Nat.pow_le_pow_right (by omega) (by omega)
                        have ms144 := Me_shl (Int.toNat (fr (Int.toNat (60 * x1 + v44_7))))
                        refine r_goto (pc := 145) (tgt := 149) dX12_widest_145 (by decide) ?_
                        obtain ⟨z20, hz20, bz20⟩ := or_2 16 z11 ((2 ^ Int.toNat (fr (Int.toNat (60 * x1 + v44_7))) : Nat) : Int) (by omega) (by omega) (by decide)
                        refine r_ior (pc := 149) (v := iv z20) dX12_widest_149 hz20 ?_
                        have mez20 := Me_or hz20 (by omega) (by omega) (by omega)
                        have hr2 : ∀ j, Me z20 j → RC (stW (Int.toNat (mn (Int.toNat x1))) (dr (Int.toNat x1)) (sh fr (60 * x1)) (sh tt (60 * x1)) (sh wt (60 * x1)) v14_4) (fun x => x = Int.toNat x2) j := by
                          intro j hj
                          rcases (mez20 j).mp hj with g | g
                          · exact hr1 j g
                          · first
                            | exact absurd g (Me_0 j)
                            | (rw [(ms144 j).mp g, ← eF]; exact wi_F hF0 (by omega) (by omega) (by omega) (by rw [eT]; exact hr1 _ pm133))
                        have hc2 : (dr (Int.toNat x1)) = 0 → Me z11 (Int.toNat (tt (Int.toNat (60 * x1 + v44_7)))) → Me z20 (Int.toNat (fr (Int.toNat (60 * x1 + v44_7)))) := by
                          intro g0 g
                          first
                          | (exfalso; omega)
                          | exact (mez20 _).mpr (Or.inr ((ms144 _).mpr rfl))
                          | exact absurd g nm133
                        have hup := wi_up (set2 := z20) hwi (by omega) (fun j g => (mez20 j).mpr (Or.inl ((mez11 j).mpr (Or.inl g)))) hr2 (fun _ => by rw [eF, eT]; exact ⟨fun g => (mez20 _).mpr (Or.inl (hc1 g)), fun g0 g => hc2 g0 ((mez11 _).mpr (Or.inl g))⟩)
                        refine r_istore (pc := 150) (lv' := [(5, .int (iv z20)), (8, .int (iv (60 * x1 + v44_7))), (0, .ref y), (1, .int (iv x1)), (2, .int (iv x2)), (3, .int (iv x3)), (4, .int (iv v14_4)), (6, .int (iv v30_5)), (7, .int (iv v44_7))]) dX12_widest_150 (by decide) rfl ?_
                        refine r_iinc (pc := 152) (v := iv (v44_7 + 1)) (lv' := [(7, .int (iv (v44_7 + 1))), (5, .int (iv z20)), (8, .int (iv (60 * x1 + v44_7))), (0, .ref y), (1, .int (iv x1)), (2, .int (iv x2)), (3, .int (iv x3)), (4, .int (iv v14_4)), (6, .int (iv v30_5))]) dX12_widest_152 rfl (iv_add _ _) (by decide) rfl ?_
                        refine r_goto (pc := 155) (tgt := 44) dX12_widest_155 (by decide) ?_
                        refine Rn.pick (lv' := [(0, .ref y), (1, .int (iv x1)), (2, .int (iv x2)), (3, .int (iv x3)), (4, .int (iv v14_4)), (5, .int (iv z20)), (6, .int (iv v30_5)), (7, .int (iv (v44_7 + 1)))]) [3, 4, 5, 6, 7, 1, 8, 0] rfl ?_
                        exact ih44 (Int.toNat (60 - (v44_7 + 1))) (by omega) _ ht6 z20 (v44_7 + 1) ⟨by omega, by omega, by omega, by omega, by omega, by omega, by omega, by (first | exact hg0 | exact hup | exact wi_up hwi (by omega) (fun _ g => g) hwi.2.1 (fun h9 => by exfalso; omega))⟩ (by omega)
                  · have pm90 : Me v44_5 (Int.toNat (fr (Int.toNat (60 * x1 + v44_7)))) := Me_bit.mp (by omega)
                    refine r_iconst (pc := 93) (v := iv 1) dX12_widest_93 (by decide) ?_
                    refine r_aload_n (pc := 94) dX12_widest_94 (i := 0) rfl rfl ?_
                    refine t_getE (pc := 95) (.ref (y + 6)) ht6 (rd_of RX_y) fX12_26 dX12_widest_95 rfl ?_
                    refine r_iload (pc := 98) dX12_widest_98 rfl ?_
                    refine t_ialdX (pc := 100) (t0 := 0) ht6 (rd_of RX_to) dX12_widest_100 rfl (by decide) (by omega) (fun b21 => ?_)
                    have rb21 := (show Rfx 7260 0 15 tt by assumption) (Int.toNat (60 * x1 + v44_7)) (by omega)
                    refine r_ishl (pc := 101) (v := iv ((2 ^ Int.toNat (tt (Int.toNat (60 * x1 + v44_7))) : Nat) : Int)) dX12_widest_101 (shl_e (by omega)) ?_
                    have mp101_22 : 1 ≤ 2 ^ Int.toNat (tt (Int.toNat (60 * x1 + v44_7))) := Nat.one_le_two_pow
                    have mq101_23 : 2 ^ Int.toNat (tt (Int.toNat (60 * x1 + v44_7))) ≤ 2 ^ 15 := Nat.pow_le_pow_right (by omega) (by omega)
                    have ms101 := Me_shl (Int.toNat (tt (Int.toNat (60 * x1 + v44_7))))
                    refine r_goto (pc := 102) (tgt := 106) dX12_widest_102 (by decide) ?_
                    obtain ⟨z24, hz24, bz24⟩ := or_2 16 v44_5 ((2 ^ Int.toNat (tt (Int.toNat (60 * x1 + v44_7))) : Nat) : Int) (by omega) (by omega) (by decide)
                    refine r_ior (pc := 106) (v := iv z24) dX12_widest_106 hz24 ?_
                    have mez24 := Me_or hz24 (by omega) (by omega) (by omega)
                    have hr1 : ∀ j, Me z24 j → RC (stW (Int.toNat (mn (Int.toNat x1))) (dr (Int.toNat x1)) (sh fr (60 * x1)) (sh tt (60 * x1)) (sh wt (60 * x1)) v14_4) (fun x => x = Int.toNat x2) j := by
                      intro j hj
                      rcases (mez24 j).mp hj with g | g
                      · exact hwi.2.1 j g
                      · first
                        | exact absurd g (Me_0 j)
                        | (rw [(ms101 j).mp g, ← eT]; exact wi_T hF0 (by omega) (by omega) (by rw [eF]; exact hwi.2.1 _ pm90))
                    have hc1 : Me v44_5 (Int.toNat (fr (Int.toNat (60 * x1 + v44_7)))) → Me z24 (Int.toNat (tt (Int.toNat (60 * x1 + v44_7)))) := by
                      intro g
                      first
                      | exact (mez24 _).mpr (Or.inr ((ms101 _).mpr rfl))
                      | exact absurd g nm90
                    refine r_istore (pc := 107) (lv' := [(5, .int (iv z24)), (8, .int (iv (60 * x1 + v44_7))), (0, .ref y), (1, .int (iv x1)), (2, .int (iv x2)), (3, .int (iv x3)), (4, .int (iv v14_4)), (6, .int (iv v30_5)), (7, .int (iv v44_7))]) dX12_widest_107 (by decide) rfl ?_
                    refine r_iload (pc := 109) dX12_widest_109 rfl ?_
                    refine r_aload_n (pc := 111) dX12_widest_111 (i := 0) rfl rfl ?_
                    refine t_getE (pc := 112) (.ref (y + 3)) ht6 (rd_of RX_y) fX12_16 dX12_widest_112 rfl ?_
                    refine r_iload_n (pc := 115) dX12_widest_115 (i := 1) rfl rfl ?_
                    refine t_zaldX (pc := 116) (t0 := 2) ht6 (rd_of RX_directs) dX12_widest_116 rfl (by decide) (by omega) (fun b25 => ?_)
                    have rb25 := (show Rfx 121 0 1 dr by assumption) (Int.toNat x1) (by omega)
                    refine t_if_ne (pc := 117) (tgt := 148) dX12_widest_117 (by decide) (by omega) (fun c117 => ?_) (fun c117 => ?_)
                    · refine r_iconst (pc := 148) (v := iv 0) dX12_widest_148 (by decide) ?_
                      obtain ⟨z26, hz26, bz26⟩ := or_2 16 z24 0 (by omega) (by omega) (by decide)
                      refine r_ior (pc := 149) (v := iv z26) dX12_widest_149 hz26 ?_
                      have mez26 := Me_or hz26 (by omega) (by omega) (by omega)
                      have hr2 : ∀ j, Me z26 j → RC (stW (Int.toNat (mn (Int.toNat x1))) (dr (Int.toNat x1)) (sh fr (60 * x1)) (sh tt (60 * x1)) (sh wt (60 * x1)) v14_4) (fun x => x = Int.toNat x2) j := by
                        intro j hj
                        rcases (mez26 j).mp hj with g | g
                        · exact hr1 j g
                        · first
                          | exact absurd g (Me_0 j)
                          | (rw [(ms144 j).mp g, ← eF]; exact wi_F hF0 (by omega) (by omega) (by omega) (by rw [eT]; exact hr1 _ pm133))
                      have hc2 : (dr (Int.toNat x1)) = 0 → Me z24 (Int.toNat (tt (Int.toNat (60 * x1 + v44_7)))) → Me z26 (Int.toNat (fr (Int.toNat (60 * x1 + v44_7)))) := by
                        intro g0 g
                        first
                        | (exfalso; omega)
                        | exact (mez26 _).mpr (Or.inr ((ms144 _).mpr rfl))
                        | exact absurd g nm133
                      have hup := wi_up (set2 := z26) hwi (by omega) (fun j g => (mez26 j).mpr (Or.inl ((mez24 j).mpr (Or.inl g)))) hr2 (fun _ => by rw [eF, eT]; exact ⟨fun g => (mez26 _).mpr (Or.inl (hc1 g)), fun g0 g => hc2 g0 ((mez24 _).mpr (Or.inl g))⟩)
                      refine r_istore (pc := 150) (lv' := [(5, .int (iv z26)), (8, .int (iv (60 * x1 + v44_7))), (0, .ref y), (1, .int (iv x1)), (2, .int (iv x2)), (3, .int (iv x3)), (4, .int (iv v14_4)), (6, .int (iv v30_5)), (7, .int (iv v44_7))]) dX12_widest_150 (by decide) rfl ?_
                      refine r_iinc (pc := 152) (v := iv (v44_7 + 1)) (lv' := [(7, .int (iv (v44_7 + 1))), (5, .int (iv z26)), (8, .int (iv (60 * x1 + v44_7))), (0, .ref y), (1, .int (iv x1)), (2, .int (iv x2)), (3, .int (iv x3)), (4, .int (iv v14_4)), (6, .int (iv v30_5))]) dX12_widest_152 rfl (iv_add _ _) (by decide) rfl ?_
                      refine r_goto (pc := 155) (tgt := 44) dX12_widest_155 (by decide) ?_
                      refine Rn.pick (lv' := [(0, .ref y), (1, .int (iv x1)), (2, .int (iv x2)), (3, .int (iv x3)), (4, .int (iv v14_4)), (5, .int (iv z26)), (6, .int (iv v30_5)), (7, .int (iv (v44_7 + 1)))]) [3, 4, 5, 6, 7, 1, 8, 0] rfl ?_
                      exact ih44 (Int.toNat (60 - (v44_7 + 1))) (by omega) _ ht6 z26 (v44_7 + 1) ⟨by omega, by omega, by omega, by omega, by omega, by omega, by omega, by (first | exact hg0 | exact hup | exact wi_up hwi (by omega) (fun _ g => g) hwi.2.1 (fun h9 => by exfalso; omega))⟩ (by omega)
                    · refine r_iload (pc := 120) dX12_widest_120 rfl ?_
                      refine r_aload_n (pc := 122) dX12_widest_122 (i := 0) rfl rfl ?_
                      refine t_getE (pc := 123) (.ref (y + 6)) ht6 (rd_of RX_y) fX12_26 dX12_widest_123 rfl ?_
                      refine r_iload (pc := 126) dX12_widest_126 rfl ?_
                      refine t_ialdX (pc := 128) (t0 := 0) ht6 (rd_of RX_to) dX12_widest_128 rfl (by decide) (by omega) (fun b27 => ?_)
                      have rb27 := (show Rfx 7260 0 15 tt by assumption) (Int.toNat (60 * x1 + v44_7)) (by omega)
                      have hq129_28 := shr_le (Int.toNat z24) (Int.toNat (tt (Int.toNat (60 * x1 + v44_7))))
                      refine r_ishr (pc := 129) (v := iv ((Int.toNat z24 >>> Int.toNat (tt (Int.toNat (60 * x1 + v44_7))) : Nat) : Int)) dX12_widest_129 (shr_e (by omega) (by omega)) ?_
                      refine r_iconst (pc := 130) (v := iv 1) dX12_widest_130 (by decide) ?_
                      refine r_iand (pc := 131) (v := iv (((Int.toNat z24 >>> Int.toNat (tt (Int.toNat (60 * x1 + v44_7))) : Nat) : Int) % 2)) dX12_widest_131 (and1_e _ (by omega)) ?_
                      have mb131 := @Me_bit z24 (tt (Int.toNat (60 * x1 + v44_7)))
                      refine r_iconst (pc := 132) (v := iv 1) dX12_widest_132 (by decide) ?_
                      refine t_icmp_ne (pc := 133) (tgt := 148) dX12_widest_133 (by decide) (by omega) (by omega) (fun c133 => ?_) (fun c133 => ?_)
                      · have nm133 : ¬ Me z24 (Int.toNat (tt (Int.toNat (60 * x1 + v44_7)))) := fun h9 => absurd (Me_bit.mpr h9) (by omega)
                        refine r_iconst (pc := 148) (v := iv 0) dX12_widest_148 (by decide) ?_
                        obtain ⟨z29, hz29, bz29⟩ := or_2 16 z24 0 (by omega) (by omega) (by decide)
                        refine r_ior (pc := 149) (v := iv z29) dX12_widest_149 hz29 ?_
                        have mez29 := Me_or hz29 (by omega) (by omega) (by omega)
                        have hr2 : ∀ j, Me z29 j → RC (stW (Int.toNat (mn (Int.toNat x1))) (dr (Int.toNat x1)) (sh fr (60 * x1)) (sh tt (60 * x1)) (sh wt (60 * x1)) v14_4) (fun x => x = Int.toNat x2) j := by
                          intro j hj
                          rcases (mez29 j).mp hj with g | g
                          · exact hr1 j g
                          · first
                            | exact absurd g (Me_0 j)
                            | (rw [(ms144 j).mp g, ← eF]; exact wi_F hF0 (by omega) (by omega) (by omega) (by rw [eT]; exact hr1 _ pm133))
                        have hc2 : (dr (Int.toNat x1)) = 0 → Me z24 (Int.toNat (tt (Int.toNat (60 * x1 + v44_7)))) → Me z29 (Int.toNat (fr (Int.toNat (60 * x1 + v44_7)))) := by
                          intro g0 g
                          first
                          | (exfalso; omega)
                          | exact (mez29 _).mpr (Or.inr ((ms144 _).mpr rfl))
                          | exact absurd g nm133
                        have hup := wi_up (set2 := z29) hwi (by omega) (fun j g => (mez29 j).mpr (Or.inl ((mez24 j).mpr (Or.inl g)))) hr2 (fun _ => by rw [eF, eT]; exact ⟨fun g => (mez29 _).mpr (Or.inl (hc1 g)), fun g0 g => hc2 g0 ((mez24 _).mpr (Or.inl g))⟩)
                        refine r_istore (pc := 150) (lv' := [(5, .int (iv z29)), (8, .int (iv (60 * x1 + v44_7))), (0, .ref y), (1, .int (iv x1)), (2, .int (iv x2)), (3, .int (iv x3)), (4, .int (iv v14_4)), (6, .int (iv v30_5)), (7, .int (iv v44_7))]) dX12_widest_150 (by decide) rfl ?_
                        refine r_iinc (pc := 152) (v := iv (v44_7 + 1)) (lv' := [(7, .int (iv (v44_7 + 1))), (5, .int (iv z29)), (8, .int (iv (60 * x1 + v44_7))), (0, .ref y), (1, .int (iv x1)), (2, .int (iv x2)), (3, .int (iv x3)), (4, .int (iv v14_4)), (6, .int (iv v30_5))]) dX12_widest_152 rfl (iv_add _ _) (by decide) rfl ?_
                        refine r_goto (pc := 155) (tgt := 44) dX12_widest_155 (by decide) ?_
                        refine Rn.pick (lv' := [(0, .ref y), (1, .int (iv x1)), (2, .int (iv x2)), (3, .int (iv x3)), (4, .int (iv v14_4)), (5, .int (iv z29)), (6, .int (iv v30_5)), (7, .int (iv (v44_7 + 1)))]) [3, 4, 5, 6, 7, 1, 8, 0] rfl ?_
                        exact ih44 (Int.toNat (60 - (v44_7 + 1))) (by omega) _ ht6 z29 (v44_7 + 1) ⟨by omega, by omega, by omega, by omega, by omega, by omega, by omega, by (first | exact hg0 | exact hup | exact wi_up hwi (by omega) (fun _ g => g) hwi.2.1 (fun h9 => by exfalso; omega))⟩ (by omega)
                      · have pm133 : Me z24 (Int.toNat (tt (Int.toNat (60 * x1 + v44_7)))) := Me_bit.mp (by omega)
                        refine r_iconst (pc := 136) (v := iv 1) dX12_widest_136 (by decide) ?_
                        refine r_aload_n (pc := 137) dX12_widest_137 (i := 0) rfl rfl ?_
                        refine t_getE (pc := 138) (.ref (y + 5)) ht6 (rd_of RX_y) fX12_23 dX12_widest_138 rfl ?_
                        refine r_iload (pc := 141) dX12_widest_141 rfl ?_
                        refine t_ialdX (pc := 143) (t0 := 0) ht6 (rd_of RX_from) dX12_widest_143 rfl (by decide) (by omega) (fun b30 => ?_)
                        have rb30 := (show Rfx 7260 0 15 fr by assumption) (Int.toNat (60 * x1 + v44_7)) (by omega)
                        refine r_ishl (pc := 144) (v := iv ((2 ^ Int.toNat (fr (Int.toNat (60 * x1 + v44_7))) : Nat) : Int)) dX12_widest_144 (shl_e (by omega)) ?_
                        have mp144_31 : 1 ≤ 2 ^ Int.toNat (fr (Int.toNat (60 * x1 + v44_7))) := Nat.one_le_two_pow
                        have mq144_32 : 2 ^ Int.toNat (fr (Int.toNat (60 * x1 + v44_7))) ≤ 2 ^ 15 := Nat.pow_le_pow_right (by omega) (by omega)
                        have ms144 := Me_shl (Int.toNat (fr (Int.toNat (60 * x1 + v44_7))))
                        refine r_goto (pc := 145) (tgt := 149) dX12_widest_145 (by decide) ?_
                        obtain ⟨z33, hz33, bz33⟩ := or_2 16 z24 ((2 ^ Int.toNat (fr (Int.toNat (60 * x1 + v44_7))) : Nat) : Int) (by omega) (by omega) (by decide)
                        refine r_ior (pc := 149) (v := iv z33) dX12_widest_149 hz33 ?_
                        have mez33 := Me_or hz33 (by omega) (by omega) (by omega)
                        have hr2 : ∀ j, Me z33 j → RC (stW (Int.toNat (mn (Int.toNat x1))) (dr (Int.toNat x1)) (sh fr (60 * x1)) (sh tt (60 * x1)) (sh wt (60 * x1)) v14_4) (fun x => x = Int.toNat x2) j := by
                          intro j hj
                          rcases (mez33 j).mp hj with g | g
                          · exact hr1 j g
                          · first
                            | exact absurd g (Me_0 j)
                            | (rw [(ms144 j).mp g, ← eF]; exact wi_F hF0 (by omega) (by omega) (by omega) (by rw [eT]; exact hr1 _ pm133))
                        have hc2 : (dr (Int.toNat x1)) = 0 → Me z24 (Int.toNat (tt (Int.toNat (60 * x1 + v44_7)))) → Me z33 (Int.toNat (fr (Int.toNat (60 * x1 + v44_7)))) := by
                          intro g0 g
                          first
                          | (exfalso; omega)
                          | exact (mez33 _).mpr (Or.inr ((ms144 _).mpr rfl))
                          | exact absurd g nm133
                        have hup := wi_up (set2 := z33) hwi (by omega) (fun j g => (mez33 j).mpr (Or.inl ((mez24 j).mpr (Or.inl g)))) hr2 (fun _ => by rw [eF, eT]; exact ⟨fun g => (mez33 _).mpr (Or.inl (hc1 g)), fun g0 g => hc2 g0 ((mez24 _).mpr (Or.inl g))⟩)
                        refine r_istore (pc := 150) (lv' := [(5, .int (iv z33)), (8, .int (iv (60 * x1 + v44_7))), (0, .ref y), (1, .int (iv x1)), (2, .int (iv x2)), (3, .int (iv x3)), (4, .int (iv v14_4)), (6, .int (iv v30_5)), (7, .int (iv v44_7))]) dX12_widest_150 (by decide) rfl ?_
                        refine r_iinc (pc := 152) (v := iv (v44_7 + 1)) (lv' := [(7, .int (iv (v44_7 + 1))), (5, .int (iv z33)), (8, .int (iv (60 * x1 + v44_7))), (0, .ref y), (1, .int (iv x1)), (2, .int (iv x2)), (3, .int (iv x3)), (4, .int (iv v14_4)), (6, .int (iv v30_5))]) dX12_widest_152 rfl (iv_add _ _) (by decide) rfl ?_
                        refine r_goto (pc := 155) (tgt := 44) dX12_widest_155 (by decide) ?_
                        refine Rn.pick (lv' := [(0, .ref y), (1, .int (iv x1)), (2, .int (iv x2)), (3, .int (iv x3)), (4, .int (iv v14_4)), (5, .int (iv z33)), (6, .int (iv v30_5)), (7, .int (iv (v44_7 + 1)))]) [3, 4, 5, 6, 7, 1, 8, 0] rfl ?_
                        exact ih44 (Int.toNat (60 - (v44_7 + 1))) (by omega) _ ht6 z33 (v44_7 + 1) ⟨by omega, by omega, by omega, by omega, by omega, by omega, by omega, by (first | exact hg0 | exact hup | exact wi_up hwi (by omega) (fun _ g => g) hwi.2.1 (fun h9 => by exfalso; omega))⟩ (by omega)
            refine Rn.pick (lv' := [(0, .ref y), (1, .int (iv x1)), (2, .int (iv x2)), (3, .int (iv x3)), (4, .int (iv v14_4)), (5, .int (iv v30_5)), (6, .int (iv v30_5)), (7, .int (iv 0))]) [2, 3, 4, 5, 6, 7, 1, 0] rfl ?_
            exact B44 (Int.toNat (60 - 0)) _ ht30 v30_5 0 ⟨by omega, by omega, by omega, by omega, by omega, by omega, by omega, by (first | exact hg0 | exact hup | exact wi_up hwi (by omega) (fun _ g => g) hwi.2.1 (fun h9 => by exfalso; omega))⟩ (by omega)
        refine Rn.pick (lv' := [(0, .ref y), (1, .int (iv x1)), (2, .int (iv x2)), (3, .int (iv x3)), (4, .int (iv v14_4)), (5, .int (iv ((2 ^ Int.toNat x2 : Nat) : Int))), (6, .int (iv 0))]) [2, 3, 4, 5, 6, 1, 0] rfl ?_
        exact B30 (Int.toNat (65536 - 0)) _ ht14 ((2 ^ Int.toNat x2 : Nat) : Int) 0 ⟨by omega, by omega, by omega, by omega, by omega, by omega, by (first | exact wi_0 ms24 | (have h8 : wiP (Int.toNat (mn (Int.toNat x1))) (dr (Int.toNat x1)) (sh fr (60 * x1)) (sh tt (60 * x1)) (sh wt (60 * x1)) v14_4 (Int.toNat x2) v30_5 (Int.toNat v44_7) v44_5 := (by assumption); rw [show v44_7 = (mn (Int.toNat x1)) by omega] at h8; exact h8))⟩ (by omega)
    refine Rn.pick (lv' := [(0, .ref y), (1, .int (iv x1)), (2, .int (iv x2)), (3, .int (iv x3)), (4, .int (iv 1000))]) [1, 2, 3, 4, 0] rfl ?_
    exact B14 (Int.toNat (1000 + 1001)) _ ht 1000 ⟨by omega, by omega, by (first | (intro x h1 h2; exfalso; omega) | exact nw_st (by assumption) (fun h9 => nm168 (hwe.mpr h9)))⟩ (by omega)
  · refine r_ldc2 (pc := 5) (v := 1001) dX12_widest_5 kX12_268 ?_
    have hk5 : (1001 : Int64).toInt = 1001 := by decide
    exact r_lret (pc := 8) dX12_widest_8 rfl (hPo _ _ _ ⟨rfl, (1001 : Int64), ht, rfl, (by exact Or.inl ⟨by omega, by decide⟩)⟩)
