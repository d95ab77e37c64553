theorem vj_1 {p : Prop} (h : ¬ p) : (1 : Int) ≠ 0 ↔ ¬ p := ⟨fun _ => h, fun _ => by decide⟩
theorem vj_0 {p : Prop} (h : p) : (0 : Int) ≠ 0 ↔ ¬ p := ⟨fun h9 => absurd rfl h9, fun h9 => absurd h h9⟩
set_option maxHeartbeats 4000000 in
set_option maxRecDepth 100000 in
theorem x_X12_view {D : va_G} {cI cJ cZ cT : ClassId} {lo b L : Nat} {xs : Nat → Int32} {hp : MH} {n d : Nat} {Γ : TG} {y : Nat} {rf cn nm : Int} {so sz dr mn fr tt wt co : Nat → Int} {nu : Nat → Int64} {sa : Nat → Int} {wo : Nat → Int64} {ln : Nat → Int} {hw : Nat → Int64} {ro qi qc nf nt nw nc : Nat → Int} {cl nx : Nat → Int64} {ie be sd bl : Nat → Int} {bs wy ra rb : Nat → Int64} {lb bg os js ls : Nat → Int} {sp : Nat → Int64} {jw go : Nat → Int} {de : Nat → Int64} {yb ah im : Nat → Int} {x1 x2 x3 : Int} {Po9 : Option Value → MH → Nat → Prop} (hd0 : 3 ≤ d) (hk : RK rf cn nm so sz dr mn fr tt wt co nu qi qc nf nt nw nc) (ht : Tw (RX Γ cI cJ cZ y rf cn nm so sz dr mn fr tt wt co nu sa wo ln hw ro qi qc nf nt nw nc cl nx ie be sd bl bs wy ra rb lb bg os js ls sp jw go de yb ah im) hp) (hx1 : (-2147483648) ≤ x1 ∧ x1 ≤ 2147483647) (hx2 : (-2147483648) ≤ x2 ∧ x2 ≤ 2147483647) (hx3 : (-2147483648) ≤ x3 ∧ x3 ≤ 2147483647) (hPo : ∀ r hp1 n1, (n1 = n ∧ ∃ (rf' : Int) (cn' : Int) (nm' : Int) (so' : Nat → Int) (sz' : Nat → Int) (dr' : Nat → Int) (mn' : Nat → Int) (fr' : Nat → Int) (tt' : Nat → Int) (wt' : Nat → Int) (co' : Nat → Int) (nf' : Nat → Int) (nt' : Nat → Int) (nw' : Nat → Int) (nc' : Nat → Int) (v' : Int), Tw (RX Γ cI cJ cZ y rf' cn' nm' so' sz' dr' mn' fr' tt' wt' co' nu sa wo ln hw ro qi qc nf' nt' nw' nc' cl nx ie be sd bl bs wy ra rb lb bg os js ls sp jw go de yb ah im) hp1 ∧ r = some (.int (iv v')) ∧ (RK rf' cn' nm' so' sz' dr' mn' fr' tt' wt' co' nu qi qc nf' nt' nw' nc') ∧ (dfE sz dr mn fr tt wt co sz' dr' mn' fr' tt' wt' co') ∧ (-2147483648 ≤ v' ∧ v' ≤ 2147483647) ∧ (v' = an1 cn so x1 1 (x2 < 0 ∨ 7 < x2 ∨ (x2 = 4 ∧ (x3 ≤ 0 ∨ ((2 ^ (Int.toNat (sz (Int.toNat x1))) : Nat) : Int) ≤ x3)) ∨ (x2 = 7 ∧ ((mn (Int.toNat x1)) = 0 ∨ 16 < (mn (Int.toNat x1))))) (60 < (((vwL (Int.toNat (sz (Int.toNat x1))) (Int.toNat (mn (Int.toNat x1))) (dr (Int.toNat x1)) (sh fr (60 * x1)) (sh tt (60 * x1)) (sh wt (60 * x1)) (sh co (60 * x1)) x2 x3)).length : Int) ∨ cn = 120)) ∧ (v' < 0 → SmG cn cn' so sz dr mn fr tt wt co so' sz' dr' mn' fr' tt' wt' co') ∧ (0 ≤ v' → GNw cn cn' so sz dr mn fr tt wt co so' sz' dr' mn' fr' tt' wt' co' (if x2 = 4 then bcI x3 16 else if x2 = 7 then (mn (Int.toNat x1)) else (sz (Int.toNat x1))) (if x2 = 1 then 0 else (dr (Int.toNat x1))) (vwL (Int.toNat (sz (Int.toNat x1))) (Int.toNat (mn (Int.toNat x1))) (dr (Int.toNat x1)) (sh fr (60 * x1)) (sh tt (60 * x1)) (sh wt (60 * x1)) (sh co (60 * x1)) x2 x3)) ∧ ((v' < 0 → rf' = v') ∧ (0 ≤ v' → rf' = 0))) → Po9 r hp1 n1) : Mt (gG D cI cJ cZ cT lo b L xs) mX12_view d 0 0 [.ref y, .int (iv x1), .int (iv x2), .int (iv x3)] hp n Po9 := by
  refine Mt.of rfl (Nat.le_of_ble_eq_true rfl) ?_
  refine Rn.pick (lv' := [(0, .ref y), (1, .int (iv x1)), (2, .int (iv x2)), (3, .int (iv x3))]) [0, 1, 2, 3] rfl ?_
  obtain ⟨hR_sorts, hR_sizes, hR_directs, hR_many, hR_from, hR_to, hR_weight, hR_cost, hR_inPart, hR_partCount, hcn, hrf, hnm, hdf, hgr, hpa, hsz⟩ := id hk
  obtain ⟨N9, hN4, hN0⟩ : ∃ N : Int, (x2 = 4 → N = bcI x3 16) ∧ (x2 ≠ 4 → N = sz (Int.toNat x1)) := by by_cases h : x2 = 4 <;> exact ⟨if x2 = 4 then bcI x3 16 else sz (Int.toNat x1), by simp [h], by simp [h]⟩
  replace hN4 := hid_i hN4
  replace hN0 := hid_i hN0
  have hp2 : 1 ≤ 2 ^ (Int.toNat (sz (Int.toNat x1))) := Nat.one_le_two_pow
  refine r_aload_n (pc := 0) dX12_view_0 (i := 0) rfl rfl ?_
  refine r_iload_n (pc := 1) dX12_view_1 (i := 1) rfl rfl ?_
  refine r_iconst (pc := 2) (v := iv 1) dX12_view_2 (by decide) ?_
  obtain ⟨fs5, hfs5⟩ := t_obj ht (rd_of RX_y)
  refine r_callV (pc := 3) (as := [.int (iv x1), .int (iv 1)]) (st := []) kX12_183 rfl dX12_view_3 hfs5 (x_X12_has (d := d - 1) (x1 := x1) (x2 := 1) (by omega) (by omega) (by assumption) ht (by omega) (by omega) (fun _ _ _ h => h)) rfl (by omega) (Nat.le_of_ble_eq_true rfl) (Nat.zero_le _) (Nat.zero_le _) rfl (fun r2 hp1 n3 hq4 => ?_)
  obtain ⟨hnn3, v_7, b_8, ht6, hrr2, hhq40, hhq41⟩ := hq4
  subst n3 r2
  have hhq40 : -2 ≤ v_7 ∧ v_7 ≤ 0 ∧ (b_8 = 0 ∨ b_8 = 1) := hhq40
  have hhq41 : (b_8 = 1 ∧ v_7 = 0 ∧ 0 ≤ x1 ∧ x1 < cn ∧ so (Int.toNat x1) = 1) ∨ (b_8 = 0 ∧ v_7 = -1 ∧ ¬ (0 ≤ x1 ∧ x1 < cn)) ∨ (b_8 = 0 ∧ v_7 = -2 ∧ 0 ≤ x1 ∧ x1 < cn ∧ so (Int.toNat x1) ≠ 1) := hhq41
  change Rn _ _ _ 6 _ [.int (iv b_8)] _ _ _ _ _
  refine t_if_ne (pc := 6) (tgt := 14) dX12_view_6 (by decide) (by omega) (fun c6 => ?_) (fun c6 => ?_)
  · have hs6 := Or.resolve_right hhq41 (by omega)
    clear hhq40 hhq41
    have rsz6 := hR_sizes (Int.toNat x1) (by omega)
    have rsy6 := hsz x1 (by omega) (by omega)
    have hen := hgr x1 (by omega) (by omega) (by omega)
    have rmn6 := hR_many (Int.toNat x1) (by omega)
    refine r_aload_n (pc := 14) dX12_view_14 (i := 0) rfl rfl ?_
    refine t_getE (pc := 15) (.ref (y + 2)) ht6 (rd_of RX_y) fX12_13 dX12_view_15 rfl ?_
    refine r_iload_n (pc := 18) dX12_view_18 (i := 1) rfl rfl ?_
    refine t_ialdX (pc := 19) (t0 := 0) ht6 (rd_of RX_sizes) dX12_view_19 rfl (by decide) (by omega) (fun b9 => ?_)
    have rb9 := (show Rfx 121 0 16 sz by assumption) (Int.toNat x1) (by omega)
    refine r_istore (pc := 20) (lv' := [(4, .int (iv (sz (Int.toNat x1)))), (0, .ref y), (1, .int (iv x1)), (2, .int (iv x2)), (3, .int (iv x3))]) dX12_view_20 (by decide) rfl ?_
    refine r_iload_n (pc := 22) dX12_view_22 (i := 2) rfl rfl ?_
    have B75 : ∀ hp75 : MH, Tw (RX Γ cI cJ cZ y v_7 cn nm so sz dr mn fr tt wt co nu sa wo ln hw ro qi qc nf nt nw nc cl nx ie be sd bl bs wy ra rb lb bg os js ls sp jw go de yb ah im) hp75 → ((x2 < 0 ∨ 7 < x2 ∨ (x2 = 4 ∧ (x3 ≤ 0 ∨ ((2 ^ (Int.toNat (sz (Int.toNat x1))) : Nat) : Int) ≤ x3)) ∨ (x2 = 7 ∧ ((mn (Int.toNat x1)) = 0 ∨ 16 < (mn (Int.toNat x1)))))) → Rn (gG D cI cJ cZ cT lo b L xs) mX12_view d 75 [(0, .ref y)] [] hp75 n 0 0 Po9 := by
      intro hp75 ht75 hf75
      refine r_aload_n (pc := 75) dX12_view_75 (i := 0) rfl rfl ?_
      refine r_bipush (pc := 76) (v := iv (-3)) dX12_view_76 (by decide) ?_
      obtain ⟨fs14, hfs14⟩ := t_obj ht75 (rd_of RX_y)
      refine r_callV (pc := 78) (as := [.int (iv (-3))]) (st := []) kX12_153 rfl dX12_view_78 hfs14 (x_X12_refuse (d := d - 1) (x1 := (-3)) (by omega) ht75 (by omega) (fun _ _ _ h => h)) rfl (by omega) (Nat.le_of_ble_eq_true rfl) (Nat.zero_le _) (Nat.zero_le _) rfl (fun r11 hp10 n12 hq13 => ?_)
      obtain ⟨hnn12, ht15, hrr11⟩ := hq13
      subst n12 r11
      change Rn _ _ _ 81 _ [.int (iv (-3))] _ _ _ _ _
      exact r_iret (pc := 81) dX12_view_81 rfl (hPo _ _ _ ⟨rfl, (-3), cn, nm, so, sz, dr, mn, fr, tt, wt, co, nf, nt, nw, nc, (-3), ht15, rfl, (by (first | assumption | exact RK_set hk (by omega) (by omega))), (by (first | assumption | exact df_r _ _ _ _ _ _ _)), (by omega), (by exact an1_b (by omega) (by omega) (by omega)), (by (intro h9; first | (exfalso; omega) | exact ⟨rfl, rfl, rfl, rfl, rfl, rfl, rfl, rfl, rfl⟩ | exact hnwB h9)), (by (intro h9; first | (exfalso; omega) | (have h8 := hnwC h9; exact GNw_c h8 (by first | assumption | omega | ((repeat' split) <;> omega)) (by first | assumption | omega)))), (by (first | omega | exact ⟨hnwD, fun h9 => (hnwE h9).trans (by omega)⟩))⟩)
    refine t_if_lt (pc := 23) (tgt := 75) dX12_view_23 (by decide) (by omega) (fun c23 => ?_) (fun c23 => ?_)
    · refine Rn.pick (lv' := [(0, .ref y)]) [1] rfl ?_
      exact B75 _ ht6 (by omega)
    · refine r_iload_n (pc := 26) dX12_view_26 (i := 2) rfl rfl ?_
      refine r_bipush (pc := 27) (v := iv 7) dX12_view_27 (by decide) ?_
      refine t_icmp_gt (pc := 29) (tgt := 75) dX12_view_29 (by decide) (by omega) (by omega) (fun c29 => ?_) (fun c29 => ?_)
      · refine Rn.pick (lv' := [(0, .ref y)]) [1] rfl ?_
        exact B75 _ ht6 (by omega)
      · refine r_iload_n (pc := 32) dX12_view_32 (i := 2) rfl rfl ?_
        refine r_iconst (pc := 33) (v := iv 4) dX12_view_33 (by decide) ?_
        have B49 : ∀ hp49 : MH, Tw (RX Γ cI cJ cZ y v_7 cn nm so sz dr mn fr tt wt co nu sa wo ln hw ro qi qc nf nt nw nc cl nx ie be sd bl bs wy ra rb lb bg os js ls sp jw go de yb ah im) hp49 → (hid (x2 = 4 → 1 ≤ x3 ∧ x3 ≤ 65535)) ∧ (hid (x2 = 4 → x3 < ((2 ^ (Int.toNat (sz (Int.toNat x1))) : Nat) : Int))) → Rn (gG D cI cJ cZ cT lo b L xs) mX12_view d 49 [(0, .ref y), (1, .int (iv x1)), (2, .int (iv x2)), (3, .int (iv x3)), (4, .int (iv (sz (Int.toNat x1))))] [] hp49 n 0 0 Po9 := by
          intro hp49 ht49 hf49
          obtain ⟨ha49_0, ha49_1⟩ := hf49
          refine r_iload_n (pc := 49) dX12_view_49 (i := 2) rfl rfl ?_
          refine r_bipush (pc := 50) (v := iv 7) dX12_view_50 (by decide) ?_
          have B82 : ∀ hp82 : MH, Tw (RX Γ cI cJ cZ y v_7 cn nm so sz dr mn fr tt wt co nu sa wo ln hw ro qi qc nf nt nw nc cl nx ie be sd bl bs wy ra rb lb bg os js ls sp jw go de yb ah im) hp82 → (hid (x2 = 7 → 1 ≤ (mn (Int.toNat x1)) ∧ (mn (Int.toNat x1)) ≤ 16)) → Rn (gG D cI cJ cZ cT lo b L xs) mX12_view d 82 [(0, .ref y), (1, .int (iv x1)), (2, .int (iv x2)), (3, .int (iv x3)), (4, .int (iv (sz (Int.toNat x1))))] [] hp82 n 0 0 Po9 := by
            intro hp82 ht82 hf82
            have ha82_0 := hf82
            refine r_aload_n (pc := 82) dX12_view_82 (i := 0) rfl rfl ?_
            refine r_iconst (pc := 83) (v := iv 0) dX12_view_83 (by decide) ?_
            refine t_putX (pc := 84) (ty := .int) ht82 RX_y fX12_165 tyX12 tyX12_ok nmX12 (by decide +kernel) (Or.inl rfl) dX12_view_84 (Nat.le_of_ble_eq_true rfl) rfl rfl rfl (fun hp16 ht17 => ?_)
            have ht18 := RXw_nm ht17
            have hEn : enP fr tt mn sz x1 := hen.2
            have ha0 : arP nf nt nw nc 0 N9 := ar_0 _ _ _ _ _
            have hpl0 : PL ([] ++ acc (kpL (Int.toNat (mn (Int.toNat x1))) (dr (Int.toNat x1)) (sh fr (60 * x1)) (sh tt (60 * x1)) (sh wt (60 * x1)) (sh co (60 * x1)) x2 x3) (Int.toNat 0)) 0 nf nt nw nc := PL_0 _ _ _ _
            refine r_aload_n (pc := 87) dX12_view_87 (i := 0) rfl rfl ?_
            refine t_getE (pc := 88) (.ref (y + 3)) ht18 (rd_of RX_y) fX12_16 dX12_view_88 rfl ?_
            refine r_iload_n (pc := 91) dX12_view_91 (i := 1) rfl rfl ?_
            refine t_zaldX (pc := 92) (t0 := 2) ht18 (rd_of RX_directs) dX12_view_92 rfl (by decide) (by omega) (fun b19 => ?_)
            have rb19 := (show Rfx 121 0 1 dr by assumption) (Int.toNat x1) (by omega)
            have B106 : ∀ hp106 : MH, Tw (RX Γ cI cJ cZ y v_7 cn 0 so sz dr mn fr tt wt co nu sa wo ln hw ro qi qc nf nt nw nc cl nx ie be sd bl bs wy ra rb lb bg os js ls sp jw go de yb ah im) hp106 → ∀  (u106_0 : Int), 0 ≤ u106_0 ∧ u106_0 ≤ 1 ∧ (u106_0 = (if x2 = 1 then 0 else (dr (Int.toNat x1)))) → Rn (gG D cI cJ cZ cT lo b L xs) mX12_view d 106 [(0, .ref y), (1, .int (iv x1)), (2, .int (iv x2)), (3, .int (iv x3)), (4, .int (iv (sz (Int.toNat x1))))] [.int (iv u106_0)] hp106 n 0 0 Po9 := by
              intro hp106 ht106 u106_0 hf106
              refine r_istore (pc := 106) (lv' := [(5, .int (iv u106_0)), (0, .ref y), (1, .int (iv x1)), (2, .int (iv x2)), (3, .int (iv x3)), (4, .int (iv (sz (Int.toNat x1))))]) dX12_view_106 (by decide) rfl ?_
              refine r_iload_n (pc := 108) dX12_view_108 (i := 2) rfl rfl ?_
              refine r_bipush (pc := 109) (v := iv 6) dX12_view_109 (by decide) ?_
              refine t_icmp_ne (pc := 111) (tgt := 128) dX12_view_111 (by decide) (by omega) (by omega) (fun c111 => ?_) (fun c111 => ?_)
              · refine r_iload_n (pc := 128) dX12_view_128 (i := 2) rfl rfl ?_
                refine r_bipush (pc := 129) (v := iv 7) dX12_view_129 (by decide) ?_
                refine t_icmp_ne (pc := 131) (tgt := 152) dX12_view_131 (by decide) (by omega) (by omega) (fun c131 => ?_) (fun c131 => ?_)
                · refine r_iconst (pc := 152) (v := iv 0) dX12_view_152 (by decide) ?_
                  refine r_istore (pc := 153) (lv' := [(6, .int (iv 0)), (5, .int (iv u106_0)), (0, .ref y), (1, .int (iv x1)), (2, .int (iv x2)), (3, .int (iv x3)), (4, .int (iv (sz (Int.toNat x1))))]) dX12_view_153 (by decide) rfl ?_
                  have B155 : ∀ k : Nat, ∀ nm155 : Int, ∀ nf155 : Nat → Int, ∀ nt155 : Nat → Int, ∀ nw155 : Nat → Int, ∀ nc155 : Nat → Int, ∀ hp155 : MH, Tw (RX Γ cI cJ cZ y v_7 cn nm155 so sz dr mn fr tt wt co nu sa wo ln hw ro qi qc nf155 nt155 nw155 nc155 cl nx ie be sd bl bs wy ra rb lb bg os js ls sp jw go de yb ah im) hp155 → ∀  (v155_6 : Int), 0 ≤ v155_6 ∧ v155_6 ≤ 60 ∧ (0 ≤ nm155) ∧ (nm155 ≤ 400) ∧ (v155_6 ≤ (mn (Int.toNat x1))) ∧ (nm155 ≤ v155_6) ∧ (arP nf155 nt155 nw155 nc155 nm155 N9) ∧ (PL ([] ++ acc (kpL (Int.toNat (mn (Int.toNat x1))) (dr (Int.toNat x1)) (sh fr (60 * x1)) (sh tt (60 * x1)) (sh wt (60 * x1)) (sh co (60 * x1)) x2 x3) (Int.toNat v155_6)) nm155 nf155 nt155 nw155 nc155) → 60 - v155_6 ≤ (k : Int) → Rn (gG D cI cJ cZ cT lo b L xs) mX12_view d 155 [(0, .ref y), (1, .int (iv x1)), (2, .int (iv x2)), (3, .int (iv x3)), (4, .int (iv (sz (Int.toNat x1)))), (5, .int (iv u106_0)), (6, .int (iv v155_6))] [] hp155 n 0 0 Po9 := by
                    refine lpS _ ?_
                    intro k155 ih155 nm155 nf155 nt155 nw155 nc155 hp155 ht155 v155_6 hf155 hm155
                    obtain ⟨hf155_0, hf155_1, hf155_2, hf155_3, hf155_4, hf155_5, ha155_6, ha155_7⟩ := hf155
                    refine r_iload (pc := 155) dX12_view_155 rfl ?_
                    refine r_aload_n (pc := 157) dX12_view_157 (i := 0) rfl rfl ?_
                    refine t_getE (pc := 158) (.ref (y + 4)) ht155 (rd_of RX_y) fX12_20 dX12_view_158 rfl ?_
                    refine r_iload_n (pc := 161) dX12_view_161 (i := 1) rfl rfl ?_
                    refine t_ialdX (pc := 162) (t0 := 0) ht155 (rd_of RX_many) dX12_view_162 rfl (by decide) (by omega) (fun b20 => ?_)
                    have rb20 := (show Rfx 121 0 60 mn by assumption) (Int.toNat x1) (by omega)
                    refine t_icmp_ge (pc := 163) (tgt := 458) dX12_view_163 (by decide) (by omega) (by omega) (fun c163 => ?_) (fun c163 => ?_)
                    · refine r_aload_n (pc := 458) dX12_view_458 (i := 0) rfl rfl ?_
                      refine r_iload_n (pc := 459) dX12_view_459 (i := 2) rfl rfl ?_
                      refine r_iconst (pc := 460) (v := iv 4) dX12_view_460 (by decide) ?_
                      have B473 : ∀ hp473 : MH, Tw (RX Γ cI cJ cZ y v_7 cn nm155 so sz dr mn fr tt wt co nu sa wo ln hw ro qi qc nf155 nt155 nw155 nc155 cl nx ie be sd bl bs wy ra rb lb bg os js ls sp jw go de yb ah im) hp473 → ∀  (u473_1 : Int), 0 ≤ u473_1 ∧ u473_1 ≤ 16 ∧ (u473_1 = N9) ∧ (1 ≤ N9) ∧ (N9 ≤ 16) ∧ (u473_1 = (if x2 = 4 then bcI x3 16 else if x2 = 7 then (mn (Int.toNat x1)) else (sz (Int.toNat x1)))) → Rn (gG D cI cJ cZ cT lo b L xs) mX12_view d 473 [(5, .int (iv u106_0))] [.int (iv u473_1), .ref y] hp473 n 0 0 Po9 := by
                        intro hp473 ht473 u473_1 hf473
                        refine r_iload (pc := 473) dX12_view_473 rfl ?_
                        obtain ⟨fs25, hfs25⟩ := t_obj ht473 (rd_of RX_y)
                        refine r_callV (pc := 475) (as := [.int (iv u473_1), .int (iv u106_0)]) (st := []) kX12_179 rfl dX12_view_475 hfs25 (x_X12_made (d := d - 1) (x1 := u473_1) (x2 := u106_0) (by omega) (RK_set hk (by omega) (by omega)) ht473 (by omega) (by omega) (fun _ => (by rw [show u473_1 = N9 by omega]; assumption)) (fun _ _ _ h => h)) rfl (by omega) (Nat.le_of_ble_eq_true rfl) (Nat.zero_le _) (Nat.zero_le _) rfl (fun r22 hp21 n23 hq24 => ?_)
                        obtain ⟨hnn23, h_27, v_28, c1_29, s1_30, z1_31, d1_32, m1_33, f1_34, t1_35, w1_36, o1_37, ht26, hrr22, hhq240, hhq241, hhq242, hhq243⟩ := hq24
                        subst n23 r22
                        have hhq240 : (60 < nm155 ∨ cn = 120) → h_27 = -4 ∧ v_28 = -4 ∧ c1_29 = cn := hhq240
                        have hhq241 : (60 < nm155 ∨ cn = 120) → s1_30 = so ∧ z1_31 = sz ∧ d1_32 = dr ∧ m1_33 = mn ∧ f1_34 = fr ∧ t1_35 = tt ∧ w1_36 = wt ∧ o1_37 = co := hhq241
                        have hhq242 : nm155 ≤ 60 ∧ cn < 120 → h_27 = cn ∧ v_28 = v_7 ∧ c1_29 = cn + 1 := hhq242
                        have hhq243 : nm155 ≤ 60 ∧ cn < 120 → s1_30 = fup so (Int.toNat cn) 1 ∧ z1_31 = fup sz (Int.toNat cn) u473_1 ∧ d1_32 = fup dr (Int.toNat cn) u106_0 ∧ m1_33 = fup mn (Int.toNat cn) nm155 ∧ f1_34 = kcF nf155 fr (Int.toNat (60 * cn)) (Int.toNat nm155) ∧ t1_35 = kcF nt155 tt (Int.toNat (60 * cn)) (Int.toNat nm155) ∧ w1_36 = kcF nw155 wt (Int.toNat (60 * cn)) (Int.toNat nm155) ∧ o1_37 = kcF nc155 co (Int.toNat (60 * cn)) (Int.toNat nm155) := hhq243
                        change Rn _ _ _ 478 _ [.int (iv h_27)] _ _ _ _ _
                        obtain ⟨hRKm, hDFm, hhm⟩ := RK_made (x1 := u473_1) (x2 := u106_0) (RK_set (nm1 := nm155) (nu1 := nu) (nf1 := nf155) (nt1 := nt155) (nw1 := nw155) (nc1 := nc155) hk (by omega) (by omega)) (by omega) (by omega) (fun _ => (by rw [show u473_1 = N9 by omega]; assumption)) hhq240 hhq241 hhq242 hhq243
                        obtain ⟨hnwA, hnwB, hnwC, hnwD, hnwE⟩ := mk_new (x1 := u473_1) (x2 := u106_0) (l := (vwL (Int.toNat (sz (Int.toNat x1))) (Int.toNat (mn (Int.toNat x1))) (dr (Int.toNat x1)) (sh fr (60 * x1)) (sh tt (60 * x1)) (sh wt (60 * x1)) (sh co (60 * x1)) x2 x3)) (by unfold vwL; rw [if_neg (by omega), if_neg (by omega)]; have h8 : PL ([] ++ acc (kpL (Int.toNat (mn (Int.toNat x1))) (dr (Int.toNat x1)) (sh fr (60 * x1)) (sh tt (60 * x1)) (sh wt (60 * x1)) (sh co (60 * x1)) x2 x3) (Int.toNat v155_6)) _ _ _ _ _ := (by assumption); rw [show v155_6 = (mn (Int.toNat x1)) by omega] at h8; exact h8) (by omega) hhq240 hhq241 hhq242 hhq243 (by omega)
                        clear hhq240 hhq241 hhq242 hhq243
                        exact r_iret (pc := 478) dX12_view_478 rfl (hPo _ _ _ ⟨rfl, v_28, c1_29, nm155, s1_30, z1_31, d1_32, m1_33, f1_34, t1_35, w1_36, o1_37, nf155, nt155, nw155, nc155, h_27, ht26, rfl, (by (first | assumption | exact RK_set hk (by omega) (by omega))), (by (first | assumption | exact df_r _ _ _ _ _ _ _)), (by omega), (by have g1 := hid_o (by assumption : hid (x2 = 4 → 1 ≤ x3 ∧ x3 ≤ 65535)); have g2 := hid_o (by assumption : hid (x2 = 4 → x3 < ((2 ^ (Int.toNat (sz (Int.toNat x1))) : Nat) : Int))); exact an1_m hnwA (by omega) (by omega)), (by (intro h9; first | (exfalso; omega) | exact ⟨rfl, rfl, rfl, rfl, rfl, rfl, rfl, rfl, rfl⟩ | exact hnwB h9)), (by (intro h9; first | (exfalso; omega) | (have h8 := hnwC h9; exact GNw_c h8 (by first | assumption | omega | ((repeat' split) <;> omega)) (by first | assumption | omega)))), (by (first | omega | exact ⟨hnwD, fun h9 => (hnwE h9).trans (by omega)⟩))⟩)
                      refine t_icmp_ne (pc := 461) (tgt := 471) dX12_view_461 (by decide) (by omega) (by omega) (fun c461 => ?_) (fun c461 => ?_)
                      · have hNz := hid_o hN0 (by omega)
                        refine r_iload (pc := 471) dX12_view_471 rfl ?_
                        refine Rn.pick (lv' := [(5, .int (iv u106_0))]) [5] rfl ?_
                        exact B473 _ ht155 (sz (Int.toNat x1)) ⟨by omega, by omega, by omega, by omega, by omega, by omega⟩
                      · have hNf := hid_o hN4 (by omega)
                        have hx34 := hid_o (by assumption : hid (x2 = 4 → 1 ≤ x3 ∧ x3 ≤ 65535)) (by omega)
                        refine r_iload_n (pc := 464) dX12_view_464 (i := 3) rfl rfl ?_
                        refine t_callSI (pc := 465) (as := [.int (iv x3)]) (st := [.ref y]) kX12_201 dX12_view_465 (t_X12_bitsx (d := d - 1) (x1 := x3) (by omega)  ht155 (by omega)) rfl (by omega) (Nat.le_of_ble_eq_true rfl) rfl (fun hp38 y40 ht39 by40 => ?_)
                        have ey40 : y40 = bcI x3 16 := by40
                        subst ey40
                        have ry40 := bc_le x3 16
                        have hbp := bc_pos (x := x3) (by omega)
                        refine r_goto (pc := 468) (tgt := 473) dX12_view_468 (by decide) ?_
                        refine Rn.pick (lv' := [(5, .int (iv u106_0))]) [5] rfl ?_
                        exact B473 _ ht39 (bcI x3 16) ⟨by omega, by omega, by omega, by omega, by omega, by omega⟩
                    · refine r_iload_n (pc := 166) dX12_view_166 (i := 1) rfl rfl ?_
                      refine r_iload (pc := 167) dX12_view_167 rfl ?_
                      refine t_callSI (pc := 169) (as := [.int (iv x1), .int (iv v155_6)]) (st := []) kX12_157 dX12_view_169 (t_X12_at1x (d := d - 1) (x1 := x1) (x2 := v155_6) (by omega)  ht155 (by omega) (by omega)) rfl (by omega) (Nat.le_of_ble_eq_true rfl) rfl (fun hp41 y43 ht42 by43 => ?_)
                      have ey43 : y43 = 60 * x1 + v155_6 := by43
                      subst ey43
                      refine r_istore (pc := 172) (lv' := [(7, .int (iv (60 * x1 + v155_6))), (0, .ref y), (1, .int (iv x1)), (2, .int (iv x2)), (3, .int (iv x3)), (4, .int (iv (sz (Int.toNat x1)))), (5, .int (iv u106_0)), (6, .int (iv v155_6))]) dX12_view_172 (by decide) rfl ?_
                      refine r_aload_n (pc := 174) dX12_view_174 (i := 0) rfl rfl ?_
                      refine t_getE (pc := 175) (.ref (y + 5)) ht42 (rd_of RX_y) fX12_23 dX12_view_175 rfl ?_
                      refine r_iload (pc := 178) dX12_view_178 rfl ?_
                      refine t_ialdX (pc := 180) (t0 := 0) ht42 (rd_of RX_from) dX12_view_180 rfl (by decide) (by omega) (fun b44 => ?_)
                      have rb44 := (show Rfx 7260 0 15 fr by assumption) (Int.toNat (60 * x1 + v155_6)) (by omega)
                      refine r_istore (pc := 181) (lv' := [(8, .int (iv (fr (Int.toNat (60 * x1 + v155_6))))), (7, .int (iv (60 * x1 + v155_6))), (0, .ref y), (1, .int (iv x1)), (2, .int (iv x2)), (3, .int (iv x3)), (4, .int (iv (sz (Int.toNat x1)))), (5, .int (iv u106_0)), (6, .int (iv v155_6))]) dX12_view_181 (by decide) rfl ?_
                      refine r_aload_n (pc := 183) dX12_view_183 (i := 0) rfl rfl ?_
                      refine t_getE (pc := 184) (.ref (y + 6)) ht42 (rd_of RX_y) fX12_26 dX12_view_184 rfl ?_
                      refine r_iload (pc := 187) dX12_view_187 rfl ?_
                      refine t_ialdX (pc := 189) (t0 := 0) ht42 (rd_of RX_to) dX12_view_189 rfl (by decide) (by omega) (fun b45 => ?_)
                      have rb45 := (show Rfx 7260 0 15 tt by assumption) (Int.toNat (60 * x1 + v155_6)) (by omega)
                      refine r_istore (pc := 190) (lv' := [(9, .int (iv (tt (Int.toNat (60 * x1 + v155_6))))), (8, .int (iv (fr (Int.toNat (60 * x1 + v155_6))))), (7, .int (iv (60 * x1 + v155_6))), (0, .ref y), (1, .int (iv x1)), (2, .int (iv x2)), (3, .int (iv x3)), (4, .int (iv (sz (Int.toNat x1)))), (5, .int (iv u106_0)), (6, .int (iv v155_6))]) dX12_view_190 (by decide) rfl ?_
                      have he9 := hen.2 v155_6 (by omega) (by omega)
                      refine r_iconst (pc := 192) (v := iv 1) dX12_view_192 (by decide) ?_
                      refine r_istore (pc := 193) (lv' := [(10, .int (iv 1)), (9, .int (iv (tt (Int.toNat (60 * x1 + v155_6))))), (8, .int (iv (fr (Int.toNat (60 * x1 + v155_6))))), (7, .int (iv (60 * x1 + v155_6))), (0, .ref y), (1, .int (iv x1)), (2, .int (iv x2)), (3, .int (iv x3)), (4, .int (iv (sz (Int.toNat x1)))), (5, .int (iv u106_0)), (6, .int (iv v155_6))]) dX12_view_193 (by decide) rfl ?_
                      refine r_iload_n (pc := 195) dX12_view_195 (i := 2) rfl rfl ?_
                      refine r_iconst (pc := 196) (v := iv 2) dX12_view_196 (by decide) ?_
                      have B219 : ∀ hp219 : MH, Tw (RX Γ cI cJ cZ y v_7 cn nm155 so sz dr mn fr tt wt co nu sa wo ln hw ro qi qc nf155 nt155 nw155 nc155 cl nx ie be sd bl bs wy ra rb lb bg os js ls sp jw go de yb ah im) hp219 → ∀  (v219_10 : Int), 0 ≤ v219_10 ∧ v219_10 ≤ 1 ∧ (hid ((x2 ≠ 2 → x2 ≠ 3 → v219_10 = 1) ∧ (x2 = 2 ∨ x2 = 3 → (v219_10 ≠ 0 ↔ (sh fr (60 * x1)) (Int.toNat v155_6) ≠ (sh tt (60 * x1)) (Int.toNat v155_6))))) → Rn (gG D cI cJ cZ cT lo b L xs) mX12_view d 219 [(0, .ref y), (1, .int (iv x1)), (2, .int (iv x2)), (3, .int (iv x3)), (4, .int (iv (sz (Int.toNat x1)))), (5, .int (iv u106_0)), (6, .int (iv v155_6)), (7, .int (iv (60 * x1 + v155_6))), (8, .int (iv (fr (Int.toNat (60 * x1 + v155_6))))), (9, .int (iv (tt (Int.toNat (60 * x1 + v155_6))))), (10, .int (iv v219_10))] [] hp219 n 0 0 Po9 := by
                        intro hp219 ht219 v219_10 hf219
                        obtain ⟨hf219_0, hf219_1, ha219_2⟩ := hf219
                        refine r_iconst (pc := 219) (v := iv 0) dX12_view_219 (by decide) ?_
                        refine r_istore (pc := 220) (lv' := [(11, .int (iv 0)), (0, .ref y), (1, .int (iv x1)), (2, .int (iv x2)), (3, .int (iv x3)), (4, .int (iv (sz (Int.toNat x1)))), (5, .int (iv u106_0)), (6, .int (iv v155_6)), (7, .int (iv (60 * x1 + v155_6))), (8, .int (iv (fr (Int.toNat (60 * x1 + v155_6))))), (9, .int (iv (tt (Int.toNat (60 * x1 + v155_6))))), (10, .int (iv v219_10))]) dX12_view_220 (by decide) rfl ?_
                        have B222 : ∀ k : Nat, ∀ hp222 : MH, Tw (RX Γ cI cJ cZ y v_7 cn nm155 so sz dr mn fr tt wt co nu sa wo ln hw ro qi qc nf155 nt155 nw155 nc155 cl nx ie be sd bl bs wy ra rb lb bg os js ls sp jw go de yb ah im) hp222 → ∀  (v222_10 : Int) (v222_11 : Int), 0 ≤ v222_10 ∧ v222_10 ≤ 1 ∧ 0 ≤ v222_11 ∧ v222_11 ≤ 60 ∧ (v222_11 ≤ (mn (Int.toNat x1))) ∧ (vkP (dr (Int.toNat x1)) (sh fr (60 * x1)) (sh tt (60 * x1)) (sh wt (60 * x1)) x2 (Int.toNat v155_6) v222_10 (Int.toNat v222_11)) → 60 - v222_11 ≤ (k : Int) → Rn (gG D cI cJ cZ cT lo b L xs) mX12_view d 222 [(0, .ref y), (1, .int (iv x1)), (2, .int (iv x2)), (3, .int (iv x3)), (4, .int (iv (sz (Int.toNat x1)))), (5, .int (iv u106_0)), (6, .int (iv v155_6)), (7, .int (iv (60 * x1 + v155_6))), (8, .int (iv (fr (Int.toNat (60 * x1 + v155_6))))), (9, .int (iv (tt (Int.toNat (60 * x1 + v155_6))))), (10, .int (iv v222_10)), (11, .int (iv v222_11))] [] hp222 n 0 0 Po9 := by
                          refine lpS _ ?_
                          intro k222 ih222 hp222 ht222 v222_10 v222_11 hf222 hm222
                          obtain ⟨hf222_0, hf222_1, hf222_2, hf222_3, hf222_4, ha222_5⟩ := hf222
                          refine r_iload (pc := 222) dX12_view_222 rfl ?_
                          refine r_aload_n (pc := 224) dX12_view_224 (i := 0) rfl rfl ?_
                          refine t_getE (pc := 225) (.ref (y + 4)) ht222 (rd_of RX_y) fX12_20 dX12_view_225 rfl ?_
                          refine r_iload_n (pc := 228) dX12_view_228 (i := 1) rfl rfl ?_
                          refine t_ialdX (pc := 229) (t0 := 0) ht222 (rd_of RX_many) dX12_view_229 rfl (by decide) (by omega) (fun b46 => ?_)
                          have rb46 := (show Rfx 121 0 60 mn by assumption) (Int.toNat x1) (by omega)
                          have B324 : ∀ hp324 : MH, Tw (RX Γ cI cJ cZ y v_7 cn nm155 so sz dr mn fr tt wt co nu sa wo ln hw ro qi qc nf155 nt155 nw155 nc155 cl nx ie be sd bl bs wy ra rb lb bg os js ls sp jw go de yb ah im) hp324 → (x2 ≠ 4 → x2 ≠ 5 → (v222_10 ≠ 0 ↔ kpP (Int.toNat (mn (Int.toNat x1))) (dr (Int.toNat x1)) (sh fr (60 * x1)) (sh tt (60 * x1)) (sh wt (60 * x1)) x2 x3 (Int.toNat v155_6))) → Rn (gG D cI cJ cZ cT lo b L xs) mX12_view d 324 [(0, .ref y), (1, .int (iv x1)), (2, .int (iv x2)), (3, .int (iv x3)), (4, .int (iv (sz (Int.toNat x1)))), (5, .int (iv u106_0)), (6, .int (iv v155_6)), (7, .int (iv (60 * x1 + v155_6))), (8, .int (iv (fr (Int.toNat (60 * x1 + v155_6))))), (9, .int (iv (tt (Int.toNat (60 * x1 + v155_6))))), (10, .int (iv v222_10))] [] hp324 n 0 0 Po9 := by
                            intro hp324 ht324 hf324
                            have ha324_0 := hf324
                            refine r_iload_n (pc := 324) dX12_view_324 (i := 2) rfl rfl ?_
                            refine r_iconst (pc := 325) (v := iv 4) dX12_view_325 (by decide) ?_
                            have B356 : ∀ hp356 : MH, Tw (RX Γ cI cJ cZ y v_7 cn nm155 so sz dr mn fr tt wt co nu sa wo ln hw ro qi qc nf155 nt155 nw155 nc155 cl nx ie be sd bl bs wy ra rb lb bg os js ls sp jw go de yb ah im) hp356 → ∀  (v356_10 : Int), 0 ≤ v356_10 ∧ v356_10 ≤ 1 ∧ (x2 ≠ 5 → (v356_10 ≠ 0 ↔ kpP (Int.toNat (mn (Int.toNat x1))) (dr (Int.toNat x1)) (sh fr (60 * x1)) (sh tt (60 * x1)) (sh wt (60 * x1)) x2 x3 (Int.toNat v155_6))) → Rn (gG D cI cJ cZ cT lo b L xs) mX12_view d 356 [(0, .ref y), (1, .int (iv x1)), (2, .int (iv x2)), (3, .int (iv x3)), (4, .int (iv (sz (Int.toNat x1)))), (5, .int (iv u106_0)), (6, .int (iv v155_6)), (7, .int (iv (60 * x1 + v155_6))), (8, .int (iv (fr (Int.toNat (60 * x1 + v155_6))))), (9, .int (iv (tt (Int.toNat (60 * x1 + v155_6))))), (10, .int (iv v356_10))] [] hp356 n 0 0 Po9 := by
                              intro hp356 ht356 v356_10 hf356
                              obtain ⟨hf356_0, hf356_1, ha356_2⟩ := hf356
                              refine r_iload_n (pc := 356) dX12_view_356 (i := 2) rfl rfl ?_
                              refine r_iconst (pc := 357) (v := iv 5) dX12_view_357 (by decide) ?_
                              have B379 : ∀ hp379 : MH, Tw (RX Γ cI cJ cZ y v_7 cn nm155 so sz dr mn fr tt wt co nu sa wo ln hw ro qi qc nf155 nt155 nw155 nc155 cl nx ie be sd bl bs wy ra rb lb bg os js ls sp jw go de yb ah im) hp379 → ∀  (v379_10 : Int), 0 ≤ v379_10 ∧ v379_10 ≤ 1 ∧ (v379_10 ≠ 0 ↔ kpP (Int.toNat (mn (Int.toNat x1))) (dr (Int.toNat x1)) (sh fr (60 * x1)) (sh tt (60 * x1)) (sh wt (60 * x1)) x2 x3 (Int.toNat v155_6)) → Rn (gG D cI cJ cZ cT lo b L xs) mX12_view d 379 [(0, .ref y), (1, .int (iv x1)), (2, .int (iv x2)), (3, .int (iv x3)), (4, .int (iv (sz (Int.toNat x1)))), (5, .int (iv u106_0)), (6, .int (iv v155_6)), (7, .int (iv (60 * x1 + v155_6))), (8, .int (iv (fr (Int.toNat (60 * x1 + v155_6))))), (9, .int (iv (tt (Int.toNat (60 * x1 + v155_6))))), (10, .int (iv v379_10))] [] hp379 n 0 0 Po9 := by
                                intro hp379 ht379 v379_10 hf379
                                obtain ⟨hf379_0, hf379_1, ha379_2⟩ := hf379
                                refine r_iload (pc := 379) dX12_view_379 rfl ?_
                                refine t_if_eq (pc := 381) (tgt := 452) dX12_view_381 (by decide) (by omega) (fun c381 => ?_) (fun c381 => ?_)
                                · refine r_iinc (pc := 452) (v := iv (v155_6 + 1)) (lv' := [(6, .int (iv (v155_6 + 1))), (0, .ref y), (1, .int (iv x1)), (2, .int (iv x2)), (3, .int (iv x3)), (4, .int (iv (sz (Int.toNat x1)))), (5, .int (iv u106_0)), (7, .int (iv (60 * x1 + v155_6))), (8, .int (iv (fr (Int.toNat (60 * x1 + v155_6))))), (9, .int (iv (tt (Int.toNat (60 * x1 + v155_6))))), (10, .int (iv v379_10))]) dX12_view_452 rfl (iv_add _ _) (by decide) rfl ?_
                                  refine r_goto (pc := 455) (tgt := 155) dX12_view_455 (by decide) ?_
                                  refine Rn.pick (lv' := [(0, .ref y), (1, .int (iv x1)), (2, .int (iv x2)), (3, .int (iv x3)), (4, .int (iv (sz (Int.toNat x1)))), (5, .int (iv u106_0)), (6, .int (iv (v155_6 + 1)))]) [1, 2, 3, 4, 5, 6, 0] rfl ?_
                                  exact ih155 (Int.toNat (60 - (v155_6 + 1))) (by omega) nm155 nf155 nt155 nw155 nc155 _ ht379 (v155_6 + 1) ⟨by omega, by omega, by omega, by omega, by omega, by omega, by assumption, by (first | assumption | exact PL_y (by assumption) (by omega) hrow | exact PL_n (by assumption) (by omega) (sel_n (fun h9 => absurd ((by assumption : v379_10 ≠ 0 ↔ kpP (Int.toNat (mn (Int.toNat x1))) (dr (Int.toNat x1)) (sh fr (60 * x1)) (sh tt (60 * x1)) (sh wt (60 * x1)) x2 x3 (Int.toNat v155_6)).mpr h9) (by omega))))⟩ (by omega)
                                · have hk4 : hid (x2 = 4 → bcI x3 (Int.toNat (fr (Int.toNat (60 * x1 + v155_6)))) < bcI x3 16 ∧ bcI x3 (Int.toNat (tt (Int.toNat (60 * x1 + v155_6)))) < bcI x3 16) := hid_i (fun h9 => by
                                    have hx34 := hid_o (by assumption : hid (x2 = 4 → 1 ≤ x3 ∧ x3 ≤ 65535)) h9
                                    have h8 := ((by assumption : v379_10 ≠ 0 ↔ kpP (Int.toNat (mn (Int.toNat x1))) (dr (Int.toNat x1)) (sh fr (60 * x1)) (sh tt (60 * x1)) (sh wt (60 * x1)) x2 x3 (Int.toNat v155_6)).mp (by omega)).2.2.1 h9
                                    rw [← sh_at fr (60 * x1) (v := v155_6) (by omega), ← sh_at tt (60 * x1) (v := v155_6) (by omega)] at h8
                                    have h7 := Me_bit.mpr h8.1
                                    have h6 := Me_bit.mpr h8.2
                                    exact ⟨bc_lt (by omega) (by omega), bc_lt (by omega) (by omega)⟩)
                                  refine r_aload_n (pc := 384) dX12_view_384 (i := 0) rfl rfl ?_
                                  refine r_iload_n (pc := 385) dX12_view_385 (i := 2) rfl rfl ?_
                                  have B410 : ∀ hp410 : MH, Tw (RX Γ cI cJ cZ y v_7 cn nm155 so sz dr mn fr tt wt co nu sa wo ln hw ro qi qc nf155 nt155 nw155 nc155 cl nx ie be sd bl bs wy ra rb lb bg os js ls sp jw go de yb ah im) hp410 → ∀  (u410_1 : Int), 0 ≤ u410_1 ∧ u410_1 ≤ 15 ∧ (0 ≤ u410_1) ∧ (u410_1 < N9) ∧ (u410_1 = (if x2 = 0 then (sh tt (60 * x1)) (Int.toNat v155_6) else if x2 = 4 then bcI x3 (Int.toNat ((sh fr (60 * x1)) (Int.toNat v155_6))) else (sh fr (60 * x1)) (Int.toNat v155_6))) → Rn (gG D cI cJ cZ cT lo b L xs) mX12_view d 410 [(0, .ref y), (1, .int (iv x1)), (2, .int (iv x2)), (3, .int (iv x3)), (4, .int (iv (sz (Int.toNat x1)))), (5, .int (iv u106_0)), (6, .int (iv v155_6)), (7, .int (iv (60 * x1 + v155_6))), (8, .int (iv (fr (Int.toNat (60 * x1 + v155_6))))), (9, .int (iv (tt (Int.toNat (60 * x1 + v155_6)))))] [.int (iv u410_1), .ref y] hp410 n 0 0 Po9 := by
                                    intro hp410 ht410 u410_1 hf410
                                    obtain ⟨hf410_0, hf410_1, hf410_2, hf410_3, ha410_4⟩ := hf410
                                    refine r_iload_n (pc := 410) dX12_view_410 (i := 2) rfl rfl ?_
                                    have B435 : ∀ hp435 : MH, Tw (RX Γ cI cJ cZ y v_7 cn nm155 so sz dr mn fr tt wt co nu sa wo ln hw ro qi qc nf155 nt155 nw155 nc155 cl nx ie be sd bl bs wy ra rb lb bg os js ls sp jw go de yb ah im) hp435 → ∀  (u435_2 : Int), 0 ≤ u435_2 ∧ u435_2 ≤ 15 ∧ (0 ≤ u435_2) ∧ (u435_2 < N9) ∧ (u435_2 = (if x2 = 0 then (sh fr (60 * x1)) (Int.toNat v155_6) else if x2 = 4 then bcI x3 (Int.toNat ((sh tt (60 * x1)) (Int.toNat v155_6))) else (sh tt (60 * x1)) (Int.toNat v155_6))) → Rn (gG D cI cJ cZ cT lo b L xs) mX12_view d 435 [(0, .ref y), (1, .int (iv x1)), (2, .int (iv x2)), (3, .int (iv x3)), (4, .int (iv (sz (Int.toNat x1)))), (5, .int (iv u106_0)), (6, .int (iv v155_6)), (7, .int (iv (60 * x1 + v155_6)))] [.int (iv u435_2), .int (iv u410_1), .ref y] hp435 n 0 0 Po9 := by
                                      intro hp435 ht435 u435_2 hf435
                                      obtain ⟨hf435_0, hf435_1, hf435_2, hf435_3, ha435_4⟩ := hf435
                                      refine r_aload_n (pc := 435) dX12_view_435 (i := 0) rfl rfl ?_
                                      refine t_getE (pc := 436) (.ref (y + 7)) ht435 (rd_of RX_y) fX12_29 dX12_view_436 rfl ?_
                                      refine r_iload (pc := 439) dX12_view_439 rfl ?_
                                      refine t_ialdX (pc := 441) (t0 := 0) ht435 (rd_of RX_weight) dX12_view_441 rfl (by decide) (by omega) (fun b47 => ?_)
                                      have rb47 := (show Rfx 7260 (-1000) 1000 wt by assumption) (Int.toNat (60 * x1 + v155_6)) (by omega)
                                      refine r_aload_n (pc := 442) dX12_view_442 (i := 0) rfl rfl ?_
                                      refine t_getE (pc := 443) (.ref (y + 8)) ht435 (rd_of RX_y) fX12_32 dX12_view_443 rfl ?_
                                      refine r_iload (pc := 446) dX12_view_446 rfl ?_
                                      refine t_ialdX (pc := 448) (t0 := 0) ht435 (rd_of RX_cost) dX12_view_448 rfl (by decide) (by omega) (fun b48 => ?_)
                                      have rb48 := (show Rfx 7260 (-1000) 1000 co by assumption) (Int.toNat (60 * x1 + v155_6)) (by omega)
                                      obtain ⟨fs53, hfs53⟩ := t_obj ht435 (rd_of RX_y)
                                      refine r_callV (pc := 449) (as := [.int (iv u410_1), .int (iv u435_2), .int (iv (wt (Int.toNat (60 * x1 + v155_6)))), .int (iv (co (Int.toNat (60 * x1 + v155_6))))]) (st := []) kX12_171 rfl dX12_view_449 hfs53 (x_X12_put (d := d - 1) (x1 := u410_1) (x2 := u435_2) (x3 := wt (Int.toNat (60 * x1 + v155_6))) (x4 := co (Int.toNat (60 * x1 + v155_6))) (by omega) (by omega) ht435 (by omega) (by omega) (by omega) (by omega) (by omega) (fun _ _ _ h => h)) rfl (by omega) (Nat.le_of_ble_eq_true rfl) (Nat.zero_le _) (Nat.zero_le _) rfl (fun r50 hp49 n51 hq52 => ?_)
                                      obtain ⟨hnn51, ht54, hrr50⟩ := hq52
                                      subst n51 r50
                                      change Rn _ _ _ 452 _ [] _ _ _ _ _
                                      have hrow : (kpL (Int.toNat (mn (Int.toNat x1))) (dr (Int.toNat x1)) (sh fr (60 * x1)) (sh tt (60 * x1)) (sh wt (60 * x1)) (sh co (60 * x1)) x2 x3) (Int.toNat v155_6) = [(u410_1, u435_2, wt (Int.toNat (60 * x1 + v155_6)), co (Int.toNat (60 * x1 + v155_6)))] := by
                                        show sel _ _ = _
                                        rw [sel_y ((by assumption : v379_10 ≠ 0 ↔ kpP (Int.toNat (mn (Int.toNat x1))) (dr (Int.toNat x1)) (sh fr (60 * x1)) (sh tt (60 * x1)) (sh wt (60 * x1)) x2 x3 (Int.toNat v155_6)).mp (by omega))]
                                        show [((if x2 = 0 then (sh tt (60 * x1)) (Int.toNat v155_6) else if x2 = 4 then bcI x3 (Int.toNat ((sh fr (60 * x1)) (Int.toNat v155_6))) else (sh fr (60 * x1)) (Int.toNat v155_6)), (if x2 = 0 then (sh fr (60 * x1)) (Int.toNat v155_6) else if x2 = 4 then bcI x3 (Int.toNat ((sh tt (60 * x1)) (Int.toNat v155_6))) else (sh tt (60 * x1)) (Int.toNat v155_6)), (sh wt (60 * x1)) (Int.toNat v155_6), (sh co (60 * x1)) (Int.toNat v155_6))] = _
                                        rw [show (if x2 = 0 then (sh tt (60 * x1)) (Int.toNat v155_6) else if x2 = 4 then bcI x3 (Int.toNat ((sh fr (60 * x1)) (Int.toNat v155_6))) else (sh fr (60 * x1)) (Int.toNat v155_6)) = u410_1 from (show u410_1 = (if x2 = 0 then (sh tt (60 * x1)) (Int.toNat v155_6) else if x2 = 4 then bcI x3 (Int.toNat ((sh fr (60 * x1)) (Int.toNat v155_6))) else (sh fr (60 * x1)) (Int.toNat v155_6)) by assumption).symm, show (if x2 = 0 then (sh fr (60 * x1)) (Int.toNat v155_6) else if x2 = 4 then bcI x3 (Int.toNat ((sh tt (60 * x1)) (Int.toNat v155_6))) else (sh tt (60 * x1)) (Int.toNat v155_6)) = u435_2 from (show u435_2 = (if x2 = 0 then (sh fr (60 * x1)) (Int.toNat v155_6) else if x2 = 4 then bcI x3 (Int.toNat ((sh tt (60 * x1)) (Int.toNat v155_6))) else (sh tt (60 * x1)) (Int.toNat v155_6)) by assumption).symm, ← sh_at wt (60 * x1) (v := v155_6) (by omega), ← sh_at co (60 * x1) (v := v155_6) (by omega)]
                                      have hapq55 : arP (fup nf155 (Int.toNat nm155) u410_1) (fup nt155 (Int.toNat nm155) u435_2) (fup nw155 (Int.toNat nm155) (wt (Int.toNat (60 * x1 + v155_6)))) (fup nc155 (Int.toNat nm155) (co (Int.toNat (60 * x1 + v155_6)))) (nm155 + 1) N9 := ar_up (by assumption) (by omega) (by omega) (by omega) (by omega) (by omega)
                                      refine r_iinc (pc := 452) (v := iv (v155_6 + 1)) (lv' := [(6, .int (iv (v155_6 + 1))), (0, .ref y), (1, .int (iv x1)), (2, .int (iv x2)), (3, .int (iv x3)), (4, .int (iv (sz (Int.toNat x1)))), (5, .int (iv u106_0)), (7, .int (iv (60 * x1 + v155_6)))]) dX12_view_452 rfl (iv_add _ _) (by decide) rfl ?_
                                      refine r_goto (pc := 455) (tgt := 155) dX12_view_455 (by decide) ?_
                                      refine Rn.pick (lv' := [(0, .ref y), (1, .int (iv x1)), (2, .int (iv x2)), (3, .int (iv x3)), (4, .int (iv (sz (Int.toNat x1)))), (5, .int (iv u106_0)), (6, .int (iv (v155_6 + 1)))]) [1, 2, 3, 4, 5, 6, 0] rfl ?_
                                      exact ih155 (Int.toNat (60 - (v155_6 + 1))) (by omega) (nm155 + 1) (fup nf155 (Int.toNat nm155) u410_1) (fup nt155 (Int.toNat nm155) u435_2) (fup nw155 (Int.toNat nm155) (wt (Int.toNat (60 * x1 + v155_6)))) (fup nc155 (Int.toNat nm155) (co (Int.toNat (60 * x1 + v155_6)))) _ ht54 (v155_6 + 1) ⟨by omega, by omega, by omega, by omega, by omega, by omega, by assumption, by (first | assumption | exact PL_y (by assumption) (by omega) hrow | exact PL_n (by assumption) (by omega) (sel_n (fun h9 => absurd ((by assumption : v379_10 ≠ 0 ↔ kpP (Int.toNat (mn (Int.toNat x1))) (dr (Int.toNat x1)) (sh fr (60 * x1)) (sh tt (60 * x1)) (sh wt (60 * x1)) x2 x3 (Int.toNat v155_6)).mpr h9) (by omega))))⟩ (by omega)
                                    refine t_if_ne (pc := 411) (tgt := 419) dX12_view_411 (by decide) (by omega) (fun c411 => ?_) (fun c411 => ?_)
                                    · refine r_iload_n (pc := 419) dX12_view_419 (i := 2) rfl rfl ?_
                                      refine r_iconst (pc := 420) (v := iv 4) dX12_view_420 (by decide) ?_
                                      refine t_icmp_ne (pc := 421) (tgt := 433) dX12_view_421 (by decide) (by omega) (by omega) (fun c421 => ?_) (fun c421 => ?_)
                                      · have hNz := hid_o hN0 (by omega)
                                        refine r_iload (pc := 433) dX12_view_433 rfl ?_
                                        refine Rn.pick (lv' := [(0, .ref y), (1, .int (iv x1)), (2, .int (iv x2)), (3, .int (iv x3)), (4, .int (iv (sz (Int.toNat x1)))), (5, .int (iv u106_0)), (6, .int (iv v155_6)), (7, .int (iv (60 * x1 + v155_6)))]) [0, 1, 2, 3, 4, 5, 6, 7] rfl ?_
                                        exact B435 _ ht410 (tt (Int.toNat (60 * x1 + v155_6))) ⟨by omega, by omega, by omega, by omega, by (first | assumption | (rw [← sh_at fr (60 * x1) (v := v155_6) (by omega), ← sh_at tt (60 * x1) (v := v155_6) (by omega)]; (repeat' split) <;> first | rfl | omega))⟩
                                      · have hNf := hid_o hN4 (by omega)
                                        have hx34 := hid_o (by assumption : hid (x2 = 4 → 1 ≤ x3 ∧ x3 ≤ 65535)) (by omega)
                                        have hk4f := hid_o hk4 (by omega)
                                        refine r_iload_n (pc := 424) dX12_view_424 (i := 3) rfl rfl ?_
                                        refine r_iload (pc := 425) dX12_view_425 rfl ?_
                                        refine t_callSI (pc := 427) (as := [.int (iv x3), .int (iv (tt (Int.toNat (60 * x1 + v155_6))))]) (st := [.int (iv u410_1), .ref y]) kX12_198 dX12_view_427 (t_X12_placeInx (d := d - 1) (x1 := x3) (x2 := tt (Int.toNat (60 * x1 + v155_6))) (by omega)  ht410 (by omega) (by omega)) rfl (by omega) (Nat.le_of_ble_eq_true rfl) rfl (fun hp56 y58 ht57 by58 => ?_)
                                        have ey58 : y58 = bcI x3 (Int.toNat (tt (Int.toNat (60 * x1 + v155_6)))) := by58
                                        subst ey58
                                        have ry58 := bc_le x3 (Int.toNat (tt (Int.toNat (60 * x1 + v155_6))))
                                        refine r_goto (pc := 430) (tgt := 435) dX12_view_430 (by decide) ?_
                                        refine Rn.pick (lv' := [(0, .ref y), (1, .int (iv x1)), (2, .int (iv x2)), (3, .int (iv x3)), (4, .int (iv (sz (Int.toNat x1)))), (5, .int (iv u106_0)), (6, .int (iv v155_6)), (7, .int (iv (60 * x1 + v155_6)))]) [0, 1, 2, 3, 4, 5, 6, 7] rfl ?_
                                        exact B435 _ ht57 (bcI x3 (Int.toNat (tt (Int.toNat (60 * x1 + v155_6))))) ⟨by omega, by omega, by omega, by omega, by (first | assumption | (rw [← sh_at fr (60 * x1) (v := v155_6) (by omega), ← sh_at tt (60 * x1) (v := v155_6) (by omega)]; (repeat' split) <;> first | rfl | omega))⟩
                                    · have hNz := hid_o hN0 (by omega)
                                      refine r_iload (pc := 414) dX12_view_414 rfl ?_
                                      refine r_goto (pc := 416) (tgt := 435) dX12_view_416 (by decide) ?_
                                      refine Rn.pick (lv' := [(0, .ref y), (1, .int (iv x1)), (2, .int (iv x2)), (3, .int (iv x3)), (4, .int (iv (sz (Int.toNat x1)))), (5, .int (iv u106_0)), (6, .int (iv v155_6)), (7, .int (iv (60 * x1 + v155_6)))]) [0, 1, 2, 3, 4, 5, 6, 7] rfl ?_
                                      exact B435 _ ht410 (fr (Int.toNat (60 * x1 + v155_6))) ⟨by omega, by omega, by omega, by omega, by (first | assumption | (rw [← sh_at fr (60 * x1) (v := v155_6) (by omega), ← sh_at tt (60 * x1) (v := v155_6) (by omega)]; (repeat' split) <;> first | rfl | omega))⟩
                                  refine t_if_ne (pc := 386) (tgt := 394) dX12_view_386 (by decide) (by omega) (fun c386 => ?_) (fun c386 => ?_)
                                  · refine r_iload_n (pc := 394) dX12_view_394 (i := 2) rfl rfl ?_
                                    refine r_iconst (pc := 395) (v := iv 4) dX12_view_395 (by decide) ?_
                                    refine t_icmp_ne (pc := 396) (tgt := 408) dX12_view_396 (by decide) (by omega) (by omega) (fun c396 => ?_) (fun c396 => ?_)
                                    · have hNz := hid_o hN0 (by omega)
                                      refine r_iload (pc := 408) dX12_view_408 rfl ?_
                                      refine Rn.pick (lv' := [(0, .ref y), (1, .int (iv x1)), (2, .int (iv x2)), (3, .int (iv x3)), (4, .int (iv (sz (Int.toNat x1)))), (5, .int (iv u106_0)), (6, .int (iv v155_6)), (7, .int (iv (60 * x1 + v155_6))), (8, .int (iv (fr (Int.toNat (60 * x1 + v155_6))))), (9, .int (iv (tt (Int.toNat (60 * x1 + v155_6)))))]) [0, 1, 2, 3, 4, 5, 6, 7, 8, 9] rfl ?_
                                      exact B410 _ ht379 (fr (Int.toNat (60 * x1 + v155_6))) ⟨by omega, by omega, by omega, by omega, by (first | assumption | (rw [← sh_at fr (60 * x1) (v := v155_6) (by omega), ← sh_at tt (60 * x1) (v := v155_6) (by omega)]; (repeat' split) <;> first | rfl | omega))⟩
                                    · have hNf := hid_o hN4 (by omega)
                                      have hx34 := hid_o (by assumption : hid (x2 = 4 → 1 ≤ x3 ∧ x3 ≤ 65535)) (by omega)
                                      have hk4f := hid_o hk4 (by omega)
                                      refine r_iload_n (pc := 399) dX12_view_399 (i := 3) rfl rfl ?_
                                      refine r_iload (pc := 400) dX12_view_400 rfl ?_
                                      refine t_callSI (pc := 402) (as := [.int (iv x3), .int (iv (fr (Int.toNat (60 * x1 + v155_6))))]) (st := [.ref y]) kX12_198 dX12_view_402 (t_X12_placeInx (d := d - 1) (x1 := x3) (x2 := fr (Int.toNat (60 * x1 + v155_6))) (by omega)  ht379 (by omega) (by omega)) rfl (by omega) (Nat.le_of_ble_eq_true rfl) rfl (fun hp59 y61 ht60 by61 => ?_)
                                      have ey61 : y61 = bcI x3 (Int.toNat (fr (Int.toNat (60 * x1 + v155_6)))) := by61
                                      subst ey61
                                      have ry61 := bc_le x3 (Int.toNat (fr (Int.toNat (60 * x1 + v155_6))))
                                      refine r_goto (pc := 405) (tgt := 410) dX12_view_405 (by decide) ?_
                                      refine Rn.pick (lv' := [(0, .ref y), (1, .int (iv x1)), (2, .int (iv x2)), (3, .int (iv x3)), (4, .int (iv (sz (Int.toNat x1)))), (5, .int (iv u106_0)), (6, .int (iv v155_6)), (7, .int (iv (60 * x1 + v155_6))), (8, .int (iv (fr (Int.toNat (60 * x1 + v155_6))))), (9, .int (iv (tt (Int.toNat (60 * x1 + v155_6)))))]) [0, 1, 2, 3, 4, 5, 6, 7, 8, 9] rfl ?_
                                      exact B410 _ ht60 (bcI x3 (Int.toNat (fr (Int.toNat (60 * x1 + v155_6))))) ⟨by omega, by omega, by omega, by omega, by (first | assumption | (rw [← sh_at fr (60 * x1) (v := v155_6) (by omega), ← sh_at tt (60 * x1) (v := v155_6) (by omega)]; (repeat' split) <;> first | rfl | omega))⟩
                                  · have hNz := hid_o hN0 (by omega)
                                    refine r_iload (pc := 389) dX12_view_389 rfl ?_
                                    refine r_goto (pc := 391) (tgt := 410) dX12_view_391 (by decide) ?_
                                    refine Rn.pick (lv' := [(0, .ref y), (1, .int (iv x1)), (2, .int (iv x2)), (3, .int (iv x3)), (4, .int (iv (sz (Int.toNat x1)))), (5, .int (iv u106_0)), (6, .int (iv v155_6)), (7, .int (iv (60 * x1 + v155_6))), (8, .int (iv (fr (Int.toNat (60 * x1 + v155_6))))), (9, .int (iv (tt (Int.toNat (60 * x1 + v155_6)))))]) [0, 1, 2, 3, 4, 5, 6, 7, 8, 9] rfl ?_
                                    exact B410 _ ht379 (tt (Int.toNat (60 * x1 + v155_6))) ⟨by omega, by omega, by omega, by omega, by (first | assumption | (rw [← sh_at fr (60 * x1) (v := v155_6) (by omega), ← sh_at tt (60 * x1) (v := v155_6) (by omega)]; (repeat' split) <;> first | rfl | omega))⟩
                              refine t_icmp_ne (pc := 358) (tgt := 379) dX12_view_358 (by decide) (by omega) (by omega) (fun c358 => ?_) (fun c358 => ?_)
                              · refine Rn.pick (lv' := [(0, .ref y), (1, .int (iv x1)), (2, .int (iv x2)), (3, .int (iv x3)), (4, .int (iv (sz (Int.toNat x1)))), (5, .int (iv u106_0)), (6, .int (iv v155_6)), (7, .int (iv (60 * x1 + v155_6))), (8, .int (iv (fr (Int.toNat (60 * x1 + v155_6))))), (9, .int (iv (tt (Int.toNat (60 * x1 + v155_6))))), (10, .int (iv v356_10))]) [0, 1, 2, 3, 4, 5, 6, 7, 8, 9, 10] rfl ?_
                                exact B379 _ ht356 v356_10 ⟨by omega, by omega, by (first | exact (by assumption : x2 ≠ 5 → _) (by omega) | (rw [show x2 = 5 by omega]; exact kp_5 (by rw [← sh_at wt (60 * x1) (v := v155_6) (by omega)]; omega)))⟩
                              · refine r_aload_n (pc := 361) dX12_view_361 (i := 0) rfl rfl ?_
                                refine t_getE (pc := 362) (.ref (y + 7)) ht356 (rd_of RX_y) fX12_29 dX12_view_362 rfl ?_
                                refine r_iload (pc := 365) dX12_view_365 rfl ?_
                                refine t_ialdX (pc := 367) (t0 := 0) ht356 (rd_of RX_weight) dX12_view_367 rfl (by decide) (by omega) (fun b62 => ?_)
                                have rb62 := (show Rfx 7260 (-1000) 1000 wt by assumption) (Int.toNat (60 * x1 + v155_6)) (by omega)
                                refine r_iload_n (pc := 368) dX12_view_368 (i := 3) rfl rfl ?_
                                refine t_icmp_lt (pc := 369) (tgt := 376) dX12_view_369 (by decide) (by omega) (by omega) (fun c369 => ?_) (fun c369 => ?_)
                                · refine r_iconst (pc := 376) (v := iv 0) dX12_view_376 (by decide) ?_
                                  refine r_istore (pc := 377) (lv' := [(10, .int (iv 0)), (0, .ref y), (1, .int (iv x1)), (2, .int (iv x2)), (3, .int (iv x3)), (4, .int (iv (sz (Int.toNat x1)))), (5, .int (iv u106_0)), (6, .int (iv v155_6)), (7, .int (iv (60 * x1 + v155_6))), (8, .int (iv (fr (Int.toNat (60 * x1 + v155_6))))), (9, .int (iv (tt (Int.toNat (60 * x1 + v155_6)))))]) dX12_view_377 (by decide) rfl ?_
                                  refine Rn.pick (lv' := [(0, .ref y), (1, .int (iv x1)), (2, .int (iv x2)), (3, .int (iv x3)), (4, .int (iv (sz (Int.toNat x1)))), (5, .int (iv u106_0)), (6, .int (iv v155_6)), (7, .int (iv (60 * x1 + v155_6))), (8, .int (iv (fr (Int.toNat (60 * x1 + v155_6))))), (9, .int (iv (tt (Int.toNat (60 * x1 + v155_6))))), (10, .int (iv 0))]) [1, 2, 3, 4, 5, 6, 7, 8, 9, 10, 0] rfl ?_
                                  exact B379 _ ht356 0 ⟨by omega, by omega, by (first | exact (by assumption : x2 ≠ 5 → _) (by omega) | (rw [show x2 = 5 by omega]; exact kp_5 (by rw [← sh_at wt (60 * x1) (v := v155_6) (by omega)]; omega)))⟩
                                · refine r_iconst (pc := 372) (v := iv 1) dX12_view_372 (by decide) ?_
                                  refine r_goto (pc := 373) (tgt := 377) dX12_view_373 (by decide) ?_
                                  refine r_istore (pc := 377) (lv' := [(10, .int (iv 1)), (0, .ref y), (1, .int (iv x1)), (2, .int (iv x2)), (3, .int (iv x3)), (4, .int (iv (sz (Int.toNat x1)))), (5, .int (iv u106_0)), (6, .int (iv v155_6)), (7, .int (iv (60 * x1 + v155_6))), (8, .int (iv (fr (Int.toNat (60 * x1 + v155_6))))), (9, .int (iv (tt (Int.toNat (60 * x1 + v155_6)))))]) dX12_view_377 (by decide) rfl ?_
                                  refine Rn.pick (lv' := [(0, .ref y), (1, .int (iv x1)), (2, .int (iv x2)), (3, .int (iv x3)), (4, .int (iv (sz (Int.toNat x1)))), (5, .int (iv u106_0)), (6, .int (iv v155_6)), (7, .int (iv (60 * x1 + v155_6))), (8, .int (iv (fr (Int.toNat (60 * x1 + v155_6))))), (9, .int (iv (tt (Int.toNat (60 * x1 + v155_6))))), (10, .int (iv 1))]) [1, 2, 3, 4, 5, 6, 7, 8, 9, 10, 0] rfl ?_
                                  exact B379 _ ht356 1 ⟨by omega, by omega, by (first | exact (by assumption : x2 ≠ 5 → _) (by omega) | (rw [show x2 = 5 by omega]; exact kp_5 (by rw [← sh_at wt (60 * x1) (v := v155_6) (by omega)]; omega)))⟩
                            refine t_icmp_ne (pc := 326) (tgt := 356) dX12_view_326 (by decide) (by omega) (by omega) (fun c326 => ?_) (fun c326 => ?_)
                            · refine Rn.pick (lv' := [(0, .ref y), (1, .int (iv x1)), (2, .int (iv x2)), (3, .int (iv x3)), (4, .int (iv (sz (Int.toNat x1)))), (5, .int (iv u106_0)), (6, .int (iv v155_6)), (7, .int (iv (60 * x1 + v155_6))), (8, .int (iv (fr (Int.toNat (60 * x1 + v155_6))))), (9, .int (iv (tt (Int.toNat (60 * x1 + v155_6))))), (10, .int (iv v222_10))]) [0, 1, 2, 3, 4, 5, 6, 7, 8, 9, 10] rfl ?_
                              exact B356 _ ht324 v222_10 ⟨by omega, by omega, by (intro h5; first | exact (by assumption : x2 ≠ 4 → x2 ≠ 5 → _) (by omega) h5 | (rw [show x2 = 4 by omega]; exact kp_4 (by rw [← sh_at fr (60 * x1) (v := v155_6) (by omega), ← sh_at tt (60 * x1) (v := v155_6) (by omega)]; first | exact ⟨fun _ => ⟨by assumption, by assumption⟩, fun _ => by omega⟩ | exact ⟨fun h9 => absurd rfl h9, fun h9 => absurd h9.1 (by assumption)⟩ | exact ⟨fun h9 => absurd rfl h9, fun h9 => absurd h9.2 (by assumption)⟩)))⟩
                            · have hx34 := hid_o (by assumption : hid (x2 = 4 → 1 ≤ x3 ∧ x3 ≤ 65535)) (by omega)
                              refine r_iload_n (pc := 329) dX12_view_329 (i := 3) rfl rfl ?_
                              refine r_iload (pc := 330) dX12_view_330 rfl ?_
                              have hq332_63 := shr_le (Int.toNat x3) (Int.toNat (fr (Int.toNat (60 * x1 + v155_6))))
                              refine r_ishr (pc := 332) (v := iv ((Int.toNat x3 >>> Int.toNat (fr (Int.toNat (60 * x1 + v155_6))) : Nat) : Int)) dX12_view_332 (shr_e (by omega) (by omega)) ?_
                              refine r_iconst (pc := 333) (v := iv 1) dX12_view_333 (by decide) ?_
                              refine r_iand (pc := 334) (v := iv (((Int.toNat x3 >>> Int.toNat (fr (Int.toNat (60 * x1 + v155_6))) : Nat) : Int) % 2)) dX12_view_334 (and1_e _ (by omega)) ?_
                              have mb334 := @Me_bit x3 (fr (Int.toNat (60 * x1 + v155_6)))
                              refine r_iconst (pc := 335) (v := iv 1) dX12_view_335 (by decide) ?_
                              refine t_icmp_ne (pc := 336) (tgt := 353) dX12_view_336 (by decide) (by omega) (by omega) (fun c336 => ?_) (fun c336 => ?_)
                              · have nm336 : ¬ Me x3 (Int.toNat (fr (Int.toNat (60 * x1 + v155_6)))) := fun h9 => absurd (Me_bit.mpr h9) (by omega)
                                refine r_iconst (pc := 353) (v := iv 0) dX12_view_353 (by decide) ?_
                                refine r_istore (pc := 354) (lv' := [(10, .int (iv 0)), (0, .ref y), (1, .int (iv x1)), (2, .int (iv x2)), (3, .int (iv x3)), (4, .int (iv (sz (Int.toNat x1)))), (5, .int (iv u106_0)), (6, .int (iv v155_6)), (7, .int (iv (60 * x1 + v155_6))), (8, .int (iv (fr (Int.toNat (60 * x1 + v155_6))))), (9, .int (iv (tt (Int.toNat (60 * x1 + v155_6)))))]) dX12_view_354 (by decide) rfl ?_
                                refine Rn.pick (lv' := [(0, .ref y), (1, .int (iv x1)), (2, .int (iv x2)), (3, .int (iv x3)), (4, .int (iv (sz (Int.toNat x1)))), (5, .int (iv u106_0)), (6, .int (iv v155_6)), (7, .int (iv (60 * x1 + v155_6))), (8, .int (iv (fr (Int.toNat (60 * x1 + v155_6))))), (9, .int (iv (tt (Int.toNat (60 * x1 + v155_6))))), (10, .int (iv 0))]) [1, 2, 3, 4, 5, 6, 7, 8, 9, 10, 0] rfl ?_
                                exact B356 _ ht324 0 ⟨by omega, by omega, by (intro h5; first | exact (by assumption : x2 ≠ 4 → x2 ≠ 5 → _) (by omega) h5 | (rw [show x2 = 4 by omega]; exact kp_4 (by rw [← sh_at fr (60 * x1) (v := v155_6) (by omega), ← sh_at tt (60 * x1) (v := v155_6) (by omega)]; first | exact ⟨fun _ => ⟨by assumption, by assumption⟩, fun _ => by omega⟩ | exact ⟨fun h9 => absurd rfl h9, fun h9 => absurd h9.1 (by assumption)⟩ | exact ⟨fun h9 => absurd rfl h9, fun h9 => absurd h9.2 (by assumption)⟩)))⟩
                              · have pm336 : Me x3 (Int.toNat (fr (Int.toNat (60 * x1 + v155_6)))) := Me_bit.mp (by omega)
                                refine r_iload_n (pc := 339) dX12_view_339 (i := 3) rfl rfl ?_
                                refine r_iload (pc := 340) dX12_view_340 rfl ?_
                                have hq342_64 := shr_le (Int.toNat x3) (Int.toNat (tt (Int.toNat (60 * x1 + v155_6))))
                                refine r_ishr (pc := 342) (v := iv ((Int.toNat x3 >>> Int.toNat (tt (Int.toNat (60 * x1 + v155_6))) : Nat) : Int)) dX12_view_342 (shr_e (by omega) (by omega)) ?_
                                refine r_iconst (pc := 343) (v := iv 1) dX12_view_343 (by decide) ?_
                                refine r_iand (pc := 344) (v := iv (((Int.toNat x3 >>> Int.toNat (tt (Int.toNat (60 * x1 + v155_6))) : Nat) : Int) % 2)) dX12_view_344 (and1_e _ (by omega)) ?_
                                have mb344 := @Me_bit x3 (tt (Int.toNat (60 * x1 + v155_6)))
                                refine r_iconst (pc := 345) (v := iv 1) dX12_view_345 (by decide) ?_
                                refine t_icmp_ne (pc := 346) (tgt := 353) dX12_view_346 (by decide) (by omega) (by omega) (fun c346 => ?_) (fun c346 => ?_)
                                · have nm346 : ¬ Me x3 (Int.toNat (tt (Int.toNat (60 * x1 + v155_6)))) := fun h9 => absurd (Me_bit.mpr h9) (by omega)
                                  refine r_iconst (pc := 353) (v := iv 0) dX12_view_353 (by decide) ?_
                                  refine r_istore (pc := 354) (lv' := [(10, .int (iv 0)), (0, .ref y), (1, .int (iv x1)), (2, .int (iv x2)), (3, .int (iv x3)), (4, .int (iv (sz (Int.toNat x1)))), (5, .int (iv u106_0)), (6, .int (iv v155_6)), (7, .int (iv (60 * x1 + v155_6))), (8, .int (iv (fr (Int.toNat (60 * x1 + v155_6))))), (9, .int (iv (tt (Int.toNat (60 * x1 + v155_6)))))]) dX12_view_354 (by decide) rfl ?_
                                  refine Rn.pick (lv' := [(0, .ref y), (1, .int (iv x1)), (2, .int (iv x2)), (3, .int (iv x3)), (4, .int (iv (sz (Int.toNat x1)))), (5, .int (iv u106_0)), (6, .int (iv v155_6)), (7, .int (iv (60 * x1 + v155_6))), (8, .int (iv (fr (Int.toNat (60 * x1 + v155_6))))), (9, .int (iv (tt (Int.toNat (60 * x1 + v155_6))))), (10, .int (iv 0))]) [1, 2, 3, 4, 5, 6, 7, 8, 9, 10, 0] rfl ?_
                                  exact B356 _ ht324 0 ⟨by omega, by omega, by (intro h5; first | exact (by assumption : x2 ≠ 4 → x2 ≠ 5 → _) (by omega) h5 | (rw [show x2 = 4 by omega]; exact kp_4 (by rw [← sh_at fr (60 * x1) (v := v155_6) (by omega), ← sh_at tt (60 * x1) (v := v155_6) (by omega)]; first | exact ⟨fun _ => ⟨by assumption, by assumption⟩, fun _ => by omega⟩ | exact ⟨fun h9 => absurd rfl h9, fun h9 => absurd h9.1 (by assumption)⟩ | exact ⟨fun h9 => absurd rfl h9, fun h9 => absurd h9.2 (by assumption)⟩)))⟩
                                · have pm346 : Me x3 (Int.toNat (tt (Int.toNat (60 * x1 + v155_6)))) := Me_bit.mp (by omega)
                                  refine r_iconst (pc := 349) (v := iv 1) dX12_view_349 (by decide) ?_
                                  refine r_goto (pc := 350) (tgt := 354) dX12_view_350 (by decide) ?_
                                  refine r_istore (pc := 354) (lv' := [(10, .int (iv 1)), (0, .ref y), (1, .int (iv x1)), (2, .int (iv x2)), (3, .int (iv x3)), (4, .int (iv (sz (Int.toNat x1)))), (5, .int (iv u106_0)), (6, .int (iv v155_6)), (7, .int (iv (60 * x1 + v155_6))), (8, .int (iv (fr (Int.toNat (60 * x1 + v155_6))))), (9, .int (iv (tt (Int.toNat (60 * x1 + v155_6)))))]) dX12_view_354 (by decide) rfl ?_
                                  refine Rn.pick (lv' := [(0, .ref y), (1, .int (iv x1)), (2, .int (iv x2)), (3, .int (iv x3)), (4, .int (iv (sz (Int.toNat x1)))), (5, .int (iv u106_0)), (6, .int (iv v155_6)), (7, .int (iv (60 * x1 + v155_6))), (8, .int (iv (fr (Int.toNat (60 * x1 + v155_6))))), (9, .int (iv (tt (Int.toNat (60 * x1 + v155_6))))), (10, .int (iv 1))]) [1, 2, 3, 4, 5, 6, 7, 8, 9, 10, 0] rfl ?_
                                  exact B356 _ ht324 1 ⟨by omega, by omega, by (intro h5; first | exact (by assumption : x2 ≠ 4 → x2 ≠ 5 → _) (by omega) h5 | (rw [show x2 = 4 by omega]; exact kp_4 (by rw [← sh_at fr (60 * x1) (v := v155_6) (by omega), ← sh_at tt (60 * x1) (v := v155_6) (by omega)]; first | exact ⟨fun _ => ⟨by assumption, by assumption⟩, fun _ => by omega⟩ | exact ⟨fun h9 => absurd rfl h9, fun h9 => absurd h9.1 (by assumption)⟩ | exact ⟨fun h9 => absurd rfl h9, fun h9 => absurd h9.2 (by assumption)⟩)))⟩
                          refine t_icmp_ge (pc := 230) (tgt := 324) dX12_view_230 (by decide) (by omega) (by omega) (fun c230 => ?_) (fun c230 => ?_)
                          · refine Rn.pick (lv' := [(0, .ref y), (1, .int (iv x1)), (2, .int (iv x2)), (3, .int (iv x3)), (4, .int (iv (sz (Int.toNat x1)))), (5, .int (iv u106_0)), (6, .int (iv v155_6)), (7, .int (iv (60 * x1 + v155_6))), (8, .int (iv (fr (Int.toNat (60 * x1 + v155_6))))), (9, .int (iv (tt (Int.toNat (60 * x1 + v155_6))))), (10, .int (iv v222_10))]) [0, 1, 2, 3, 4, 5, 6, 7, 8, 9, 10] rfl ?_
                            exact B324 _ ht222 (by (exact fun h4 h5 => vk_end (by assumption) (by omega) (by omega) h4 h5 _))
                          · refine r_iload_n (pc := 233) dX12_view_233 (i := 2) rfl rfl ?_
                            refine r_iconst (pc := 234) (v := iv 3) dX12_view_234 (by decide) ?_
                            refine t_icmp_ne (pc := 235) (tgt := 324) dX12_view_235 (by decide) (by omega) (by omega) (fun c235 => ?_) (fun c235 => ?_)
                            · refine Rn.pick (lv' := [(0, .ref y), (1, .int (iv x1)), (2, .int (iv x2)), (3, .int (iv x3)), (4, .int (iv (sz (Int.toNat x1)))), (5, .int (iv u106_0)), (6, .int (iv v155_6)), (7, .int (iv (60 * x1 + v155_6))), (8, .int (iv (fr (Int.toNat (60 * x1 + v155_6))))), (9, .int (iv (tt (Int.toNat (60 * x1 + v155_6))))), (10, .int (iv v222_10))]) [0, 1, 2, 3, 4, 5, 6, 7, 8, 9, 10] rfl ?_
                              exact B324 _ ht222 (by (exact fun h4 h5 => vk_end (by assumption) (by omega) (by omega) h4 h5 _))
                            · refine r_iload (pc := 238) dX12_view_238 rfl ?_
                              refine t_if_eq (pc := 240) (tgt := 324) dX12_view_240 (by decide) (by omega) (fun c240 => ?_) (fun c240 => ?_)
                              · refine Rn.pick (lv' := [(0, .ref y), (1, .int (iv x1)), (2, .int (iv x2)), (3, .int (iv x3)), (4, .int (iv (sz (Int.toNat x1)))), (5, .int (iv u106_0)), (6, .int (iv v155_6)), (7, .int (iv (60 * x1 + v155_6))), (8, .int (iv (fr (Int.toNat (60 * x1 + v155_6))))), (9, .int (iv (tt (Int.toNat (60 * x1 + v155_6))))), (10, .int (iv v222_10))]) [0, 1, 2, 3, 4, 5, 6, 7, 8, 9, 10] rfl ?_
                                exact B324 _ ht222 (by (exact fun h4 h5 => vk_end (by assumption) (by omega) (by omega) h4 h5 _))
                              · refine r_iload_n (pc := 243) dX12_view_243 (i := 1) rfl rfl ?_
                                refine r_iload (pc := 244) dX12_view_244 rfl ?_
                                refine t_callSI (pc := 246) (as := [.int (iv x1), .int (iv v222_11)]) (st := []) kX12_157 dX12_view_246 (t_X12_at1x (d := d - 1) (x1 := x1) (x2 := v222_11) (by omega)  ht222 (by omega) (by omega)) rfl (by omega) (Nat.le_of_ble_eq_true rfl) rfl (fun hp65 y67 ht66 by67 => ?_)
                                have ey67 : y67 = 60 * x1 + v222_11 := by67
                                subst ey67
                                refine r_istore (pc := 249) (lv' := [(12, .int (iv (60 * x1 + v222_11))), (0, .ref y), (1, .int (iv x1)), (2, .int (iv x2)), (3, .int (iv x3)), (4, .int (iv (sz (Int.toNat x1)))), (5, .int (iv u106_0)), (6, .int (iv v155_6)), (7, .int (iv (60 * x1 + v155_6))), (8, .int (iv (fr (Int.toNat (60 * x1 + v155_6))))), (9, .int (iv (tt (Int.toNat (60 * x1 + v155_6))))), (10, .int (iv v222_10)), (11, .int (iv v222_11))]) dX12_view_249 (by decide) rfl ?_
                                refine r_iload (pc := 251) dX12_view_251 rfl ?_
                                refine r_iload (pc := 253) dX12_view_253 rfl ?_
                                refine t_icmp_eq (pc := 255) (tgt := 311) dX12_view_255 (by decide) (by omega) (by omega) (fun c255 => ?_) (fun c255 => ?_)
                                · refine r_iconst (pc := 311) (v := iv 1) dX12_view_311 (by decide) ?_
                                  refine r_goto (pc := 312) (tgt := 316) dX12_view_312 (by decide) ?_
                                  refine r_istore (pc := 316) (lv' := [(10, .int (iv 1)), (12, .int (iv (60 * x1 + v222_11))), (0, .ref y), (1, .int (iv x1)), (2, .int (iv x2)), (3, .int (iv x3)), (4, .int (iv (sz (Int.toNat x1)))), (5, .int (iv u106_0)), (6, .int (iv v155_6)), (7, .int (iv (60 * x1 + v155_6))), (8, .int (iv (fr (Int.toNat (60 * x1 + v155_6))))), (9, .int (iv (tt (Int.toNat (60 * x1 + v155_6))))), (11, .int (iv v222_11))]) dX12_view_316 (by decide) rfl ?_
                                  refine r_iinc (pc := 318) (v := iv (v222_11 + 1)) (lv' := [(11, .int (iv (v222_11 + 1))), (10, .int (iv 1)), (12, .int (iv (60 * x1 + v222_11))), (0, .ref y), (1, .int (iv x1)), (2, .int (iv x2)), (3, .int (iv x3)), (4, .int (iv (sz (Int.toNat x1)))), (5, .int (iv u106_0)), (6, .int (iv v155_6)), (7, .int (iv (60 * x1 + v155_6))), (8, .int (iv (fr (Int.toNat (60 * x1 + v155_6))))), (9, .int (iv (tt (Int.toNat (60 * x1 + v155_6)))))]) dX12_view_318 rfl (iv_add _ _) (by decide) rfl ?_
                                  refine r_goto (pc := 321) (tgt := 222) dX12_view_321 (by decide) ?_
                                  refine Rn.pick (lv' := [(0, .ref y), (1, .int (iv x1)), (2, .int (iv x2)), (3, .int (iv x3)), (4, .int (iv (sz (Int.toNat x1)))), (5, .int (iv u106_0)), (6, .int (iv v155_6)), (7, .int (iv (60 * x1 + v155_6))), (8, .int (iv (fr (Int.toNat (60 * x1 + v155_6))))), (9, .int (iv (tt (Int.toNat (60 * x1 + v155_6))))), (10, .int (iv 1)), (11, .int (iv (v222_11 + 1)))]) [3, 4, 5, 6, 7, 8, 9, 10, 11, 12, 1, 0] rfl ?_
                                  exact ih222 (Int.toNat (60 - (v222_11 + 1))) (by omega) _ ht66 1 (v222_11 + 1) ⟨by omega, by omega, by omega, by omega, by omega, by (first | exact vk_0 (hid_o (by assumption)) | exact vk_st (by assumption) (by omega) (by omega) (by omega) (by rw [← sh_at wt (60 * x1) (v := v155_6) (by omega), ← sh_at wt (60 * x1) (v := v222_11) (by omega)]; first | exact vj_1 (fun h9 => by have h8 := h9.1; omega) | exact vj_1 (fun h9 => by have e8 : v222_11 = v155_6 := (by omega); rw [e8] at h9; have h8 := h9.1; omega) | exact vj_1 (fun h9 => by have h8 := hse264.mp h9.2; omega) | exact vj_0 ⟨by omega, hse264.mpr (by omega)⟩))⟩ (by omega)
                                · refine r_aload_n (pc := 258) dX12_view_258 (i := 0) rfl rfl ?_
                                  refine r_iload_n (pc := 259) dX12_view_259 (i := 1) rfl rfl ?_
                                  refine r_iload (pc := 260) dX12_view_260 rfl ?_
                                  refine r_iload (pc := 262) dX12_view_262 rfl ?_
                                  obtain ⟨fs72, hfs72⟩ := t_obj ht66 (rd_of RX_y)
                                  refine r_callV (pc := 264) (as := [.int (iv x1), .int (iv (60 * x1 + v155_6)), .int (iv (60 * x1 + v222_11))]) (st := []) kX12_194 rfl dX12_view_264 hfs72 (x_X12_sameEnds (d := d - 1) (x1 := x1) (x2 := 60 * x1 + v155_6) (x3 := 60 * x1 + v222_11) (by omega) (by assumption) (by assumption) (by assumption) ht66 (by omega) (by omega) (by omega) (fun _ _ _ h => h)) rfl (by omega) (Nat.le_of_ble_eq_true rfl) (Nat.zero_le _) (Nat.zero_le _) rfl (fun r69 hp68 n70 hq71 => ?_)
                                  obtain ⟨hnn70, r9_74, ht73, hrr69, hhq710⟩ := hq71
                                  subst n70 r69
                                  have hhq710 : (r9_74 = 1 ∧ ((fr (Int.toNat (60 * x1 + v155_6)) = fr (Int.toNat (60 * x1 + v222_11)) ∧ tt (Int.toNat (60 * x1 + v155_6)) = tt (Int.toNat (60 * x1 + v222_11))) ∨ (dr (Int.toNat x1) = 0 ∧ fr (Int.toNat (60 * x1 + v155_6)) = tt (Int.toNat (60 * x1 + v222_11)) ∧ tt (Int.toNat (60 * x1 + v155_6)) = fr (Int.toNat (60 * x1 + v222_11))))) ∨ (r9_74 = 0 ∧ ¬ ((fr (Int.toNat (60 * x1 + v155_6)) = fr (Int.toNat (60 * x1 + v222_11)) ∧ tt (Int.toNat (60 * x1 + v155_6)) = tt (Int.toNat (60 * x1 + v222_11))) ∨ (dr (Int.toNat x1) = 0 ∧ fr (Int.toNat (60 * x1 + v155_6)) = tt (Int.toNat (60 * x1 + v222_11)) ∧ tt (Int.toNat (60 * x1 + v155_6)) = fr (Int.toNat (60 * x1 + v222_11))))) := hhq710
                                  change Rn _ _ _ 267 _ [.int (iv r9_74)] _ _ _ _ _
                                  have hse264 : seP (dr (Int.toNat x1)) (sh fr (60 * x1)) (sh tt (60 * x1)) (Int.toNat v155_6) (Int.toNat v222_11) ↔ r9_74 = 1 := by unfold seP; rw [← sh_at fr (60 * x1) (v := v155_6) (by omega), ← sh_at tt (60 * x1) (v := v155_6) (by omega), ← sh_at fr (60 * x1) (v := v222_11) (by omega), ← sh_at tt (60 * x1) (v := v222_11) (by omega)]; omega
                                  refine t_if_eq (pc := 267) (tgt := 311) dX12_view_267 (by decide) (by omega) (fun c267 => ?_) (fun c267 => ?_)
                                  · refine r_iconst (pc := 311) (v := iv 1) dX12_view_311 (by decide) ?_
                                    refine r_goto (pc := 312) (tgt := 316) dX12_view_312 (by decide) ?_
                                    refine r_istore (pc := 316) (lv' := [(10, .int (iv 1)), (12, .int (iv (60 * x1 + v222_11))), (0, .ref y), (1, .int (iv x1)), (2, .int (iv x2)), (3, .int (iv x3)), (4, .int (iv (sz (Int.toNat x1)))), (5, .int (iv u106_0)), (6, .int (iv v155_6)), (7, .int (iv (60 * x1 + v155_6))), (8, .int (iv (fr (Int.toNat (60 * x1 + v155_6))))), (9, .int (iv (tt (Int.toNat (60 * x1 + v155_6))))), (11, .int (iv v222_11))]) dX12_view_316 (by decide) rfl ?_
                                    refine r_iinc (pc := 318) (v := iv (v222_11 + 1)) (lv' := [(11, .int (iv (v222_11 + 1))), (10, .int (iv 1)), (12, .int (iv (60 * x1 + v222_11))), (0, .ref y), (1, .int (iv x1)), (2, .int (iv x2)), (3, .int (iv x3)), (4, .int (iv (sz (Int.toNat x1)))), (5, .int (iv u106_0)), (6, .int (iv v155_6)), (7, .int (iv (60 * x1 + v155_6))), (8, .int (iv (fr (Int.toNat (60 * x1 + v155_6))))), (9, .int (iv (tt (Int.toNat (60 * x1 + v155_6)))))]) dX12_view_318 rfl (iv_add _ _) (by decide) rfl ?_
                                    refine r_goto (pc := 321) (tgt := 222) dX12_view_321 (by decide) ?_
                                    refine Rn.pick (lv' := [(0, .ref y), (1, .int (iv x1)), (2, .int (iv x2)), (3, .int (iv x3)), (4, .int (iv (sz (Int.toNat x1)))), (5, .int (iv u106_0)), (6, .int (iv v155_6)), (7, .int (iv (60 * x1 + v155_6))), (8, .int (iv (fr (Int.toNat (60 * x1 + v155_6))))), (9, .int (iv (tt (Int.toNat (60 * x1 + v155_6))))), (10, .int (iv 1)), (11, .int (iv (v222_11 + 1)))]) [3, 4, 5, 6, 7, 8, 9, 10, 11, 12, 1, 0] rfl ?_
                                    exact ih222 (Int.toNat (60 - (v222_11 + 1))) (by omega) _ ht73 1 (v222_11 + 1) ⟨by omega, by omega, by omega, by omega, by omega, by (first | exact vk_0 (hid_o (by assumption)) | exact vk_st (by assumption) (by omega) (by omega) (by omega) (by rw [← sh_at wt (60 * x1) (v := v155_6) (by omega), ← sh_at wt (60 * x1) (v := v222_11) (by omega)]; first | exact vj_1 (fun h9 => by have h8 := h9.1; omega) | exact vj_1 (fun h9 => by have e8 : v222_11 = v155_6 := (by omega); rw [e8] at h9; have h8 := h9.1; omega) | exact vj_1 (fun h9 => by have h8 := hse264.mp h9.2; omega) | exact vj_0 ⟨by omega, hse264.mpr (by omega)⟩))⟩ (by omega)
                                  · refine r_aload_n (pc := 270) dX12_view_270 (i := 0) rfl rfl ?_
                                    refine t_getE (pc := 271) (.ref (y + 7)) ht73 (rd_of RX_y) fX12_29 dX12_view_271 rfl ?_
                                    refine r_iload (pc := 274) dX12_view_274 rfl ?_
                                    refine t_ialdX (pc := 276) (t0 := 0) ht73 (rd_of RX_weight) dX12_view_276 rfl (by decide) (by omega) (fun b75 => ?_)
                                    have rb75 := (show Rfx 7260 (-1000) 1000 wt by assumption) (Int.toNat (60 * x1 + v222_11)) (by omega)
                                    refine r_aload_n (pc := 277) dX12_view_277 (i := 0) rfl rfl ?_
                                    refine t_getE (pc := 278) (.ref (y + 7)) ht73 (rd_of RX_y) fX12_29 dX12_view_278 rfl ?_
                                    refine r_iload (pc := 281) dX12_view_281 rfl ?_
                                    refine t_ialdX (pc := 283) (t0 := 0) ht73 (rd_of RX_weight) dX12_view_283 rfl (by decide) (by omega) (fun b76 => ?_)
                                    have rb76 := (show Rfx 7260 (-1000) 1000 wt by assumption) (Int.toNat (60 * x1 + v155_6)) (by omega)
                                    refine t_icmp_gt (pc := 284) (tgt := 311) dX12_view_284 (by decide) (by omega) (by omega) (fun c284 => ?_) (fun c284 => ?_)
                                    · refine r_iconst (pc := 311) (v := iv 1) dX12_view_311 (by decide) ?_
                                      refine r_goto (pc := 312) (tgt := 316) dX12_view_312 (by decide) ?_
                                      refine r_istore (pc := 316) (lv' := [(10, .int (iv 1)), (12, .int (iv (60 * x1 + v222_11))), (0, .ref y), (1, .int (iv x1)), (2, .int (iv x2)), (3, .int (iv x3)), (4, .int (iv (sz (Int.toNat x1)))), (5, .int (iv u106_0)), (6, .int (iv v155_6)), (7, .int (iv (60 * x1 + v155_6))), (8, .int (iv (fr (Int.toNat (60 * x1 + v155_6))))), (9, .int (iv (tt (Int.toNat (60 * x1 + v155_6))))), (11, .int (iv v222_11))]) dX12_view_316 (by decide) rfl ?_
                                      refine r_iinc (pc := 318) (v := iv (v222_11 + 1)) (lv' := [(11, .int (iv (v222_11 + 1))), (10, .int (iv 1)), (12, .int (iv (60 * x1 + v222_11))), (0, .ref y), (1, .int (iv x1)), (2, .int (iv x2)), (3, .int (iv x3)), (4, .int (iv (sz (Int.toNat x1)))), (5, .int (iv u106_0)), (6, .int (iv v155_6)), (7, .int (iv (60 * x1 + v155_6))), (8, .int (iv (fr (Int.toNat (60 * x1 + v155_6))))), (9, .int (iv (tt (Int.toNat (60 * x1 + v155_6)))))]) dX12_view_318 rfl (iv_add _ _) (by decide) rfl ?_
                                      refine r_goto (pc := 321) (tgt := 222) dX12_view_321 (by decide) ?_
                                      refine Rn.pick (lv' := [(0, .ref y), (1, .int (iv x1)), (2, .int (iv x2)), (3, .int (iv x3)), (4, .int (iv (sz (Int.toNat x1)))), (5, .int (iv u106_0)), (6, .int (iv v155_6)), (7, .int (iv (60 * x1 + v155_6))), (8, .int (iv (fr (Int.toNat (60 * x1 + v155_6))))), (9, .int (iv (tt (Int.toNat (60 * x1 + v155_6))))), (10, .int (iv 1)), (11, .int (iv (v222_11 + 1)))]) [3, 4, 5, 6, 7, 8, 9, 10, 11, 12, 1, 0] rfl ?_
                                      exact ih222 (Int.toNat (60 - (v222_11 + 1))) (by omega) _ ht73 1 (v222_11 + 1) ⟨by omega, by omega, by omega, by omega, by omega, by (first | exact vk_0 (hid_o (by assumption)) | exact vk_st (by assumption) (by omega) (by omega) (by omega) (by rw [← sh_at wt (60 * x1) (v := v155_6) (by omega), ← sh_at wt (60 * x1) (v := v222_11) (by omega)]; first | exact vj_1 (fun h9 => by have h8 := h9.1; omega) | exact vj_1 (fun h9 => by have e8 : v222_11 = v155_6 := (by omega); rw [e8] at h9; have h8 := h9.1; omega) | exact vj_1 (fun h9 => by have h8 := hse264.mp h9.2; omega) | exact vj_0 ⟨by omega, hse264.mpr (by omega)⟩))⟩ (by omega)
                                    · refine r_aload_n (pc := 287) dX12_view_287 (i := 0) rfl rfl ?_
                                      refine t_getE (pc := 288) (.ref (y + 7)) ht73 (rd_of RX_y) fX12_29 dX12_view_288 rfl ?_
                                      refine r_iload (pc := 291) dX12_view_291 rfl ?_
                                      refine t_ialdX (pc := 293) (t0 := 0) ht73 (rd_of RX_weight) dX12_view_293 rfl (by decide) (by omega) (fun b77 => ?_)
                                      have rb77 := (show Rfx 7260 (-1000) 1000 wt by assumption) (Int.toNat (60 * x1 + v222_11)) (by omega)
                                      refine r_aload_n (pc := 294) dX12_view_294 (i := 0) rfl rfl ?_
                                      refine t_getE (pc := 295) (.ref (y + 7)) ht73 (rd_of RX_y) fX12_29 dX12_view_295 rfl ?_
                                      refine r_iload (pc := 298) dX12_view_298 rfl ?_
                                      refine t_ialdX (pc := 300) (t0 := 0) ht73 (rd_of RX_weight) dX12_view_300 rfl (by decide) (by omega) (fun b78 => ?_)
                                      have rb78 := (show Rfx 7260 (-1000) 1000 wt by assumption) (Int.toNat (60 * x1 + v155_6)) (by omega)
                                      refine t_icmp_ne (pc := 301) (tgt := 315) dX12_view_301 (by decide) (by omega) (by omega) (fun c301 => ?_) (fun c301 => ?_)
                                      · refine r_iconst (pc := 315) (v := iv 0) dX12_view_315 (by decide) ?_
                                        refine r_istore (pc := 316) (lv' := [(10, .int (iv 0)), (12, .int (iv (60 * x1 + v222_11))), (0, .ref y), (1, .int (iv x1)), (2, .int (iv x2)), (3, .int (iv x3)), (4, .int (iv (sz (Int.toNat x1)))), (5, .int (iv u106_0)), (6, .int (iv v155_6)), (7, .int (iv (60 * x1 + v155_6))), (8, .int (iv (fr (Int.toNat (60 * x1 + v155_6))))), (9, .int (iv (tt (Int.toNat (60 * x1 + v155_6))))), (11, .int (iv v222_11))]) dX12_view_316 (by decide) rfl ?_
                                        refine r_iinc (pc := 318) (v := iv (v222_11 + 1)) (lv' := [(11, .int (iv (v222_11 + 1))), (10, .int (iv 0)), (12, .int (iv (60 * x1 + v222_11))), (0, .ref y), (1, .int (iv x1)), (2, .int (iv x2)), (3, .int (iv x3)), (4, .int (iv (sz (Int.toNat x1)))), (5, .int (iv u106_0)), (6, .int (iv v155_6)), (7, .int (iv (60 * x1 + v155_6))), (8, .int (iv (fr (Int.toNat (60 * x1 + v155_6))))), (9, .int (iv (tt (Int.toNat (60 * x1 + v155_6)))))]) dX12_view_318 rfl (iv_add _ _) (by decide) rfl ?_
                                        refine r_goto (pc := 321) (tgt := 222) dX12_view_321 (by decide) ?_
                                        refine Rn.pick (lv' := [(0, .ref y), (1, .int (iv x1)), (2, .int (iv x2)), (3, .int (iv x3)), (4, .int (iv (sz (Int.toNat x1)))), (5, .int (iv u106_0)), (6, .int (iv v155_6)), (7, .int (iv (60 * x1 + v155_6))), (8, .int (iv (fr (Int.toNat (60 * x1 + v155_6))))), (9, .int (iv (tt (Int.toNat (60 * x1 + v155_6))))), (10, .int (iv 0)), (11, .int (iv (v222_11 + 1)))]) [3, 4, 5, 6, 7, 8, 9, 10, 11, 12, 1, 0] rfl ?_
                                        exact ih222 (Int.toNat (60 - (v222_11 + 1))) (by omega) _ ht73 0 (v222_11 + 1) ⟨by omega, by omega, by omega, by omega, by omega, by (first | exact vk_0 (hid_o (by assumption)) | exact vk_st (by assumption) (by omega) (by omega) (by omega) (by rw [← sh_at wt (60 * x1) (v := v155_6) (by omega), ← sh_at wt (60 * x1) (v := v222_11) (by omega)]; first | exact vj_1 (fun h9 => by have h8 := h9.1; omega) | exact vj_1 (fun h9 => by have e8 : v222_11 = v155_6 := (by omega); rw [e8] at h9; have h8 := h9.1; omega) | exact vj_1 (fun h9 => by have h8 := hse264.mp h9.2; omega) | exact vj_0 ⟨by omega, hse264.mpr (by omega)⟩))⟩ (by omega)
                                      · refine r_iload (pc := 304) dX12_view_304 rfl ?_
                                        refine r_iload (pc := 306) dX12_view_306 rfl ?_
                                        refine t_icmp_le (pc := 308) (tgt := 315) dX12_view_308 (by decide) (by omega) (by omega) (fun c308 => ?_) (fun c308 => ?_)
                                        · refine r_iconst (pc := 315) (v := iv 0) dX12_view_315 (by decide) ?_
                                          refine r_istore (pc := 316) (lv' := [(10, .int (iv 0)), (12, .int (iv (60 * x1 + v222_11))), (0, .ref y), (1, .int (iv x1)), (2, .int (iv x2)), (3, .int (iv x3)), (4, .int (iv (sz (Int.toNat x1)))), (5, .int (iv u106_0)), (6, .int (iv v155_6)), (7, .int (iv (60 * x1 + v155_6))), (8, .int (iv (fr (Int.toNat (60 * x1 + v155_6))))), (9, .int (iv (tt (Int.toNat (60 * x1 + v155_6))))), (11, .int (iv v222_11))]) dX12_view_316 (by decide) rfl ?_
                                          refine r_iinc (pc := 318) (v := iv (v222_11 + 1)) (lv' := [(11, .int (iv (v222_11 + 1))), (10, .int (iv 0)), (12, .int (iv (60 * x1 + v222_11))), (0, .ref y), (1, .int (iv x1)), (2, .int (iv x2)), (3, .int (iv x3)), (4, .int (iv (sz (Int.toNat x1)))), (5, .int (iv u106_0)), (6, .int (iv v155_6)), (7, .int (iv (60 * x1 + v155_6))), (8, .int (iv (fr (Int.toNat (60 * x1 + v155_6))))), (9, .int (iv (tt (Int.toNat (60 * x1 + v155_6)))))]) dX12_view_318 rfl (iv_add _ _) (by decide) rfl ?_
                                          refine r_goto (pc := 321) (tgt := 222) dX12_view_321 (by decide) ?_
                                          refine Rn.pick (lv' := [(0, .ref y), (1, .int (iv x1)), (2, .int (iv x2)), (3, .int (iv x3)), (4, .int (iv (sz (Int.toNat x1)))), (5, .int (iv u106_0)), (6, .int (iv v155_6)), (7, .int (iv (60 * x1 + v155_6))), (8, .int (iv (fr (Int.toNat (60 * x1 + v155_6))))), (9, .int (iv (tt (Int.toNat (60 * x1 + v155_6))))), (10, .int (iv 0)), (11, .int (iv (v222_11 + 1)))]) [3, 4, 5, 6, 7, 8, 9, 10, 11, 12, 1, 0] rfl ?_
                                          exact ih222 (Int.toNat (60 - (v222_11 + 1))) (by omega) _ ht73 0 (v222_11 + 1) ⟨by omega, by omega, by omega, by omega, by omega, by (first | exact vk_0 (hid_o (by assumption)) | exact vk_st (by assumption) (by omega) (by omega) (by omega) (by rw [← sh_at wt (60 * x1) (v := v155_6) (by omega), ← sh_at wt (60 * x1) (v := v222_11) (by omega)]; first | exact vj_1 (fun h9 => by have h8 := h9.1; omega) | exact vj_1 (fun h9 => by have e8 : v222_11 = v155_6 := (by omega); rw [e8] at h9; have h8 := h9.1; omega) | exact vj_1 (fun h9 => by have h8 := hse264.mp h9.2; omega) | exact vj_0 ⟨by omega, hse264.mpr (by omega)⟩))⟩ (by omega)
                                        · refine r_iconst (pc := 311) (v := iv 1) dX12_view_311 (by decide) ?_
                                          refine r_goto (pc := 312) (tgt := 316) dX12_view_312 (by decide) ?_
                                          refine r_istore (pc := 316) (lv' := [(10, .int (iv 1)), (12, .int (iv (60 * x1 + v222_11))), (0, .ref y), (1, .int (iv x1)), (2, .int (iv x2)), (3, .int (iv x3)), (4, .int (iv (sz (Int.toNat x1)))), (5, .int (iv u106_0)), (6, .int (iv v155_6)), (7, .int (iv (60 * x1 + v155_6))), (8, .int (iv (fr (Int.toNat (60 * x1 + v155_6))))), (9, .int (iv (tt (Int.toNat (60 * x1 + v155_6))))), (11, .int (iv v222_11))]) dX12_view_316 (by decide) rfl ?_
                                          refine r_iinc (pc := 318) (v := iv (v222_11 + 1)) (lv' := [(11, .int (iv (v222_11 + 1))), (10, .int (iv 1)), (12, .int (iv (60 * x1 + v222_11))), (0, .ref y), (1, .int (iv x1)), (2, .int (iv x2)), (3, .int (iv x3)), (4, .int (iv (sz (Int.toNat x1)))), (5, .int (iv u106_0)), (6, .int (iv v155_6)), (7, .int (iv (60 * x1 + v155_6))), (8, .int (iv (fr (Int.toNat (60 * x1 + v155_6))))), (9, .int (iv (tt (Int.toNat (60 * x1 + v155_6)))))]) dX12_view_318 rfl (iv_add _ _) (by decide) rfl ?_
                                          refine r_goto (pc := 321) (tgt := 222) dX12_view_321 (by decide) ?_
                                          refine Rn.pick (lv' := [(0, .ref y), (1, .int (iv x1)), (2, .int (iv x2)), (3, .int (iv x3)), (4, .int (iv (sz (Int.toNat x1)))), (5, .int (iv u106_0)), (6, .int (iv v155_6)), (7, .int (iv (60 * x1 + v155_6))), (8, .int (iv (fr (Int.toNat (60 * x1 + v155_6))))), (9, .int (iv (tt (Int.toNat (60 * x1 + v155_6))))), (10, .int (iv 1)), (11, .int (iv (v222_11 + 1)))]) [3, 4, 5, 6, 7, 8, 9, 10, 11, 12, 1, 0] rfl ?_
                                          exact ih222 (Int.toNat (60 - (v222_11 + 1))) (by omega) _ ht73 1 (v222_11 + 1) ⟨by omega, by omega, by omega, by omega, by omega, by (first | exact vk_0 (hid_o (by assumption)) | exact vk_st (by assumption) (by omega) (by omega) (by omega) (by rw [← sh_at wt (60 * x1) (v := v155_6) (by omega), ← sh_at wt (60 * x1) (v := v222_11) (by omega)]; first | exact vj_1 (fun h9 => by have h8 := h9.1; omega) | exact vj_1 (fun h9 => by have e8 : v222_11 = v155_6 := (by omega); rw [e8] at h9; have h8 := h9.1; omega) | exact vj_1 (fun h9 => by have h8 := hse264.mp h9.2; omega) | exact vj_0 ⟨by omega, hse264.mpr (by omega)⟩))⟩ (by omega)
                        refine Rn.pick (lv' := [(0, .ref y), (1, .int (iv x1)), (2, .int (iv x2)), (3, .int (iv x3)), (4, .int (iv (sz (Int.toNat x1)))), (5, .int (iv u106_0)), (6, .int (iv v155_6)), (7, .int (iv (60 * x1 + v155_6))), (8, .int (iv (fr (Int.toNat (60 * x1 + v155_6))))), (9, .int (iv (tt (Int.toNat (60 * x1 + v155_6))))), (10, .int (iv v219_10)), (11, .int (iv 0))]) [1, 2, 3, 4, 5, 6, 7, 8, 9, 10, 11, 0] rfl ?_
                        exact B222 (Int.toNat (60 - 0)) _ ht219 v219_10 0 ⟨by omega, by omega, by omega, by omega, by omega, by (first | exact vk_0 (hid_o (by assumption)) | exact vk_st (by assumption) (by omega) (by omega) (by omega) (by rw [← sh_at wt (60 * x1) (v := v155_6) (by omega), ← sh_at wt (60 * x1) (v := v222_11) (by omega)]; first | exact vj_1 (fun h9 => by have h8 := h9.1; omega) | exact vj_1 (fun h9 => by have e8 : v222_11 = v155_6 := (by omega); rw [e8] at h9; have h8 := h9.1; omega) | exact vj_1 (fun h9 => by have h8 := hse264.mp h9.2; omega) | exact vj_0 ⟨by omega, hse264.mpr (by omega)⟩))⟩ (by omega)
                      refine t_icmp_eq (pc := 197) (tgt := 205) dX12_view_197 (by decide) (by omega) (by omega) (fun c197 => ?_) (fun c197 => ?_)
                      · refine r_iload (pc := 205) dX12_view_205 rfl ?_
                        refine r_iload (pc := 207) dX12_view_207 rfl ?_
                        refine t_icmp_eq (pc := 209) (tgt := 216) dX12_view_209 (by decide) (by omega) (by omega) (fun c209 => ?_) (fun c209 => ?_)
                        · refine r_iconst (pc := 216) (v := iv 0) dX12_view_216 (by decide) ?_
                          refine r_istore (pc := 217) (lv' := [(10, .int (iv 0)), (9, .int (iv (tt (Int.toNat (60 * x1 + v155_6))))), (8, .int (iv (fr (Int.toNat (60 * x1 + v155_6))))), (7, .int (iv (60 * x1 + v155_6))), (0, .ref y), (1, .int (iv x1)), (2, .int (iv x2)), (3, .int (iv x3)), (4, .int (iv (sz (Int.toNat x1)))), (5, .int (iv u106_0)), (6, .int (iv v155_6))]) dX12_view_217 (by decide) rfl ?_
                          refine Rn.pick (lv' := [(0, .ref y), (1, .int (iv x1)), (2, .int (iv x2)), (3, .int (iv x3)), (4, .int (iv (sz (Int.toNat x1)))), (5, .int (iv u106_0)), (6, .int (iv v155_6)), (7, .int (iv (60 * x1 + v155_6))), (8, .int (iv (fr (Int.toNat (60 * x1 + v155_6))))), (9, .int (iv (tt (Int.toNat (60 * x1 + v155_6))))), (10, .int (iv 0))]) [4, 5, 6, 7, 8, 9, 10, 3, 2, 1, 0] rfl ?_
                          exact B219 _ ht42 0 ⟨by omega, by omega, by (rw [← sh_at fr (60 * x1) (v := v155_6) (by omega), ← sh_at tt (60 * x1) (v := v155_6) (by omega)]; exact hid_i (by omega))⟩
                        · refine r_iconst (pc := 212) (v := iv 1) dX12_view_212 (by decide) ?_
                          refine r_goto (pc := 213) (tgt := 217) dX12_view_213 (by decide) ?_
                          refine r_istore (pc := 217) (lv' := [(10, .int (iv 1)), (9, .int (iv (tt (Int.toNat (60 * x1 + v155_6))))), (8, .int (iv (fr (Int.toNat (60 * x1 + v155_6))))), (7, .int (iv (60 * x1 + v155_6))), (0, .ref y), (1, .int (iv x1)), (2, .int (iv x2)), (3, .int (iv x3)), (4, .int (iv (sz (Int.toNat x1)))), (5, .int (iv u106_0)), (6, .int (iv v155_6))]) dX12_view_217 (by decide) rfl ?_
                          refine Rn.pick (lv' := [(0, .ref y), (1, .int (iv x1)), (2, .int (iv x2)), (3, .int (iv x3)), (4, .int (iv (sz (Int.toNat x1)))), (5, .int (iv u106_0)), (6, .int (iv v155_6)), (7, .int (iv (60 * x1 + v155_6))), (8, .int (iv (fr (Int.toNat (60 * x1 + v155_6))))), (9, .int (iv (tt (Int.toNat (60 * x1 + v155_6))))), (10, .int (iv 1))]) [4, 5, 6, 7, 8, 9, 10, 3, 2, 1, 0] rfl ?_
                          exact B219 _ ht42 1 ⟨by omega, by omega, by (rw [← sh_at fr (60 * x1) (v := v155_6) (by omega), ← sh_at tt (60 * x1) (v := v155_6) (by omega)]; exact hid_i (by omega))⟩
                      · refine r_iload_n (pc := 200) dX12_view_200 (i := 2) rfl rfl ?_
                        refine r_iconst (pc := 201) (v := iv 3) dX12_view_201 (by decide) ?_
                        refine t_icmp_ne (pc := 202) (tgt := 219) dX12_view_202 (by decide) (by omega) (by omega) (fun c202 => ?_) (fun c202 => ?_)
                        · refine Rn.pick (lv' := [(0, .ref y), (1, .int (iv x1)), (2, .int (iv x2)), (3, .int (iv x3)), (4, .int (iv (sz (Int.toNat x1)))), (5, .int (iv u106_0)), (6, .int (iv v155_6)), (7, .int (iv (60 * x1 + v155_6))), (8, .int (iv (fr (Int.toNat (60 * x1 + v155_6))))), (9, .int (iv (tt (Int.toNat (60 * x1 + v155_6))))), (10, .int (iv 1))]) [4, 5, 6, 7, 8, 9, 10, 3, 2, 1, 0] rfl ?_
                          exact B219 _ ht42 1 ⟨by omega, by omega, by (rw [← sh_at fr (60 * x1) (v := v155_6) (by omega), ← sh_at tt (60 * x1) (v := v155_6) (by omega)]; exact hid_i (by omega))⟩
                        · refine r_iload (pc := 205) dX12_view_205 rfl ?_
                          refine r_iload (pc := 207) dX12_view_207 rfl ?_
                          refine t_icmp_eq (pc := 209) (tgt := 216) dX12_view_209 (by decide) (by omega) (by omega) (fun c209 => ?_) (fun c209 => ?_)
                          · refine r_iconst (pc := 216) (v := iv 0) dX12_view_216 (by decide) ?_
                            refine r_istore (pc := 217) (lv' := [(10, .int (iv 0)), (9, .int (iv (tt (Int.toNat (60 * x1 + v155_6))))), (8, .int (iv (fr (Int.toNat (60 * x1 + v155_6))))), (7, .int (iv (60 * x1 + v155_6))), (0, .ref y), (1, .int (iv x1)), (2, .int (iv x2)), (3, .int (iv x3)), (4, .int (iv (sz (Int.toNat x1)))), (5, .int (iv u106_0)), (6, .int (iv v155_6))]) dX12_view_217 (by decide) rfl ?_
                            refine Rn.pick (lv' := [(0, .ref y), (1, .int (iv x1)), (2, .int (iv x2)), (3, .int (iv x3)), (4, .int (iv (sz (Int.toNat x1)))), (5, .int (iv u106_0)), (6, .int (iv v155_6)), (7, .int (iv (60 * x1 + v155_6))), (8, .int (iv (fr (Int.toNat (60 * x1 + v155_6))))), (9, .int (iv (tt (Int.toNat (60 * x1 + v155_6))))), (10, .int (iv 0))]) [4, 5, 6, 7, 8, 9, 10, 3, 2, 1, 0] rfl ?_
                            exact B219 _ ht42 0 ⟨by omega, by omega, by (rw [← sh_at fr (60 * x1) (v := v155_6) (by omega), ← sh_at tt (60 * x1) (v := v155_6) (by omega)]; exact hid_i (by omega))⟩
                          · refine r_iconst (pc := 212) (v := iv 1) dX12_view_212 (by decide) ?_
                            refine r_goto (pc := 213) (tgt := 217) dX12_view_213 (by decide) ?_
                            refine r_istore (pc := 217) (lv' := [(10, .int (iv 1)), (9, .int (iv (tt (Int.toNat (60 * x1 + v155_6))))), (8, .int (iv (fr (Int.toNat (60 * x1 + v155_6))))), (7, .int (iv (60 * x1 + v155_6))), (0, .ref y), (1, .int (iv x1)), (2, .int (iv x2)), (3, .int (iv x3)), (4, .int (iv (sz (Int.toNat x1)))), (5, .int (iv u106_0)), (6, .int (iv v155_6))]) dX12_view_217 (by decide) rfl ?_
                            refine Rn.pick (lv' := [(0, .ref y), (1, .int (iv x1)), (2, .int (iv x2)), (3, .int (iv x3)), (4, .int (iv (sz (Int.toNat x1)))), (5, .int (iv u106_0)), (6, .int (iv v155_6)), (7, .int (iv (60 * x1 + v155_6))), (8, .int (iv (fr (Int.toNat (60 * x1 + v155_6))))), (9, .int (iv (tt (Int.toNat (60 * x1 + v155_6))))), (10, .int (iv 1))]) [4, 5, 6, 7, 8, 9, 10, 3, 2, 1, 0] rfl ?_
                            exact B219 _ ht42 1 ⟨by omega, by omega, by (rw [← sh_at fr (60 * x1) (v := v155_6) (by omega), ← sh_at tt (60 * x1) (v := v155_6) (by omega)]; exact hid_i (by omega))⟩
                  refine Rn.pick (lv' := [(0, .ref y), (1, .int (iv x1)), (2, .int (iv x2)), (3, .int (iv x3)), (4, .int (iv (sz (Int.toNat x1)))), (5, .int (iv u106_0)), (6, .int (iv 0))]) [2, 3, 4, 5, 6, 1, 0] rfl ?_
                  exact B155 (Int.toNat (60 - 0)) 0 nf nt nw nc _ ht106 0 ⟨by omega, by omega, by omega, by omega, by omega, by omega, by assumption, by (first | assumption | exact PL_y (by assumption) (by omega) hrow | exact PL_n (by assumption) (by omega) (sel_n (fun h9 => absurd ((by assumption : v379_10 ≠ 0 ↔ kpP (Int.toNat (mn (Int.toNat x1))) (dr (Int.toNat x1)) (sh fr (60 * x1)) (sh tt (60 * x1)) (sh wt (60 * x1)) x2 x3 (Int.toNat v155_6)).mpr h9) (by omega))))⟩ (by omega)
                · have hx7 := hid_o (by assumption : hid (x2 = 7 → 1 ≤ (mn (Int.toNat x1)) ∧ (mn (Int.toNat x1)) ≤ 16)) (by omega)
                  refine r_aload_n (pc := 134) dX12_view_134 (i := 0) rfl rfl ?_
                  refine r_iload_n (pc := 135) dX12_view_135 (i := 1) rfl rfl ?_
                  obtain ⟨fs83, hfs83⟩ := t_obj ht106 (rd_of RX_y)
                  refine r_callV (pc := 136) (as := [.int (iv x1)]) (st := []) kX12_191 rfl dX12_view_136 hfs83 (x_X12_line (d := d - 1) (x1 := x1) (by omega) (by assumption) (by assumption) (by assumption) (by assumption) (by omega) ht106 (by omega) (by omega) (by omega) (fun _ _ _ h => h)) rfl (by omega) (Nat.le_of_ble_eq_true rfl) (Nat.zero_le _) (Nat.zero_le _) rfl (fun r80 hp79 n81 hq82 => ?_)
                  obtain ⟨hnn81, nf1_85, nt1_86, nw1_87, nc1_88, m1_89, ht84, hrr80, hhq820, hhq821, hhq822⟩ := hq82
                  subst n81 r80
                  have hhq820 : 0 ≤ m1_89 ∧ m1_89 ≤ 256 := hhq820
                  have hhq821 : arP nf1_85 nt1_86 nw1_87 nc1_88 m1_89 (mn (Int.toNat x1)) := hhq821
                  have hhq822 : PL (acc (lnL (Int.toNat (mn (Int.toNat x1))) (dr (Int.toNat x1)) (sh fr (60 * x1)) (sh tt (60 * x1))) (Int.toNat (mn (Int.toNat x1)))) m1_89 nf1_85 nt1_86 nw1_87 nc1_88 := hhq822
                  change Rn _ _ _ 139 _ [] _ _ _ _ _
                  refine r_aload_n (pc := 139) dX12_view_139 (i := 0) rfl rfl ?_
                  refine r_aload_n (pc := 140) dX12_view_140 (i := 0) rfl rfl ?_
                  refine t_getE (pc := 141) (.ref (y + 4)) ht84 (rd_of RX_y) fX12_20 dX12_view_141 rfl ?_
                  refine r_iload_n (pc := 144) dX12_view_144 (i := 1) rfl rfl ?_
                  refine t_ialdX (pc := 145) (t0 := 0) ht84 (rd_of RX_many) dX12_view_145 rfl (by decide) (by omega) (fun b90 => ?_)
                  have rb90 := (show Rfx 121 0 60 mn by assumption) (Int.toNat x1) (by omega)
                  refine r_iload (pc := 146) dX12_view_146 rfl ?_
                  obtain ⟨fs95, hfs95⟩ := t_obj ht84 (rd_of RX_y)
                  refine r_callV (pc := 148) (as := [.int (iv (mn (Int.toNat x1))), .int (iv u106_0)]) (st := []) kX12_179 rfl dX12_view_148 hfs95 (x_X12_made (d := d - 1) (x1 := mn (Int.toNat x1)) (x2 := u106_0) (by omega) (RK_set hk (by omega) (by omega)) ht84 (by omega) (by omega) (fun _ => hhq821) (fun _ _ _ h => h)) rfl (by omega) (Nat.le_of_ble_eq_true rfl) (Nat.zero_le _) (Nat.zero_le _) rfl (fun r92 hp91 n93 hq94 => ?_)
                  obtain ⟨hnn93, h_97, v_98, c1_99, s1_100, z1_101, d1_102, m1_103, f1_104, t1_105, w1_106, o1_107, ht96, hrr92, hhq940, hhq941, hhq942, hhq943⟩ := hq94
                  subst n93 r92
                  have hhq940 : (60 < m1_89 ∨ cn = 120) → h_97 = -4 ∧ v_98 = -4 ∧ c1_99 = cn := hhq940
                  have hhq941 : (60 < m1_89 ∨ cn = 120) → s1_100 = so ∧ z1_101 = sz ∧ d1_102 = dr ∧ m1_103 = mn ∧ f1_104 = fr ∧ t1_105 = tt ∧ w1_106 = wt ∧ o1_107 = co := hhq941
                  have hhq942 : m1_89 ≤ 60 ∧ cn < 120 → h_97 = cn ∧ v_98 = v_7 ∧ c1_99 = cn + 1 := hhq942
                  have hhq943 : m1_89 ≤ 60 ∧ cn < 120 → s1_100 = fup so (Int.toNat cn) 1 ∧ z1_101 = fup sz (Int.toNat cn) (mn (Int.toNat x1)) ∧ d1_102 = fup dr (Int.toNat cn) u106_0 ∧ m1_103 = fup mn (Int.toNat cn) m1_89 ∧ f1_104 = kcF nf1_85 fr (Int.toNat (60 * cn)) (Int.toNat m1_89) ∧ t1_105 = kcF nt1_86 tt (Int.toNat (60 * cn)) (Int.toNat m1_89) ∧ w1_106 = kcF nw1_87 wt (Int.toNat (60 * cn)) (Int.toNat m1_89) ∧ o1_107 = kcF nc1_88 co (Int.toNat (60 * cn)) (Int.toNat m1_89) := hhq943
                  change Rn _ _ _ 151 _ [.int (iv h_97)] _ _ _ _ _
                  obtain ⟨hRKm, hDFm, hhm⟩ := RK_made (x1 := mn (Int.toNat x1)) (x2 := u106_0) (RK_set (nm1 := m1_89) (nu1 := nu) (nf1 := nf1_85) (nt1 := nt1_86) (nw1 := nw1_87) (nc1 := nc1_88) hk (by omega) (by omega)) (by omega) (by omega) (fun _ => hhq821) hhq940 hhq941 hhq942 hhq943
                  obtain ⟨hnwA, hnwB, hnwC, hnwD, hnwE⟩ := mk_new (x1 := mn (Int.toNat x1)) (x2 := u106_0) (l := (vwL (Int.toNat (sz (Int.toNat x1))) (Int.toNat (mn (Int.toNat x1))) (dr (Int.toNat x1)) (sh fr (60 * x1)) (sh tt (60 * x1)) (sh wt (60 * x1)) (sh co (60 * x1)) x2 x3)) (by unfold vwL; rw [if_neg (by omega), if_pos (by omega)]; exact hhq822) (by omega) hhq940 hhq941 hhq942 hhq943 (by omega)
                  clear hhq940 hhq941 hhq942 hhq943
                  exact r_iret (pc := 151) dX12_view_151 rfl (hPo _ _ _ ⟨rfl, v_98, c1_99, m1_89, s1_100, z1_101, d1_102, m1_103, f1_104, t1_105, w1_106, o1_107, nf1_85, nt1_86, nw1_87, nc1_88, h_97, ht96, rfl, (by (first | assumption | exact RK_set hk (by omega) (by omega))), (by (first | assumption | exact df_r _ _ _ _ _ _ _)), (by omega), (by first | exact an1_m hnwA (by omega) (by omega) | exact an1_r (by omega)), (by (intro h9; first | (exfalso; omega) | exact ⟨rfl, rfl, rfl, rfl, rfl, rfl, rfl, rfl, rfl⟩ | exact hnwB h9)), (by (intro h9; first | (exfalso; omega) | (have h8 := hnwC h9; exact GNw_c h8 (by first | assumption | omega | ((repeat' split) <;> omega)) (by first | assumption | omega)))), (by (first | omega | exact ⟨hnwD, fun h9 => (hnwE h9).trans (by omega)⟩))⟩)
              · refine r_aload_n (pc := 114) dX12_view_114 (i := 0) rfl rfl ?_
                refine r_iload_n (pc := 115) dX12_view_115 (i := 1) rfl rfl ?_
                obtain ⟨fs112, hfs112⟩ := t_obj ht106 (rd_of RX_y)
                refine r_callV (pc := 116) (as := [.int (iv x1)]) (st := []) kX12_187 rfl dX12_view_116 hfs112 (x_X12_square (d := d - 1) (x1 := x1) (by omega) (by assumption) (by assumption) (by assumption) (by assumption) (by assumption) (by assumption) (by omega) ht106 (by omega) (by assumption) (by omega) (fun _ _ _ h => h)) rfl (by omega) (Nat.le_of_ble_eq_true rfl) (Nat.zero_le _) (Nat.zero_le _) rfl (fun r109 hp108 n110 hq111 => ?_)
                obtain ⟨hnn110, nf1_114, nt1_115, nw1_116, nc1_117, m1_118, ht113, hrr109, hhq1110, hhq1111, hhq1112⟩ := hq111
                subst n110 r109
                have hhq1110 : 0 ≤ m1_118 ∧ m1_118 ≤ 256 := hhq1110
                have hhq1111 : arP nf1_114 nt1_115 nw1_116 nc1_117 m1_118 (sz (Int.toNat x1)) := hhq1111
                have hhq1112 : PL (acc (sqL (Int.toNat (sz (Int.toNat x1))) (Int.toNat (mn (Int.toNat x1))) (dr (Int.toNat x1)) (sh fr (60 * x1)) (sh tt (60 * x1)) (sh wt (60 * x1))) (Int.toNat (sz (Int.toNat x1)))) m1_118 nf1_114 nt1_115 nw1_116 nc1_117 := hhq1112
                change Rn _ _ _ 119 _ [] _ _ _ _ _
                refine r_aload_n (pc := 119) dX12_view_119 (i := 0) rfl rfl ?_
                refine r_iload (pc := 120) dX12_view_120 rfl ?_
                refine r_iload (pc := 122) dX12_view_122 rfl ?_
                obtain ⟨fs123, hfs123⟩ := t_obj ht113 (rd_of RX_y)
                refine r_callV (pc := 124) (as := [.int (iv (sz (Int.toNat x1))), .int (iv u106_0)]) (st := []) kX12_179 rfl dX12_view_124 hfs123 (x_X12_made (d := d - 1) (x1 := sz (Int.toNat x1)) (x2 := u106_0) (by omega) (RK_set hk (by omega) (by omega)) ht113 (by omega) (by omega) (fun _ => hhq1111) (fun _ _ _ h => h)) rfl (by omega) (Nat.le_of_ble_eq_true rfl) (Nat.zero_le _) (Nat.zero_le _) rfl (fun r120 hp119 n121 hq122 => ?_)
                obtain ⟨hnn121, h_125, v_126, c1_127, s1_128, z1_129, d1_130, m1_131, f1_132, t1_133, w1_134, o1_135, ht124, hrr120, hhq1220, hhq1221, hhq1222, hhq1223⟩ := hq122
                subst n121 r120
                have hhq1220 : (60 < m1_118 ∨ cn = 120) → h_125 = -4 ∧ v_126 = -4 ∧ c1_127 = cn := hhq1220
                have hhq1221 : (60 < m1_118 ∨ cn = 120) → s1_128 = so ∧ z1_129 = sz ∧ d1_130 = dr ∧ m1_131 = mn ∧ f1_132 = fr ∧ t1_133 = tt ∧ w1_134 = wt ∧ o1_135 = co := hhq1221
                have hhq1222 : m1_118 ≤ 60 ∧ cn < 120 → h_125 = cn ∧ v_126 = v_7 ∧ c1_127 = cn + 1 := hhq1222
                have hhq1223 : m1_118 ≤ 60 ∧ cn < 120 → s1_128 = fup so (Int.toNat cn) 1 ∧ z1_129 = fup sz (Int.toNat cn) (sz (Int.toNat x1)) ∧ d1_130 = fup dr (Int.toNat cn) u106_0 ∧ m1_131 = fup mn (Int.toNat cn) m1_118 ∧ f1_132 = kcF nf1_114 fr (Int.toNat (60 * cn)) (Int.toNat m1_118) ∧ t1_133 = kcF nt1_115 tt (Int.toNat (60 * cn)) (Int.toNat m1_118) ∧ w1_134 = kcF nw1_116 wt (Int.toNat (60 * cn)) (Int.toNat m1_118) ∧ o1_135 = kcF nc1_117 co (Int.toNat (60 * cn)) (Int.toNat m1_118) := hhq1223
                change Rn _ _ _ 127 _ [.int (iv h_125)] _ _ _ _ _
                obtain ⟨hRKm, hDFm, hhm⟩ := RK_made (x1 := sz (Int.toNat x1)) (x2 := u106_0) (RK_set (nm1 := m1_118) (nu1 := nu) (nf1 := nf1_114) (nt1 := nt1_115) (nw1 := nw1_116) (nc1 := nc1_117) hk (by omega) (by omega)) (by omega) (by omega) (fun _ => hhq1111) hhq1220 hhq1221 hhq1222 hhq1223
                obtain ⟨hnwA, hnwB, hnwC, hnwD, hnwE⟩ := mk_new (x1 := sz (Int.toNat x1)) (x2 := u106_0) (l := (vwL (Int.toNat (sz (Int.toNat x1))) (Int.toNat (mn (Int.toNat x1))) (dr (Int.toNat x1)) (sh fr (60 * x1)) (sh tt (60 * x1)) (sh wt (60 * x1)) (sh co (60 * x1)) x2 x3)) (by unfold vwL; rw [if_pos (by omega)]; exact hhq1112) (by omega) hhq1220 hhq1221 hhq1222 hhq1223 (by omega)
                clear hhq1220 hhq1221 hhq1222 hhq1223
                exact r_iret (pc := 127) dX12_view_127 rfl (hPo _ _ _ ⟨rfl, v_126, c1_127, m1_118, s1_128, z1_129, d1_130, m1_131, f1_132, t1_133, w1_134, o1_135, nf1_114, nt1_115, nw1_116, nc1_117, h_125, ht124, rfl, (by (first | assumption | exact RK_set hk (by omega) (by omega))), (by (first | assumption | exact df_r _ _ _ _ _ _ _)), (by omega), (by first | exact an1_m hnwA (by omega) (by omega) | exact an1_r (by omega)), (by (intro h9; first | (exfalso; omega) | exact ⟨rfl, rfl, rfl, rfl, rfl, rfl, rfl, rfl, rfl⟩ | exact hnwB h9)), (by (intro h9; first | (exfalso; omega) | (have h8 := hnwC h9; exact GNw_c h8 (by first | assumption | omega | ((repeat' split) <;> omega)) (by first | assumption | omega)))), (by (first | omega | exact ⟨hnwD, fun h9 => (hnwE h9).trans (by omega)⟩))⟩)
            refine t_if_eq (pc := 93) (tgt := 105) dX12_view_93 (by decide) (by omega) (fun c93 => ?_) (fun c93 => ?_)
            · refine r_iconst (pc := 105) (v := iv 0) dX12_view_105 (by decide) ?_
              refine Rn.pick (lv' := [(0, .ref y), (1, .int (iv x1)), (2, .int (iv x2)), (3, .int (iv x3)), (4, .int (iv (sz (Int.toNat x1))))]) [0, 1, 2, 3, 4] rfl ?_
              exact B106 _ ht18 0 ⟨by omega, by omega, by omega⟩
            · refine r_iload_n (pc := 96) dX12_view_96 (i := 2) rfl rfl ?_
              refine r_iconst (pc := 97) (v := iv 1) dX12_view_97 (by decide) ?_
              refine t_icmp_eq (pc := 98) (tgt := 105) dX12_view_98 (by decide) (by omega) (by omega) (fun c98 => ?_) (fun c98 => ?_)
              · refine r_iconst (pc := 105) (v := iv 0) dX12_view_105 (by decide) ?_
                refine Rn.pick (lv' := [(0, .ref y), (1, .int (iv x1)), (2, .int (iv x2)), (3, .int (iv x3)), (4, .int (iv (sz (Int.toNat x1))))]) [0, 1, 2, 3, 4] rfl ?_
                exact B106 _ ht18 0 ⟨by omega, by omega, by omega⟩
              · refine r_iconst (pc := 101) (v := iv 1) dX12_view_101 (by decide) ?_
                refine r_goto (pc := 102) (tgt := 106) dX12_view_102 (by decide) ?_
                refine Rn.pick (lv' := [(0, .ref y), (1, .int (iv x1)), (2, .int (iv x2)), (3, .int (iv x3)), (4, .int (iv (sz (Int.toNat x1))))]) [0, 1, 2, 3, 4] rfl ?_
                exact B106 _ ht18 1 ⟨by omega, by omega, by omega⟩
          refine t_icmp_ne (pc := 52) (tgt := 82) dX12_view_52 (by decide) (by omega) (by omega) (fun c52 => ?_) (fun c52 => ?_)
          · refine Rn.pick (lv' := [(0, .ref y), (1, .int (iv x1)), (2, .int (iv x2)), (3, .int (iv x3)), (4, .int (iv (sz (Int.toNat x1))))]) [0, 1, 2, 3, 4] rfl ?_
            exact B82 _ ht49 (by exact hid_i (by omega))
          · refine r_aload_n (pc := 55) dX12_view_55 (i := 0) rfl rfl ?_
            refine t_getE (pc := 56) (.ref (y + 4)) ht49 (rd_of RX_y) fX12_20 dX12_view_56 rfl ?_
            refine r_iload_n (pc := 59) dX12_view_59 (i := 1) rfl rfl ?_
            refine t_ialdX (pc := 60) (t0 := 0) ht49 (rd_of RX_many) dX12_view_60 rfl (by decide) (by omega) (fun b136 => ?_)
            have rb136 := (show Rfx 121 0 60 mn by assumption) (Int.toNat x1) (by omega)
            refine t_if_eq (pc := 61) (tgt := 75) dX12_view_61 (by decide) (by omega) (fun c61 => ?_) (fun c61 => ?_)
            · refine Rn.pick (lv' := [(0, .ref y)]) [0] rfl ?_
              exact B75 _ ht49 (by omega)
            · refine r_aload_n (pc := 64) dX12_view_64 (i := 0) rfl rfl ?_
              refine t_getE (pc := 65) (.ref (y + 4)) ht49 (rd_of RX_y) fX12_20 dX12_view_65 rfl ?_
              refine r_iload_n (pc := 68) dX12_view_68 (i := 1) rfl rfl ?_
              refine t_ialdX (pc := 69) (t0 := 0) ht49 (rd_of RX_many) dX12_view_69 rfl (by decide) (by omega) (fun b137 => ?_)
              have rb137 := (show Rfx 121 0 60 mn by assumption) (Int.toNat x1) (by omega)
              refine r_bipush (pc := 70) (v := iv 16) dX12_view_70 (by decide) ?_
              refine t_icmp_le (pc := 72) (tgt := 82) dX12_view_72 (by decide) (by omega) (by omega) (fun c72 => ?_) (fun c72 => ?_)
              · refine Rn.pick (lv' := [(0, .ref y), (1, .int (iv x1)), (2, .int (iv x2)), (3, .int (iv x3)), (4, .int (iv (sz (Int.toNat x1))))]) [0, 1, 2, 3, 4] rfl ?_
                exact B82 _ ht49 (by exact hid_i (by omega))
              · refine Rn.pick (lv' := [(0, .ref y)]) [0] rfl ?_
                exact B75 _ ht49 (by omega)
        refine t_icmp_ne (pc := 34) (tgt := 49) dX12_view_34 (by decide) (by omega) (by omega) (fun c34 => ?_) (fun c34 => ?_)
        · refine Rn.pick (lv' := [(0, .ref y), (1, .int (iv x1)), (2, .int (iv x2)), (3, .int (iv x3)), (4, .int (iv (sz (Int.toNat x1))))]) [1, 2, 3, 4, 0] rfl ?_
          exact B49 _ ht6 ⟨by exact hid_i (by omega), by exact hid_i (by omega)⟩
        · refine r_iload_n (pc := 37) dX12_view_37 (i := 3) rfl rfl ?_
          refine t_if_le (pc := 38) (tgt := 75) dX12_view_38 (by decide) (by omega) (fun c38 => ?_) (fun c38 => ?_)
          · refine Rn.pick (lv' := [(0, .ref y)]) [1] rfl ?_
            exact B75 _ ht6 (by omega)
          · refine r_iload_n (pc := 41) dX12_view_41 (i := 3) rfl rfl ?_
            refine r_iconst (pc := 42) (v := iv 1) dX12_view_42 (by decide) ?_
            refine r_iload (pc := 43) dX12_view_43 rfl ?_
            refine r_ishl (pc := 45) (v := iv ((2 ^ Int.toNat (sz (Int.toNat x1)) : Nat) : Int)) dX12_view_45 (shl_e (by omega)) ?_
            have mp45_138 : 1 ≤ 2 ^ Int.toNat (sz (Int.toNat x1)) := Nat.one_le_two_pow
            have mq45_139 : 2 ^ Int.toNat (sz (Int.toNat x1)) ≤ 2 ^ 16 := Nat.pow_le_pow_right (by omega) (by omega)
            have ms45 := Me_shl (Int.toNat (sz (Int.toNat x1)))
            refine t_icmp_ge (pc := 46) (tgt := 75) dX12_view_46 (by decide) (by omega) (by omega) (fun c46 => ?_) (fun c46 => ?_)
            · refine Rn.pick (lv' := [(0, .ref y)]) [1] rfl ?_
              exact B75 _ ht6 (by omega)
            · refine Rn.pick (lv' := [(0, .ref y), (1, .int (iv x1)), (2, .int (iv x2)), (3, .int (iv x3)), (4, .int (iv (sz (Int.toNat x1))))]) [1, 2, 3, 4, 0] rfl ?_
              exact B49 _ ht6 ⟨by exact hid_i (by omega), by exact hid_i (by omega)⟩
  · refine r_aload_n (pc := 9) dX12_view_9 (i := 0) rfl rfl ?_
    refine t_getE (pc := 10) (.int (iv v_7)) ht6 (rd_of RX_y) fX12_142 dX12_view_10 rfl ?_
    exact r_iret (pc := 13) dX12_view_13 rfl (hPo _ _ _ ⟨rfl, v_7, cn, nm, so, sz, dr, mn, fr, tt, wt, co, nf, nt, nw, nc, v_7, ht6, rfl, (by (first | assumption | exact RK_set hk (by omega) (by omega))), (by (first | assumption | exact df_r _ _ _ _ _ _ _)), (by omega), (by first | exact an1_m hnwA (by omega) (by omega) | exact an1_r (by omega)), (by (intro h9; first | (exfalso; omega) | exact ⟨rfl, rfl, rfl, rfl, rfl, rfl, rfl, rfl, rfl⟩ | exact hnwB h9)), (by (intro h9; first | (exfalso; omega) | (have h8 := hnwC h9; exact GNw_c h8 (by first | assumption | omega | ((repeat' split) <;> omega)) (by first | assumption | omega)))), (by (first | omega | exact ⟨hnwD, fun h9 => (hnwE h9).trans (by omega)⟩))⟩)
