set_option maxHeartbeats 4000000 in
set_option maxRecDepth 100000 in
theorem x_X12_flat {D : va_G} {cI cJ cZ cT : ClassId} {lo b L : Nat} {xs : Nat → Int32} {hp : MH} {n d : Nat} {Γ : TG} {y : Nat} {rf cn nm : Int} {so sz dr mn fr tt wt co : Nat → Int} {nu : Nat → Int64} {sa : Nat → Int} {wo : Nat → Int64} {ln : Nat → Int} {hw : Nat → Int64} {ro qi qc nf nt nw nc : Nat → Int} {cl nx : Nat → Int64} {ie be sd bl : Nat → Int} {bs wy ra rb : Nat → Int64} {lb bg os js ls : Nat → Int} {sp : Nat → Int64} {jw go : Nat → Int} {de : Nat → Int64} {yb ah im : Nat → Int} {x1 x3 : Int} {j2 j4 : Int64} {Po9 : Option Value → MH → Nat → Prop} (hd0 : 3 ≤ d) (hk : RK rf cn nm so sz dr mn fr tt wt co nu qi qc nf nt nw nc) (ht : Tw (RX Γ cI cJ cZ y rf cn nm so sz dr mn fr tt wt co nu sa wo ln hw ro qi qc nf nt nw nc cl nx ie be sd bl bs wy ra rb lb bg os js ls sp jw go de yb ah im) hp) (hx1 : (-2147483648) ≤ x1 ∧ x1 ≤ 2147483647) (hx3 : (-2147483648) ≤ x3 ∧ x3 ≤ 2147483647) (hPo : ∀ r hp1 n1, (n1 = n ∧ ∃ (rf' : Int) (cn' : Int) (so' : Nat → Int) (sz' : Nat → Int) (nu' : Nat → Int64) (cl' : Nat → Int64) (v' : Int), Tw (RX Γ cI cJ cZ y rf' cn' nm so' sz' dr mn fr tt wt co nu' sa wo ln hw ro qi qc nf nt nw nc cl' nx ie be sd bl bs wy ra rb lb bg os js ls sp jw go de yb ah im) hp1 ∧ r = some (.int (iv v')) ∧ (RK rf' cn' nm so' sz' dr mn fr tt wt co nu' qi qc nf nt nw nc) ∧ (dfE sz dr mn fr tt wt co sz' dr mn fr tt wt co) ∧ (-2147483648 ≤ v' ∧ v' ≤ 2147483647) ∧ (v' = hdQ (x1 < 1 ∨ 16 < x1 ∨ x3 < -1 ∨ x1 ≤ x3) (-3) (hdQ (cn = 120) (-4) cn)) ∧ (v' < 0 → SmC cn cn' so sz so' sz' nu nu') ∧ (0 ≤ v' → CNw cn cn' so sz so' sz' nu nu' x1 (ftV j2 x3 j4)) ∧ ((v' < 0 → rf' = v') ∧ (0 ≤ v' → rf' = 0))) → Po9 r hp1 n1) : Mt (gG D cI cJ cZ cT lo b L xs) mX12_flat d 0 0 [.ref y, .int (iv x1), .long j2, .int (iv x3), .long j4] hp n Po9 := by
  refine Mt.of rfl (Nat.le_of_ble_eq_true rfl) ?_
  refine Rn.pick (lv' := [(0, .ref y), (1, .int (iv x1)), (2, .long j2), (4, .int (iv x3)), (5, .long j4)]) [0, 1, 2, 3, 4] rfl ?_
  obtain ⟨hR_sorts, hR_sizes, hR_directs, hR_many, hR_from, hR_to, hR_weight, hR_cost, hR_inPart, hR_partCount, hcn, hrf, hnm, hdf, hgr, hpa, hsz⟩ := id hk
  refine r_aload_n (pc := 0) dX12_flat_0 (i := 0) rfl rfl ?_
  refine r_iconst (pc := 1) (v := iv 0) dX12_flat_1 (by decide) ?_
  refine t_putX (pc := 2) (ty := .int) ht RX_y fX12_142 tyX12 tyX12_ok nmX12 (by decide +kernel) (Or.inl rfl) dX12_flat_2 (Nat.le_of_ble_eq_true rfl) rfl rfl rfl (fun hp1 ht2 => ?_)
  have ht3 := RXw_rf ht2
  refine r_iload_n (pc := 5) dX12_flat_5 (i := 1) rfl rfl ?_
  refine r_iconst (pc := 6) (v := iv 1) dX12_flat_6 (by decide) ?_
  have B28 : ∀ hp28 : MH, Tw (RX Γ cI cJ cZ y 0 cn nm so sz dr mn fr tt wt co nu sa wo ln hw ro qi qc nf nt nw nc cl nx ie be sd bl bs wy ra rb lb bg os js ls sp jw go de yb ah im) hp28 → ((x1 < 1 ∨ 16 < x1 ∨ x3 < -1 ∨ x1 ≤ x3)) → Rn (gG D cI cJ cZ cT lo b L xs) mX12_flat d 28 [(0, .ref y)] [] hp28 n 0 0 Po9 := by
    intro hp28 ht28 hf28
    refine r_aload_n (pc := 28) dX12_flat_28 (i := 0) rfl rfl ?_
    refine r_bipush (pc := 29) (v := iv (-3)) dX12_flat_29 (by decide) ?_
    obtain ⟨fs8, hfs8⟩ := t_obj ht28 (rd_of RX_y)
    refine r_callV (pc := 31) (as := [.int (iv (-3))]) (st := []) kX12_153 rfl dX12_flat_31 hfs8 (x_X12_refuse (d := d - 1) (x1 := (-3)) (by omega) ht28 (by omega) (fun _ _ _ h => h)) rfl (by omega) (Nat.le_of_ble_eq_true rfl) (Nat.zero_le _) (Nat.zero_le _) rfl (fun r5 hp4 n6 hq7 => ?_)
    obtain ⟨hnn6, ht9, hrr5⟩ := hq7
    subst n6 r5
    change Rn _ _ _ 34 _ [.int (iv (-3))] _ _ _ _ _
    exact r_iret (pc := 34) dX12_flat_34 rfl (hPo _ _ _ ⟨rfl, (-3), cn, so, sz, nu, cl, (-3), ht9, rfl, (by (first | assumption | exact RK_set hk (by omega) (by omega))), (by (first | assumption | exact df_r _ _ _ _ _ _ _)), (by omega), (by (first | exact (hdQ_y (by omega)).symm | (rw [hdQ_n (by omega)]; exact hnwA))), (by (intro h9; first | (exfalso; omega) | exact ⟨rfl, rfl, rfl, rfl⟩ | exact hnwB h9)), (by (intro h9; first | (exfalso; omega) | exact CNw_eq (hnwC h9) (eqB_le (v := v38_7) (by assumption) (by omega)))), (by (first | omega | exact ⟨hnwD, fun h9 => (hnwE h9).trans (by omega)⟩))⟩)
  refine t_icmp_lt (pc := 7) (tgt := 28) dX12_flat_7 (by decide) (by omega) (by omega) (fun c7 => ?_) (fun c7 => ?_)
  · refine Rn.pick (lv' := [(0, .ref y)]) [0] rfl ?_
    exact B28 _ ht3 (by omega)
  · refine r_iload_n (pc := 10) dX12_flat_10 (i := 1) rfl rfl ?_
    refine r_bipush (pc := 11) (v := iv 16) dX12_flat_11 (by decide) ?_
    refine t_icmp_gt (pc := 13) (tgt := 28) dX12_flat_13 (by decide) (by omega) (by omega) (fun c13 => ?_) (fun c13 => ?_)
    · refine Rn.pick (lv' := [(0, .ref y)]) [0] rfl ?_
      exact B28 _ ht3 (by omega)
    · refine r_iload (pc := 16) dX12_flat_16 rfl ?_
      refine r_iconst (pc := 18) (v := iv (-1)) dX12_flat_18 (by decide) ?_
      refine t_icmp_lt (pc := 19) (tgt := 28) dX12_flat_19 (by decide) (by omega) (by omega) (fun c19 => ?_) (fun c19 => ?_)
      · refine Rn.pick (lv' := [(0, .ref y)]) [0] rfl ?_
        exact B28 _ ht3 (by omega)
      · refine r_iload (pc := 22) dX12_flat_22 rfl ?_
        refine r_iload_n (pc := 24) dX12_flat_24 (i := 1) rfl rfl ?_
        refine t_icmp_lt (pc := 25) (tgt := 35) dX12_flat_25 (by decide) (by omega) (by omega) (fun c25 => ?_) (fun c25 => ?_)
        · refine r_iconst (pc := 35) (v := iv 0) dX12_flat_35 (by decide) ?_
          refine r_istore (pc := 36) (lv' := [(7, .int (iv 0)), (0, .ref y), (1, .int (iv x1)), (2, .long j2), (4, .int (iv x3)), (5, .long j4)]) dX12_flat_36 (by decide) rfl ?_
          have B38 : ∀ k : Nat, ∀ cl38 : Nat → Int64, ∀ hp38 : MH, Tw (RX Γ cI cJ cZ y 0 cn nm so sz dr mn fr tt wt co nu sa wo ln hw ro qi qc nf nt nw nc cl38 nx ie be sd bl bs wy ra rb lb bg os js ls sp jw go de yb ah im) hp38 → ∀  (v38_7 : Int), 0 ≤ v38_7 ∧ v38_7 ≤ 16 ∧ (eqB cl38 (ftV j2 x3 j4) v38_7) → 16 - v38_7 ≤ (k : Int) → Rn (gG D cI cJ cZ cT lo b L xs) mX12_flat d 38 [(0, .ref y), (1, .int (iv x1)), (2, .long j2), (4, .int (iv x3)), (5, .long j4), (7, .int (iv v38_7))] [] hp38 n 0 0 Po9 := by
            refine lpS _ ?_
            intro k38 ih38 cl38 hp38 ht38 v38_7 hf38 hm38
            obtain ⟨hf38_0, hf38_1, ha38_2⟩ := hf38
            refine r_iload (pc := 38) dX12_flat_38 rfl ?_
            refine r_iload_n (pc := 40) dX12_flat_40 (i := 1) rfl rfl ?_
            refine t_icmp_ge (pc := 41) (tgt := 70) dX12_flat_41 (by decide) (by omega) (by omega) (fun c41 => ?_) (fun c41 => ?_)
            · refine r_aload_n (pc := 70) dX12_flat_70 (i := 0) rfl rfl ?_
              refine r_iload_n (pc := 71) dX12_flat_71 (i := 1) rfl rfl ?_
              obtain ⟨fs14, hfs14⟩ := t_obj ht38 (rd_of RX_y)
              refine r_callV (pc := 72) (as := [.int (iv x1)]) (st := []) kX12_228 rfl dX12_flat_72 hfs14 (x_X12_madeColumn (d := d - 1) (x1 := x1) (by omega) (by omega) (by assumption) (by omega) (by assumption) ht38 (by omega) (fun _ _ _ h => h)) rfl (by omega) (Nat.le_of_ble_eq_true rfl) (Nat.zero_le _) (Nat.zero_le _) rfl (fun r11 hp10 n12 hq13 => ?_)
              obtain ⟨hnn12, h_16, v_17, c1_18, s1_19, z1_20, u1_21, ht15, hrr11, hhq130, hhq131, hhq132, hhq133, hhq134, hhq135⟩ := hq13
              subst n12 r11
              have hhq130 : cn = 120 → h_16 = -4 ∧ v_17 = -4 ∧ c1_18 = cn := hhq130
              have hhq131 : cn = 120 → s1_19 = so ∧ z1_20 = sz := hhq131
              have hhq132 : cn < 120 → h_16 = cn ∧ v_17 = 0 ∧ c1_18 = cn + 1 := hhq132
              have hhq133 : cn < 120 → s1_19 = fup so (Int.toNat cn) 2 ∧ z1_20 = fup sz (Int.toNat cn) x1 := hhq133
              have hhq134 : cn = 120 → u1_21 = nu := hhq134
              have hhq135 : cn < 120 → u1_21 = kjF cl38 nu (Int.toNat (16 * cn)) (Int.toNat x1) := hhq135
              change Rn _ _ _ 75 _ [.int (iv h_16)] _ _ _ _ _
              obtain ⟨hRKm, hDFm, hhm⟩ := RK_col (nu := nu) (x1 := x1) (u1 := u1_21) (RK_set (nf1 := nf) (nt1 := nt) (nw1 := nw) (nc1 := nc) hk (by omega) (by omega)) (by omega) hhq130 hhq131 hhq132 hhq133
              obtain ⟨hnwA, hnwB, hnwC, hnwD, hnwE⟩ := mk_col (x1 := x1) (by omega) (by omega) hhq130 hhq131 hhq132 hhq133 hhq134 hhq135
              clear hhq130 hhq131 hhq132 hhq133 hhq134 hhq135
              exact r_iret (pc := 75) dX12_flat_75 rfl (hPo _ _ _ ⟨rfl, v_17, c1_18, s1_19, z1_20, u1_21, cl38, h_16, ht15, rfl, (by (first | assumption | exact RK_set hk (by omega) (by omega))), (by (first | assumption | exact df_r _ _ _ _ _ _ _)), (by omega), (by (first | exact (hdQ_y (by omega)).symm | (rw [hdQ_n (by omega)]; exact hnwA))), (by (intro h9; first | (exfalso; omega) | exact ⟨rfl, rfl, rfl, rfl⟩ | exact hnwB h9)), (by (intro h9; first | (exfalso; omega) | exact CNw_eq (hnwC h9) (eqB_le (v := v38_7) (by assumption) (by omega)))), (by (first | omega | exact ⟨hnwD, fun h9 => (hnwE h9).trans (by omega)⟩))⟩)
            · refine r_aload_n (pc := 44) dX12_flat_44 (i := 0) rfl rfl ?_
              refine t_getE (pc := 45) (.ref (y + 21)) ht38 (rd_of RX_y) fX12_72 dX12_flat_45 rfl ?_
              refine r_iload (pc := 48) dX12_flat_48 rfl ?_
              refine r_iload (pc := 50) dX12_flat_50 rfl ?_
              refine r_iload (pc := 52) dX12_flat_52 rfl ?_
              refine t_icmp_ne (pc := 54) (tgt := 62) dX12_flat_54 (by decide) (by omega) (by omega) (fun c54 => ?_) (fun c54 => ?_)
              · refine r_lload_n (pc := 62) dX12_flat_62 (i := 2) rfl rfl ?_
                refine t_lastX (pc := 63) (t0 := 1) ht38 RX_column dX12_flat_63 rfl (by decide) (by omega) (fun hp22 ht23 => ?_)
                have ht24 := RXw_cl ht23
                refine r_iinc (pc := 64) (v := iv (v38_7 + 1)) (lv' := [(7, .int (iv (v38_7 + 1))), (0, .ref y), (1, .int (iv x1)), (2, .long j2), (4, .int (iv x3)), (5, .long j4)]) dX12_flat_64 rfl (iv_add _ _) (by decide) rfl ?_
                refine r_goto (pc := 67) (tgt := 38) dX12_flat_67 (by decide) ?_
                refine Rn.pick (lv' := [(0, .ref y), (1, .int (iv x1)), (2, .long j2), (4, .int (iv x3)), (5, .long j4), (7, .int (iv (v38_7 + 1)))]) [1, 2, 3, 4, 5, 0] rfl ?_
                exact ih38 (Int.toNat (16 - (v38_7 + 1))) (by omega) (fuj cl38 (Int.toNat v38_7) j2) _ ht24 (v38_7 + 1) ⟨by omega, by omega, by (first | exact eqB_0 _ _ | exact eqB_up (by assumption) (by omega) (by unfold ftV; rw [Int.toNat_of_nonneg (show (0 : Int) ≤ v38_7 by omega)]; first | rw [if_pos (by omega)] | rw [if_neg (by omega)]))⟩ (by omega)
              · refine r_lload (pc := 57) dX12_flat_57 rfl ?_
                refine r_goto (pc := 59) (tgt := 63) dX12_flat_59 (by decide) ?_
                refine t_lastX (pc := 63) (t0 := 1) ht38 RX_column dX12_flat_63 rfl (by decide) (by omega) (fun hp25 ht26 => ?_)
                have ht27 := RXw_cl ht26
                refine r_iinc (pc := 64) (v := iv (v38_7 + 1)) (lv' := [(7, .int (iv (v38_7 + 1))), (0, .ref y), (1, .int (iv x1)), (2, .long j2), (4, .int (iv x3)), (5, .long j4)]) dX12_flat_64 rfl (iv_add _ _) (by decide) rfl ?_
                refine r_goto (pc := 67) (tgt := 38) dX12_flat_67 (by decide) ?_
                refine Rn.pick (lv' := [(0, .ref y), (1, .int (iv x1)), (2, .long j2), (4, .int (iv x3)), (5, .long j4), (7, .int (iv (v38_7 + 1)))]) [1, 2, 3, 4, 5, 0] rfl ?_
                exact ih38 (Int.toNat (16 - (v38_7 + 1))) (by omega) (fuj cl38 (Int.toNat v38_7) j4) _ ht27 (v38_7 + 1) ⟨by omega, by omega, by (first | exact eqB_0 _ _ | exact eqB_up (by assumption) (by omega) (by unfold ftV; rw [Int.toNat_of_nonneg (show (0 : Int) ≤ v38_7 by omega)]; first | rw [if_pos (by omega)] | rw [if_neg (by omega)]))⟩ (by omega)
          refine Rn.pick (lv' := [(0, .ref y), (1, .int (iv x1)), (2, .long j2), (4, .int (iv x3)), (5, .long j4), (7, .int (iv 0))]) [1, 2, 3, 4, 5, 0] rfl ?_
          exact B38 (Int.toNat (16 - 0)) cl _ ht3 0 ⟨by omega, by omega, by (first | exact eqB_0 _ _ | exact eqB_up (by assumption) (by omega) (by unfold ftV; rw [Int.toNat_of_nonneg (show (0 : Int) ≤ v38_7 by omega)]; first | rw [if_pos (by omega)] | rw [if_neg (by omega)]))⟩ (by omega)
        · refine Rn.pick (lv' := [(0, .ref y)]) [0] rfl ?_
          exact B28 _ ht3 (by omega)
set_option maxHeartbeats 4000000 in
set_option maxRecDepth 100000 in
theorem x_X12_mix {D : va_G} {cI cJ cZ cT : ClassId} {lo b L : Nat} {xs : Nat → Int32} {hp : MH} {n d : Nat} {Γ : TG} {y : Nat} {rf cn nm : Int} {so sz dr mn fr tt wt co : Nat → Int} {nu : Nat → Int64} {sa : Nat → Int} {wo : Nat → Int64} {ln : Nat → Int} {hw : Nat → Int64} {ro qi qc nf nt nw nc : Nat → Int} {cl nx : Nat → Int64} {ie be sd bl : Nat → Int} {bs wy ra rb : Nat → Int64} {lb bg os js ls : Nat → Int} {sp : Nat → Int64} {jw go : Nat → Int} {de : Nat → Int64} {yb ah im : Nat → Int} {x1 x2 x3 : Int} {Po9 : Option Value → MH → Nat → Prop} (hd0 : 3 ≤ d) (hk : RK rf cn nm so sz dr mn fr tt wt co nu qi qc nf nt nw nc) (ht : Tw (RX Γ cI cJ cZ y rf cn nm so sz dr mn fr tt wt co nu sa wo ln hw ro qi qc nf nt nw nc cl nx ie be sd bl bs wy ra rb lb bg os js ls sp jw go de yb ah im) hp) (hx1 : (-2147483648) ≤ x1 ∧ x1 ≤ 2147483647) (hx2 : (-2147483648) ≤ x2 ∧ x2 ≤ 2147483647) (hx3 : (-2147483648) ≤ x3 ∧ x3 ≤ 2147483647) (hPo : ∀ r hp1 n1, (n1 = n ∧ ∃ (rf' : Int) (cn' : Int) (so' : Nat → Int) (sz' : Nat → Int) (nu' : Nat → Int64) (cl' : Nat → Int64) (v' : Int), Tw (RX Γ cI cJ cZ y rf' cn' nm so' sz' dr mn fr tt wt co nu' sa wo ln hw ro qi qc nf nt nw nc cl' nx ie be sd bl bs wy ra rb lb bg os js ls sp jw go de yb ah im) hp1 ∧ r = some (.int (iv v')) ∧ (RK rf' cn' nm so' sz' dr mn fr tt wt co nu' qi qc nf nt nw nc) ∧ (dfE sz dr mn fr tt wt co sz' dr mn fr tt wt co) ∧ (-2147483648 ≤ v' ∧ v' ≤ 2147483647) ∧ (v' = an2 cn so x1 2 x2 2 (x3 < 0 ∨ 6 < x3 ∨ sz (Int.toNat x1) ≠ sz (Int.toNat x2)) (cn = 120)) ∧ (v' < 0 → SmC cn cn' so sz so' sz' nu nu') ∧ (0 ≤ v' → CNw cn cn' so sz so' sz' nu nu' (sz (Int.toNat x1)) (fun v => mxV x3 (sj nu (16 * x1) v) (sj nu (16 * x2) v))) ∧ ((v' < 0 → rf' = v') ∧ (0 ≤ v' → rf' = 0))) → Po9 r hp1 n1) : Mt (gG D cI cJ cZ cT lo b L xs) mX12_mix d 0 0 [.ref y, .int (iv x1), .int (iv x2), .int (iv x3)] hp n Po9 := by
  refine Mt.of rfl (Nat.le_of_ble_eq_true rfl) ?_
  refine Rn.pick (lv' := [(0, .ref y), (1, .int (iv x1)), (2, .int (iv x2)), (3, .int (iv x3))]) [0, 1, 2, 3] rfl ?_
  obtain ⟨hR_sorts, hR_sizes, hR_directs, hR_many, hR_from, hR_to, hR_weight, hR_cost, hR_inPart, hR_partCount, hcn, hrf, hnm, hdf, hgr, hpa, hsz⟩ := id hk
  refine r_aload_n (pc := 0) dX12_mix_0 (i := 0) rfl rfl ?_
  refine r_iload_n (pc := 1) dX12_mix_1 (i := 1) rfl rfl ?_
  refine r_iconst (pc := 2) (v := iv 2) dX12_mix_2 (by decide) ?_
  refine r_iload_n (pc := 3) dX12_mix_3 (i := 2) rfl rfl ?_
  refine r_iconst (pc := 4) (v := iv 2) dX12_mix_4 (by decide) ?_
  obtain ⟨fs5, hfs5⟩ := t_obj ht (rd_of RX_y)
  refine r_callV (pc := 5) (as := [.int (iv x1), .int (iv 2), .int (iv x2), .int (iv 2)]) (st := []) kX12_209 rfl dX12_mix_5 hfs5 (x_X12_haveTwo (d := d - 1) (x1 := x1) (x2 := 2) (x3 := x2) (x4 := 2) (by omega) (by omega) (by assumption) ht (by omega) (by omega) (by omega) (by omega) (fun _ _ _ h => h)) rfl (by omega) (Nat.le_of_ble_eq_true rfl) (Nat.zero_le _) (Nat.zero_le _) rfl (fun r2 hp1 n3 hq4 => ?_)
  obtain ⟨hnn3, v_7, b_8, ht6, hrr2, hhq40, hhq41⟩ := hq4
  subst n3 r2
  have hhq40 : -2 ≤ v_7 ∧ v_7 ≤ 0 ∧ (b_8 = 0 ∨ b_8 = 1) := hhq40
  have hhq41 : (b_8 = 1 ∧ v_7 = 0 ∧ 0 ≤ x1 ∧ x1 < cn ∧ 0 ≤ x2 ∧ x2 < cn ∧ so (Int.toNat x1) = 2 ∧ so (Int.toNat x2) = 2) ∨ (b_8 = 0 ∧ v_7 = -1 ∧ ¬ (0 ≤ x1 ∧ x1 < cn ∧ 0 ≤ x2 ∧ x2 < cn)) ∨ (b_8 = 0 ∧ v_7 = -2 ∧ 0 ≤ x1 ∧ x1 < cn ∧ 0 ≤ x2 ∧ x2 < cn ∧ ¬ (so (Int.toNat x1) = 2 ∧ so (Int.toNat x2) = 2)) := hhq41
  change Rn _ _ _ 8 _ [.int (iv b_8)] _ _ _ _ _
  refine t_if_ne (pc := 8) (tgt := 16) dX12_mix_8 (by decide) (by omega) (fun c8 => ?_) (fun c8 => ?_)
  · have hs8 := Or.resolve_right hhq41 (by omega)
    clear hhq40 hhq41
    have rsz8 := hR_sizes (Int.toNat x1) (by omega)
    have rsy8 := hsz x1 (by omega) (by omega)
    have rsw8 := hR_sizes (Int.toNat x2) (by omega)
    have rsx8 := hsz x2 (by omega) (by omega)
    refine r_iload_n (pc := 16) dX12_mix_16 (i := 3) rfl rfl ?_
    have B41 : ∀ hp41 : MH, Tw (RX Γ cI cJ cZ y v_7 cn nm so sz dr mn fr tt wt co nu sa wo ln hw ro qi qc nf nt nw nc cl nx ie be sd bl bs wy ra rb lb bg os js ls sp jw go de yb ah im) hp41 → ((x3 < 0 ∨ 6 < x3 ∨ sz (Int.toNat x1) ≠ sz (Int.toNat x2))) → Rn (gG D cI cJ cZ cT lo b L xs) mX12_mix d 41 [(0, .ref y)] [] hp41 n 0 0 Po9 := by
      intro hp41 ht41 hf41
      refine r_aload_n (pc := 41) dX12_mix_41 (i := 0) rfl rfl ?_
      refine r_bipush (pc := 42) (v := iv (-3)) dX12_mix_42 (by decide) ?_
      obtain ⟨fs13, hfs13⟩ := t_obj ht41 (rd_of RX_y)
      refine r_callV (pc := 44) (as := [.int (iv (-3))]) (st := []) kX12_153 rfl dX12_mix_44 hfs13 (x_X12_refuse (d := d - 1) (x1 := (-3)) (by omega) ht41 (by omega) (fun _ _ _ h => h)) rfl (by omega) (Nat.le_of_ble_eq_true rfl) (Nat.zero_le _) (Nat.zero_le _) rfl (fun r10 hp9 n11 hq12 => ?_)
      obtain ⟨hnn11, ht14, hrr10⟩ := hq12
      subst n11 r10
      change Rn _ _ _ 47 _ [.int (iv (-3))] _ _ _ _ _
      exact r_iret (pc := 47) dX12_mix_47 rfl (hPo _ _ _ ⟨rfl, (-3), cn, so, sz, nu, cl, (-3), ht14, rfl, (by (first | assumption | exact RK_set hk (by omega) (by omega))), (by (first | assumption | exact df_r _ _ _ _ _ _ _)), (by omega), (by exact an2_b (by omega) (by omega) (by omega)), (by (intro h9; first | (exfalso; omega) | exact ⟨rfl, rfl, rfl, rfl⟩ | exact hnwB h9)), (by (intro h9; first | (exfalso; omega) | exact CNw_eq (hnwC h9) (eqB_le (v := v51_4) (by assumption) (by omega)))), (by (first | omega | exact ⟨hnwD, fun h9 => (hnwE h9).trans (by omega)⟩))⟩)
    refine t_if_lt (pc := 17) (tgt := 41) dX12_mix_17 (by decide) (by omega) (fun c17 => ?_) (fun c17 => ?_)
    · refine Rn.pick (lv' := [(0, .ref y)]) [0] rfl ?_
      exact B41 _ ht6 (by omega)
    · refine r_iload_n (pc := 20) dX12_mix_20 (i := 3) rfl rfl ?_
      refine r_bipush (pc := 21) (v := iv 6) dX12_mix_21 (by decide) ?_
      refine t_icmp_gt (pc := 23) (tgt := 41) dX12_mix_23 (by decide) (by omega) (by omega) (fun c23 => ?_) (fun c23 => ?_)
      · refine Rn.pick (lv' := [(0, .ref y)]) [0] rfl ?_
        exact B41 _ ht6 (by omega)
      · refine r_aload_n (pc := 26) dX12_mix_26 (i := 0) rfl rfl ?_
        refine t_getE (pc := 27) (.ref (y + 2)) ht6 (rd_of RX_y) fX12_13 dX12_mix_27 rfl ?_
        refine r_iload_n (pc := 30) dX12_mix_30 (i := 1) rfl rfl ?_
        refine t_ialdX (pc := 31) (t0 := 0) ht6 (rd_of RX_sizes) dX12_mix_31 rfl (by decide) (by omega) (fun b15 => ?_)
        have rb15 := (show Rfx 121 0 16 sz by assumption) (Int.toNat x1) (by omega)
        refine r_aload_n (pc := 32) dX12_mix_32 (i := 0) rfl rfl ?_
        refine t_getE (pc := 33) (.ref (y + 2)) ht6 (rd_of RX_y) fX12_13 dX12_mix_33 rfl ?_
        refine r_iload_n (pc := 36) dX12_mix_36 (i := 2) rfl rfl ?_
        refine t_ialdX (pc := 37) (t0 := 0) ht6 (rd_of RX_sizes) dX12_mix_37 rfl (by decide) (by omega) (fun b16 => ?_)
        have rb16 := (show Rfx 121 0 16 sz by assumption) (Int.toNat x2) (by omega)
        refine t_icmp_eq (pc := 38) (tgt := 48) dX12_mix_38 (by decide) (by omega) (by omega) (fun c38 => ?_) (fun c38 => ?_)
        · refine r_iconst (pc := 48) (v := iv 0) dX12_mix_48 (by decide) ?_
          refine r_istore (pc := 49) (lv' := [(4, .int (iv 0)), (0, .ref y), (1, .int (iv x1)), (2, .int (iv x2)), (3, .int (iv x3))]) dX12_mix_49 (by decide) rfl ?_
          have B51 : ∀ k : Nat, ∀ cl51 : Nat → Int64, ∀ hp51 : MH, Tw (RX Γ cI cJ cZ y v_7 cn nm so sz dr mn fr tt wt co nu sa wo ln hw ro qi qc nf nt nw nc cl51 nx ie be sd bl bs wy ra rb lb bg os js ls sp jw go de yb ah im) hp51 → ∀  (v51_4 : Int), 0 ≤ v51_4 ∧ v51_4 ≤ 16 ∧ (v51_4 ≤ sz (Int.toNat x1)) ∧ (eqB cl51 (fun v => mxV x3 (sj nu (16 * x1) v) (sj nu (16 * x2) v)) v51_4) → 16 - v51_4 ≤ (k : Int) → Rn (gG D cI cJ cZ cT lo b L xs) mX12_mix d 51 [(0, .ref y), (1, .int (iv x1)), (2, .int (iv x2)), (3, .int (iv x3)), (4, .int (iv v51_4))] [] hp51 n 0 0 Po9 := by
            refine lpS _ ?_
            intro k51 ih51 cl51 hp51 ht51 v51_4 hf51 hm51
            obtain ⟨hf51_0, hf51_1, hf51_2, ha51_3⟩ := hf51
            refine r_iload (pc := 51) dX12_mix_51 rfl ?_
            refine r_aload_n (pc := 53) dX12_mix_53 (i := 0) rfl rfl ?_
            refine t_getE (pc := 54) (.ref (y + 2)) ht51 (rd_of RX_y) fX12_13 dX12_mix_54 rfl ?_
            refine r_iload_n (pc := 57) dX12_mix_57 (i := 1) rfl rfl ?_
            refine t_ialdX (pc := 58) (t0 := 0) ht51 (rd_of RX_sizes) dX12_mix_58 rfl (by decide) (by omega) (fun b17 => ?_)
            have rb17 := (show Rfx 121 0 16 sz by assumption) (Int.toNat x1) (by omega)
            refine t_icmp_ge (pc := 59) (tgt := 213) dX12_mix_59 (by decide) (by omega) (by omega) (fun c59 => ?_) (fun c59 => ?_)
            · refine r_aload_n (pc := 213) dX12_mix_213 (i := 0) rfl rfl ?_
              refine r_aload_n (pc := 214) dX12_mix_214 (i := 0) rfl rfl ?_
              refine t_getE (pc := 215) (.ref (y + 2)) ht51 (rd_of RX_y) fX12_13 dX12_mix_215 rfl ?_
              refine r_iload_n (pc := 218) dX12_mix_218 (i := 1) rfl rfl ?_
              refine t_ialdX (pc := 219) (t0 := 0) ht51 (rd_of RX_sizes) dX12_mix_219 rfl (by decide) (by omega) (fun b18 => ?_)
              have rb18 := (show Rfx 121 0 16 sz by assumption) (Int.toNat x1) (by omega)
              obtain ⟨fs23, hfs23⟩ := t_obj ht51 (rd_of RX_y)
              refine r_callV (pc := 220) (as := [.int (iv (sz (Int.toNat x1)))]) (st := []) kX12_228 rfl dX12_mix_220 hfs23 (x_X12_madeColumn (d := d - 1) (x1 := sz (Int.toNat x1)) (by omega) (by omega) (by assumption) (by omega) (by assumption) ht51 (by omega) (fun _ _ _ h => h)) rfl (by omega) (Nat.le_of_ble_eq_true rfl) (Nat.zero_le _) (Nat.zero_le _) rfl (fun r20 hp19 n21 hq22 => ?_)
              obtain ⟨hnn21, h_25, v_26, c1_27, s1_28, z1_29, u1_30, ht24, hrr20, hhq220, hhq221, hhq222, hhq223, hhq224, hhq225⟩ := hq22
              subst n21 r20
              have hhq220 : cn = 120 → h_25 = -4 ∧ v_26 = -4 ∧ c1_27 = cn := hhq220
              have hhq221 : cn = 120 → s1_28 = so ∧ z1_29 = sz := hhq221
              have hhq222 : cn < 120 → h_25 = cn ∧ v_26 = v_7 ∧ c1_27 = cn + 1 := hhq222
              have hhq223 : cn < 120 → s1_28 = fup so (Int.toNat cn) 2 ∧ z1_29 = fup sz (Int.toNat cn) (sz (Int.toNat x1)) := hhq223
              have hhq224 : cn = 120 → u1_30 = nu := hhq224
              have hhq225 : cn < 120 → u1_30 = kjF cl51 nu (Int.toNat (16 * cn)) (Int.toNat (sz (Int.toNat x1))) := hhq225
              change Rn _ _ _ 223 _ [.int (iv h_25)] _ _ _ _ _
              obtain ⟨hRKm, hDFm, hhm⟩ := RK_col (nu := nu) (x1 := sz (Int.toNat x1)) (u1 := u1_30) (RK_set (nf1 := nf) (nt1 := nt) (nw1 := nw) (nc1 := nc) hk (by omega) (by omega)) (by omega) hhq220 hhq221 hhq222 hhq223
              obtain ⟨hnwA, hnwB, hnwC, hnwD, hnwE⟩ := mk_col (x1 := sz (Int.toNat x1)) (by omega) (by omega) hhq220 hhq221 hhq222 hhq223 hhq224 hhq225
              clear hhq220 hhq221 hhq222 hhq223 hhq224 hhq225
              exact r_iret (pc := 223) dX12_mix_223 rfl (hPo _ _ _ ⟨rfl, v_26, c1_27, s1_28, z1_29, u1_30, cl51, h_25, ht24, rfl, (by (first | assumption | exact RK_set hk (by omega) (by omega))), (by (first | assumption | exact df_r _ _ _ _ _ _ _)), (by omega), (by first | exact an2_m hnwA (by omega) (by omega) | exact an2_r (by omega)), (by (intro h9; first | (exfalso; omega) | exact ⟨rfl, rfl, rfl, rfl⟩ | exact hnwB h9)), (by (intro h9; first | (exfalso; omega) | exact CNw_eq (hnwC h9) (eqB_le (v := v51_4) (by assumption) (by omega)))), (by (first | omega | exact ⟨hnwD, fun h9 => (hnwE h9).trans (by omega)⟩))⟩)
            · refine r_aload_n (pc := 62) dX12_mix_62 (i := 0) rfl rfl ?_
              refine t_getE (pc := 63) (.ref (y + 9)) ht51 (rd_of RX_y) fX12_35 dX12_mix_63 rfl ?_
              refine r_bipush (pc := 66) (v := iv 16) dX12_mix_66 (by decide) ?_
              refine r_iload_n (pc := 68) dX12_mix_68 (i := 1) rfl rfl ?_
              refine r_imul (pc := 69) (v := iv (16 * x1)) dX12_mix_69 (iv_mul _ _) ?_
              refine r_iload (pc := 70) dX12_mix_70 rfl ?_
              refine r_iadd (pc := 72) (v := iv ((16 * x1) + v51_4)) dX12_mix_72 (iv_add _ _) ?_
              refine t_laldX (pc := 73) (t0 := 1) ht51 (rd_of RX_numbers) dX12_mix_73 rfl (by decide) (by omega) ?_
              refine r_lstore (pc := 74) (lv' := [(5, .long (nu (Int.toNat ((16 * x1) + v51_4)))), (0, .ref y), (1, .int (iv x1)), (2, .int (iv x2)), (3, .int (iv x3)), (4, .int (iv v51_4))]) dX12_mix_74 (by decide) rfl ?_
              refine r_aload_n (pc := 76) dX12_mix_76 (i := 0) rfl rfl ?_
              refine t_getE (pc := 77) (.ref (y + 9)) ht51 (rd_of RX_y) fX12_35 dX12_mix_77 rfl ?_
              refine r_bipush (pc := 80) (v := iv 16) dX12_mix_80 (by decide) ?_
              refine r_iload_n (pc := 82) dX12_mix_82 (i := 2) rfl rfl ?_
              refine r_imul (pc := 83) (v := iv (16 * x2)) dX12_mix_83 (iv_mul _ _) ?_
              refine r_iload (pc := 84) dX12_mix_84 rfl ?_
              refine r_iadd (pc := 86) (v := iv ((16 * x2) + v51_4)) dX12_mix_86 (iv_add _ _) ?_
              refine t_laldX (pc := 87) (t0 := 1) ht51 (rd_of RX_numbers) dX12_mix_87 rfl (by decide) (by omega) ?_
              refine r_lstore (pc := 88) (lv' := [(7, .long (nu (Int.toNat ((16 * x2) + v51_4)))), (5, .long (nu (Int.toNat ((16 * x1) + v51_4)))), (0, .ref y), (1, .int (iv x1)), (2, .int (iv x2)), (3, .int (iv x3)), (4, .int (iv v51_4))]) dX12_mix_88 (by decide) rfl ?_
              refine r_aload_n (pc := 90) dX12_mix_90 (i := 0) rfl rfl ?_
              refine t_getE (pc := 91) (.ref (y + 21)) ht51 (rd_of RX_y) fX12_72 dX12_mix_91 rfl ?_
              refine r_iload (pc := 94) dX12_mix_94 rfl ?_
              refine r_iload_n (pc := 96) dX12_mix_96 (i := 3) rfl rfl ?_
              refine t_if_ne (pc := 97) (tgt := 108) dX12_mix_97 (by decide) (by omega) (fun c97 => ?_) (fun c97 => ?_)
              · refine r_iload_n (pc := 108) dX12_mix_108 (i := 3) rfl rfl ?_
                refine r_iconst (pc := 109) (v := iv 1) dX12_mix_109 (by decide) ?_
                refine t_icmp_ne (pc := 110) (tgt := 121) dX12_mix_110 (by decide) (by omega) (by omega) (fun c110 => ?_) (fun c110 => ?_)
                · refine r_iload_n (pc := 121) dX12_mix_121 (i := 3) rfl rfl ?_
                  refine r_iconst (pc := 122) (v := iv 2) dX12_mix_122 (by decide) ?_
                  refine t_icmp_ne (pc := 123) (tgt := 134) dX12_mix_123 (by decide) (by omega) (by omega) (fun c123 => ?_) (fun c123 => ?_)
                  · refine r_iload_n (pc := 134) dX12_mix_134 (i := 3) rfl rfl ?_
                    refine r_iconst (pc := 135) (v := iv 3) dX12_mix_135 (by decide) ?_
                    refine t_icmp_ne (pc := 136) (tgt := 157) dX12_mix_136 (by decide) (by omega) (by omega) (fun c136 => ?_) (fun c136 => ?_)
                    · refine r_iload_n (pc := 157) dX12_mix_157 (i := 3) rfl rfl ?_
                      refine r_iconst (pc := 158) (v := iv 4) dX12_mix_158 (by decide) ?_
                      refine t_icmp_ne (pc := 159) (tgt := 180) dX12_mix_159 (by decide) (by omega) (by omega) (fun c159 => ?_) (fun c159 => ?_)
                      · refine r_iload_n (pc := 180) dX12_mix_180 (i := 3) rfl rfl ?_
                        refine r_iconst (pc := 181) (v := iv 5) dX12_mix_181 (by decide) ?_
                        refine t_icmp_ne (pc := 182) (tgt := 193) dX12_mix_182 (by decide) (by omega) (by omega) (fun c182 => ?_) (fun c182 => ?_)
                        · refine r_lload (pc := 193) dX12_mix_193 rfl ?_
                          refine r_lload (pc := 195) dX12_mix_195 rfl ?_
                          refine r_lcmp (pc := 197) dX12_mix_197 ?_
                          refine t_lif_ge (pc := 198) (tgt := 205) dX12_mix_198 (by decide) (fun c198 => ?_) (fun c198 => ?_)
                          · refine r_lconst (pc := 205) (v := 0) dX12_mix_205 (by decide) ?_
                            have hk205 : (0 : Int64).toInt = 0 := by decide
                            refine t_lastX (pc := 206) (t0 := 1) ht51 RX_column dX12_mix_206 rfl (by decide) (by omega) (fun hp31 ht32 => ?_)
                            have ht33 := RXw_cl ht32
                            refine r_iinc (pc := 207) (v := iv (v51_4 + 1)) (lv' := [(4, .int (iv (v51_4 + 1))), (7, .long (nu (Int.toNat ((16 * x2) + v51_4)))), (5, .long (nu (Int.toNat ((16 * x1) + v51_4)))), (0, .ref y), (1, .int (iv x1)), (2, .int (iv x2)), (3, .int (iv x3))]) dX12_mix_207 rfl (iv_add _ _) (by decide) rfl ?_
                            refine r_goto (pc := 210) (tgt := 51) dX12_mix_210 (by decide) ?_
                            refine Rn.pick (lv' := [(0, .ref y), (1, .int (iv x1)), (2, .int (iv x2)), (3, .int (iv x3)), (4, .int (iv (v51_4 + 1)))]) [3, 4, 5, 6, 0] rfl ?_
                            exact ih51 (Int.toNat (16 - (v51_4 + 1))) (by omega) (fuj cl51 (Int.toNat v51_4) (0 : Int64)) _ ht33 (v51_4 + 1) ⟨by omega, by omega, by omega, by (first | exact eqB_0 _ _ | exact eqB_up (by assumption) (by omega) (by show _ = mxV x3 _ _; rw [← sj_at nu (16 * x1) (v := v51_4) (by omega), ← sj_at nu (16 * x2) (v := v51_4) (by omega)]; unfold mxV; (repeat' split) <;> first | rfl | (exfalso; omega)))⟩ (by omega)
                          · refine r_lconst (pc := 201) (v := 1) dX12_mix_201 (by decide) ?_
                            have hk201 : (1 : Int64).toInt = 1 := by decide
                            refine r_goto (pc := 202) (tgt := 206) dX12_mix_202 (by decide) ?_
                            refine t_lastX (pc := 206) (t0 := 1) ht51 RX_column dX12_mix_206 rfl (by decide) (by omega) (fun hp34 ht35 => ?_)
                            have ht36 := RXw_cl ht35
                            refine r_iinc (pc := 207) (v := iv (v51_4 + 1)) (lv' := [(4, .int (iv (v51_4 + 1))), (7, .long (nu (Int.toNat ((16 * x2) + v51_4)))), (5, .long (nu (Int.toNat ((16 * x1) + v51_4)))), (0, .ref y), (1, .int (iv x1)), (2, .int (iv x2)), (3, .int (iv x3))]) dX12_mix_207 rfl (iv_add _ _) (by decide) rfl ?_
                            refine r_goto (pc := 210) (tgt := 51) dX12_mix_210 (by decide) ?_
                            refine Rn.pick (lv' := [(0, .ref y), (1, .int (iv x1)), (2, .int (iv x2)), (3, .int (iv x3)), (4, .int (iv (v51_4 + 1)))]) [3, 4, 5, 6, 0] rfl ?_
                            exact ih51 (Int.toNat (16 - (v51_4 + 1))) (by omega) (fuj cl51 (Int.toNat v51_4) (1 : Int64)) _ ht36 (v51_4 + 1) ⟨by omega, by omega, by omega, by (first | exact eqB_0 _ _ | exact eqB_up (by assumption) (by omega) (by show _ = mxV x3 _ _; rw [← sj_at nu (16 * x1) (v := v51_4) (by omega), ← sj_at nu (16 * x2) (v := v51_4) (by omega)]; unfold mxV; (repeat' split) <;> first | rfl | (exfalso; omega)))⟩ (by omega)
                        · refine r_lload (pc := 185) dX12_mix_185 rfl ?_
                          refine r_lload (pc := 187) dX12_mix_187 rfl ?_
                          refine r_lxor (pc := 189) (v := (nu (Int.toNat ((16 * x1) + v51_4))) ^^^ (nu (Int.toNat ((16 * x2) + v51_4)))) dX12_mix_189 rfl ?_
                          refine r_goto (pc := 190) (tgt := 206) dX12_mix_190 (by decide) ?_
                          refine t_lastX (pc := 206) (t0 := 1) ht51 RX_column dX12_mix_206 rfl (by decide) (by omega) (fun hp37 ht38 => ?_)
                          have ht39 := RXw_cl ht38
                          refine r_iinc (pc := 207) (v := iv (v51_4 + 1)) (lv' := [(4, .int (iv (v51_4 + 1))), (7, .long (nu (Int.toNat ((16 * x2) + v51_4)))), (5, .long (nu (Int.toNat ((16 * x1) + v51_4)))), (0, .ref y), (1, .int (iv x1)), (2, .int (iv x2)), (3, .int (iv x3))]) dX12_mix_207 rfl (iv_add _ _) (by decide) rfl ?_
                          refine r_goto (pc := 210) (tgt := 51) dX12_mix_210 (by decide) ?_
                          refine Rn.pick (lv' := [(0, .ref y), (1, .int (iv x1)), (2, .int (iv x2)), (3, .int (iv x3)), (4, .int (iv (v51_4 + 1)))]) [3, 4, 5, 6, 0] rfl ?_
                          exact ih51 (Int.toNat (16 - (v51_4 + 1))) (by omega) (fuj cl51 (Int.toNat v51_4) ((nu (Int.toNat ((16 * x1) + v51_4))) ^^^ (nu (Int.toNat ((16 * x2) + v51_4))))) _ ht39 (v51_4 + 1) ⟨by omega, by omega, by omega, by (first | exact eqB_0 _ _ | exact eqB_up (by assumption) (by omega) (by show _ = mxV x3 _ _; rw [← sj_at nu (16 * x1) (v := v51_4) (by omega), ← sj_at nu (16 * x2) (v := v51_4) (by omega)]; unfold mxV; (repeat' split) <;> first | rfl | (exfalso; omega)))⟩ (by omega)
                      · refine r_lload (pc := 162) dX12_mix_162 rfl ?_
                        refine r_lload (pc := 164) dX12_mix_164 rfl ?_
                        refine r_lcmp (pc := 166) dX12_mix_166 ?_
                        refine t_lif_le (pc := 167) (tgt := 175) dX12_mix_167 (by decide) (fun c167 => ?_) (fun c167 => ?_)
                        · refine r_lload (pc := 175) dX12_mix_175 rfl ?_
                          refine r_goto (pc := 177) (tgt := 206) dX12_mix_177 (by decide) ?_
                          refine t_lastX (pc := 206) (t0 := 1) ht51 RX_column dX12_mix_206 rfl (by decide) (by omega) (fun hp40 ht41 => ?_)
                          have ht42 := RXw_cl ht41
                          refine r_iinc (pc := 207) (v := iv (v51_4 + 1)) (lv' := [(4, .int (iv (v51_4 + 1))), (7, .long (nu (Int.toNat ((16 * x2) + v51_4)))), (5, .long (nu (Int.toNat ((16 * x1) + v51_4)))), (0, .ref y), (1, .int (iv x1)), (2, .int (iv x2)), (3, .int (iv x3))]) dX12_mix_207 rfl (iv_add _ _) (by decide) rfl ?_
                          refine r_goto (pc := 210) (tgt := 51) dX12_mix_210 (by decide) ?_
                          refine Rn.pick (lv' := [(0, .ref y), (1, .int (iv x1)), (2, .int (iv x2)), (3, .int (iv x3)), (4, .int (iv (v51_4 + 1)))]) [3, 4, 5, 6, 0] rfl ?_
                          exact ih51 (Int.toNat (16 - (v51_4 + 1))) (by omega) (fuj cl51 (Int.toNat v51_4) (nu (Int.toNat ((16 * x2) + v51_4)))) _ ht42 (v51_4 + 1) ⟨by omega, by omega, by omega, by (first | exact eqB_0 _ _ | exact eqB_up (by assumption) (by omega) (by show _ = mxV x3 _ _; rw [← sj_at nu (16 * x1) (v := v51_4) (by omega), ← sj_at nu (16 * x2) (v := v51_4) (by omega)]; unfold mxV; (repeat' split) <;> first | rfl | (exfalso; omega)))⟩ (by omega)
                        · refine r_lload (pc := 170) dX12_mix_170 rfl ?_
                          refine r_goto (pc := 172) (tgt := 206) dX12_mix_172 (by decide) ?_
                          refine t_lastX (pc := 206) (t0 := 1) ht51 RX_column dX12_mix_206 rfl (by decide) (by omega) (fun hp43 ht44 => ?_)
                          have ht45 := RXw_cl ht44
                          refine r_iinc (pc := 207) (v := iv (v51_4 + 1)) (lv' := [(4, .int (iv (v51_4 + 1))), (7, .long (nu (Int.toNat ((16 * x2) + v51_4)))), (5, .long (nu (Int.toNat ((16 * x1) + v51_4)))), (0, .ref y), (1, .int (iv x1)), (2, .int (iv x2)), (3, .int (iv x3))]) dX12_mix_207 rfl (iv_add _ _) (by decide) rfl ?_
                          refine r_goto (pc := 210) (tgt := 51) dX12_mix_210 (by decide) ?_
                          refine Rn.pick (lv' := [(0, .ref y), (1, .int (iv x1)), (2, .int (iv x2)), (3, .int (iv x3)), (4, .int (iv (v51_4 + 1)))]) [3, 4, 5, 6, 0] rfl ?_
                          exact ih51 (Int.toNat (16 - (v51_4 + 1))) (by omega) (fuj cl51 (Int.toNat v51_4) (nu (Int.toNat ((16 * x1) + v51_4)))) _ ht45 (v51_4 + 1) ⟨by omega, by omega, by omega, by (first | exact eqB_0 _ _ | exact eqB_up (by assumption) (by omega) (by show _ = mxV x3 _ _; rw [← sj_at nu (16 * x1) (v := v51_4) (by omega), ← sj_at nu (16 * x2) (v := v51_4) (by omega)]; unfold mxV; (repeat' split) <;> first | rfl | (exfalso; omega)))⟩ (by omega)
                    · refine r_lload (pc := 139) dX12_mix_139 rfl ?_
                      refine r_lload (pc := 141) dX12_mix_141 rfl ?_
                      refine r_lcmp (pc := 143) dX12_mix_143 ?_
                      refine t_lif_ge (pc := 144) (tgt := 152) dX12_mix_144 (by decide) (fun c144 => ?_) (fun c144 => ?_)
                      · refine r_lload (pc := 152) dX12_mix_152 rfl ?_
                        refine r_goto (pc := 154) (tgt := 206) dX12_mix_154 (by decide) ?_
                        refine t_lastX (pc := 206) (t0 := 1) ht51 RX_column dX12_mix_206 rfl (by decide) (by omega) (fun hp46 ht47 => ?_)
                        have ht48 := RXw_cl ht47
                        refine r_iinc (pc := 207) (v := iv (v51_4 + 1)) (lv' := [(4, .int (iv (v51_4 + 1))), (7, .long (nu (Int.toNat ((16 * x2) + v51_4)))), (5, .long (nu (Int.toNat ((16 * x1) + v51_4)))), (0, .ref y), (1, .int (iv x1)), (2, .int (iv x2)), (3, .int (iv x3))]) dX12_mix_207 rfl (iv_add _ _) (by decide) rfl ?_
                        refine r_goto (pc := 210) (tgt := 51) dX12_mix_210 (by decide) ?_
                        refine Rn.pick (lv' := [(0, .ref y), (1, .int (iv x1)), (2, .int (iv x2)), (3, .int (iv x3)), (4, .int (iv (v51_4 + 1)))]) [3, 4, 5, 6, 0] rfl ?_
                        exact ih51 (Int.toNat (16 - (v51_4 + 1))) (by omega) (fuj cl51 (Int.toNat v51_4) (nu (Int.toNat ((16 * x2) + v51_4)))) _ ht48 (v51_4 + 1) ⟨by omega, by omega, by omega, by (first | exact eqB_0 _ _ | exact eqB_up (by assumption) (by omega) (by show _ = mxV x3 _ _; rw [← sj_at nu (16 * x1) (v := v51_4) (by omega), ← sj_at nu (16 * x2) (v := v51_4) (by omega)]; unfold mxV; (repeat' split) <;> first | rfl | (exfalso; omega)))⟩ (by omega)
                      · refine r_lload (pc := 147) dX12_mix_147 rfl ?_
                        refine r_goto (pc := 149) (tgt := 206) dX12_mix_149 (by decide) ?_
                        refine t_lastX (pc := 206) (t0 := 1) ht51 RX_column dX12_mix_206 rfl (by decide) (by omega) (fun hp49 ht50 => ?_)
                        have ht51 := RXw_cl ht50
                        refine r_iinc (pc := 207) (v := iv (v51_4 + 1)) (lv' := [(4, .int (iv (v51_4 + 1))), (7, .long (nu (Int.toNat ((16 * x2) + v51_4)))), (5, .long (nu (Int.toNat ((16 * x1) + v51_4)))), (0, .ref y), (1, .int (iv x1)), (2, .int (iv x2)), (3, .int (iv x3))]) dX12_mix_207 rfl (iv_add _ _) (by decide) rfl ?_
                        refine r_goto (pc := 210) (tgt := 51) dX12_mix_210 (by decide) ?_
                        refine Rn.pick (lv' := [(0, .ref y), (1, .int (iv x1)), (2, .int (iv x2)), (3, .int (iv x3)), (4, .int (iv (v51_4 + 1)))]) [3, 4, 5, 6, 0] rfl ?_
                        exact ih51 (Int.toNat (16 - (v51_4 + 1))) (by omega) (fuj cl51 (Int.toNat v51_4) (nu (Int.toNat ((16 * x1) + v51_4)))) _ ht51 (v51_4 + 1) ⟨by omega, by omega, by omega, by (first | exact eqB_0 _ _ | exact eqB_up (by assumption) (by omega) (by show _ = mxV x3 _ _; rw [← sj_at nu (16 * x1) (v := v51_4) (by omega), ← sj_at nu (16 * x2) (v := v51_4) (by omega)]; unfold mxV; (repeat' split) <;> first | rfl | (exfalso; omega)))⟩ (by omega)
                  · refine r_lload (pc := 126) dX12_mix_126 rfl ?_
                    refine r_lload (pc := 128) dX12_mix_128 rfl ?_
                    refine r_lmul (pc := 130) (v := (nu (Int.toNat ((16 * x1) + v51_4))) * (nu (Int.toNat ((16 * x2) + v51_4)))) dX12_mix_130 rfl ?_
                    refine r_goto (pc := 131) (tgt := 206) dX12_mix_131 (by decide) ?_
                    refine t_lastX (pc := 206) (t0 := 1) ht51 RX_column dX12_mix_206 rfl (by decide) (by omega) (fun hp52 ht53 => ?_)
                    have ht54 := RXw_cl ht53
                    refine r_iinc (pc := 207) (v := iv (v51_4 + 1)) (lv' := [(4, .int (iv (v51_4 + 1))), (7, .long (nu (Int.toNat ((16 * x2) + v51_4)))), (5, .long (nu (Int.toNat ((16 * x1) + v51_4)))), (0, .ref y), (1, .int (iv x1)), (2, .int (iv x2)), (3, .int (iv x3))]) dX12_mix_207 rfl (iv_add _ _) (by decide) rfl ?_
                    refine r_goto (pc := 210) (tgt := 51) dX12_mix_210 (by decide) ?_
                    refine Rn.pick (lv' := [(0, .ref y), (1, .int (iv x1)), (2, .int (iv x2)), (3, .int (iv x3)), (4, .int (iv (v51_4 + 1)))]) [3, 4, 5, 6, 0] rfl ?_
                    exact ih51 (Int.toNat (16 - (v51_4 + 1))) (by omega) (fuj cl51 (Int.toNat v51_4) ((nu (Int.toNat ((16 * x1) + v51_4))) * (nu (Int.toNat ((16 * x2) + v51_4))))) _ ht54 (v51_4 + 1) ⟨by omega, by omega, by omega, by (first | exact eqB_0 _ _ | exact eqB_up (by assumption) (by omega) (by show _ = mxV x3 _ _; rw [← sj_at nu (16 * x1) (v := v51_4) (by omega), ← sj_at nu (16 * x2) (v := v51_4) (by omega)]; unfold mxV; (repeat' split) <;> first | rfl | (exfalso; omega)))⟩ (by omega)
                · refine r_lload (pc := 113) dX12_mix_113 rfl ?_
                  refine r_lload (pc := 115) dX12_mix_115 rfl ?_
                  refine r_lsub (pc := 117) (v := (nu (Int.toNat ((16 * x1) + v51_4))) - (nu (Int.toNat ((16 * x2) + v51_4)))) dX12_mix_117 rfl ?_
                  refine r_goto (pc := 118) (tgt := 206) dX12_mix_118 (by decide) ?_
                  refine t_lastX (pc := 206) (t0 := 1) ht51 RX_column dX12_mix_206 rfl (by decide) (by omega) (fun hp55 ht56 => ?_)
                  have ht57 := RXw_cl ht56
                  refine r_iinc (pc := 207) (v := iv (v51_4 + 1)) (lv' := [(4, .int (iv (v51_4 + 1))), (7, .long (nu (Int.toNat ((16 * x2) + v51_4)))), (5, .long (nu (Int.toNat ((16 * x1) + v51_4)))), (0, .ref y), (1, .int (iv x1)), (2, .int (iv x2)), (3, .int (iv x3))]) dX12_mix_207 rfl (iv_add _ _) (by decide) rfl ?_
                  refine r_goto (pc := 210) (tgt := 51) dX12_mix_210 (by decide) ?_
                  refine Rn.pick (lv' := [(0, .ref y), (1, .int (iv x1)), (2, .int (iv x2)), (3, .int (iv x3)), (4, .int (iv (v51_4 + 1)))]) [3, 4, 5, 6, 0] rfl ?_
                  exact ih51 (Int.toNat (16 - (v51_4 + 1))) (by omega) (fuj cl51 (Int.toNat v51_4) ((nu (Int.toNat ((16 * x1) + v51_4))) - (nu (Int.toNat ((16 * x2) + v51_4))))) _ ht57 (v51_4 + 1) ⟨by omega, by omega, by omega, by (first | exact eqB_0 _ _ | exact eqB_up (by assumption) (by omega) (by show _ = mxV x3 _ _; rw [← sj_at nu (16 * x1) (v := v51_4) (by omega), ← sj_at nu (16 * x2) (v := v51_4) (by omega)]; unfold mxV; (repeat' split) <;> first | rfl | (exfalso; omega)))⟩ (by omega)
              · refine r_lload (pc := 100) dX12_mix_100 rfl ?_
                refine r_lload (pc := 102) dX12_mix_102 rfl ?_
                refine r_ladd (pc := 104) (v := (nu (Int.toNat ((16 * x1) + v51_4))) + (nu (Int.toNat ((16 * x2) + v51_4)))) dX12_mix_104 rfl ?_
                refine r_goto (pc := 105) (tgt := 206) dX12_mix_105 (by decide) ?_
                refine t_lastX (pc := 206) (t0 := 1) ht51 RX_column dX12_mix_206 rfl (by decide) (by omega) (fun hp58 ht59 => ?_)
                have ht60 := RXw_cl ht59
                refine r_iinc (pc := 207) (v := iv (v51_4 + 1)) (lv' := [(4, .int (iv (v51_4 + 1))), (7, .long (nu (Int.toNat ((16 * x2) + v51_4)))), (5, .long (nu (Int.toNat ((16 * x1) + v51_4)))), (0, .ref y), (1, .int (iv x1)), (2, .int (iv x2)), (3, .int (iv x3))]) dX12_mix_207 rfl (iv_add _ _) (by decide) rfl ?_
                refine r_goto (pc := 210) (tgt := 51) dX12_mix_210 (by decide) ?_
                refine Rn.pick (lv' := [(0, .ref y), (1, .int (iv x1)), (2, .int (iv x2)), (3, .int (iv x3)), (4, .int (iv (v51_4 + 1)))]) [3, 4, 5, 6, 0] rfl ?_
                exact ih51 (Int.toNat (16 - (v51_4 + 1))) (by omega) (fuj cl51 (Int.toNat v51_4) ((nu (Int.toNat ((16 * x1) + v51_4))) + (nu (Int.toNat ((16 * x2) + v51_4))))) _ ht60 (v51_4 + 1) ⟨by omega, by omega, by omega, by (first | exact eqB_0 _ _ | exact eqB_up (by assumption) (by omega) (by show _ = mxV x3 _ _; rw [← sj_at nu (16 * x1) (v := v51_4) (by omega), ← sj_at nu (16 * x2) (v := v51_4) (by omega)]; unfold mxV; (repeat' split) <;> first | rfl | (exfalso; omega)))⟩ (by omega)
          refine Rn.pick (lv' := [(0, .ref y), (1, .int (iv x1)), (2, .int (iv x2)), (3, .int (iv x3)), (4, .int (iv 0))]) [1, 2, 3, 4, 0] rfl ?_
          exact B51 (Int.toNat (16 - 0)) cl _ ht6 0 ⟨by omega, by omega, by omega, by (first | exact eqB_0 _ _ | exact eqB_up (by assumption) (by omega) (by show _ = mxV x3 _ _; rw [← sj_at nu (16 * x1) (v := v51_4) (by omega), ← sj_at nu (16 * x2) (v := v51_4) (by omega)]; unfold mxV; (repeat' split) <;> first | rfl | (exfalso; omega)))⟩ (by omega)
        · refine Rn.pick (lv' := [(0, .ref y)]) [0] rfl ?_
          exact B41 _ ht6 (by omega)
  · refine r_aload_n (pc := 11) dX12_mix_11 (i := 0) rfl rfl ?_
    refine t_getE (pc := 12) (.int (iv v_7)) ht6 (rd_of RX_y) fX12_142 dX12_mix_12 rfl ?_
    exact r_iret (pc := 15) dX12_mix_15 rfl (hPo _ _ _ ⟨rfl, v_7, cn, so, sz, nu, cl, v_7, ht6, rfl, (by (first | assumption | exact RK_set hk (by omega) (by omega))), (by (first | assumption | exact df_r _ _ _ _ _ _ _)), (by omega), (by first | exact an2_m hnwA (by omega) (by omega) | exact an2_r (by omega)), (by (intro h9; first | (exfalso; omega) | exact ⟨rfl, rfl, rfl, rfl⟩ | exact hnwB h9)), (by (intro h9; first | (exfalso; omega) | exact CNw_eq (hnwC h9) (eqB_le (v := v51_4) (by assumption) (by omega)))), (by (first | omega | exact ⟨hnwD, fun h9 => (hnwE h9).trans (by omega)⟩))⟩)
