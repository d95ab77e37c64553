set_option maxHeartbeats 4000000 in
set_option maxRecDepth 100000 in
theorem x_X12_drop {D : va_G} {cI cJ cZ cT : ClassId} {lo b L : Nat} {xs : Nat → Int32} {hp : MH} {n d : Nat} {Γ : TG} {y : Nat} {rf cn nm : Int} {so sz dr mn fr tt wt co : Nat → Int} {nu : Nat → Int64} {sa : Nat → Int} {wo : Nat → Int64} {ln : Nat → Int} {hw : Nat → Int64} {ro qi qc nf nt nw nc : Nat → Int} {cl nx : Nat → Int64} {ie be sd bl : Nat → Int} {bs wy ra rb : Nat → Int64} {lb bg os js ls : Nat → Int} {sp : Nat → Int64} {jw go : Nat → Int} {de : Nat → Int64} {yb ah im : Nat → Int} {Po9 : Option Value → MH → Nat → Prop} (hd0 : 1 ≤ d) (hk : RK rf cn nm so sz dr mn fr tt wt co nu qi qc nf nt nw nc) (ht : Tw (RX Γ cI cJ cZ y rf cn nm so sz dr mn fr tt wt co nu sa wo ln hw ro qi qc nf nt nw nc cl nx ie be sd bl bs wy ra rb lb bg os js ls sp jw go de yb ah im) hp)  (hPo : ∀ r hp1 n1, (n1 = n ∧ ∃ (rf' : Int) (cn' : Int) (v' : Int), Tw (RX Γ cI cJ cZ y rf' cn' nm so sz dr mn fr tt wt co nu sa wo ln hw ro qi qc nf nt nw nc cl nx ie be sd bl bs wy ra rb lb bg os js ls sp jw go de yb ah im) hp1 ∧ r = some (.int (iv v')) ∧ (RK rf' cn' nm so sz dr mn fr tt wt co nu qi qc nf nt nw nc) ∧ (dfE sz dr mn fr tt wt co sz dr mn fr tt wt co) ∧ (-2147483648 ≤ v' ∧ v' ≤ 2147483647) ∧ ((cn = 0 → v' = -1 ∧ cn' = cn ∧ rf' = -1) ∧ (0 < cn → v' = cn - 1 ∧ cn' = cn - 1 ∧ rf' = 0))) → Po9 r hp1 n1) : Mt (gG D cI cJ cZ cT lo b L xs) mX12_drop d 0 0 [.ref y] hp n Po9 := by
  refine Mt.of rfl (Nat.le_of_ble_eq_true rfl) ?_
  refine Rn.pick (lv' := [(0, .ref y)]) [0] rfl ?_
  obtain ⟨hR_sorts, hR_sizes, hR_directs, hR_many, hR_from, hR_to, hR_weight, hR_cost, hR_inPart, hR_partCount, hcn, hrf, hnm, hdf, hgr, hpa, hsz⟩ := id hk
  refine r_aload_n (pc := 0) dX12_drop_0 (i := 0) rfl rfl ?_
  refine r_iconst (pc := 1) (v := iv 0) dX12_drop_1 (by decide) ?_
  refine t_putX (pc := 2) (ty := .int) ht RX_y fX12_142 tyX12 tyX12_ok nmX12 (by decide +kernel) (Or.inl rfl) dX12_drop_2 (Nat.le_of_ble_eq_true rfl) rfl rfl rfl (fun hp1 ht2 => ?_)
  have ht3 := RXw_rf ht2
  refine r_aload_n (pc := 5) dX12_drop_5 (i := 0) rfl rfl ?_
  refine t_getE (pc := 6) (.int (iv cn)) ht3 (rd_of RX_y) fX12_146 dX12_drop_6 rfl ?_
  refine t_if_ne (pc := 9) (tgt := 18) dX12_drop_9 (by decide) (by omega) (fun c9 => ?_) (fun c9 => ?_)
  · refine r_aload_n (pc := 18) dX12_drop_18 (i := 0) rfl rfl ?_
    refine r_dup (pc := 19) dX12_drop_19 rfl ?_
    refine t_getE (pc := 20) (.int (iv cn)) ht3 (rd_of RX_y) fX12_146 dX12_drop_20 rfl ?_
    refine r_iconst (pc := 23) (v := iv 1) dX12_drop_23 (by decide) ?_
    refine r_isub (pc := 24) (v := iv (cn - 1)) dX12_drop_24 (iv_sub _ _) ?_
    refine t_putX (pc := 25) (ty := .int) ht3 RX_y fX12_146 tyX12 tyX12_ok nmX12 (by decide +kernel) (Or.inl rfl) dX12_drop_25 (Nat.le_of_ble_eq_true rfl) rfl rfl rfl (fun hp4 ht5 => ?_)
    have ht6 := RXw_cn ht5
    refine r_aload_n (pc := 28) dX12_drop_28 (i := 0) rfl rfl ?_
    refine t_getE (pc := 29) (.int (iv (cn - 1))) ht6 (rd_of RX_y) fX12_146 dX12_drop_29 rfl ?_
    exact r_iret (pc := 32) dX12_drop_32 rfl (hPo _ _ _ ⟨rfl, 0, (cn - 1), (cn - 1), ht6, rfl, (by (exact RK_drop hk (by omega) (by omega) (by omega))), (by (first | assumption | exact df_r _ _ _ _ _ _ _)), (by omega), (by omega)⟩)
  · refine r_aload_n (pc := 12) dX12_drop_12 (i := 0) rfl rfl ?_
    refine r_iconst (pc := 13) (v := iv (-1)) dX12_drop_13 (by decide) ?_
    obtain ⟨fs11, hfs11⟩ := t_obj ht3 (rd_of RX_y)
    refine r_callV (pc := 14) (as := [.int (iv (-1))]) (st := []) kX12_153 rfl dX12_drop_14 hfs11 (x_X12_refuse (d := d - 1) (x1 := (-1)) (by omega) ht3 (by omega) (fun _ _ _ h => h)) rfl (by omega) (Nat.le_of_ble_eq_true rfl) (Nat.zero_le _) (Nat.zero_le _) rfl (fun r8 hp7 n9 hq10 => ?_)
    obtain ⟨hnn9, ht12, hrr8⟩ := hq10
    subst n9 r8
    change Rn _ _ _ 17 _ [.int (iv (-1))] _ _ _ _ _
    exact r_iret (pc := 17) dX12_drop_17 rfl (hPo _ _ _ ⟨rfl, (-1), cn, (-1), ht12, rfl, (by (exact RK_drop hk (by omega) (by omega) (by omega))), (by (first | assumption | exact df_r _ _ _ _ _ _ _)), (by omega), (by omega)⟩)
set_option maxHeartbeats 4000000 in
set_option maxRecDepth 100000 in
theorem x_X12_refused {D : va_G} {cI cJ cZ cT : ClassId} {lo b L : Nat} {xs : Nat → Int32} {hp : MH} {n d : Nat} {Γ : TG} {y : Nat} {rf cn nm : Int} {so sz dr mn fr tt wt co : Nat → Int} {nu : Nat → Int64} {sa : Nat → Int} {wo : Nat → Int64} {ln : Nat → Int} {hw : Nat → Int64} {ro qi qc nf nt nw nc : Nat → Int} {cl nx : Nat → Int64} {ie be sd bl : Nat → Int} {bs wy ra rb : Nat → Int64} {lb bg os js ls : Nat → Int} {sp : Nat → Int64} {jw go : Nat → Int} {de : Nat → Int64} {yb ah im : Nat → Int} {Po9 : Option Value → MH → Nat → Prop} (hd0 : 0 ≤ d) (hk : RK rf cn nm so sz dr mn fr tt wt co nu qi qc nf nt nw nc) (ht : Tw (RX Γ cI cJ cZ y rf cn nm so sz dr mn fr tt wt co nu sa wo ln hw ro qi qc nf nt nw nc cl nx ie be sd bl bs wy ra rb lb bg os js ls sp jw go de yb ah im) hp)  (hPo : ∀ r hp1 n1, (n1 = n ∧ ∃ (v' : Int), Tw (RX Γ cI cJ cZ y rf cn nm so sz dr mn fr tt wt co nu sa wo ln hw ro qi qc nf nt nw nc cl nx ie be sd bl bs wy ra rb lb bg os js ls sp jw go de yb ah im) hp1 ∧ r = some (.int (iv v')) ∧ (RK rf cn nm so sz dr mn fr tt wt co nu qi qc nf nt nw nc) ∧ (dfE sz dr mn fr tt wt co sz dr mn fr tt wt co) ∧ (-2147483648 ≤ v' ∧ v' ≤ 2147483647) ∧ (v' = rf)) → Po9 r hp1 n1) : Mt (gG D cI cJ cZ cT lo b L xs) mX12_refused d 0 0 [.ref y] hp n Po9 := by
  refine Mt.of rfl (Nat.le_of_ble_eq_true rfl) ?_
  refine Rn.pick (lv' := [(0, .ref y)]) [0] rfl ?_
  obtain ⟨hR_sorts, hR_sizes, hR_directs, hR_many, hR_from, hR_to, hR_weight, hR_cost, hR_inPart, hR_partCount, hcn, hrf, hnm, hdf, hgr, hpa, hsz⟩ := id hk
  refine r_aload_n (pc := 0) dX12_refused_0 (i := 0) rfl rfl ?_
  refine t_getE (pc := 1) (.int (iv rf)) ht (rd_of RX_y) fX12_142 dX12_refused_1 rfl ?_
  exact r_iret (pc := 4) dX12_refused_4 rfl (hPo _ _ _ ⟨rfl, rf, ht, rfl, (by (first | assumption | exact RK_set hk (by omega) (by omega))), (by (first | assumption | exact df_r _ _ _ _ _ _ _)), (by omega), (by omega)⟩)
set_option maxHeartbeats 4000000 in
set_option maxRecDepth 100000 in
theorem x_X12_handles {D : va_G} {cI cJ cZ cT : ClassId} {lo b L : Nat} {xs : Nat → Int32} {hp : MH} {n d : Nat} {Γ : TG} {y : Nat} {rf cn nm : Int} {so sz dr mn fr tt wt co : Nat → Int} {nu : Nat → Int64} {sa : Nat → Int} {wo : Nat → Int64} {ln : Nat → Int} {hw : Nat → Int64} {ro qi qc nf nt nw nc : Nat → Int} {cl nx : Nat → Int64} {ie be sd bl : Nat → Int} {bs wy ra rb : Nat → Int64} {lb bg os js ls : Nat → Int} {sp : Nat → Int64} {jw go : Nat → Int} {de : Nat → Int64} {yb ah im : Nat → Int} {Po9 : Option Value → MH → Nat → Prop} (hd0 : 0 ≤ d) (hk : RK rf cn nm so sz dr mn fr tt wt co nu qi qc nf nt nw nc) (ht : Tw (RX Γ cI cJ cZ y rf cn nm so sz dr mn fr tt wt co nu sa wo ln hw ro qi qc nf nt nw nc cl nx ie be sd bl bs wy ra rb lb bg os js ls sp jw go de yb ah im) hp)  (hPo : ∀ r hp1 n1, (n1 = n ∧ ∃ (rf' : Int) (v' : Int), Tw (RX Γ cI cJ cZ y rf' cn nm so sz dr mn fr tt wt co nu sa wo ln hw ro qi qc nf nt nw nc cl nx ie be sd bl bs wy ra rb lb bg os js ls sp jw go de yb ah im) hp1 ∧ r = some (.int (iv v')) ∧ (RK rf' cn nm so sz dr mn fr tt wt co nu qi qc nf nt nw nc) ∧ (dfE sz dr mn fr tt wt co sz dr mn fr tt wt co) ∧ (-2147483648 ≤ v' ∧ v' ≤ 2147483647) ∧ (v' = cn ∧ rf' = 0)) → Po9 r hp1 n1) : Mt (gG D cI cJ cZ cT lo b L xs) mX12_handles d 0 0 [.ref y] hp n Po9 := by
  refine Mt.of rfl (Nat.le_of_ble_eq_true rfl) ?_
  refine Rn.pick (lv' := [(0, .ref y)]) [0] rfl ?_
  obtain ⟨hR_sorts, hR_sizes, hR_directs, hR_many, hR_from, hR_to, hR_weight, hR_cost, hR_inPart, hR_partCount, hcn, hrf, hnm, hdf, hgr, hpa, hsz⟩ := id hk
  refine r_aload_n (pc := 0) dX12_handles_0 (i := 0) rfl rfl ?_
  refine r_iconst (pc := 1) (v := iv 0) dX12_handles_1 (by decide) ?_
  refine t_putX (pc := 2) (ty := .int) ht RX_y fX12_142 tyX12 tyX12_ok nmX12 (by decide +kernel) (Or.inl rfl) dX12_handles_2 (Nat.le_of_ble_eq_true rfl) rfl rfl rfl (fun hp1 ht2 => ?_)
  have ht3 := RXw_rf ht2
  refine r_aload_n (pc := 5) dX12_handles_5 (i := 0) rfl rfl ?_
  refine t_getE (pc := 6) (.int (iv cn)) ht3 (rd_of RX_y) fX12_146 dX12_handles_6 rfl ?_
  exact r_iret (pc := 9) dX12_handles_9 rfl (hPo _ _ _ ⟨rfl, 0, cn, ht3, rfl, (by (first | assumption | exact RK_set hk (by omega) (by omega))), (by (first | assumption | exact df_r _ _ _ _ _ _ _)), (by omega), (by omega)⟩)
set_option maxHeartbeats 4000000 in
set_option maxRecDepth 100000 in
theorem x_X12_sort {D : va_G} {cI cJ cZ cT : ClassId} {lo b L : Nat} {xs : Nat → Int32} {hp : MH} {n d : Nat} {Γ : TG} {y : Nat} {rf cn nm : Int} {so sz dr mn fr tt wt co : Nat → Int} {nu : Nat → Int64} {sa : Nat → Int} {wo : Nat → Int64} {ln : Nat → Int} {hw : Nat → Int64} {ro qi qc nf nt nw nc : Nat → Int} {cl nx : Nat → Int64} {ie be sd bl : Nat → Int} {bs wy ra rb : Nat → Int64} {lb bg os js ls : Nat → Int} {sp : Nat → Int64} {jw go : Nat → Int} {de : Nat → Int64} {yb ah im : Nat → Int} {x1 : Int} {Po9 : Option Value → MH → Nat → Prop} (hd0 : 1 ≤ d) (hk : RK rf cn nm so sz dr mn fr tt wt co nu qi qc nf nt nw nc) (ht : Tw (RX Γ cI cJ cZ y rf cn nm so sz dr mn fr tt wt co nu sa wo ln hw ro qi qc nf nt nw nc cl nx ie be sd bl bs wy ra rb lb bg os js ls sp jw go de yb ah im) hp) (hx1 : (-2147483648) ≤ x1 ∧ x1 ≤ 2147483647) (hPo : ∀ r hp1 n1, (n1 = n ∧ ∃ (rf' : Int) (v' : Int), Tw (RX Γ cI cJ cZ y rf' cn nm so sz dr mn fr tt wt co nu sa wo ln hw ro qi qc nf nt nw nc cl nx ie be sd bl bs wy ra rb lb bg os js ls sp jw go de yb ah im) hp1 ∧ r = some (.int (iv v')) ∧ (RK rf' cn nm so sz dr mn fr tt wt co nu qi qc nf nt nw nc) ∧ (dfE sz dr mn fr tt wt co sz dr mn fr tt wt co) ∧ (-2147483648 ≤ v' ∧ v' ≤ 2147483647) ∧ ((0 ≤ x1 ∧ x1 < cn → v' = so (Int.toNat x1) ∧ rf' = 0) ∧ (¬ (0 ≤ x1 ∧ x1 < cn) → v' = 0 ∧ rf' = -1))) → Po9 r hp1 n1) : Mt (gG D cI cJ cZ cT lo b L xs) mX12_sort d 0 0 [.ref y, .int (iv x1)] hp n Po9 := by
  refine Mt.of rfl (Nat.le_of_ble_eq_true rfl) ?_
  refine Rn.pick (lv' := [(0, .ref y), (1, .int (iv x1))]) [0, 1] rfl ?_
  obtain ⟨hR_sorts, hR_sizes, hR_directs, hR_many, hR_from, hR_to, hR_weight, hR_cost, hR_inPart, hR_partCount, hcn, hrf, hnm, hdf, hgr, hpa, hsz⟩ := id hk
  refine r_aload_n (pc := 0) dX12_sort_0 (i := 0) rfl rfl ?_
  refine r_aload_n (pc := 1) dX12_sort_1 (i := 0) rfl rfl ?_
  refine r_iload_n (pc := 2) dX12_sort_2 (i := 1) rfl rfl ?_
  obtain ⟨fs5, hfs5⟩ := t_obj ht (rd_of RX_y)
  refine r_callV (pc := 3) (as := [.int (iv x1)]) (st := [.ref y]) kX12_149 rfl dX12_sort_3 hfs5 (x_X12_isThere (d := d - 1) (x1 := x1) (by omega) (by omega) ht (by omega) (fun _ _ _ h => h)) rfl (by omega) (Nat.le_of_ble_eq_true rfl) (Nat.zero_le _) (Nat.zero_le _) rfl (fun r2 hp1 n3 hq4 => ?_)
  obtain ⟨hnn3, b_7, ht6, hrr2, hhq40⟩ := hq4
  subst n3 r2
  have hhq40 : (b_7 = 1 ∧ 0 ≤ x1 ∧ x1 < cn) ∨ (b_7 = 0 ∧ ¬ (0 ≤ x1 ∧ x1 < cn)) := hhq40
  change Rn _ _ _ 6 _ [.int (iv b_7), .ref y] _ _ _ _ _
  refine t_if_eq (pc := 6) (tgt := 13) dX12_sort_6 (by decide) (by omega) (fun c6 => ?_) (fun c6 => ?_)
  · refine r_iconst (pc := 13) (v := iv (-1)) dX12_sort_13 (by decide) ?_
    refine t_putX (pc := 14) (ty := .int) ht6 RX_y fX12_142 tyX12 tyX12_ok nmX12 (by decide +kernel) (Or.inl rfl) dX12_sort_14 (Nat.le_of_ble_eq_true rfl) rfl rfl rfl (fun hp8 ht9 => ?_)
    have ht10 := RXw_rf ht9
    refine r_aload_n (pc := 17) dX12_sort_17 (i := 0) rfl rfl ?_
    refine t_getE (pc := 18) (.int (iv (-1))) ht10 (rd_of RX_y) fX12_142 dX12_sort_18 rfl ?_
    refine t_if_ne (pc := 21) (tgt := 33) dX12_sort_21 (by decide) (by omega) (fun c21 => ?_) (fun c21 => ?_)
    · refine r_iconst (pc := 33) (v := iv 0) dX12_sort_33 (by decide) ?_
      exact r_iret (pc := 34) dX12_sort_34 rfl (hPo _ _ _ ⟨rfl, (-1), 0, ht10, rfl, (by (first | assumption | exact RK_set hk (by omega) (by omega))), (by (first | assumption | exact df_r _ _ _ _ _ _ _)), (by omega), (by omega)⟩)
    · refine r_aload_n (pc := 24) dX12_sort_24 (i := 0) rfl rfl ?_
      refine t_getE (pc := 25) (.ref (y + 1)) ht10 (rd_of RX_y) fX12_7 dX12_sort_25 rfl ?_
      refine r_iload_n (pc := 28) dX12_sort_28 (i := 1) rfl rfl ?_
      refine t_ialdX (pc := 29) (t0 := 0) ht10 (rd_of RX_sorts) dX12_sort_29 rfl (by decide) (by omega) (fun b11 => ?_)
      have rb11 := (show Rfx 121 0 4 so by assumption) (Int.toNat x1) (by omega)
      refine r_goto (pc := 30) (tgt := 34) dX12_sort_30 (by decide) ?_
      exact r_iret (pc := 34) dX12_sort_34 rfl (hPo _ _ _ ⟨rfl, (-1), (so (Int.toNat x1)), ht10, rfl, (by (first | assumption | exact RK_set hk (by omega) (by omega))), (by (first | assumption | exact df_r _ _ _ _ _ _ _)), (by omega), (by omega)⟩)
  · refine r_iconst (pc := 9) (v := iv 0) dX12_sort_9 (by decide) ?_
    refine r_goto (pc := 10) (tgt := 14) dX12_sort_10 (by decide) ?_
    refine t_putX (pc := 14) (ty := .int) ht6 RX_y fX12_142 tyX12 tyX12_ok nmX12 (by decide +kernel) (Or.inl rfl) dX12_sort_14 (Nat.le_of_ble_eq_true rfl) rfl rfl rfl (fun hp12 ht13 => ?_)
    have ht14 := RXw_rf ht13
    refine r_aload_n (pc := 17) dX12_sort_17 (i := 0) rfl rfl ?_
    refine t_getE (pc := 18) (.int (iv 0)) ht14 (rd_of RX_y) fX12_142 dX12_sort_18 rfl ?_
    refine t_if_ne (pc := 21) (tgt := 33) dX12_sort_21 (by decide) (by omega) (fun c21 => ?_) (fun c21 => ?_)
    · refine r_iconst (pc := 33) (v := iv 0) dX12_sort_33 (by decide) ?_
      exact r_iret (pc := 34) dX12_sort_34 rfl (hPo _ _ _ ⟨rfl, 0, 0, ht14, rfl, (by (first | assumption | exact RK_set hk (by omega) (by omega))), (by (first | assumption | exact df_r _ _ _ _ _ _ _)), (by omega), (by omega)⟩)
    · refine r_aload_n (pc := 24) dX12_sort_24 (i := 0) rfl rfl ?_
      refine t_getE (pc := 25) (.ref (y + 1)) ht14 (rd_of RX_y) fX12_7 dX12_sort_25 rfl ?_
      refine r_iload_n (pc := 28) dX12_sort_28 (i := 1) rfl rfl ?_
      refine t_ialdX (pc := 29) (t0 := 0) ht14 (rd_of RX_sorts) dX12_sort_29 rfl (by decide) (by omega) (fun b15 => ?_)
      have rb15 := (show Rfx 121 0 4 so by assumption) (Int.toNat x1) (by omega)
      refine r_goto (pc := 30) (tgt := 34) dX12_sort_30 (by decide) ?_
      exact r_iret (pc := 34) dX12_sort_34 rfl (hPo _ _ _ ⟨rfl, 0, (so (Int.toNat x1)), ht14, rfl, (by (first | assumption | exact RK_set hk (by omega) (by omega))), (by (first | assumption | exact df_r _ _ _ _ _ _ _)), (by omega), (by omega)⟩)
set_option maxHeartbeats 4000000 in
set_option maxRecDepth 100000 in
theorem x_X12_of {D : va_G} {cI cJ cZ cT : ClassId} {lo b L : Nat} {xs : Nat → Int32} {hp : MH} {n d : Nat} {Γ : TG} {y : Nat} {rf cn nm : Int} {so sz dr mn fr tt wt co : Nat → Int} {nu : Nat → Int64} {sa : Nat → Int} {wo : Nat → Int64} {ln : Nat → Int} {hw : Nat → Int64} {ro qi qc nf nt nw nc : Nat → Int} {cl nx : Nat → Int64} {ie be sd bl : Nat → Int} {bs wy ra rb : Nat → Int64} {lb bg os js ls : Nat → Int} {sp : Nat → Int64} {jw go : Nat → Int} {de : Nat → Int64} {yb ah im : Nat → Int} {x1 x2 x3 : Int} {Po9 : Option Value → MH → Nat → Prop} (hd0 : 2 ≤ d) (hk : RK rf cn nm so sz dr mn fr tt wt co nu qi qc nf nt nw nc) (ht : Tw (RX Γ cI cJ cZ y rf cn nm so sz dr mn fr tt wt co nu sa wo ln hw ro qi qc nf nt nw nc cl nx ie be sd bl bs wy ra rb lb bg os js ls sp jw go de yb ah im) hp) (hx1 : (-2147483648) ≤ x1 ∧ x1 ≤ 2147483647) (hx2 : (-2147483648) ≤ x2 ∧ x2 ≤ 2147483647) (hx3 : (-2147483648) ≤ x3 ∧ x3 ≤ 2147483647) (hPo : ∀ r hp1 n1, (n1 = n ∧ ∃ (rf' : Int) (v' : Int), Tw (RX Γ cI cJ cZ y rf' cn nm so sz dr mn fr tt wt co nu sa wo ln hw ro qi qc nf nt nw nc cl nx ie be sd bl bs wy ra rb lb bg os js ls sp jw go de yb ah im) hp1 ∧ r = some (.int (iv v')) ∧ (RK rf' cn nm so sz dr mn fr tt wt co nu qi qc nf nt nw nc) ∧ (dfE sz dr mn fr tt wt co sz dr mn fr tt wt co) ∧ (-2147483648 ≤ v' ∧ v' ≤ 2147483647) ∧ (rf' = dn1 cn so x1 1 (x2 < 0 ∨ 6 < x2 ∨ (2 < x2 ∧ (x3 < 0 ∨ mn (Int.toNat x1) ≤ x3)))) ∧ (rf' ≠ 0 → v' = 0) ∧ (rf' = 0 → v' = (ofV (sz (Int.toNat x1)) (dr (Int.toNat x1)) (mn (Int.toNat x1)) (sh fr (60 * x1)) (sh tt (60 * x1)) (sh wt (60 * x1)) (sh co (60 * x1)) x2 (Int.toNat x3)))) → Po9 r hp1 n1) : Mt (gG D cI cJ cZ cT lo b L xs) mX12_of d 0 0 [.ref y, .int (iv x1), .int (iv x2), .int (iv x3)] hp n Po9 := by
  refine Mt.of rfl (Nat.le_of_ble_eq_true rfl) ?_
  refine Rn.pick (lv' := [(0, .ref y), (1, .int (iv x1)), (2, .int (iv x2)), (3, .int (iv x3))]) [0, 1, 2, 3] rfl ?_
  obtain ⟨hR_sorts, hR_sizes, hR_directs, hR_many, hR_from, hR_to, hR_weight, hR_cost, hR_inPart, hR_partCount, hcn, hrf, hnm, hdf, hgr, hpa, hsz⟩ := id hk
  refine r_aload_n (pc := 0) dX12_of_0 (i := 0) rfl rfl ?_
  refine r_iload_n (pc := 1) dX12_of_1 (i := 1) rfl rfl ?_
  refine r_iconst (pc := 2) (v := iv 1) dX12_of_2 (by decide) ?_
  obtain ⟨fs5, hfs5⟩ := t_obj ht (rd_of RX_y)
  refine r_callV (pc := 3) (as := [.int (iv x1), .int (iv 1)]) (st := []) kX12_183 rfl dX12_of_3 hfs5 (x_X12_has (d := d - 1) (x1 := x1) (x2 := 1) (by omega) (by omega) (by assumption) ht (by omega) (by omega) (fun _ _ _ h => h)) rfl (by omega) (Nat.le_of_ble_eq_true rfl) (Nat.zero_le _) (Nat.zero_le _) rfl (fun r2 hp1 n3 hq4 => ?_)
  obtain ⟨hnn3, v_7, b_8, ht6, hrr2, hhq40, hhq41⟩ := hq4
  subst n3 r2
  have hhq40 : -2 ≤ v_7 ∧ v_7 ≤ 0 ∧ (b_8 = 0 ∨ b_8 = 1) := hhq40
  have hhq41 : (b_8 = 1 ∧ v_7 = 0 ∧ 0 ≤ x1 ∧ x1 < cn ∧ so (Int.toNat x1) = 1) ∨ (b_8 = 0 ∧ v_7 = -1 ∧ ¬ (0 ≤ x1 ∧ x1 < cn)) ∨ (b_8 = 0 ∧ v_7 = -2 ∧ 0 ≤ x1 ∧ x1 < cn ∧ so (Int.toNat x1) ≠ 1) := hhq41
  change Rn _ _ _ 6 _ [.int (iv b_8)] _ _ _ _ _
  refine t_if_ne (pc := 6) (tgt := 11) dX12_of_6 (by decide) (by omega) (fun c6 => ?_) (fun c6 => ?_)
  · have rsz6 := hR_sizes (Int.toNat x1) (by omega)
    have rsy6 := hsz x1 (by omega) (by omega)
    have hen := hgr x1 (by omega) (by omega) (by omega)
    have rmn6 := hR_many (Int.toNat x1) (by omega)
    refine r_iload_n (pc := 11) dX12_of_11 (i := 2) rfl rfl ?_
    have B40 : ∀ hp40 : MH, Tw (RX Γ cI cJ cZ y v_7 cn nm so sz dr mn fr tt wt co nu sa wo ln hw ro qi qc nf nt nw nc cl nx ie be sd bl bs wy ra rb lb bg os js ls sp jw go de yb ah im) hp40 → ((x2 < 0 ∨ 6 < x2 ∨ (2 < x2 ∧ (x3 < 0 ∨ mn (Int.toNat x1) ≤ x3)))) → Rn (gG D cI cJ cZ cT lo b L xs) mX12_of d 40 [(0, .ref y)] [] hp40 n 0 0 Po9 := by
      intro hp40 ht40 hf40
      refine r_aload_n (pc := 40) dX12_of_40 (i := 0) rfl rfl ?_
      refine r_bipush (pc := 41) (v := iv (-3)) dX12_of_41 (by decide) ?_
      obtain ⟨fs13, hfs13⟩ := t_obj ht40 (rd_of RX_y)
      refine r_callV (pc := 43) (as := [.int (iv (-3))]) (st := []) kX12_153 rfl dX12_of_43 hfs13 (x_X12_refuse (d := d - 1) (x1 := (-3)) (by omega) ht40 (by omega) (fun _ _ _ h => h)) rfl (by omega) (Nat.le_of_ble_eq_true rfl) (Nat.zero_le _) (Nat.zero_le _) rfl (fun r10 hp9 n11 hq12 => ?_)
      obtain ⟨hnn11, ht14, hrr10⟩ := hq12
      subst n11 r10
      change Rn _ _ _ 46 _ [.int (iv (-3))] _ _ _ _ _
      refine r_pop (pc := 46) dX12_of_46 rfl ?_
      refine r_iconst (pc := 47) (v := iv 0) dX12_of_47 (by decide) ?_
      exact r_iret (pc := 48) dX12_of_48 rfl (hPo _ _ _ ⟨rfl, (-3), 0, ht14, rfl, (by (first | assumption | exact RK_set hk (by omega) (by omega))), (by (first | assumption | exact df_r _ _ _ _ _ _ _)), (by omega), (by (unfold dn1; by_cases hz1 : 0 ≤ x1 ∧ x1 < cn <;> by_cases hz2 : so (Int.toNat x1) = 1 <;> first | (exfalso; omega) | (rw [hdQ_y (by omega)] <;> omega) | (rw [hdQ_n (by omega), hdQ_y (by omega)] <;> omega) | (rw [hdQ_n (by omega), hdQ_n (by omega), hdQ_y (by omega)] <;> omega) | (rw [hdQ_n (by omega), hdQ_n (by omega), hdQ_n (fun h9 => h9)] <;> omega) | (rw [hdQ_n (by omega), hdQ_n (by omega), hdQ_n (by omega)] <;> omega))), (by omega), (by (intro h9; first | (exfalso; omega) | (unfold ofV; (try rw [← sh_at fr (60 * x1) (v := x3) (by omega)]); (try rw [← sh_at tt (60 * x1) (v := x3) (by omega)]); (try rw [← sh_at wt (60 * x1) (v := x3) (by omega)]); (try rw [← sh_at co (60 * x1) (v := x3) (by omega)]); (repeat' split) <;> first | rfl | omega)))⟩)
    refine t_if_lt (pc := 12) (tgt := 40) dX12_of_12 (by decide) (by omega) (fun c12 => ?_) (fun c12 => ?_)
    · refine Rn.pick (lv' := [(0, .ref y)]) [0] rfl ?_
      exact B40 _ ht6 (by omega)
    · refine r_iload_n (pc := 15) dX12_of_15 (i := 2) rfl rfl ?_
      refine r_bipush (pc := 16) (v := iv 6) dX12_of_16 (by decide) ?_
      refine t_icmp_gt (pc := 18) (tgt := 40) dX12_of_18 (by decide) (by omega) (by omega) (fun c18 => ?_) (fun c18 => ?_)
      · refine Rn.pick (lv' := [(0, .ref y)]) [0] rfl ?_
        exact B40 _ ht6 (by omega)
      · refine r_iload_n (pc := 21) dX12_of_21 (i := 2) rfl rfl ?_
        refine r_iconst (pc := 22) (v := iv 2) dX12_of_22 (by decide) ?_
        have B49 : ∀ hp49 : MH, Tw (RX Γ cI cJ cZ y v_7 cn nm so sz dr mn fr tt wt co nu sa wo ln hw ro qi qc nf nt nw nc cl nx ie be sd bl bs wy ra rb lb bg os js ls sp jw go de yb ah im) hp49 → (0 ≤ x2) ∧ (x2 ≤ 6) ∧ (2 < x2 → 0 ≤ x3 ∧ x3 < (mn (Int.toNat x1))) → Rn (gG D cI cJ cZ cT lo b L xs) mX12_of d 49 [(0, .ref y), (1, .int (iv x1)), (2, .int (iv x2)), (3, .int (iv x3))] [] hp49 n 0 0 Po9 := by
          intro hp49 ht49 hf49
          refine r_iload_n (pc := 49) dX12_of_49 (i := 2) rfl rfl ?_
          refine r_iconst (pc := 50) (v := iv 2) dX12_of_50 (by decide) ?_
          refine t_icmp_le (pc := 51) (tgt := 62) dX12_of_51 (by decide) (by omega) (by omega) (fun c51 => ?_) (fun c51 => ?_)
          · refine r_iconst (pc := 62) (v := iv 0) dX12_of_62 (by decide) ?_
            refine r_istore (pc := 63) (lv' := [(4, .int (iv 0)), (0, .ref y), (1, .int (iv x1)), (2, .int (iv x2)), (3, .int (iv x3))]) dX12_of_63 (by decide) rfl ?_
            refine r_iload_n (pc := 65) dX12_of_65 (i := 2) rfl rfl ?_
            refine t_if_ne (pc := 66) (tgt := 78) dX12_of_66 (by decide) (by omega) (fun c66 => ?_) (fun c66 => ?_)
            · refine r_iload_n (pc := 78) dX12_of_78 (i := 2) rfl rfl ?_
              refine r_iconst (pc := 79) (v := iv 1) dX12_of_79 (by decide) ?_
              refine t_icmp_ne (pc := 80) (tgt := 92) dX12_of_80 (by decide) (by omega) (by omega) (fun c80 => ?_) (fun c80 => ?_)
              · refine r_iload_n (pc := 92) dX12_of_92 (i := 2) rfl rfl ?_
                refine r_iconst (pc := 93) (v := iv 2) dX12_of_93 (by decide) ?_
                refine t_icmp_ne (pc := 94) (tgt := 114) dX12_of_94 (by decide) (by omega) (by omega) (fun c94 => ?_) (fun c94 => ?_)
                · exfalso
                  omega
                · refine r_aload_n (pc := 97) dX12_of_97 (i := 0) rfl rfl ?_
                  refine t_getE (pc := 98) (.ref (y + 3)) ht49 (rd_of RX_y) fX12_16 dX12_of_98 rfl ?_
                  refine r_iload_n (pc := 101) dX12_of_101 (i := 1) rfl rfl ?_
                  refine t_zaldX (pc := 102) (t0 := 2) ht49 (rd_of RX_directs) dX12_of_102 rfl (by decide) (by omega) (fun b15 => ?_)
                  have rb15 := (show Rfx 121 0 1 dr by assumption) (Int.toNat x1) (by omega)
                  refine t_if_eq (pc := 103) (tgt := 110) dX12_of_103 (by decide) (by omega) (fun c103 => ?_) (fun c103 => ?_)
                  · refine r_iconst (pc := 110) (v := iv 0) dX12_of_110 (by decide) ?_
                    refine r_goto (pc := 111) (tgt := 166) dX12_of_111 (by decide) ?_
                    exact r_iret (pc := 166) dX12_of_166 rfl (hPo _ _ _ ⟨rfl, v_7, 0, ht49, rfl, (by (first | assumption | exact RK_set hk (by omega) (by omega))), (by (first | assumption | exact df_r _ _ _ _ _ _ _)), (by omega), (by (unfold dn1; by_cases hz1 : 0 ≤ x1 ∧ x1 < cn <;> by_cases hz2 : so (Int.toNat x1) = 1 <;> first | (exfalso; omega) | (rw [hdQ_y (by omega)] <;> omega) | (rw [hdQ_n (by omega), hdQ_y (by omega)] <;> omega) | (rw [hdQ_n (by omega), hdQ_n (by omega), hdQ_y (by omega)] <;> omega) | (rw [hdQ_n (by omega), hdQ_n (by omega), hdQ_n (fun h9 => h9)] <;> omega) | (rw [hdQ_n (by omega), hdQ_n (by omega), hdQ_n (by omega)] <;> omega))), (by omega), (by (intro h9; first | (exfalso; omega) | (unfold ofV; (try rw [← sh_at fr (60 * x1) (v := x3) (by omega)]); (try rw [← sh_at tt (60 * x1) (v := x3) (by omega)]); (try rw [← sh_at wt (60 * x1) (v := x3) (by omega)]); (try rw [← sh_at co (60 * x1) (v := x3) (by omega)]); (repeat' split) <;> first | rfl | omega)))⟩)
                  · refine r_iconst (pc := 106) (v := iv 1) dX12_of_106 (by decide) ?_
                    refine r_goto (pc := 107) (tgt := 166) dX12_of_107 (by decide) ?_
                    exact r_iret (pc := 166) dX12_of_166 rfl (hPo _ _ _ ⟨rfl, v_7, 1, ht49, rfl, (by (first | assumption | exact RK_set hk (by omega) (by omega))), (by (first | assumption | exact df_r _ _ _ _ _ _ _)), (by omega), (by (unfold dn1; by_cases hz1 : 0 ≤ x1 ∧ x1 < cn <;> by_cases hz2 : so (Int.toNat x1) = 1 <;> first | (exfalso; omega) | (rw [hdQ_y (by omega)] <;> omega) | (rw [hdQ_n (by omega), hdQ_y (by omega)] <;> omega) | (rw [hdQ_n (by omega), hdQ_n (by omega), hdQ_y (by omega)] <;> omega) | (rw [hdQ_n (by omega), hdQ_n (by omega), hdQ_n (fun h9 => h9)] <;> omega) | (rw [hdQ_n (by omega), hdQ_n (by omega), hdQ_n (by omega)] <;> omega))), (by omega), (by (intro h9; first | (exfalso; omega) | (unfold ofV; (try rw [← sh_at fr (60 * x1) (v := x3) (by omega)]); (try rw [← sh_at tt (60 * x1) (v := x3) (by omega)]); (try rw [← sh_at wt (60 * x1) (v := x3) (by omega)]); (try rw [← sh_at co (60 * x1) (v := x3) (by omega)]); (repeat' split) <;> first | rfl | omega)))⟩)
              · refine r_aload_n (pc := 83) dX12_of_83 (i := 0) rfl rfl ?_
                refine t_getE (pc := 84) (.ref (y + 4)) ht49 (rd_of RX_y) fX12_20 dX12_of_84 rfl ?_
                refine r_iload_n (pc := 87) dX12_of_87 (i := 1) rfl rfl ?_
                refine t_ialdX (pc := 88) (t0 := 0) ht49 (rd_of RX_many) dX12_of_88 rfl (by decide) (by omega) (fun b16 => ?_)
                have rb16 := (show Rfx 121 0 60 mn by assumption) (Int.toNat x1) (by omega)
                refine r_goto (pc := 89) (tgt := 166) dX12_of_89 (by decide) ?_
                exact r_iret (pc := 166) dX12_of_166 rfl (hPo _ _ _ ⟨rfl, v_7, (mn (Int.toNat x1)), ht49, rfl, (by (first | assumption | exact RK_set hk (by omega) (by omega))), (by (first | assumption | exact df_r _ _ _ _ _ _ _)), (by omega), (by (unfold dn1; by_cases hz1 : 0 ≤ x1 ∧ x1 < cn <;> by_cases hz2 : so (Int.toNat x1) = 1 <;> first | (exfalso; omega) | (rw [hdQ_y (by omega)] <;> omega) | (rw [hdQ_n (by omega), hdQ_y (by omega)] <;> omega) | (rw [hdQ_n (by omega), hdQ_n (by omega), hdQ_y (by omega)] <;> omega) | (rw [hdQ_n (by omega), hdQ_n (by omega), hdQ_n (fun h9 => h9)] <;> omega) | (rw [hdQ_n (by omega), hdQ_n (by omega), hdQ_n (by omega)] <;> omega))), (by omega), (by (intro h9; first | (exfalso; omega) | (unfold ofV; (try rw [← sh_at fr (60 * x1) (v := x3) (by omega)]); (try rw [← sh_at tt (60 * x1) (v := x3) (by omega)]); (try rw [← sh_at wt (60 * x1) (v := x3) (by omega)]); (try rw [← sh_at co (60 * x1) (v := x3) (by omega)]); (repeat' split) <;> first | rfl | omega)))⟩)
            · refine r_aload_n (pc := 69) dX12_of_69 (i := 0) rfl rfl ?_
              refine t_getE (pc := 70) (.ref (y + 2)) ht49 (rd_of RX_y) fX12_13 dX12_of_70 rfl ?_
              refine r_iload_n (pc := 73) dX12_of_73 (i := 1) rfl rfl ?_
              refine t_ialdX (pc := 74) (t0 := 0) ht49 (rd_of RX_sizes) dX12_of_74 rfl (by decide) (by omega) (fun b17 => ?_)
              have rb17 := (show Rfx 121 0 16 sz by assumption) (Int.toNat x1) (by omega)
              refine r_goto (pc := 75) (tgt := 166) dX12_of_75 (by decide) ?_
              exact r_iret (pc := 166) dX12_of_166 rfl (hPo _ _ _ ⟨rfl, v_7, (sz (Int.toNat x1)), ht49, rfl, (by (first | assumption | exact RK_set hk (by omega) (by omega))), (by (first | assumption | exact df_r _ _ _ _ _ _ _)), (by omega), (by (unfold dn1; by_cases hz1 : 0 ≤ x1 ∧ x1 < cn <;> by_cases hz2 : so (Int.toNat x1) = 1 <;> first | (exfalso; omega) | (rw [hdQ_y (by omega)] <;> omega) | (rw [hdQ_n (by omega), hdQ_y (by omega)] <;> omega) | (rw [hdQ_n (by omega), hdQ_n (by omega), hdQ_y (by omega)] <;> omega) | (rw [hdQ_n (by omega), hdQ_n (by omega), hdQ_n (fun h9 => h9)] <;> omega) | (rw [hdQ_n (by omega), hdQ_n (by omega), hdQ_n (by omega)] <;> omega))), (by omega), (by (intro h9; first | (exfalso; omega) | (unfold ofV; (try rw [← sh_at fr (60 * x1) (v := x3) (by omega)]); (try rw [← sh_at tt (60 * x1) (v := x3) (by omega)]); (try rw [← sh_at wt (60 * x1) (v := x3) (by omega)]); (try rw [← sh_at co (60 * x1) (v := x3) (by omega)]); (repeat' split) <;> first | rfl | omega)))⟩)
          · refine r_iload_n (pc := 54) dX12_of_54 (i := 1) rfl rfl ?_
            refine r_iload_n (pc := 55) dX12_of_55 (i := 3) rfl rfl ?_
            refine t_callSI (pc := 56) (as := [.int (iv x1), .int (iv x3)]) (st := []) kX12_157 dX12_of_56 (t_X12_at1x (d := d - 1) (x1 := x1) (x2 := x3) (by omega)  ht49 (by omega) (by omega)) rfl (by omega) (Nat.le_of_ble_eq_true rfl) rfl (fun hp18 y20 ht19 by20 => ?_)
            have ey20 : y20 = 60 * x1 + x3 := by20
            subst ey20
            refine r_goto (pc := 59) (tgt := 63) dX12_of_59 (by decide) ?_
            refine r_istore (pc := 63) (lv' := [(4, .int (iv (60 * x1 + x3))), (0, .ref y), (1, .int (iv x1)), (2, .int (iv x2)), (3, .int (iv x3))]) dX12_of_63 (by decide) rfl ?_
            refine r_iload_n (pc := 65) dX12_of_65 (i := 2) rfl rfl ?_
            refine t_if_ne (pc := 66) (tgt := 78) dX12_of_66 (by decide) (by omega) (fun c66 => ?_) (fun c66 => ?_)
            · refine r_iload_n (pc := 78) dX12_of_78 (i := 2) rfl rfl ?_
              refine r_iconst (pc := 79) (v := iv 1) dX12_of_79 (by decide) ?_
              refine t_icmp_ne (pc := 80) (tgt := 92) dX12_of_80 (by decide) (by omega) (by omega) (fun c80 => ?_) (fun c80 => ?_)
              · refine r_iload_n (pc := 92) dX12_of_92 (i := 2) rfl rfl ?_
                refine r_iconst (pc := 93) (v := iv 2) dX12_of_93 (by decide) ?_
                refine t_icmp_ne (pc := 94) (tgt := 114) dX12_of_94 (by decide) (by omega) (by omega) (fun c94 => ?_) (fun c94 => ?_)
                · refine r_iload_n (pc := 114) dX12_of_114 (i := 2) rfl rfl ?_
                  refine r_iconst (pc := 115) (v := iv 3) dX12_of_115 (by decide) ?_
                  refine t_icmp_ne (pc := 116) (tgt := 129) dX12_of_116 (by decide) (by omega) (by omega) (fun c116 => ?_) (fun c116 => ?_)
                  · refine r_iload_n (pc := 129) dX12_of_129 (i := 2) rfl rfl ?_
                    refine r_iconst (pc := 130) (v := iv 4) dX12_of_130 (by decide) ?_
                    refine t_icmp_ne (pc := 131) (tgt := 144) dX12_of_131 (by decide) (by omega) (by omega) (fun c131 => ?_) (fun c131 => ?_)
                    · refine r_iload_n (pc := 144) dX12_of_144 (i := 2) rfl rfl ?_
                      refine r_iconst (pc := 145) (v := iv 5) dX12_of_145 (by decide) ?_
                      refine t_icmp_ne (pc := 146) (tgt := 159) dX12_of_146 (by decide) (by omega) (by omega) (fun c146 => ?_) (fun c146 => ?_)
                      · refine r_aload_n (pc := 159) dX12_of_159 (i := 0) rfl rfl ?_
                        refine t_getE (pc := 160) (.ref (y + 8)) ht19 (rd_of RX_y) fX12_32 dX12_of_160 rfl ?_
                        refine r_iload (pc := 163) dX12_of_163 rfl ?_
                        refine t_ialdX (pc := 165) (t0 := 0) ht19 (rd_of RX_cost) dX12_of_165 rfl (by decide) (by omega) (fun b21 => ?_)
                        have rb21 := (show Rfx 7260 (-1000) 1000 co by assumption) (Int.toNat (60 * x1 + x3)) (by omega)
                        exact r_iret (pc := 166) dX12_of_166 rfl (hPo _ _ _ ⟨rfl, v_7, (co (Int.toNat (60 * x1 + x3))), ht19, rfl, (by (first | assumption | exact RK_set hk (by omega) (by omega))), (by (first | assumption | exact df_r _ _ _ _ _ _ _)), (by omega), (by (unfold dn1; by_cases hz1 : 0 ≤ x1 ∧ x1 < cn <;> by_cases hz2 : so (Int.toNat x1) = 1 <;> first | (exfalso; omega) | (rw [hdQ_y (by omega)] <;> omega) | (rw [hdQ_n (by omega), hdQ_y (by omega)] <;> omega) | (rw [hdQ_n (by omega), hdQ_n (by omega), hdQ_y (by omega)] <;> omega) | (rw [hdQ_n (by omega), hdQ_n (by omega), hdQ_n (fun h9 => h9)] <;> omega) | (rw [hdQ_n (by omega), hdQ_n (by omega), hdQ_n (by omega)] <;> omega))), (by omega), (by (intro h9; first | (exfalso; omega) | (unfold ofV; (try rw [← sh_at fr (60 * x1) (v := x3) (by omega)]); (try rw [← sh_at tt (60 * x1) (v := x3) (by omega)]); (try rw [← sh_at wt (60 * x1) (v := x3) (by omega)]); (try rw [← sh_at co (60 * x1) (v := x3) (by omega)]); (repeat' split) <;> first | rfl | omega)))⟩)
                      · refine r_aload_n (pc := 149) dX12_of_149 (i := 0) rfl rfl ?_
                        refine t_getE (pc := 150) (.ref (y + 7)) ht19 (rd_of RX_y) fX12_29 dX12_of_150 rfl ?_
                        refine r_iload (pc := 153) dX12_of_153 rfl ?_
                        refine t_ialdX (pc := 155) (t0 := 0) ht19 (rd_of RX_weight) dX12_of_155 rfl (by decide) (by omega) (fun b22 => ?_)
                        have rb22 := (show Rfx 7260 (-1000) 1000 wt by assumption) (Int.toNat (60 * x1 + x3)) (by omega)
                        refine r_goto (pc := 156) (tgt := 166) dX12_of_156 (by decide) ?_
                        exact r_iret (pc := 166) dX12_of_166 rfl (hPo _ _ _ ⟨rfl, v_7, (wt (Int.toNat (60 * x1 + x3))), ht19, rfl, (by (first | assumption | exact RK_set hk (by omega) (by omega))), (by (first | assumption | exact df_r _ _ _ _ _ _ _)), (by omega), (by (unfold dn1; by_cases hz1 : 0 ≤ x1 ∧ x1 < cn <;> by_cases hz2 : so (Int.toNat x1) = 1 <;> first | (exfalso; omega) | (rw [hdQ_y (by omega)] <;> omega) | (rw [hdQ_n (by omega), hdQ_y (by omega)] <;> omega) | (rw [hdQ_n (by omega), hdQ_n (by omega), hdQ_y (by omega)] <;> omega) | (rw [hdQ_n (by omega), hdQ_n (by omega), hdQ_n (fun h9 => h9)] <;> omega) | (rw [hdQ_n (by omega), hdQ_n (by omega), hdQ_n (by omega)] <;> omega))), (by omega), (by (intro h9; first | (exfalso; omega) | (unfold ofV; (try rw [← sh_at fr (60 * x1) (v := x3) (by omega)]); (try rw [← sh_at tt (60 * x1) (v := x3) (by omega)]); (try rw [← sh_at wt (60 * x1) (v := x3) (by omega)]); (try rw [← sh_at co (60 * x1) (v := x3) (by omega)]); (repeat' split) <;> first | rfl | omega)))⟩)
                    · refine r_aload_n (pc := 134) dX12_of_134 (i := 0) rfl rfl ?_
                      refine t_getE (pc := 135) (.ref (y + 6)) ht19 (rd_of RX_y) fX12_26 dX12_of_135 rfl ?_
                      refine r_iload (pc := 138) dX12_of_138 rfl ?_
                      refine t_ialdX (pc := 140) (t0 := 0) ht19 (rd_of RX_to) dX12_of_140 rfl (by decide) (by omega) (fun b23 => ?_)
                      have rb23 := (show Rfx 7260 0 15 tt by assumption) (Int.toNat (60 * x1 + x3)) (by omega)
                      refine r_goto (pc := 141) (tgt := 166) dX12_of_141 (by decide) ?_
                      exact r_iret (pc := 166) dX12_of_166 rfl (hPo _ _ _ ⟨rfl, v_7, (tt (Int.toNat (60 * x1 + x3))), ht19, rfl, (by (first | assumption | exact RK_set hk (by omega) (by omega))), (by (first | assumption | exact df_r _ _ _ _ _ _ _)), (by omega), (by (unfold dn1; by_cases hz1 : 0 ≤ x1 ∧ x1 < cn <;> by_cases hz2 : so (Int.toNat x1) = 1 <;> first | (exfalso; omega) | (rw [hdQ_y (by omega)] <;> omega) | (rw [hdQ_n (by omega), hdQ_y (by omega)] <;> omega) | (rw [hdQ_n (by omega), hdQ_n (by omega), hdQ_y (by omega)] <;> omega) | (rw [hdQ_n (by omega), hdQ_n (by omega), hdQ_n (fun h9 => h9)] <;> omega) | (rw [hdQ_n (by omega), hdQ_n (by omega), hdQ_n (by omega)] <;> omega))), (by omega), (by (intro h9; first | (exfalso; omega) | (unfold ofV; (try rw [← sh_at fr (60 * x1) (v := x3) (by omega)]); (try rw [← sh_at tt (60 * x1) (v := x3) (by omega)]); (try rw [← sh_at wt (60 * x1) (v := x3) (by omega)]); (try rw [← sh_at co (60 * x1) (v := x3) (by omega)]); (repeat' split) <;> first | rfl | omega)))⟩)
                  · refine r_aload_n (pc := 119) dX12_of_119 (i := 0) rfl rfl ?_
                    refine t_getE (pc := 120) (.ref (y + 5)) ht19 (rd_of RX_y) fX12_23 dX12_of_120 rfl ?_
                    refine r_iload (pc := 123) dX12_of_123 rfl ?_
                    refine t_ialdX (pc := 125) (t0 := 0) ht19 (rd_of RX_from) dX12_of_125 rfl (by decide) (by omega) (fun b24 => ?_)
                    have rb24 := (show Rfx 7260 0 15 fr by assumption) (Int.toNat (60 * x1 + x3)) (by omega)
                    refine r_goto (pc := 126) (tgt := 166) dX12_of_126 (by decide) ?_
                    exact r_iret (pc := 166) dX12_of_166 rfl (hPo _ _ _ ⟨rfl, v_7, (fr (Int.toNat (60 * x1 + x3))), ht19, rfl, (by (first | assumption | exact RK_set hk (by omega) (by omega))), (by (first | assumption | exact df_r _ _ _ _ _ _ _)), (by omega), (by (unfold dn1; by_cases hz1 : 0 ≤ x1 ∧ x1 < cn <;> by_cases hz2 : so (Int.toNat x1) = 1 <;> first | (exfalso; omega) | (rw [hdQ_y (by omega)] <;> omega) | (rw [hdQ_n (by omega), hdQ_y (by omega)] <;> omega) | (rw [hdQ_n (by omega), hdQ_n (by omega), hdQ_y (by omega)] <;> omega) | (rw [hdQ_n (by omega), hdQ_n (by omega), hdQ_n (fun h9 => h9)] <;> omega) | (rw [hdQ_n (by omega), hdQ_n (by omega), hdQ_n (by omega)] <;> omega))), (by omega), (by (intro h9; first | (exfalso; omega) | (unfold ofV; (try rw [← sh_at fr (60 * x1) (v := x3) (by omega)]); (try rw [← sh_at tt (60 * x1) (v := x3) (by omega)]); (try rw [← sh_at wt (60 * x1) (v := x3) (by omega)]); (try rw [← sh_at co (60 * x1) (v := x3) (by omega)]); (repeat' split) <;> first | rfl | omega)))⟩)
                · exfalso
                  omega
              · exfalso
                omega
            · exfalso
              omega
        refine t_icmp_le (pc := 23) (tgt := 49) dX12_of_23 (by decide) (by omega) (by omega) (fun c23 => ?_) (fun c23 => ?_)
        · refine Rn.pick (lv' := [(0, .ref y), (1, .int (iv x1)), (2, .int (iv x2)), (3, .int (iv x3))]) [0, 1, 2, 3] rfl ?_
          exact B49 _ ht6 ⟨by omega, by omega, by omega⟩
        · refine r_iload_n (pc := 26) dX12_of_26 (i := 3) rfl rfl ?_
          refine t_if_lt (pc := 27) (tgt := 40) dX12_of_27 (by decide) (by omega) (fun c27 => ?_) (fun c27 => ?_)
          · refine Rn.pick (lv' := [(0, .ref y)]) [0] rfl ?_
            exact B40 _ ht6 (by omega)
          · refine r_iload_n (pc := 30) dX12_of_30 (i := 3) rfl rfl ?_
            refine r_aload_n (pc := 31) dX12_of_31 (i := 0) rfl rfl ?_
            refine t_getE (pc := 32) (.ref (y + 4)) ht6 (rd_of RX_y) fX12_20 dX12_of_32 rfl ?_
            refine r_iload_n (pc := 35) dX12_of_35 (i := 1) rfl rfl ?_
            refine t_ialdX (pc := 36) (t0 := 0) ht6 (rd_of RX_many) dX12_of_36 rfl (by decide) (by omega) (fun b25 => ?_)
            have rb25 := (show Rfx 121 0 60 mn by assumption) (Int.toNat x1) (by omega)
            refine t_icmp_lt (pc := 37) (tgt := 49) dX12_of_37 (by decide) (by omega) (by omega) (fun c37 => ?_) (fun c37 => ?_)
            · refine Rn.pick (lv' := [(0, .ref y), (1, .int (iv x1)), (2, .int (iv x2)), (3, .int (iv x3))]) [0, 1, 2, 3] rfl ?_
              exact B49 _ ht6 ⟨by omega, by omega, by omega⟩
            · refine Rn.pick (lv' := [(0, .ref y)]) [0] rfl ?_
              exact B40 _ ht6 (by omega)
  · refine r_iconst (pc := 9) (v := iv 0) dX12_of_9 (by decide) ?_
    exact r_iret (pc := 10) dX12_of_10 rfl (hPo _ _ _ ⟨rfl, v_7, 0, ht6, rfl, (by (first | assumption | exact RK_set hk (by omega) (by omega))), (by (first | assumption | exact df_r _ _ _ _ _ _ _)), (by omega), (by (unfold dn1; by_cases hz1 : 0 ≤ x1 ∧ x1 < cn <;> by_cases hz2 : so (Int.toNat x1) = 1 <;> first | (exfalso; omega) | (rw [hdQ_y (by omega)] <;> omega) | (rw [hdQ_n (by omega), hdQ_y (by omega)] <;> omega) | (rw [hdQ_n (by omega), hdQ_n (by omega), hdQ_y (by omega)] <;> omega) | (rw [hdQ_n (by omega), hdQ_n (by omega), hdQ_n (fun h9 => h9)] <;> omega) | (rw [hdQ_n (by omega), hdQ_n (by omega), hdQ_n (by omega)] <;> omega))), (by omega), (by (intro h9; first | (exfalso; omega) | (unfold ofV; (try rw [← sh_at fr (60 * x1) (v := x3) (by omega)]); (try rw [← sh_at tt (60 * x1) (v := x3) (by omega)]); (try rw [← sh_at wt (60 * x1) (v := x3) (by omega)]); (try rw [← sh_at co (60 * x1) (v := x3) (by omega)]); (repeat' split) <;> first | rfl | omega)))⟩)
set_option maxHeartbeats 4000000 in
set_option maxRecDepth 100000 in
theorem x_X12_at {D : va_G} {cI cJ cZ cT : ClassId} {lo b L : Nat} {xs : Nat → Int32} {hp : MH} {n d : Nat} {Γ : TG} {y : Nat} {rf cn nm : Int} {so sz dr mn fr tt wt co : Nat → Int} {nu : Nat → Int64} {sa : Nat → Int} {wo : Nat → Int64} {ln : Nat → Int} {hw : Nat → Int64} {ro qi qc nf nt nw nc : Nat → Int} {cl nx : Nat → Int64} {ie be sd bl : Nat → Int} {bs wy ra rb : Nat → Int64} {lb bg os js ls : Nat → Int} {sp : Nat → Int64} {jw go : Nat → Int} {de : Nat → Int64} {yb ah im : Nat → Int} {x1 x2 : Int} {Po9 : Option Value → MH → Nat → Prop} (hd0 : 2 ≤ d) (hk : RK rf cn nm so sz dr mn fr tt wt co nu qi qc nf nt nw nc) (ht : Tw (RX Γ cI cJ cZ y rf cn nm so sz dr mn fr tt wt co nu sa wo ln hw ro qi qc nf nt nw nc cl nx ie be sd bl bs wy ra rb lb bg os js ls sp jw go de yb ah im) hp) (hx1 : (-2147483648) ≤ x1 ∧ x1 ≤ 2147483647) (hx2 : (-2147483648) ≤ x2 ∧ x2 ≤ 2147483647) (hPo : ∀ r hp1 n1, (n1 = n ∧ ∃ (rf' : Int) (v' : Int64), Tw (RX Γ cI cJ cZ y rf' cn nm so sz dr mn fr tt wt co nu sa wo ln hw ro qi qc nf nt nw nc cl nx ie be sd bl bs wy ra rb lb bg os js ls sp jw go de yb ah im) hp1 ∧ r = some (.long v') ∧ (RK rf' cn nm so sz dr mn fr tt wt co nu qi qc nf nt nw nc) ∧ (dfE sz dr mn fr tt wt co sz dr mn fr tt wt co) ∧ (rf' = dn1 cn so x1 2 (x2 ≠ -1 ∧ ¬ (0 ≤ x2 ∧ x2 < sz (Int.toNat x1)))) ∧ (rf' ≠ 0 → v' = 0) ∧ (rf' = 0 → x2 = -1 → v' = suA (sj nu (16 * x1)) (Int.toNat (sz (Int.toNat x1)))) ∧ (rf' = 0 → x2 ≠ -1 → v' = sj nu (16 * x1) (Int.toNat x2))) → Po9 r hp1 n1) : Mt (gG D cI cJ cZ cT lo b L xs) mX12_at d 0 0 [.ref y, .int (iv x1), .int (iv x2)] hp n Po9 := by
  refine Mt.of rfl (Nat.le_of_ble_eq_true rfl) ?_
  refine Rn.pick (lv' := [(0, .ref y), (1, .int (iv x1)), (2, .int (iv x2))]) [0, 1, 2] rfl ?_
  obtain ⟨hR_sorts, hR_sizes, hR_directs, hR_many, hR_from, hR_to, hR_weight, hR_cost, hR_inPart, hR_partCount, hcn, hrf, hnm, hdf, hgr, hpa, hsz⟩ := id hk
  refine r_aload_n (pc := 0) dX12_at_0 (i := 0) rfl rfl ?_
  refine r_iload_n (pc := 1) dX12_at_1 (i := 1) rfl rfl ?_
  refine r_iconst (pc := 2) (v := iv 2) dX12_at_2 (by decide) ?_
  obtain ⟨fs5, hfs5⟩ := t_obj ht (rd_of RX_y)
  refine r_callV (pc := 3) (as := [.int (iv x1), .int (iv 2)]) (st := []) kX12_183 rfl dX12_at_3 hfs5 (x_X12_has (d := d - 1) (x1 := x1) (x2 := 2) (by omega) (by omega) (by assumption) ht (by omega) (by omega) (fun _ _ _ h => h)) rfl (by omega) (Nat.le_of_ble_eq_true rfl) (Nat.zero_le _) (Nat.zero_le _) rfl (fun r2 hp1 n3 hq4 => ?_)
  obtain ⟨hnn3, v_7, b_8, ht6, hrr2, hhq40, hhq41⟩ := hq4
  subst n3 r2
  have hhq40 : -2 ≤ v_7 ∧ v_7 ≤ 0 ∧ (b_8 = 0 ∨ b_8 = 1) := hhq40
  have hhq41 : (b_8 = 1 ∧ v_7 = 0 ∧ 0 ≤ x1 ∧ x1 < cn ∧ so (Int.toNat x1) = 2) ∨ (b_8 = 0 ∧ v_7 = -1 ∧ ¬ (0 ≤ x1 ∧ x1 < cn)) ∨ (b_8 = 0 ∧ v_7 = -2 ∧ 0 ≤ x1 ∧ x1 < cn ∧ so (Int.toNat x1) ≠ 2) := hhq41
  change Rn _ _ _ 6 _ [.int (iv b_8)] _ _ _ _ _
  refine t_if_ne (pc := 6) (tgt := 11) dX12_at_6 (by decide) (by omega) (fun c6 => ?_) (fun c6 => ?_)
  · have rsz6 := hR_sizes (Int.toNat x1) (by omega)
    have rsy6 := hsz x1 (by omega) (by omega)
    refine r_iload_n (pc := 11) dX12_at_11 (i := 2) rfl rfl ?_
    refine r_iconst (pc := 12) (v := iv (-1)) dX12_at_12 (by decide) ?_
    refine t_icmp_ne (pc := 13) (tgt := 55) dX12_at_13 (by decide) (by omega) (by omega) (fun c13 => ?_) (fun c13 => ?_)
    · refine r_aload_n (pc := 55) dX12_at_55 (i := 0) rfl rfl ?_
      refine r_iload_n (pc := 56) dX12_at_56 (i := 1) rfl rfl ?_
      refine r_iload_n (pc := 57) dX12_at_57 (i := 2) rfl rfl ?_
      obtain ⟨fs13, hfs13⟩ := t_obj ht6 (rd_of RX_y)
      refine r_callV (pc := 58) (as := [.int (iv x1), .int (iv x2)]) (st := []) kX12_307 rfl dX12_at_58 hfs13 (x_X12_isNode (d := d - 1) (x1 := x1) (x2 := x2) (by omega) (by assumption) (by omega) ht6 (by omega) (by omega) (fun _ _ _ h => h)) rfl (by omega) (Nat.le_of_ble_eq_true rfl) (Nat.zero_le _) (Nat.zero_le _) rfl (fun r10 hp9 n11 hq12 => ?_)
      obtain ⟨hnn11, v_15, b_16, ht14, hrr10, hhq120⟩ := hq12
      subst n11 r10
      have hhq120 : (b_16 = 1 ∧ v_15 = v_7 ∧ 0 ≤ x2 ∧ x2 < sz (Int.toNat x1)) ∨ (b_16 = 0 ∧ v_15 = -3 ∧ ¬ (0 ≤ x2 ∧ x2 < sz (Int.toNat x1))) := hhq120
      change Rn _ _ _ 61 _ [.int (iv b_16)] _ _ _ _ _
      refine t_if_eq (pc := 61) (tgt := 78) dX12_at_61 (by decide) (by omega) (fun c61 => ?_) (fun c61 => ?_)
      · refine r_lconst (pc := 78) (v := 0) dX12_at_78 (by decide) ?_
        exact r_lret (pc := 79) dX12_at_79 rfl (hPo _ _ _ ⟨rfl, v_15, (0 : Int64), ht14, rfl, (by (first | assumption | exact RK_set hk (by omega) (by omega))), (by (first | assumption | exact df_r _ _ _ _ _ _ _)), (by (unfold dn1; by_cases hz1 : 0 ≤ x1 ∧ x1 < cn <;> by_cases hz2 : so (Int.toNat x1) = 2 <;> first | (exfalso; omega) | (rw [hdQ_y (by omega)] <;> omega) | (rw [hdQ_n (by omega), hdQ_y (by omega)] <;> omega) | (rw [hdQ_n (by omega), hdQ_n (by omega), hdQ_y (by omega)] <;> omega) | (rw [hdQ_n (by omega), hdQ_n (by omega), hdQ_n (fun h9 => h9)] <;> omega) | (rw [hdQ_n (by omega), hdQ_n (by omega), hdQ_n (by omega)] <;> omega))), (by (intro h9; first | rfl | (exfalso; omega))), (by (intro h9 h8; first | (exfalso; omega) | (rw [← show v21_5 = (sz (Int.toNat x1)) by omega]; assumption))), (by (intro h9 h8; first | (exfalso; omega) | exact sj_at nu (16 * x1) (by omega)))⟩)
      · refine r_aload_n (pc := 64) dX12_at_64 (i := 0) rfl rfl ?_
        refine t_getE (pc := 65) (.ref (y + 9)) ht14 (rd_of RX_y) fX12_35 dX12_at_65 rfl ?_
        refine r_bipush (pc := 68) (v := iv 16) dX12_at_68 (by decide) ?_
        refine r_iload_n (pc := 70) dX12_at_70 (i := 1) rfl rfl ?_
        refine r_imul (pc := 71) (v := iv (16 * x1)) dX12_at_71 (iv_mul _ _) ?_
        refine r_iload_n (pc := 72) dX12_at_72 (i := 2) rfl rfl ?_
        refine r_iadd (pc := 73) (v := iv ((16 * x1) + x2)) dX12_at_73 (iv_add _ _) ?_
        refine t_laldX (pc := 74) (t0 := 1) ht14 (rd_of RX_numbers) dX12_at_74 rfl (by decide) (by omega) ?_
        refine r_goto (pc := 75) (tgt := 79) dX12_at_75 (by decide) ?_
        exact r_lret (pc := 79) dX12_at_79 rfl (hPo _ _ _ ⟨rfl, v_15, (nu (Int.toNat ((16 * x1) + x2))), ht14, rfl, (by (first | assumption | exact RK_set hk (by omega) (by omega))), (by (first | assumption | exact df_r _ _ _ _ _ _ _)), (by (unfold dn1; by_cases hz1 : 0 ≤ x1 ∧ x1 < cn <;> by_cases hz2 : so (Int.toNat x1) = 2 <;> first | (exfalso; omega) | (rw [hdQ_y (by omega)] <;> omega) | (rw [hdQ_n (by omega), hdQ_y (by omega)] <;> omega) | (rw [hdQ_n (by omega), hdQ_n (by omega), hdQ_y (by omega)] <;> omega) | (rw [hdQ_n (by omega), hdQ_n (by omega), hdQ_n (fun h9 => h9)] <;> omega) | (rw [hdQ_n (by omega), hdQ_n (by omega), hdQ_n (by omega)] <;> omega))), (by (intro h9; first | rfl | (exfalso; omega))), (by (intro h9 h8; first | (exfalso; omega) | (rw [← show v21_5 = (sz (Int.toNat x1)) by omega]; assumption))), (by (intro h9 h8; first | (exfalso; omega) | exact sj_at nu (16 * x1) (by omega)))⟩)
    · refine r_lconst (pc := 16) (v := 0) dX12_at_16 (by decide) ?_
      refine r_lstore_n (pc := 17) (lv' := [(3, .long (0 : Int64)), (0, .ref y), (1, .int (iv x1)), (2, .int (iv x2))]) dX12_at_17 (i := 3) rfl (by decide) rfl ?_
      refine r_iconst (pc := 18) (v := iv 0) dX12_at_18 (by decide) ?_
      refine r_istore (pc := 19) (lv' := [(5, .int (iv 0)), (3, .long (0 : Int64)), (0, .ref y), (1, .int (iv x1)), (2, .int (iv x2))]) dX12_at_19 (by decide) rfl ?_
      have B21 : ∀ k : Nat, ∀ hp21 : MH, Tw (RX Γ cI cJ cZ y v_7 cn nm so sz dr mn fr tt wt co nu sa wo ln hw ro qi qc nf nt nw nc cl nx ie be sd bl bs wy ra rb lb bg os js ls sp jw go de yb ah im) hp21 → ∀  (v21_5 : Int) (w21_3 : Int64), 0 ≤ v21_5 ∧ v21_5 ≤ 16 ∧ (v21_5 ≤ (sz (Int.toNat x1))) ∧ (w21_3 = suA (sj nu (16 * x1)) (Int.toNat v21_5)) → 16 - v21_5 ≤ (k : Int) → Rn (gG D cI cJ cZ cT lo b L xs) mX12_at d 21 [(0, .ref y), (1, .int (iv x1)), (3, .long w21_3), (5, .int (iv v21_5))] [] hp21 n 0 0 Po9 := by
        refine lpS _ ?_
        intro k21 ih21 hp21 ht21 v21_5 w21_3 hf21 hm21
        obtain ⟨hf21_0, hf21_1, hf21_2, ha21_3⟩ := hf21
        refine r_iload (pc := 21) dX12_at_21 rfl ?_
        refine r_aload_n (pc := 23) dX12_at_23 (i := 0) rfl rfl ?_
        refine t_getE (pc := 24) (.ref (y + 2)) ht21 (rd_of RX_y) fX12_13 dX12_at_24 rfl ?_
        refine r_iload_n (pc := 27) dX12_at_27 (i := 1) rfl rfl ?_
        refine t_ialdX (pc := 28) (t0 := 0) ht21 (rd_of RX_sizes) dX12_at_28 rfl (by decide) (by omega) (fun b17 => ?_)
        have rb17 := (show Rfx 121 0 16 sz by assumption) (Int.toNat x1) (by omega)
        refine t_icmp_ge (pc := 29) (tgt := 53) dX12_at_29 (by decide) (by omega) (by omega) (fun c29 => ?_) (fun c29 => ?_)
        · refine r_lload_n (pc := 53) dX12_at_53 (i := 3) rfl rfl ?_
          exact r_lret (pc := 54) dX12_at_54 rfl (hPo _ _ _ ⟨rfl, v_7, w21_3, ht21, rfl, (by (first | assumption | exact RK_set hk (by omega) (by omega))), (by (first | assumption | exact df_r _ _ _ _ _ _ _)), (by (unfold dn1; by_cases hz1 : 0 ≤ x1 ∧ x1 < cn <;> by_cases hz2 : so (Int.toNat x1) = 2 <;> first | (exfalso; omega) | (rw [hdQ_y (by omega)] <;> omega) | (rw [hdQ_n (by omega), hdQ_y (by omega)] <;> omega) | (rw [hdQ_n (by omega), hdQ_n (by omega), hdQ_y (by omega)] <;> omega) | (rw [hdQ_n (by omega), hdQ_n (by omega), hdQ_n (fun h9 => h9)] <;> omega) | (rw [hdQ_n (by omega), hdQ_n (by omega), hdQ_n (by omega)] <;> omega))), (by (intro h9; first | rfl | (exfalso; omega))), (by (intro h9 h8; first | (exfalso; omega) | (rw [← show v21_5 = (sz (Int.toNat x1)) by omega]; assumption))), (by (intro h9 h8; first | (exfalso; omega) | exact sj_at nu (16 * x1) (by omega)))⟩)
        · refine r_lload_n (pc := 32) dX12_at_32 (i := 3) rfl rfl ?_
          refine r_aload_n (pc := 33) dX12_at_33 (i := 0) rfl rfl ?_
          refine t_getE (pc := 34) (.ref (y + 9)) ht21 (rd_of RX_y) fX12_35 dX12_at_34 rfl ?_
          refine r_bipush (pc := 37) (v := iv 16) dX12_at_37 (by decide) ?_
          refine r_iload_n (pc := 39) dX12_at_39 (i := 1) rfl rfl ?_
          refine r_imul (pc := 40) (v := iv (16 * x1)) dX12_at_40 (iv_mul _ _) ?_
          refine r_iload (pc := 41) dX12_at_41 rfl ?_
          refine r_iadd (pc := 43) (v := iv ((16 * x1) + v21_5)) dX12_at_43 (iv_add _ _) ?_
          refine t_laldX (pc := 44) (t0 := 1) ht21 (rd_of RX_numbers) dX12_at_44 rfl (by decide) (by omega) ?_
          refine r_ladd (pc := 45) (v := w21_3 + (nu (Int.toNat ((16 * x1) + v21_5)))) dX12_at_45 rfl ?_
          refine r_lstore_n (pc := 46) (lv' := [(3, .long (w21_3 + (nu (Int.toNat ((16 * x1) + v21_5))))), (0, .ref y), (1, .int (iv x1)), (5, .int (iv v21_5))]) dX12_at_46 (i := 3) rfl (by decide) rfl ?_
          refine r_iinc (pc := 47) (v := iv (v21_5 + 1)) (lv' := [(5, .int (iv (v21_5 + 1))), (3, .long (w21_3 + (nu (Int.toNat ((16 * x1) + v21_5))))), (0, .ref y), (1, .int (iv x1))]) dX12_at_47 rfl (iv_add _ _) (by decide) rfl ?_
          refine r_goto (pc := 50) (tgt := 21) dX12_at_50 (by decide) ?_
          refine Rn.pick (lv' := [(0, .ref y), (1, .int (iv x1)), (3, .long (w21_3 + (nu (Int.toNat ((16 * x1) + v21_5))))), (5, .int (iv (v21_5 + 1)))]) [2, 3, 1, 0] rfl ?_
          exact ih21 (Int.toNat (16 - (v21_5 + 1))) (by omega) _ ht21 (v21_5 + 1) (w21_3 + (nu (Int.toNat ((16 * x1) + v21_5)))) ⟨by omega, by omega, by omega, by (first | rfl | (rw [sj_at nu (16 * x1) (v := v21_5) (by omega)]; exact su_up (by assumption) (by omega)))⟩ (by omega)
      refine Rn.pick (lv' := [(0, .ref y), (1, .int (iv x1)), (3, .long (0 : Int64)), (5, .int (iv 0))]) [2, 3, 1, 0] rfl ?_
      exact B21 (Int.toNat (16 - 0)) _ ht6 0 (0 : Int64) ⟨by omega, by omega, by omega, by (first | rfl | (rw [sj_at nu (16 * x1) (v := v21_5) (by omega)]; exact su_up (by assumption) (by omega)))⟩ (by omega)
  · refine r_lconst (pc := 9) (v := 0) dX12_at_9 (by decide) ?_
    exact r_lret (pc := 10) dX12_at_10 rfl (hPo _ _ _ ⟨rfl, v_7, (0 : Int64), ht6, rfl, (by (first | assumption | exact RK_set hk (by omega) (by omega))), (by (first | assumption | exact df_r _ _ _ _ _ _ _)), (by (unfold dn1; by_cases hz1 : 0 ≤ x1 ∧ x1 < cn <;> by_cases hz2 : so (Int.toNat x1) = 2 <;> first | (exfalso; omega) | (rw [hdQ_y (by omega)] <;> omega) | (rw [hdQ_n (by omega), hdQ_y (by omega)] <;> omega) | (rw [hdQ_n (by omega), hdQ_n (by omega), hdQ_y (by omega)] <;> omega) | (rw [hdQ_n (by omega), hdQ_n (by omega), hdQ_n (fun h9 => h9)] <;> omega) | (rw [hdQ_n (by omega), hdQ_n (by omega), hdQ_n (by omega)] <;> omega))), (by (intro h9; first | rfl | (exfalso; omega))), (by (intro h9 h8; first | (exfalso; omega) | (rw [← show v21_5 = (sz (Int.toNat x1)) by omega]; assumption))), (by (intro h9 h8; first | (exfalso; omega) | exact sj_at nu (16 * x1) (by omega)))⟩)
set_option maxHeartbeats 4000000 in
set_option maxRecDepth 100000 in
theorem x_X12_part {D : va_G} {cI cJ cZ cT : ClassId} {lo b L : Nat} {xs : Nat → Int32} {hp : MH} {n d : Nat} {Γ : TG} {y : Nat} {rf cn nm : Int} {so sz dr mn fr tt wt co : Nat → Int} {nu : Nat → Int64} {sa : Nat → Int} {wo : Nat → Int64} {ln : Nat → Int} {hw : Nat → Int64} {ro qi qc nf nt nw nc : Nat → Int} {cl nx : Nat → Int64} {ie be sd bl : Nat → Int} {bs wy ra rb : Nat → Int64} {lb bg os js ls : Nat → Int} {sp : Nat → Int64} {jw go : Nat → Int} {de : Nat → Int64} {yb ah im : Nat → Int} {x1 x2 : Int} {Po9 : Option Value → MH → Nat → Prop} (hd0 : 2 ≤ d) (hk : RK rf cn nm so sz dr mn fr tt wt co nu qi qc nf nt nw nc) (ht : Tw (RX Γ cI cJ cZ y rf cn nm so sz dr mn fr tt wt co nu sa wo ln hw ro qi qc nf nt nw nc cl nx ie be sd bl bs wy ra rb lb bg os js ls sp jw go de yb ah im) hp) (hx1 : (-2147483648) ≤ x1 ∧ x1 ≤ 2147483647) (hx2 : (-2147483648) ≤ x2 ∧ x2 ≤ 2147483647) (hPo : ∀ r hp1 n1, (n1 = n ∧ ∃ (rf' : Int) (v' : Int), Tw (RX Γ cI cJ cZ y rf' cn nm so sz dr mn fr tt wt co nu sa wo ln hw ro qi qc nf nt nw nc cl nx ie be sd bl bs wy ra rb lb bg os js ls sp jw go de yb ah im) hp1 ∧ r = some (.int (iv v')) ∧ (RK rf' cn nm so sz dr mn fr tt wt co nu qi qc nf nt nw nc) ∧ (dfE sz dr mn fr tt wt co sz dr mn fr tt wt co) ∧ (-2147483648 ≤ v' ∧ v' ≤ 2147483647) ∧ (rf' = dn1 cn so x1 4 (x2 ≠ -1 ∧ ¬ (0 ≤ x2 ∧ x2 < sz (Int.toNat x1)))) ∧ (rf' ≠ 0 → v' = 0) ∧ (rf' = 0 → x2 = -1 → v' = qc (Int.toNat x1)) ∧ (rf' = 0 → x2 ≠ -1 → v' = sh qi (16 * x1) (Int.toNat x2))) → Po9 r hp1 n1) : Mt (gG D cI cJ cZ cT lo b L xs) mX12_part d 0 0 [.ref y, .int (iv x1), .int (iv x2)] hp n Po9 := by
  refine Mt.of rfl (Nat.le_of_ble_eq_true rfl) ?_
  refine Rn.pick (lv' := [(0, .ref y), (1, .int (iv x1)), (2, .int (iv x2))]) [0, 1, 2] rfl ?_
  obtain ⟨hR_sorts, hR_sizes, hR_directs, hR_many, hR_from, hR_to, hR_weight, hR_cost, hR_inPart, hR_partCount, hcn, hrf, hnm, hdf, hgr, hpa, hsz⟩ := id hk
  refine r_aload_n (pc := 0) dX12_part_0 (i := 0) rfl rfl ?_
  refine r_iload_n (pc := 1) dX12_part_1 (i := 1) rfl rfl ?_
  refine r_iconst (pc := 2) (v := iv 4) dX12_part_2 (by decide) ?_
  obtain ⟨fs5, hfs5⟩ := t_obj ht (rd_of RX_y)
  refine r_callV (pc := 3) (as := [.int (iv x1), .int (iv 4)]) (st := []) kX12_183 rfl dX12_part_3 hfs5 (x_X12_has (d := d - 1) (x1 := x1) (x2 := 4) (by omega) (by omega) (by assumption) ht (by omega) (by omega) (fun _ _ _ h => h)) rfl (by omega) (Nat.le_of_ble_eq_true rfl) (Nat.zero_le _) (Nat.zero_le _) rfl (fun r2 hp1 n3 hq4 => ?_)
  obtain ⟨hnn3, v_7, b_8, ht6, hrr2, hhq40, hhq41⟩ := hq4
  subst n3 r2
  have hhq40 : -2 ≤ v_7 ∧ v_7 ≤ 0 ∧ (b_8 = 0 ∨ b_8 = 1) := hhq40
  have hhq41 : (b_8 = 1 ∧ v_7 = 0 ∧ 0 ≤ x1 ∧ x1 < cn ∧ so (Int.toNat x1) = 4) ∨ (b_8 = 0 ∧ v_7 = -1 ∧ ¬ (0 ≤ x1 ∧ x1 < cn)) ∨ (b_8 = 0 ∧ v_7 = -2 ∧ 0 ≤ x1 ∧ x1 < cn ∧ so (Int.toNat x1) ≠ 4) := hhq41
  change Rn _ _ _ 6 _ [.int (iv b_8)] _ _ _ _ _
  refine t_if_ne (pc := 6) (tgt := 11) dX12_part_6 (by decide) (by omega) (fun c6 => ?_) (fun c6 => ?_)
  · have rsz6 := hR_sizes (Int.toNat x1) (by omega)
    have rsy6 := hsz x1 (by omega) (by omega)
    refine r_iload_n (pc := 11) dX12_part_11 (i := 2) rfl rfl ?_
    refine r_iconst (pc := 12) (v := iv (-1)) dX12_part_12 (by decide) ?_
    refine t_icmp_ne (pc := 13) (tgt := 23) dX12_part_13 (by decide) (by omega) (by omega) (fun c13 => ?_) (fun c13 => ?_)
    · refine r_aload_n (pc := 23) dX12_part_23 (i := 0) rfl rfl ?_
      refine r_iload_n (pc := 24) dX12_part_24 (i := 1) rfl rfl ?_
      refine r_iload_n (pc := 25) dX12_part_25 (i := 2) rfl rfl ?_
      obtain ⟨fs13, hfs13⟩ := t_obj ht6 (rd_of RX_y)
      refine r_callV (pc := 26) (as := [.int (iv x1), .int (iv x2)]) (st := []) kX12_307 rfl dX12_part_26 hfs13 (x_X12_isNode (d := d - 1) (x1 := x1) (x2 := x2) (by omega) (by assumption) (by omega) ht6 (by omega) (by omega) (fun _ _ _ h => h)) rfl (by omega) (Nat.le_of_ble_eq_true rfl) (Nat.zero_le _) (Nat.zero_le _) rfl (fun r10 hp9 n11 hq12 => ?_)
      obtain ⟨hnn11, v_15, b_16, ht14, hrr10, hhq120⟩ := hq12
      subst n11 r10
      have hhq120 : (b_16 = 1 ∧ v_15 = v_7 ∧ 0 ≤ x2 ∧ x2 < sz (Int.toNat x1)) ∨ (b_16 = 0 ∧ v_15 = -3 ∧ ¬ (0 ≤ x2 ∧ x2 < sz (Int.toNat x1))) := hhq120
      change Rn _ _ _ 29 _ [.int (iv b_16)] _ _ _ _ _
      refine t_if_eq (pc := 29) (tgt := 46) dX12_part_29 (by decide) (by omega) (fun c29 => ?_) (fun c29 => ?_)
      · refine r_iconst (pc := 46) (v := iv 0) dX12_part_46 (by decide) ?_
        exact r_iret (pc := 47) dX12_part_47 rfl (hPo _ _ _ ⟨rfl, v_15, 0, ht14, rfl, (by (first | assumption | exact RK_set hk (by omega) (by omega))), (by (first | assumption | exact df_r _ _ _ _ _ _ _)), (by omega), (by (unfold dn1; by_cases hz1 : 0 ≤ x1 ∧ x1 < cn <;> by_cases hz2 : so (Int.toNat x1) = 4 <;> first | (exfalso; omega) | (rw [hdQ_y (by omega)] <;> omega) | (rw [hdQ_n (by omega), hdQ_y (by omega)] <;> omega) | (rw [hdQ_n (by omega), hdQ_n (by omega), hdQ_y (by omega)] <;> omega) | (rw [hdQ_n (by omega), hdQ_n (by omega), hdQ_n (fun h9 => h9)] <;> omega) | (rw [hdQ_n (by omega), hdQ_n (by omega), hdQ_n (by omega)] <;> omega))), (by omega), (by omega), (by (intro h9 h8; first | (exfalso; omega) | exact sh_at qi (16 * x1) (by omega)))⟩)
      · refine r_aload_n (pc := 32) dX12_part_32 (i := 0) rfl rfl ?_
        refine t_getE (pc := 33) (.ref (y + 15)) ht14 (rd_of RX_y) fX12_54 dX12_part_33 rfl ?_
        refine r_bipush (pc := 36) (v := iv 16) dX12_part_36 (by decide) ?_
        refine r_iload_n (pc := 38) dX12_part_38 (i := 1) rfl rfl ?_
        refine r_imul (pc := 39) (v := iv (16 * x1)) dX12_part_39 (iv_mul _ _) ?_
        refine r_iload_n (pc := 40) dX12_part_40 (i := 2) rfl rfl ?_
        refine r_iadd (pc := 41) (v := iv ((16 * x1) + x2)) dX12_part_41 (iv_add _ _) ?_
        refine t_ialdX (pc := 42) (t0 := 0) ht14 (rd_of RX_inPart) dX12_part_42 rfl (by decide) (by omega) (fun b17 => ?_)
        have rb17 := (show Rfx 1936 0 15 qi by assumption) (Int.toNat ((16 * x1) + x2)) (by omega)
        refine r_goto (pc := 43) (tgt := 47) dX12_part_43 (by decide) ?_
        exact r_iret (pc := 47) dX12_part_47 rfl (hPo _ _ _ ⟨rfl, v_15, (qi (Int.toNat ((16 * x1) + x2))), ht14, rfl, (by (first | assumption | exact RK_set hk (by omega) (by omega))), (by (first | assumption | exact df_r _ _ _ _ _ _ _)), (by omega), (by (unfold dn1; by_cases hz1 : 0 ≤ x1 ∧ x1 < cn <;> by_cases hz2 : so (Int.toNat x1) = 4 <;> first | (exfalso; omega) | (rw [hdQ_y (by omega)] <;> omega) | (rw [hdQ_n (by omega), hdQ_y (by omega)] <;> omega) | (rw [hdQ_n (by omega), hdQ_n (by omega), hdQ_y (by omega)] <;> omega) | (rw [hdQ_n (by omega), hdQ_n (by omega), hdQ_n (fun h9 => h9)] <;> omega) | (rw [hdQ_n (by omega), hdQ_n (by omega), hdQ_n (by omega)] <;> omega))), (by omega), (by omega), (by (intro h9 h8; first | (exfalso; omega) | exact sh_at qi (16 * x1) (by omega)))⟩)
    · refine r_aload_n (pc := 16) dX12_part_16 (i := 0) rfl rfl ?_
      refine t_getE (pc := 17) (.ref (y + 16)) ht6 (rd_of RX_y) fX12_57 dX12_part_17 rfl ?_
      refine r_iload_n (pc := 20) dX12_part_20 (i := 1) rfl rfl ?_
      refine t_ialdX (pc := 21) (t0 := 0) ht6 (rd_of RX_partCount) dX12_part_21 rfl (by decide) (by omega) (fun b18 => ?_)
      have rb18 := (show Rfx 121 0 16 qc by assumption) (Int.toNat x1) (by omega)
      exact r_iret (pc := 22) dX12_part_22 rfl (hPo _ _ _ ⟨rfl, v_7, (qc (Int.toNat x1)), ht6, rfl, (by (first | assumption | exact RK_set hk (by omega) (by omega))), (by (first | assumption | exact df_r _ _ _ _ _ _ _)), (by omega), (by (unfold dn1; by_cases hz1 : 0 ≤ x1 ∧ x1 < cn <;> by_cases hz2 : so (Int.toNat x1) = 4 <;> first | (exfalso; omega) | (rw [hdQ_y (by omega)] <;> omega) | (rw [hdQ_n (by omega), hdQ_y (by omega)] <;> omega) | (rw [hdQ_n (by omega), hdQ_n (by omega), hdQ_y (by omega)] <;> omega) | (rw [hdQ_n (by omega), hdQ_n (by omega), hdQ_n (fun h9 => h9)] <;> omega) | (rw [hdQ_n (by omega), hdQ_n (by omega), hdQ_n (by omega)] <;> omega))), (by omega), (by omega), (by (intro h9 h8; first | (exfalso; omega) | exact sh_at qi (16 * x1) (by omega)))⟩)
  · refine r_iconst (pc := 9) (v := iv 0) dX12_part_9 (by decide) ?_
    exact r_iret (pc := 10) dX12_part_10 rfl (hPo _ _ _ ⟨rfl, v_7, 0, ht6, rfl, (by (first | assumption | exact RK_set hk (by omega) (by omega))), (by (first | assumption | exact df_r _ _ _ _ _ _ _)), (by omega), (by (unfold dn1; by_cases hz1 : 0 ≤ x1 ∧ x1 < cn <;> by_cases hz2 : so (Int.toNat x1) = 4 <;> first | (exfalso; omega) | (rw [hdQ_y (by omega)] <;> omega) | (rw [hdQ_n (by omega), hdQ_y (by omega)] <;> omega) | (rw [hdQ_n (by omega), hdQ_n (by omega), hdQ_y (by omega)] <;> omega) | (rw [hdQ_n (by omega), hdQ_n (by omega), hdQ_n (fun h9 => h9)] <;> omega) | (rw [hdQ_n (by omega), hdQ_n (by omega), hdQ_n (by omega)] <;> omega))), (by omega), (by omega), (by (intro h9 h8; first | (exfalso; omega) | exact sh_at qi (16 * x1) (by omega)))⟩)
set_option maxHeartbeats 4000000 in
set_option maxRecDepth 100000 in
theorem x_X12_members {D : va_G} {cI cJ cZ cT : ClassId} {lo b L : Nat} {xs : Nat → Int32} {hp : MH} {n d : Nat} {Γ : TG} {y : Nat} {rf cn nm : Int} {so sz dr mn fr tt wt co : Nat → Int} {nu : Nat → Int64} {sa : Nat → Int} {wo : Nat → Int64} {ln : Nat → Int} {hw : Nat → Int64} {ro qi qc nf nt nw nc : Nat → Int} {cl nx : Nat → Int64} {ie be sd bl : Nat → Int} {bs wy ra rb : Nat → Int64} {lb bg os js ls : Nat → Int} {sp : Nat → Int64} {jw go : Nat → Int} {de : Nat → Int64} {yb ah im : Nat → Int} {x1 x2 : Int} {Po9 : Option Value → MH → Nat → Prop} (hd0 : 2 ≤ d) (hk : RK rf cn nm so sz dr mn fr tt wt co nu qi qc nf nt nw nc) (ht : Tw (RX Γ cI cJ cZ y rf cn nm so sz dr mn fr tt wt co nu sa wo ln hw ro qi qc nf nt nw nc cl nx ie be sd bl bs wy ra rb lb bg os js ls sp jw go de yb ah im) hp) (hx1 : (-2147483648) ≤ x1 ∧ x1 ≤ 2147483647) (hx2 : (-2147483648) ≤ x2 ∧ x2 ≤ 2147483647) (hPo : ∀ r hp1 n1, (n1 = n ∧ ∃ (rf' : Int) (v' : Int), Tw (RX Γ cI cJ cZ y rf' cn nm so sz dr mn fr tt wt co nu sa wo ln hw ro qi qc nf nt nw nc cl nx ie be sd bl bs wy ra rb lb bg os js ls sp jw go de yb ah im) hp1 ∧ r = some (.int (iv v')) ∧ (RK rf' cn nm so sz dr mn fr tt wt co nu qi qc nf nt nw nc) ∧ (dfE sz dr mn fr tt wt co sz dr mn fr tt wt co) ∧ (-2147483648 ≤ v' ∧ v' ≤ 2147483647) ∧ (rf' = dn1 cn so x1 4 False) ∧ (rf' ≠ 0 → v' = 0) ∧ (rf' = 0 → 0 ≤ v' ∧ mbP (sh qi (16 * x1)) (sz (Int.toNat x1)) x2 v')) → Po9 r hp1 n1) : Mt (gG D cI cJ cZ cT lo b L xs) mX12_members d 0 0 [.ref y, .int (iv x1), .int (iv x2)] hp n Po9 := by
  refine Mt.of rfl (Nat.le_of_ble_eq_true rfl) ?_
  refine Rn.pick (lv' := [(0, .ref y), (1, .int (iv x1)), (2, .int (iv x2))]) [0, 1, 2] rfl ?_
  obtain ⟨hR_sorts, hR_sizes, hR_directs, hR_many, hR_from, hR_to, hR_weight, hR_cost, hR_inPart, hR_partCount, hcn, hrf, hnm, hdf, hgr, hpa, hsz⟩ := id hk
  refine r_aload_n (pc := 0) dX12_members_0 (i := 0) rfl rfl ?_
  refine r_iload_n (pc := 1) dX12_members_1 (i := 1) rfl rfl ?_
  refine r_iconst (pc := 2) (v := iv 4) dX12_members_2 (by decide) ?_
  obtain ⟨fs5, hfs5⟩ := t_obj ht (rd_of RX_y)
  refine r_callV (pc := 3) (as := [.int (iv x1), .int (iv 4)]) (st := []) kX12_183 rfl dX12_members_3 hfs5 (x_X12_has (d := d - 1) (x1 := x1) (x2 := 4) (by omega) (by omega) (by assumption) ht (by omega) (by omega) (fun _ _ _ h => h)) rfl (by omega) (Nat.le_of_ble_eq_true rfl) (Nat.zero_le _) (Nat.zero_le _) rfl (fun r2 hp1 n3 hq4 => ?_)
  obtain ⟨hnn3, v_7, b_8, ht6, hrr2, hhq40, hhq41⟩ := hq4
  subst n3 r2
  have hhq40 : -2 ≤ v_7 ∧ v_7 ≤ 0 ∧ (b_8 = 0 ∨ b_8 = 1) := hhq40
  have hhq41 : (b_8 = 1 ∧ v_7 = 0 ∧ 0 ≤ x1 ∧ x1 < cn ∧ so (Int.toNat x1) = 4) ∨ (b_8 = 0 ∧ v_7 = -1 ∧ ¬ (0 ≤ x1 ∧ x1 < cn)) ∨ (b_8 = 0 ∧ v_7 = -2 ∧ 0 ≤ x1 ∧ x1 < cn ∧ so (Int.toNat x1) ≠ 4) := hhq41
  change Rn _ _ _ 6 _ [.int (iv b_8)] _ _ _ _ _
  refine t_if_ne (pc := 6) (tgt := 11) dX12_members_6 (by decide) (by omega) (fun c6 => ?_) (fun c6 => ?_)
  · have rsz6 := hR_sizes (Int.toNat x1) (by omega)
    have rsy6 := hsz x1 (by omega) (by omega)
    refine r_iconst (pc := 11) (v := iv 0) dX12_members_11 (by decide) ?_
    refine r_istore_n (pc := 12) (lv' := [(3, .int (iv 0)), (0, .ref y), (1, .int (iv x1)), (2, .int (iv x2))]) dX12_members_12 (i := 3) rfl (by decide) rfl ?_
    refine r_iconst (pc := 13) (v := iv 0) dX12_members_13 (by decide) ?_
    refine r_istore (pc := 14) (lv' := [(4, .int (iv 0)), (3, .int (iv 0)), (0, .ref y), (1, .int (iv x1)), (2, .int (iv x2))]) dX12_members_14 (by decide) rfl ?_
    have B16 : ∀ k : Nat, ∀ hp16 : MH, Tw (RX Γ cI cJ cZ y v_7 cn nm so sz dr mn fr tt wt co nu sa wo ln hw ro qi qc nf nt nw nc cl nx ie be sd bl bs wy ra rb lb bg os js ls sp jw go de yb ah im) hp16 → ∀  (v16_3 : Int) (v16_4 : Int), 0 ≤ v16_3 ∧ v16_3 ≤ 65535 ∧ 0 ≤ v16_4 ∧ v16_4 ≤ 16 ∧ (v16_4 ≤ (sz (Int.toNat x1))) ∧ (mbP (sh qi (16 * x1)) v16_4 x2 v16_3) → 16 - v16_4 ≤ (k : Int) → Rn (gG D cI cJ cZ cT lo b L xs) mX12_members d 16 [(0, .ref y), (1, .int (iv x1)), (2, .int (iv x2)), (3, .int (iv v16_3)), (4, .int (iv v16_4))] [] hp16 n 0 0 Po9 := by
      refine lpS _ ?_
      intro k16 ih16 hp16 ht16 v16_3 v16_4 hf16 hm16
      obtain ⟨hf16_0, hf16_1, hf16_2, hf16_3, hf16_4, ha16_5⟩ := hf16
      refine r_iload (pc := 16) dX12_members_16 rfl ?_
      refine r_aload_n (pc := 18) dX12_members_18 (i := 0) rfl rfl ?_
      refine t_getE (pc := 19) (.ref (y + 2)) ht16 (rd_of RX_y) fX12_13 dX12_members_19 rfl ?_
      refine r_iload_n (pc := 22) dX12_members_22 (i := 1) rfl rfl ?_
      refine t_ialdX (pc := 23) (t0 := 0) ht16 (rd_of RX_sizes) dX12_members_23 rfl (by decide) (by omega) (fun b9 => ?_)
      have rb9 := (show Rfx 121 0 16 sz by assumption) (Int.toNat x1) (by omega)
      refine t_icmp_ge (pc := 24) (tgt := 60) dX12_members_24 (by decide) (by omega) (by omega) (fun c24 => ?_) (fun c24 => ?_)
      · refine r_iload_n (pc := 60) dX12_members_60 (i := 3) rfl rfl ?_
        exact r_iret (pc := 61) dX12_members_61 rfl (hPo _ _ _ ⟨rfl, v_7, v16_3, ht16, rfl, (by (first | assumption | exact RK_set hk (by omega) (by omega))), (by (first | assumption | exact df_r _ _ _ _ _ _ _)), (by omega), (by (unfold dn1; by_cases hz1 : 0 ≤ x1 ∧ x1 < cn <;> by_cases hz2 : so (Int.toNat x1) = 4 <;> first | (exfalso; omega) | (rw [hdQ_y (by omega)] <;> omega) | (rw [hdQ_n (by omega), hdQ_y (by omega)] <;> omega) | (rw [hdQ_n (by omega), hdQ_n (by omega), hdQ_y (by omega)] <;> omega) | (rw [hdQ_n (by omega), hdQ_n (by omega), hdQ_n (fun h9 => h9)] <;> omega) | (rw [hdQ_n (by omega), hdQ_n (by omega), hdQ_n (by omega)] <;> omega))), (by omega), (by (intro h9; first | (exfalso; omega) | (rw [← show v16_4 = (sz (Int.toNat x1)) by omega]; exact ⟨by omega, by assumption⟩)))⟩)
      · refine r_iload_n (pc := 27) dX12_members_27 (i := 3) rfl rfl ?_
        refine r_aload_n (pc := 28) dX12_members_28 (i := 0) rfl rfl ?_
        refine t_getE (pc := 29) (.ref (y + 15)) ht16 (rd_of RX_y) fX12_54 dX12_members_29 rfl ?_
        refine r_bipush (pc := 32) (v := iv 16) dX12_members_32 (by decide) ?_
        refine r_iload_n (pc := 34) dX12_members_34 (i := 1) rfl rfl ?_
        refine r_imul (pc := 35) (v := iv (16 * x1)) dX12_members_35 (iv_mul _ _) ?_
        refine r_iload (pc := 36) dX12_members_36 rfl ?_
        refine r_iadd (pc := 38) (v := iv ((16 * x1) + v16_4)) dX12_members_38 (iv_add _ _) ?_
        refine t_ialdX (pc := 39) (t0 := 0) ht16 (rd_of RX_inPart) dX12_members_39 rfl (by decide) (by omega) (fun b10 => ?_)
        have rb10 := (show Rfx 1936 0 15 qi by assumption) (Int.toNat ((16 * x1) + v16_4)) (by omega)
        refine r_iload_n (pc := 40) dX12_members_40 (i := 2) rfl rfl ?_
        refine t_icmp_ne (pc := 41) (tgt := 51) dX12_members_41 (by decide) (by omega) (by omega) (fun c41 => ?_) (fun c41 => ?_)
        · refine r_iconst (pc := 51) (v := iv 0) dX12_members_51 (by decide) ?_
          obtain ⟨z11, hz11, bz11⟩ := or_2 16 v16_3 0 (by omega) (by omega) (by decide)
          refine r_ior (pc := 52) (v := iv z11) dX12_members_52 hz11 ?_
          have mez11 := Me_or hz11 (by omega) (by omega) (by omega)
          refine r_istore_n (pc := 53) (lv' := [(3, .int (iv z11)), (0, .ref y), (1, .int (iv x1)), (2, .int (iv x2)), (4, .int (iv v16_4))]) dX12_members_53 (i := 3) rfl (by decide) rfl ?_
          refine r_iinc (pc := 54) (v := iv (v16_4 + 1)) (lv' := [(4, .int (iv (v16_4 + 1))), (3, .int (iv z11)), (0, .ref y), (1, .int (iv x1)), (2, .int (iv x2))]) dX12_members_54 rfl (iv_add _ _) (by decide) rfl ?_
          refine r_goto (pc := 57) (tgt := 16) dX12_members_57 (by decide) ?_
          refine Rn.pick (lv' := [(0, .ref y), (1, .int (iv x1)), (2, .int (iv x2)), (3, .int (iv z11)), (4, .int (iv (v16_4 + 1)))]) [2, 3, 4, 1, 0] rfl ?_
          exact ih16 (Int.toNat (16 - (v16_4 + 1))) (by omega) _ ht16 z11 (v16_4 + 1) ⟨by omega, by omega, by omega, by omega, by omega, by (first | exact mb_0 _ _ | exact mb_y (by assumption) (by omega) (by assumption) ms47 (by rw [← sh_at qi (16 * x1) (v := v16_4) (by omega)]; omega) | exact mb_n (by assumption) (by omega) (by assumption) (by rw [← sh_at qi (16 * x1) (v := v16_4) (by omega)]; omega))⟩ (by omega)
        · refine r_iconst (pc := 44) (v := iv 1) dX12_members_44 (by decide) ?_
          refine r_iload (pc := 45) dX12_members_45 rfl ?_
          refine r_ishl (pc := 47) (v := iv ((2 ^ Int.toNat v16_4 : Nat) : Int)) dX12_members_47 (shl_e (by omega)) ?_
          have mp47_12 : 1 ≤ 2 ^ Int.toNat v16_4 := Nat.one_le_two_pow
          have mq47_13 : 2 ^ Int.toNat v16_4 ≤ 2 ^ 15 := Nat.pow_le_pow_right (by omega) (by omega)
          have ms47 := Me_shl (Int.toNat v16_4)
          refine r_goto (pc := 48) (tgt := 52) dX12_members_48 (by decide) ?_
          obtain ⟨z14, hz14, bz14⟩ := or_2 16 v16_3 ((2 ^ Int.toNat v16_4 : Nat) : Int) (by omega) (by omega) (by decide)
          refine r_ior (pc := 52) (v := iv z14) dX12_members_52 hz14 ?_
          have mez14 := Me_or hz14 (by omega) (by omega) (by omega)
          refine r_istore_n (pc := 53) (lv' := [(3, .int (iv z14)), (0, .ref y), (1, .int (iv x1)), (2, .int (iv x2)), (4, .int (iv v16_4))]) dX12_members_53 (i := 3) rfl (by decide) rfl ?_
          refine r_iinc (pc := 54) (v := iv (v16_4 + 1)) (lv' := [(4, .int (iv (v16_4 + 1))), (3, .int (iv z14)), (0, .ref y), (1, .int (iv x1)), (2, .int (iv x2))]) dX12_members_54 rfl (iv_add _ _) (by decide) rfl ?_
          refine r_goto (pc := 57) (tgt := 16) dX12_members_57 (by decide) ?_
          refine Rn.pick (lv' := [(0, .ref y), (1, .int (iv x1)), (2, .int (iv x2)), (3, .int (iv z14)), (4, .int (iv (v16_4 + 1)))]) [2, 3, 4, 1, 0] rfl ?_
          exact ih16 (Int.toNat (16 - (v16_4 + 1))) (by omega) _ ht16 z14 (v16_4 + 1) ⟨by omega, by omega, by omega, by omega, by omega, by (first | exact mb_0 _ _ | exact mb_y (by assumption) (by omega) (by assumption) ms47 (by rw [← sh_at qi (16 * x1) (v := v16_4) (by omega)]; omega) | exact mb_n (by assumption) (by omega) (by assumption) (by rw [← sh_at qi (16 * x1) (v := v16_4) (by omega)]; omega))⟩ (by omega)
    refine Rn.pick (lv' := [(0, .ref y), (1, .int (iv x1)), (2, .int (iv x2)), (3, .int (iv 0)), (4, .int (iv 0))]) [2, 3, 4, 1, 0] rfl ?_
    exact B16 (Int.toNat (16 - 0)) _ ht6 0 0 ⟨by omega, by omega, by omega, by omega, by omega, by (first | exact mb_0 _ _ | exact mb_y (by assumption) (by omega) (by assumption) ms47 (by rw [← sh_at qi (16 * x1) (v := v16_4) (by omega)]; omega) | exact mb_n (by assumption) (by omega) (by assumption) (by rw [← sh_at qi (16 * x1) (v := v16_4) (by omega)]; omega))⟩ (by omega)
  · refine r_iconst (pc := 9) (v := iv 0) dX12_members_9 (by decide) ?_
    exact r_iret (pc := 10) dX12_members_10 rfl (hPo _ _ _ ⟨rfl, v_7, 0, ht6, rfl, (by (first | assumption | exact RK_set hk (by omega) (by omega))), (by (first | assumption | exact df_r _ _ _ _ _ _ _)), (by omega), (by (unfold dn1; by_cases hz1 : 0 ≤ x1 ∧ x1 < cn <;> by_cases hz2 : so (Int.toNat x1) = 4 <;> first | (exfalso; omega) | (rw [hdQ_y (by omega)] <;> omega) | (rw [hdQ_n (by omega), hdQ_y (by omega)] <;> omega) | (rw [hdQ_n (by omega), hdQ_n (by omega), hdQ_y (by omega)] <;> omega) | (rw [hdQ_n (by omega), hdQ_n (by omega), hdQ_n (fun h9 => h9)] <;> omega) | (rw [hdQ_n (by omega), hdQ_n (by omega), hdQ_n (by omega)] <;> omega))), (by omega), (by (intro h9; first | (exfalso; omega) | (rw [← show v16_4 = (sz (Int.toNat x1)) by omega]; exact ⟨by omega, by assumption⟩)))⟩)
set_option maxHeartbeats 4000000 in
set_option maxRecDepth 100000 in
theorem x_X12_way {D : va_G} {cI cJ cZ cT : ClassId} {lo b L : Nat} {xs : Nat → Int32} {hp : MH} {n d : Nat} {Γ : TG} {y : Nat} {rf cn nm : Int} {so sz dr mn fr tt wt co : Nat → Int} {nu : Nat → Int64} {sa : Nat → Int} {wo : Nat → Int64} {ln : Nat → Int} {hw : Nat → Int64} {ro qi qc nf nt nw nc : Nat → Int} {cl nx : Nat → Int64} {ie be sd bl : Nat → Int} {bs wy ra rb : Nat → Int64} {lb bg os js ls : Nat → Int} {sp : Nat → Int64} {jw go : Nat → Int} {de : Nat → Int64} {yb ah im : Nat → Int} {x1 x2 x3 : Int} {Po9 : Option Value → MH → Nat → Prop} (hd0 : 2 ≤ d) (hk : RK rf cn nm so sz dr mn fr tt wt co nu qi qc nf nt nw nc) (ht : Tw (RX Γ cI cJ cZ y rf cn nm so sz dr mn fr tt wt co nu sa wo ln hw ro qi qc nf nt nw nc cl nx ie be sd bl bs wy ra rb lb bg os js ls sp jw go de yb ah im) hp) (hx1 : (-2147483648) ≤ x1 ∧ x1 ≤ 2147483647) (hx2 : (-2147483648) ≤ x2 ∧ x2 ≤ 2147483647) (hx3 : (-2147483648) ≤ x3 ∧ x3 ≤ 2147483647) (hPo : ∀ r hp1 n1, (n1 = n ∧ ∃ (rf' : Int) (v' : Int64), Tw (RX Γ cI cJ cZ y rf' cn nm so sz dr mn fr tt wt co nu sa wo ln hw ro qi qc nf nt nw nc cl nx ie be sd bl bs wy ra rb lb bg os js ls sp jw go de yb ah im) hp1 ∧ r = some (.long v') ∧ (RK rf' cn nm so sz dr mn fr tt wt co nu qi qc nf nt nw nc) ∧ (dfE sz dr mn fr tt wt co sz dr mn fr tt wt co) ∧ (rf' = dn1 cn so x1 3 (x3 < 0 ∨ 3 < x3 ∨ x2 < 0 ∨ (sz (Int.toNat x1)) ≤ x2))) → Po9 r hp1 n1) : Mt (gG D cI cJ cZ cT lo b L xs) mX12_way d 0 0 [.ref y, .int (iv x1), .int (iv x2), .int (iv x3)] hp n Po9 := by
  refine Mt.of rfl (Nat.le_of_ble_eq_true rfl) ?_
  refine Rn.pick (lv' := [(0, .ref y), (1, .int (iv x1)), (2, .int (iv x2)), (3, .int (iv x3))]) [0, 1, 2, 3] rfl ?_
  obtain ⟨hR_sorts, hR_sizes, hR_directs, hR_many, hR_from, hR_to, hR_weight, hR_cost, hR_inPart, hR_partCount, hcn, hrf, hnm, hdf, hgr, hpa, hsz⟩ := id hk
  refine r_aload_n (pc := 0) dX12_way_0 (i := 0) rfl rfl ?_
  refine r_iload_n (pc := 1) dX12_way_1 (i := 1) rfl rfl ?_
  refine r_iconst (pc := 2) (v := iv 3) dX12_way_2 (by decide) ?_
  obtain ⟨fs5, hfs5⟩ := t_obj ht (rd_of RX_y)
  refine r_callV (pc := 3) (as := [.int (iv x1), .int (iv 3)]) (st := []) kX12_183 rfl dX12_way_3 hfs5 (x_X12_has (d := d - 1) (x1 := x1) (x2 := 3) (by omega) (by omega) (by assumption) ht (by omega) (by omega) (fun _ _ _ h => h)) rfl (by omega) (Nat.le_of_ble_eq_true rfl) (Nat.zero_le _) (Nat.zero_le _) rfl (fun r2 hp1 n3 hq4 => ?_)
  obtain ⟨hnn3, v_7, b_8, ht6, hrr2, hhq40, hhq41⟩ := hq4
  subst n3 r2
  have hhq40 : -2 ≤ v_7 ∧ v_7 ≤ 0 ∧ (b_8 = 0 ∨ b_8 = 1) := hhq40
  have hhq41 : (b_8 = 1 ∧ v_7 = 0 ∧ 0 ≤ x1 ∧ x1 < cn ∧ so (Int.toNat x1) = 3) ∨ (b_8 = 0 ∧ v_7 = -1 ∧ ¬ (0 ≤ x1 ∧ x1 < cn)) ∨ (b_8 = 0 ∧ v_7 = -2 ∧ 0 ≤ x1 ∧ x1 < cn ∧ so (Int.toNat x1) ≠ 3) := hhq41
  change Rn _ _ _ 6 _ [.int (iv b_8)] _ _ _ _ _
  refine t_if_ne (pc := 6) (tgt := 11) dX12_way_6 (by decide) (by omega) (fun c6 => ?_) (fun c6 => ?_)
  · have rsz6 := hR_sizes (Int.toNat x1) (by omega)
    have rsy6 := hsz x1 (by omega) (by omega)
    refine r_iload_n (pc := 11) dX12_way_11 (i := 3) rfl rfl ?_
    have B34 : ∀ hp34 : MH, Tw (RX Γ cI cJ cZ y v_7 cn nm so sz dr mn fr tt wt co nu sa wo ln hw ro qi qc nf nt nw nc cl nx ie be sd bl bs wy ra rb lb bg os js ls sp jw go de yb ah im) hp34 → ((x3 < 0 ∨ 3 < x3 ∨ x2 < 0 ∨ (sz (Int.toNat x1)) ≤ x2)) → Rn (gG D cI cJ cZ cT lo b L xs) mX12_way d 34 [(0, .ref y)] [] hp34 n 0 0 Po9 := by
      intro hp34 ht34 hf34
      refine r_aload_n (pc := 34) dX12_way_34 (i := 0) rfl rfl ?_
      refine r_bipush (pc := 35) (v := iv (-3)) dX12_way_35 (by decide) ?_
      obtain ⟨fs13, hfs13⟩ := t_obj ht34 (rd_of RX_y)
      refine r_callV (pc := 37) (as := [.int (iv (-3))]) (st := []) kX12_153 rfl dX12_way_37 hfs13 (x_X12_refuse (d := d - 1) (x1 := (-3)) (by omega) ht34 (by omega) (fun _ _ _ h => h)) rfl (by omega) (Nat.le_of_ble_eq_true rfl) (Nat.zero_le _) (Nat.zero_le _) rfl (fun r10 hp9 n11 hq12 => ?_)
      obtain ⟨hnn11, ht14, hrr10⟩ := hq12
      subst n11 r10
      change Rn _ _ _ 40 _ [.int (iv (-3))] _ _ _ _ _
      refine r_pop (pc := 40) dX12_way_40 rfl ?_
      refine r_lconst (pc := 41) (v := 0) dX12_way_41 (by decide) ?_
      exact r_lret (pc := 42) dX12_way_42 rfl (hPo _ _ _ ⟨rfl, (-3), (0 : Int64), ht14, rfl, (by (first | assumption | exact RK_set hk (by omega) (by omega))), (by (first | assumption | exact df_r _ _ _ _ _ _ _)), (by (unfold dn1; by_cases hz1 : 0 ≤ x1 ∧ x1 < cn <;> by_cases hz2 : so (Int.toNat x1) = 3 <;> first | (exfalso; omega) | (rw [hdQ_y (by omega)] <;> omega) | (rw [hdQ_n (by omega), hdQ_y (by omega)] <;> omega) | (rw [hdQ_n (by omega), hdQ_n (by omega), hdQ_y (by omega)] <;> omega) | (rw [hdQ_n (by omega), hdQ_n (by omega), hdQ_n (fun h9 => h9)] <;> omega) | (rw [hdQ_n (by omega), hdQ_n (by omega), hdQ_n (by omega)] <;> omega)))⟩)
    refine t_if_lt (pc := 12) (tgt := 34) dX12_way_12 (by decide) (by omega) (fun c12 => ?_) (fun c12 => ?_)
    · refine Rn.pick (lv' := [(0, .ref y)]) [0] rfl ?_
      exact B34 _ ht6 (by omega)
    · refine r_iload_n (pc := 15) dX12_way_15 (i := 3) rfl rfl ?_
      refine r_iconst (pc := 16) (v := iv 3) dX12_way_16 (by decide) ?_
      refine t_icmp_gt (pc := 17) (tgt := 34) dX12_way_17 (by decide) (by omega) (by omega) (fun c17 => ?_) (fun c17 => ?_)
      · refine Rn.pick (lv' := [(0, .ref y)]) [0] rfl ?_
        exact B34 _ ht6 (by omega)
      · refine r_iload_n (pc := 20) dX12_way_20 (i := 2) rfl rfl ?_
        refine t_if_lt (pc := 21) (tgt := 34) dX12_way_21 (by decide) (by omega) (fun c21 => ?_) (fun c21 => ?_)
        · refine Rn.pick (lv' := [(0, .ref y)]) [0] rfl ?_
          exact B34 _ ht6 (by omega)
        · refine r_iload_n (pc := 24) dX12_way_24 (i := 2) rfl rfl ?_
          refine r_aload_n (pc := 25) dX12_way_25 (i := 0) rfl rfl ?_
          refine t_getE (pc := 26) (.ref (y + 2)) ht6 (rd_of RX_y) fX12_13 dX12_way_26 rfl ?_
          refine r_iload_n (pc := 29) dX12_way_29 (i := 1) rfl rfl ?_
          refine t_ialdX (pc := 30) (t0 := 0) ht6 (rd_of RX_sizes) dX12_way_30 rfl (by decide) (by omega) (fun b15 => ?_)
          have rb15 := (show Rfx 121 0 16 sz by assumption) (Int.toNat x1) (by omega)
          refine t_icmp_lt (pc := 31) (tgt := 43) dX12_way_31 (by decide) (by omega) (by omega) (fun c31 => ?_) (fun c31 => ?_)
          · refine r_bipush (pc := 43) (v := iv 16) dX12_way_43 (by decide) ?_
            refine r_iload_n (pc := 45) dX12_way_45 (i := 1) rfl rfl ?_
            refine r_imul (pc := 46) (v := iv (16 * x1)) dX12_way_46 (iv_mul _ _) ?_
            refine r_iload_n (pc := 47) dX12_way_47 (i := 2) rfl rfl ?_
            refine r_iadd (pc := 48) (v := iv ((16 * x1) + x2)) dX12_way_48 (iv_add _ _) ?_
            refine r_istore (pc := 49) (lv' := [(4, .int (iv ((16 * x1) + x2))), (0, .ref y), (1, .int (iv x1)), (2, .int (iv x2)), (3, .int (iv x3))]) dX12_way_49 (by decide) rfl ?_
            refine r_iload_n (pc := 51) dX12_way_51 (i := 3) rfl rfl ?_
            refine t_if_ne (pc := 52) (tgt := 66) dX12_way_52 (by decide) (by omega) (fun c52 => ?_) (fun c52 => ?_)
            · refine r_iload_n (pc := 66) dX12_way_66 (i := 3) rfl rfl ?_
              refine r_iconst (pc := 67) (v := iv 1) dX12_way_67 (by decide) ?_
              refine t_icmp_ne (pc := 68) (tgt := 81) dX12_way_68 (by decide) (by omega) (by omega) (fun c68 => ?_) (fun c68 => ?_)
              · refine r_iload_n (pc := 81) dX12_way_81 (i := 3) rfl rfl ?_
                refine r_iconst (pc := 82) (v := iv 2) dX12_way_82 (by decide) ?_
                refine t_icmp_ne (pc := 83) (tgt := 97) dX12_way_83 (by decide) (by omega) (by omega) (fun c83 => ?_) (fun c83 => ?_)
                · refine r_aload_n (pc := 97) dX12_way_97 (i := 0) rfl rfl ?_
                  refine t_getE (pc := 98) (.ref (y + 13)) ht6 (rd_of RX_y) fX12_48 dX12_way_98 rfl ?_
                  refine r_iload (pc := 101) dX12_way_101 rfl ?_
                  refine t_laldX (pc := 103) (t0 := 1) ht6 (rd_of RX_howMany) dX12_way_103 rfl (by decide) (by omega) ?_
                  exact r_lret (pc := 104) dX12_way_104 rfl (hPo _ _ _ ⟨rfl, v_7, (hw (Int.toNat ((16 * x1) + x2))), ht6, rfl, (by (first | assumption | exact RK_set hk (by omega) (by omega))), (by (first | assumption | exact df_r _ _ _ _ _ _ _)), (by (unfold dn1; by_cases hz1 : 0 ≤ x1 ∧ x1 < cn <;> by_cases hz2 : so (Int.toNat x1) = 3 <;> first | (exfalso; omega) | (rw [hdQ_y (by omega)] <;> omega) | (rw [hdQ_n (by omega), hdQ_y (by omega)] <;> omega) | (rw [hdQ_n (by omega), hdQ_n (by omega), hdQ_y (by omega)] <;> omega) | (rw [hdQ_n (by omega), hdQ_n (by omega), hdQ_n (fun h9 => h9)] <;> omega) | (rw [hdQ_n (by omega), hdQ_n (by omega), hdQ_n (by omega)] <;> omega)))⟩)
                · refine r_aload_n (pc := 86) dX12_way_86 (i := 0) rfl rfl ?_
                  refine t_getE (pc := 87) (.ref (y + 12)) ht6 (rd_of RX_y) fX12_45 dX12_way_87 rfl ?_
                  refine r_iload (pc := 90) dX12_way_90 rfl ?_
                  refine t_ialdX (pc := 92) (t0 := 0) ht6 (rd_of RX_long1) dX12_way_92 rfl (by decide) (by omega) (fun b16 => ?_)
                  refine r_i2l (pc := 93) (v := (iv (ln (Int.toNat ((16 * x1) + x2)))).toInt64) dX12_way_93 rfl ?_
                  refine r_goto (pc := 94) (tgt := 104) dX12_way_94 (by decide) ?_
                  exact r_lret (pc := 104) dX12_way_104 rfl (hPo _ _ _ ⟨rfl, v_7, ((iv (ln (Int.toNat ((16 * x1) + x2)))).toInt64), ht6, rfl, (by (first | assumption | exact RK_set hk (by omega) (by omega))), (by (first | assumption | exact df_r _ _ _ _ _ _ _)), (by (unfold dn1; by_cases hz1 : 0 ≤ x1 ∧ x1 < cn <;> by_cases hz2 : so (Int.toNat x1) = 3 <;> first | (exfalso; omega) | (rw [hdQ_y (by omega)] <;> omega) | (rw [hdQ_n (by omega), hdQ_y (by omega)] <;> omega) | (rw [hdQ_n (by omega), hdQ_n (by omega), hdQ_y (by omega)] <;> omega) | (rw [hdQ_n (by omega), hdQ_n (by omega), hdQ_n (fun h9 => h9)] <;> omega) | (rw [hdQ_n (by omega), hdQ_n (by omega), hdQ_n (by omega)] <;> omega)))⟩)
              · refine r_aload_n (pc := 71) dX12_way_71 (i := 0) rfl rfl ?_
                refine t_getE (pc := 72) (.ref (y + 11)) ht6 (rd_of RX_y) fX12_42 dX12_way_72 rfl ?_
                refine r_iload (pc := 75) dX12_way_75 rfl ?_
                refine t_laldX (pc := 77) (t0 := 1) ht6 (rd_of RX_worth) dX12_way_77 rfl (by decide) (by omega) ?_
                refine r_goto (pc := 78) (tgt := 104) dX12_way_78 (by decide) ?_
                exact r_lret (pc := 104) dX12_way_104 rfl (hPo _ _ _ ⟨rfl, v_7, (wo (Int.toNat ((16 * x1) + x2))), ht6, rfl, (by (first | assumption | exact RK_set hk (by omega) (by omega))), (by (first | assumption | exact df_r _ _ _ _ _ _ _)), (by (unfold dn1; by_cases hz1 : 0 ≤ x1 ∧ x1 < cn <;> by_cases hz2 : so (Int.toNat x1) = 3 <;> first | (exfalso; omega) | (rw [hdQ_y (by omega)] <;> omega) | (rw [hdQ_n (by omega), hdQ_y (by omega)] <;> omega) | (rw [hdQ_n (by omega), hdQ_n (by omega), hdQ_y (by omega)] <;> omega) | (rw [hdQ_n (by omega), hdQ_n (by omega), hdQ_n (fun h9 => h9)] <;> omega) | (rw [hdQ_n (by omega), hdQ_n (by omega), hdQ_n (by omega)] <;> omega)))⟩)
            · refine r_aload_n (pc := 55) dX12_way_55 (i := 0) rfl rfl ?_
              refine t_getE (pc := 56) (.ref (y + 10)) ht6 (rd_of RX_y) fX12_39 dX12_way_56 rfl ?_
              refine r_iload (pc := 59) dX12_way_59 rfl ?_
              refine t_ialdX (pc := 61) (t0 := 0) ht6 (rd_of RX_state) dX12_way_61 rfl (by decide) (by omega) (fun b17 => ?_)
              refine r_i2l (pc := 62) (v := (iv (sa (Int.toNat ((16 * x1) + x2)))).toInt64) dX12_way_62 rfl ?_
              refine r_goto (pc := 63) (tgt := 104) dX12_way_63 (by decide) ?_
              exact r_lret (pc := 104) dX12_way_104 rfl (hPo _ _ _ ⟨rfl, v_7, ((iv (sa (Int.toNat ((16 * x1) + x2)))).toInt64), ht6, rfl, (by (first | assumption | exact RK_set hk (by omega) (by omega))), (by (first | assumption | exact df_r _ _ _ _ _ _ _)), (by (unfold dn1; by_cases hz1 : 0 ≤ x1 ∧ x1 < cn <;> by_cases hz2 : so (Int.toNat x1) = 3 <;> first | (exfalso; omega) | (rw [hdQ_y (by omega)] <;> omega) | (rw [hdQ_n (by omega), hdQ_y (by omega)] <;> omega) | (rw [hdQ_n (by omega), hdQ_n (by omega), hdQ_y (by omega)] <;> omega) | (rw [hdQ_n (by omega), hdQ_n (by omega), hdQ_n (fun h9 => h9)] <;> omega) | (rw [hdQ_n (by omega), hdQ_n (by omega), hdQ_n (by omega)] <;> omega)))⟩)
          · refine Rn.pick (lv' := [(0, .ref y)]) [0] rfl ?_
            exact B34 _ ht6 (by omega)
  · refine r_lconst (pc := 9) (v := 0) dX12_way_9 (by decide) ?_
    exact r_lret (pc := 10) dX12_way_10 rfl (hPo _ _ _ ⟨rfl, v_7, (0 : Int64), ht6, rfl, (by (first | assumption | exact RK_set hk (by omega) (by omega))), (by (first | assumption | exact df_r _ _ _ _ _ _ _)), (by (unfold dn1; by_cases hz1 : 0 ≤ x1 ∧ x1 < cn <;> by_cases hz2 : so (Int.toNat x1) = 3 <;> first | (exfalso; omega) | (rw [hdQ_y (by omega)] <;> omega) | (rw [hdQ_n (by omega), hdQ_y (by omega)] <;> omega) | (rw [hdQ_n (by omega), hdQ_n (by omega), hdQ_y (by omega)] <;> omega) | (rw [hdQ_n (by omega), hdQ_n (by omega), hdQ_n (fun h9 => h9)] <;> omega) | (rw [hdQ_n (by omega), hdQ_n (by omega), hdQ_n (by omega)] <;> omega)))⟩)
set_option maxHeartbeats 4000000 in
set_option maxRecDepth 100000 in
theorem x_X12_step {D : va_G} {cI cJ cZ cT : ClassId} {lo b L : Nat} {xs : Nat → Int32} {hp : MH} {n d : Nat} {Γ : TG} {y : Nat} {rf cn nm : Int} {so sz dr mn fr tt wt co : Nat → Int} {nu : Nat → Int64} {sa : Nat → Int} {wo : Nat → Int64} {ln : Nat → Int} {hw : Nat → Int64} {ro qi qc nf nt nw nc : Nat → Int} {cl nx : Nat → Int64} {ie be sd bl : Nat → Int} {bs wy ra rb : Nat → Int64} {lb bg os js ls : Nat → Int} {sp : Nat → Int64} {jw go : Nat → Int} {de : Nat → Int64} {yb ah im : Nat → Int} {x1 x2 x3 : Int} {Po9 : Option Value → MH → Nat → Prop} (hd0 : 2 ≤ d) (hk : RK rf cn nm so sz dr mn fr tt wt co nu qi qc nf nt nw nc) (hR_rows : Rfx 30976 0 59 ro) (hR_long1 : Rfx 1936 (-1) 15 ln) (ht : Tw (RX Γ cI cJ cZ y rf cn nm so sz dr mn fr tt wt co nu sa wo ln hw ro qi qc nf nt nw nc cl nx ie be sd bl bs wy ra rb lb bg os js ls sp jw go de yb ah im) hp) (hx1 : (-2147483648) ≤ x1 ∧ x1 ≤ 2147483647) (hx2 : (-2147483648) ≤ x2 ∧ x2 ≤ 2147483647) (hx3 : (-2147483648) ≤ x3 ∧ x3 ≤ 2147483647) (hPo : ∀ r hp1 n1, (n1 = n ∧ ∃ (rf' : Int) (v' : Int), Tw (RX Γ cI cJ cZ y rf' cn nm so sz dr mn fr tt wt co nu sa wo ln hw ro qi qc nf nt nw nc cl nx ie be sd bl bs wy ra rb lb bg os js ls sp jw go de yb ah im) hp1 ∧ r = some (.int (iv v')) ∧ (RK rf' cn nm so sz dr mn fr tt wt co nu qi qc nf nt nw nc) ∧ (dfE sz dr mn fr tt wt co sz dr mn fr tt wt co) ∧ (-2147483648 ≤ v' ∧ v' ≤ 2147483647) ∧ (rf' = dn1 cn so x1 3 (¬ (0 ≤ x2 ∧ x2 < (sz (Int.toNat x1)))))) → Po9 r hp1 n1) : Mt (gG D cI cJ cZ cT lo b L xs) mX12_step d 0 0 [.ref y, .int (iv x1), .int (iv x2), .int (iv x3)] hp n Po9 := by
  refine Mt.of rfl (Nat.le_of_ble_eq_true rfl) ?_
  refine Rn.pick (lv' := [(0, .ref y), (1, .int (iv x1)), (2, .int (iv x2)), (3, .int (iv x3))]) [0, 1, 2, 3] rfl ?_
  obtain ⟨hR_sorts, hR_sizes, hR_directs, hR_many, hR_from, hR_to, hR_weight, hR_cost, hR_inPart, hR_partCount, hcn, hrf, hnm, hdf, hgr, hpa, hsz⟩ := id hk
  refine r_aload_n (pc := 0) dX12_step_0 (i := 0) rfl rfl ?_
  refine r_iload_n (pc := 1) dX12_step_1 (i := 1) rfl rfl ?_
  refine r_iconst (pc := 2) (v := iv 3) dX12_step_2 (by decide) ?_
  obtain ⟨fs5, hfs5⟩ := t_obj ht (rd_of RX_y)
  refine r_callV (pc := 3) (as := [.int (iv x1), .int (iv 3)]) (st := []) kX12_183 rfl dX12_step_3 hfs5 (x_X12_has (d := d - 1) (x1 := x1) (x2 := 3) (by omega) (by omega) (by assumption) ht (by omega) (by omega) (fun _ _ _ h => h)) rfl (by omega) (Nat.le_of_ble_eq_true rfl) (Nat.zero_le _) (Nat.zero_le _) rfl (fun r2 hp1 n3 hq4 => ?_)
  obtain ⟨hnn3, v_7, b_8, ht6, hrr2, hhq40, hhq41⟩ := hq4
  subst n3 r2
  have hhq40 : -2 ≤ v_7 ∧ v_7 ≤ 0 ∧ (b_8 = 0 ∨ b_8 = 1) := hhq40
  have hhq41 : (b_8 = 1 ∧ v_7 = 0 ∧ 0 ≤ x1 ∧ x1 < cn ∧ so (Int.toNat x1) = 3) ∨ (b_8 = 0 ∧ v_7 = -1 ∧ ¬ (0 ≤ x1 ∧ x1 < cn)) ∨ (b_8 = 0 ∧ v_7 = -2 ∧ 0 ≤ x1 ∧ x1 < cn ∧ so (Int.toNat x1) ≠ 3) := hhq41
  change Rn _ _ _ 6 _ [.int (iv b_8)] _ _ _ _ _
  refine t_if_eq (pc := 6) (tgt := 18) dX12_step_6 (by decide) (by omega) (fun c6 => ?_) (fun c6 => ?_)
  · refine r_iconst (pc := 18) (v := iv 0) dX12_step_18 (by decide) ?_
    exact r_iret (pc := 19) dX12_step_19 rfl (hPo _ _ _ ⟨rfl, v_7, 0, ht6, rfl, (by (first | assumption | exact RK_set hk (by omega) (by omega))), (by (first | assumption | exact df_r _ _ _ _ _ _ _)), (by omega), (by (unfold dn1; by_cases hz1 : 0 ≤ x1 ∧ x1 < cn <;> by_cases hz2 : so (Int.toNat x1) = 3 <;> first | (exfalso; omega) | (rw [hdQ_y (by omega)] <;> omega) | (rw [hdQ_n (by omega), hdQ_y (by omega)] <;> omega) | (rw [hdQ_n (by omega), hdQ_n (by omega), hdQ_y (by omega)] <;> omega) | (rw [hdQ_n (by omega), hdQ_n (by omega), hdQ_n (fun h9 => h9)] <;> omega) | (rw [hdQ_n (by omega), hdQ_n (by omega), hdQ_n (by omega)] <;> omega)))⟩)
  · have rsz6 := hR_sizes (Int.toNat x1) (by omega)
    have rsy6 := hsz x1 (by omega) (by omega)
    refine r_aload_n (pc := 9) dX12_step_9 (i := 0) rfl rfl ?_
    refine r_iload_n (pc := 10) dX12_step_10 (i := 1) rfl rfl ?_
    refine r_iload_n (pc := 11) dX12_step_11 (i := 2) rfl rfl ?_
    obtain ⟨fs13, hfs13⟩ := t_obj ht6 (rd_of RX_y)
    refine r_callV (pc := 12) (as := [.int (iv x1), .int (iv x2)]) (st := []) kX12_307 rfl dX12_step_12 hfs13 (x_X12_isNode (d := d - 1) (x1 := x1) (x2 := x2) (by omega) (by assumption) (by omega) ht6 (by omega) (by omega) (fun _ _ _ h => h)) rfl (by omega) (Nat.le_of_ble_eq_true rfl) (Nat.zero_le _) (Nat.zero_le _) rfl (fun r10 hp9 n11 hq12 => ?_)
    obtain ⟨hnn11, v_15, b_16, ht14, hrr10, hhq120⟩ := hq12
    subst n11 r10
    have hhq120 : (b_16 = 1 ∧ v_15 = v_7 ∧ 0 ≤ x2 ∧ x2 < sz (Int.toNat x1)) ∨ (b_16 = 0 ∧ v_15 = -3 ∧ ¬ (0 ≤ x2 ∧ x2 < sz (Int.toNat x1))) := hhq120
    change Rn _ _ _ 15 _ [.int (iv b_16)] _ _ _ _ _
    refine t_if_ne (pc := 15) (tgt := 20) dX12_step_15 (by decide) (by omega) (fun c15 => ?_) (fun c15 => ?_)
    · refine r_iload_n (pc := 20) dX12_step_20 (i := 3) rfl rfl ?_
      refine t_if_lt (pc := 21) (tgt := 39) dX12_step_21 (by decide) (by omega) (fun c21 => ?_) (fun c21 => ?_)
      · refine r_iconst (pc := 39) (v := iv (-1)) dX12_step_39 (by decide) ?_
        refine r_goto (pc := 40) (tgt := 60) dX12_step_40 (by decide) ?_
        exact r_iret (pc := 60) dX12_step_60 rfl (hPo _ _ _ ⟨rfl, v_15, (-1), ht14, rfl, (by (first | assumption | exact RK_set hk (by omega) (by omega))), (by (first | assumption | exact df_r _ _ _ _ _ _ _)), (by omega), (by (unfold dn1; by_cases hz1 : 0 ≤ x1 ∧ x1 < cn <;> by_cases hz2 : so (Int.toNat x1) = 3 <;> first | (exfalso; omega) | (rw [hdQ_y (by omega)] <;> omega) | (rw [hdQ_n (by omega), hdQ_y (by omega)] <;> omega) | (rw [hdQ_n (by omega), hdQ_n (by omega), hdQ_y (by omega)] <;> omega) | (rw [hdQ_n (by omega), hdQ_n (by omega), hdQ_n (fun h9 => h9)] <;> omega) | (rw [hdQ_n (by omega), hdQ_n (by omega), hdQ_n (by omega)] <;> omega)))⟩)
      · refine r_iload_n (pc := 24) dX12_step_24 (i := 3) rfl rfl ?_
        refine r_aload_n (pc := 25) dX12_step_25 (i := 0) rfl rfl ?_
        refine t_getE (pc := 26) (.ref (y + 12)) ht14 (rd_of RX_y) fX12_45 dX12_step_26 rfl ?_
        refine r_bipush (pc := 29) (v := iv 16) dX12_step_29 (by decide) ?_
        refine r_iload_n (pc := 31) dX12_step_31 (i := 1) rfl rfl ?_
        refine r_imul (pc := 32) (v := iv (16 * x1)) dX12_step_32 (iv_mul _ _) ?_
        refine r_iload_n (pc := 33) dX12_step_33 (i := 2) rfl rfl ?_
        refine r_iadd (pc := 34) (v := iv ((16 * x1) + x2)) dX12_step_34 (iv_add _ _) ?_
        refine t_ialdX (pc := 35) (t0 := 0) ht14 (rd_of RX_long1) dX12_step_35 rfl (by decide) (by omega) (fun b17 => ?_)
        have rb17 := (show Rfx 1936 (-1) 15 ln by assumption) (Int.toNat ((16 * x1) + x2)) (by omega)
        refine t_icmp_lt (pc := 36) (tgt := 43) dX12_step_36 (by decide) (by omega) (by omega) (fun c36 => ?_) (fun c36 => ?_)
        · refine r_aload_n (pc := 43) dX12_step_43 (i := 0) rfl rfl ?_
          refine t_getE (pc := 44) (.ref (y + 14)) ht14 (rd_of RX_y) fX12_51 dX12_step_44 rfl ?_
          refine r_sipush (pc := 47) (v := iv 256) dX12_step_47 (by decide) ?_
          refine r_iload_n (pc := 50) dX12_step_50 (i := 1) rfl rfl ?_
          refine r_imul (pc := 51) (v := iv (256 * x1)) dX12_step_51 (iv_mul _ _) ?_
          refine r_bipush (pc := 52) (v := iv 16) dX12_step_52 (by decide) ?_
          refine r_iload_n (pc := 54) dX12_step_54 (i := 2) rfl rfl ?_
          refine r_imul (pc := 55) (v := iv (16 * x2)) dX12_step_55 (iv_mul _ _) ?_
          refine r_iadd (pc := 56) (v := iv ((256 * x1) + (16 * x2))) dX12_step_56 (iv_add _ _) ?_
          refine r_iload_n (pc := 57) dX12_step_57 (i := 3) rfl rfl ?_
          refine r_iadd (pc := 58) (v := iv (((256 * x1) + (16 * x2)) + x3)) dX12_step_58 (iv_add _ _) ?_
          refine t_ialdX (pc := 59) (t0 := 0) ht14 (rd_of RX_rows) dX12_step_59 rfl (by decide) (by omega) (fun b18 => ?_)
          have rb18 := (show Rfx 30976 0 59 ro by assumption) (Int.toNat (((256 * x1) + (16 * x2)) + x3)) (by omega)
          exact r_iret (pc := 60) dX12_step_60 rfl (hPo _ _ _ ⟨rfl, v_15, (ro (Int.toNat (((256 * x1) + (16 * x2)) + x3))), ht14, rfl, (by (first | assumption | exact RK_set hk (by omega) (by omega))), (by (first | assumption | exact df_r _ _ _ _ _ _ _)), (by omega), (by (unfold dn1; by_cases hz1 : 0 ≤ x1 ∧ x1 < cn <;> by_cases hz2 : so (Int.toNat x1) = 3 <;> first | (exfalso; omega) | (rw [hdQ_y (by omega)] <;> omega) | (rw [hdQ_n (by omega), hdQ_y (by omega)] <;> omega) | (rw [hdQ_n (by omega), hdQ_n (by omega), hdQ_y (by omega)] <;> omega) | (rw [hdQ_n (by omega), hdQ_n (by omega), hdQ_n (fun h9 => h9)] <;> omega) | (rw [hdQ_n (by omega), hdQ_n (by omega), hdQ_n (by omega)] <;> omega)))⟩)
        · refine r_iconst (pc := 39) (v := iv (-1)) dX12_step_39 (by decide) ?_
          refine r_goto (pc := 40) (tgt := 60) dX12_step_40 (by decide) ?_
          exact r_iret (pc := 60) dX12_step_60 rfl (hPo _ _ _ ⟨rfl, v_15, (-1), ht14, rfl, (by (first | assumption | exact RK_set hk (by omega) (by omega))), (by (first | assumption | exact df_r _ _ _ _ _ _ _)), (by omega), (by (unfold dn1; by_cases hz1 : 0 ≤ x1 ∧ x1 < cn <;> by_cases hz2 : so (Int.toNat x1) = 3 <;> first | (exfalso; omega) | (rw [hdQ_y (by omega)] <;> omega) | (rw [hdQ_n (by omega), hdQ_y (by omega)] <;> omega) | (rw [hdQ_n (by omega), hdQ_n (by omega), hdQ_y (by omega)] <;> omega) | (rw [hdQ_n (by omega), hdQ_n (by omega), hdQ_n (fun h9 => h9)] <;> omega) | (rw [hdQ_n (by omega), hdQ_n (by omega), hdQ_n (by omega)] <;> omega)))⟩)
    · refine r_iconst (pc := 18) (v := iv 0) dX12_step_18 (by decide) ?_
      exact r_iret (pc := 19) dX12_step_19 rfl (hPo _ _ _ ⟨rfl, v_15, 0, ht14, rfl, (by (first | assumption | exact RK_set hk (by omega) (by omega))), (by (first | assumption | exact df_r _ _ _ _ _ _ _)), (by omega), (by (unfold dn1; by_cases hz1 : 0 ≤ x1 ∧ x1 < cn <;> by_cases hz2 : so (Int.toNat x1) = 3 <;> first | (exfalso; omega) | (rw [hdQ_y (by omega)] <;> omega) | (rw [hdQ_n (by omega), hdQ_y (by omega)] <;> omega) | (rw [hdQ_n (by omega), hdQ_n (by omega), hdQ_y (by omega)] <;> omega) | (rw [hdQ_n (by omega), hdQ_n (by omega), hdQ_n (fun h9 => h9)] <;> omega) | (rw [hdQ_n (by omega), hdQ_n (by omega), hdQ_n (by omega)] <;> omega)))⟩)
set_option maxHeartbeats 4000000 in
set_option maxRecDepth 100000 in
theorem x_X12_begin {D : va_G} {cI cJ cZ cT : ClassId} {lo b L : Nat} {xs : Nat → Int32} {hp : MH} {n d : Nat} {Γ : TG} {y : Nat} {rf cn nm : Int} {so sz dr mn fr tt wt co : Nat → Int} {nu : Nat → Int64} {sa : Nat → Int} {wo : Nat → Int64} {ln : Nat → Int} {hw : Nat → Int64} {ro qi qc nf nt nw nc : Nat → Int} {cl nx : Nat → Int64} {ie be sd bl : Nat → Int} {bs wy ra rb : Nat → Int64} {lb bg os js ls : Nat → Int} {sp : Nat → Int64} {jw go : Nat → Int} {de : Nat → Int64} {yb ah im : Nat → Int} {x1 x2 : Int} {Po9 : Option Value → MH → Nat → Prop} (hd0 : 1 ≤ d) (hk : RK rf cn nm so sz dr mn fr tt wt co nu qi qc nf nt nw nc) (ht : Tw (RX Γ cI cJ cZ y rf cn nm so sz dr mn fr tt wt co nu sa wo ln hw ro qi qc nf nt nw nc cl nx ie be sd bl bs wy ra rb lb bg os js ls sp jw go de yb ah im) hp) (hx1 : (-2147483648) ≤ x1 ∧ x1 ≤ 2147483647) (hx2 : 0 ≤ x2 ∧ x2 ≤ 1) (hPo : ∀ r hp1 n1, (n1 = n ∧ ∃ (v : Int) (z1 : Nat → Int) (d1 : Nat → Int) (m1 : Nat → Int) (bb : Int), Tw (RX Γ cI cJ cZ y v cn nm so z1 d1 m1 fr tt wt co nu sa wo ln hw ro qi qc nf nt nw nc cl nx ie be sd bl bs wy ra rb lb bg os js ls sp jw go de yb ah im) hp1 ∧ r = some (.int (iv bb)) ∧ ((1 ≤ x1 ∧ x1 ≤ 16 → v = 0) ∧ (¬ (1 ≤ x1 ∧ x1 ≤ 16) → v = -3)) ∧ ((1 ≤ x1 ∧ x1 ≤ 16) → bb = 1 ∧ z1 = fup sz 120 x1 ∧ d1 = fup dr 120 x2 ∧ m1 = fup mn 120 0) ∧ (¬ (1 ≤ x1 ∧ x1 ≤ 16) → bb = 0 ∧ z1 = sz ∧ d1 = dr ∧ m1 = mn)) → Po9 r hp1 n1) : Mt (gG D cI cJ cZ cT lo b L xs) mX12_begin d 0 0 [.ref y, .int (iv x1), .int (iv x2)] hp n Po9 := by
  refine Mt.of rfl (Nat.le_of_ble_eq_true rfl) ?_
  refine Rn.pick (lv' := [(0, .ref y), (1, .int (iv x1)), (2, .int (iv x2))]) [0, 1, 2] rfl ?_
  obtain ⟨hR_sorts, hR_sizes, hR_directs, hR_many, hR_from, hR_to, hR_weight, hR_cost, hR_inPart, hR_partCount, hcn, hrf, hnm, hdf, hgr, hpa, hsz⟩ := id hk
  refine r_iload_n (pc := 0) dX12_begin_0 (i := 1) rfl rfl ?_
  refine r_iconst (pc := 1) (v := iv 1) dX12_begin_1 (by decide) ?_
  refine t_icmp_lt (pc := 2) (tgt := 11) dX12_begin_2 (by decide) (by omega) (by omega) (fun c2 => ?_) (fun c2 => ?_)
  · refine r_aload_n (pc := 11) dX12_begin_11 (i := 0) rfl rfl ?_
    refine r_bipush (pc := 12) (v := iv (-3)) dX12_begin_12 (by decide) ?_
    obtain ⟨fs5, hfs5⟩ := t_obj ht (rd_of RX_y)
    refine r_callV (pc := 14) (as := [.int (iv (-3))]) (st := []) kX12_153 rfl dX12_begin_14 hfs5 (x_X12_refuse (d := d - 1) (x1 := (-3)) (by omega) ht (by omega) (fun _ _ _ h => h)) rfl (by omega) (Nat.le_of_ble_eq_true rfl) (Nat.zero_le _) (Nat.zero_le _) rfl (fun r2 hp1 n3 hq4 => ?_)
    obtain ⟨hnn3, ht6, hrr2⟩ := hq4
    subst n3 r2
    change Rn _ _ _ 17 _ [.int (iv (-3))] _ _ _ _ _
    refine r_pop (pc := 17) dX12_begin_17 rfl ?_
    refine r_iconst (pc := 18) (v := iv 0) dX12_begin_18 (by decide) ?_
    exact r_zret (pc := 19) dX12_begin_19 rfl (iv_nar (by omega)) (hPo _ _ _ ⟨rfl, (-3), sz, dr, mn, 0, ht6, rfl, (by omega), (by (first | (intro h9; exfalso; omega) | (intro _; exact ⟨rfl, rfl, rfl, rfl⟩))), (by (first | (intro h9; exfalso; omega) | (intro _; exact ⟨rfl, rfl, rfl, rfl⟩)))⟩)
  · refine r_iload_n (pc := 5) dX12_begin_5 (i := 1) rfl rfl ?_
    refine r_bipush (pc := 6) (v := iv 16) dX12_begin_6 (by decide) ?_
    refine t_icmp_le (pc := 8) (tgt := 20) dX12_begin_8 (by decide) (by omega) (by omega) (fun c8 => ?_) (fun c8 => ?_)
    · refine r_aload_n (pc := 20) dX12_begin_20 (i := 0) rfl rfl ?_
      refine r_iconst (pc := 21) (v := iv 0) dX12_begin_21 (by decide) ?_
      refine t_putX (pc := 22) (ty := .int) ht RX_y fX12_142 tyX12 tyX12_ok nmX12 (by decide +kernel) (Or.inl rfl) dX12_begin_22 (Nat.le_of_ble_eq_true rfl) rfl rfl rfl (fun hp7 ht8 => ?_)
      have ht9 := RXw_rf ht8
      refine r_aload_n (pc := 25) dX12_begin_25 (i := 0) rfl rfl ?_
      refine t_getE (pc := 26) (.ref (y + 2)) ht9 (rd_of RX_y) fX12_13 dX12_begin_26 rfl ?_
      refine r_bipush (pc := 29) (v := iv 120) dX12_begin_29 (by decide) ?_
      refine r_iload_n (pc := 31) dX12_begin_31 (i := 1) rfl rfl ?_
      refine t_iastX (pc := 32) (t0 := 0) ht9 RX_sizes dX12_begin_32 rfl (by decide) (by omega) (by omega) (fun hp10 ht11 => ?_)
      have ht12 := RXw_sz ht11
      have hqht12 : Rfx 121 0 16 (fup sz (Int.toNat 120) x1) := Rfx_up (by assumption) (by omega)
      refine r_aload_n (pc := 33) dX12_begin_33 (i := 0) rfl rfl ?_
      refine t_getE (pc := 34) (.ref (y + 3)) ht12 (rd_of RX_y) fX12_16 dX12_begin_34 rfl ?_
      refine r_bipush (pc := 37) (v := iv 120) dX12_begin_37 (by decide) ?_
      refine r_iload_n (pc := 39) dX12_begin_39 (i := 2) rfl rfl ?_
      refine t_zastX (pc := 40) (t0 := 2) ht12 RX_directs dX12_begin_40 rfl (by decide) (by omega) (by omega) (fun hp13 ht14 => ?_)
      have ht15 := RXw_dr ht14
      have hqht15 : Rfx 121 0 1 (fup dr (Int.toNat 120) x2) := Rfx_up (by assumption) (by omega)
      refine r_aload_n (pc := 41) dX12_begin_41 (i := 0) rfl rfl ?_
      refine t_getE (pc := 42) (.ref (y + 4)) ht15 (rd_of RX_y) fX12_20 dX12_begin_42 rfl ?_
      refine r_bipush (pc := 45) (v := iv 120) dX12_begin_45 (by decide) ?_
      refine r_iconst (pc := 47) (v := iv 0) dX12_begin_47 (by decide) ?_
      refine t_iastX (pc := 48) (t0 := 0) ht15 RX_many dX12_begin_48 rfl (by decide) (by omega) (by omega) (fun hp16 ht17 => ?_)
      have ht18 := RXw_mn ht17
      have hqht18 : Rfx 121 0 60 (fup mn (Int.toNat 120) 0) := Rfx_up (by assumption) (by omega)
      refine r_iconst (pc := 49) (v := iv 1) dX12_begin_49 (by decide) ?_
      exact r_zret (pc := 50) dX12_begin_50 rfl (iv_nar (by omega)) (hPo _ _ _ ⟨rfl, 0, (fup sz (Int.toNat 120) x1), (fup dr (Int.toNat 120) x2), (fup mn (Int.toNat 120) 0), 1, ht18, rfl, (by omega), (by (first | (intro h9; exfalso; omega) | (intro _; exact ⟨rfl, rfl, rfl, rfl⟩))), (by (first | (intro h9; exfalso; omega) | (intro _; exact ⟨rfl, rfl, rfl, rfl⟩)))⟩)
    · refine r_aload_n (pc := 11) dX12_begin_11 (i := 0) rfl rfl ?_
      refine r_bipush (pc := 12) (v := iv (-3)) dX12_begin_12 (by decide) ?_
      obtain ⟨fs23, hfs23⟩ := t_obj ht (rd_of RX_y)
      refine r_callV (pc := 14) (as := [.int (iv (-3))]) (st := []) kX12_153 rfl dX12_begin_14 hfs23 (x_X12_refuse (d := d - 1) (x1 := (-3)) (by omega) ht (by omega) (fun _ _ _ h => h)) rfl (by omega) (Nat.le_of_ble_eq_true rfl) (Nat.zero_le _) (Nat.zero_le _) rfl (fun r20 hp19 n21 hq22 => ?_)
      obtain ⟨hnn21, ht24, hrr20⟩ := hq22
      subst n21 r20
      change Rn _ _ _ 17 _ [.int (iv (-3))] _ _ _ _ _
      refine r_pop (pc := 17) dX12_begin_17 rfl ?_
      refine r_iconst (pc := 18) (v := iv 0) dX12_begin_18 (by decide) ?_
      exact r_zret (pc := 19) dX12_begin_19 rfl (iv_nar (by omega)) (hPo _ _ _ ⟨rfl, (-3), sz, dr, mn, 0, ht24, rfl, (by omega), (by (first | (intro h9; exfalso; omega) | (intro _; exact ⟨rfl, rfl, rfl, rfl⟩))), (by (first | (intro h9; exfalso; omega) | (intro _; exact ⟨rfl, rfl, rfl, rfl⟩)))⟩)
set_option maxHeartbeats 4000000 in
set_option maxRecDepth 100000 in
theorem x_X12_arc {D : va_G} {cI cJ cZ cT : ClassId} {lo b L : Nat} {xs : Nat → Int32} {hp : MH} {n d : Nat} {Γ : TG} {y : Nat} {rf cn nm : Int} {so sz dr mn fr tt wt co : Nat → Int} {nu : Nat → Int64} {sa : Nat → Int} {wo : Nat → Int64} {ln : Nat → Int} {hw : Nat → Int64} {ro qi qc nf nt nw nc : Nat → Int} {cl nx : Nat → Int64} {ie be sd bl : Nat → Int} {bs wy ra rb : Nat → Int64} {lb bg os js ls : Nat → Int} {sp : Nat → Int64} {jw go : Nat → Int} {de : Nat → Int64} {yb ah im : Nat → Int} {x1 x2 x3 x4 : Int} {Po9 : Option Value → MH → Nat → Prop} (hd0 : 2 ≤ d) (hk : RK rf cn nm so sz dr mn fr tt wt co nu qi qc nf nt nw nc) (ht : Tw (RX Γ cI cJ cZ y rf cn nm so sz dr mn fr tt wt co nu sa wo ln hw ro qi qc nf nt nw nc cl nx ie be sd bl bs wy ra rb lb bg os js ls sp jw go de yb ah im) hp) (hx1 : (-2147483648) ≤ x1 ∧ x1 ≤ 2147483647) (hx2 : (-2147483648) ≤ x2 ∧ x2 ≤ 2147483647) (hx3 : (-2147483648) ≤ x3 ∧ x3 ≤ 2147483647) (hx4 : (-2147483648) ≤ x4 ∧ x4 ≤ 2147483647) (hPo : ∀ r hp1 n1, (n1 = n ∧ ∃ (v : Int) (m1 : Nat → Int) (f1 : Nat → Int) (t1 : Nat → Int) (w1 : Nat → Int) (o1 : Nat → Int) (h : Int), Tw (RX Γ cI cJ cZ y v cn nm so sz dr m1 f1 t1 w1 o1 nu sa wo ln hw ro qi qc nf nt nw nc cl nx ie be sd bl bs wy ra rb lb bg os js ls sp jw go de yb ah im) hp1 ∧ r = some (.int (iv h)) ∧ (((0 ≤ x1 ∧ x1 < sz 120) ∧ (0 ≤ x2 ∧ x2 < sz 120) ∧ (-1000 ≤ x3 ∧ x3 ≤ 1000) ∧ (-1000 ≤ x4 ∧ x4 ≤ 1000)) ∧ mn 120 < 60 → h = mn 120 ∧ v = 0 ∧ m1 = fup mn 120 (mn 120 + 1) ∧ f1 = fup fr (7200 + mn 120).toNat x1 ∧ t1 = fup tt (7200 + mn 120).toNat x2 ∧ w1 = fup wt (7200 + mn 120).toNat x3 ∧ o1 = fup co (7200 + mn 120).toNat x4) ∧ (((0 ≤ x1 ∧ x1 < sz 120) ∧ (0 ≤ x2 ∧ x2 < sz 120) ∧ (-1000 ≤ x3 ∧ x3 ≤ 1000) ∧ (-1000 ≤ x4 ∧ x4 ≤ 1000)) ∧ ¬ mn 120 < 60 → h = -4 ∧ v = -4 ∧ m1 = mn ∧ f1 = fr ∧ t1 = tt ∧ w1 = wt ∧ o1 = co) ∧ (¬ ((0 ≤ x1 ∧ x1 < sz 120) ∧ (0 ≤ x2 ∧ x2 < sz 120) ∧ (-1000 ≤ x3 ∧ x3 ≤ 1000) ∧ (-1000 ≤ x4 ∧ x4 ≤ 1000)) → h = -3 ∧ v = -3 ∧ m1 = mn ∧ f1 = fr ∧ t1 = tt ∧ w1 = wt ∧ o1 = co)) → Po9 r hp1 n1) : Mt (gG D cI cJ cZ cT lo b L xs) mX12_arc d 0 0 [.ref y, .int (iv x1), .int (iv x2), .int (iv x3), .int (iv x4)] hp n Po9 := by
  refine Mt.of rfl (Nat.le_of_ble_eq_true rfl) ?_
  refine Rn.pick (lv' := [(0, .ref y), (1, .int (iv x1)), (2, .int (iv x2)), (3, .int (iv x3)), (4, .int (iv x4))]) [0, 1, 2, 3, 4] rfl ?_
  obtain ⟨hR_sorts, hR_sizes, hR_directs, hR_many, hR_from, hR_to, hR_weight, hR_cost, hR_inPart, hR_partCount, hcn, hrf, hnm, hdf, hgr, hpa, hsz⟩ := id hk
  have e1 : sz (Int.toNat 120) = sz 120 := rfl
  have e2 : mn (Int.toNat 120) = mn 120 := rfl
  refine r_aload_n (pc := 0) dX12_arc_0 (i := 0) rfl rfl ?_
  refine t_getE (pc := 1) (.ref (y + 2)) ht (rd_of RX_y) fX12_13 dX12_arc_1 rfl ?_
  refine r_bipush (pc := 4) (v := iv 120) dX12_arc_4 (by decide) ?_
  refine t_ialdX (pc := 6) (t0 := 0) ht (rd_of RX_sizes) dX12_arc_6 rfl (by decide) (by omega) (fun b1 => ?_)
  have rb1 := (show Rfx 121 0 16 sz by assumption) (Int.toNat 120) (by omega)
  refine r_istore (pc := 7) (lv' := [(5, .int (iv (sz (Int.toNat 120)))), (0, .ref y), (1, .int (iv x1)), (2, .int (iv x2)), (3, .int (iv x3)), (4, .int (iv x4))]) dX12_arc_7 (by decide) rfl ?_
  refine r_aload_n (pc := 9) dX12_arc_9 (i := 0) rfl rfl ?_
  refine r_iconst (pc := 10) (v := iv 0) dX12_arc_10 (by decide) ?_
  refine t_putX (pc := 11) (ty := .int) ht RX_y fX12_142 tyX12 tyX12_ok nmX12 (by decide +kernel) (Or.inl rfl) dX12_arc_11 (Nat.le_of_ble_eq_true rfl) rfl rfl rfl (fun hp2 ht3 => ?_)
  have ht4 := RXw_rf ht3
  refine r_iload_n (pc := 14) dX12_arc_14 (i := 1) rfl rfl ?_
  refine t_if_lt (pc := 15) (tgt := 64) dX12_arc_15 (by decide) (by omega) (fun c15 => ?_) (fun c15 => ?_)
  · refine r_aload_n (pc := 64) dX12_arc_64 (i := 0) rfl rfl ?_
    refine r_bipush (pc := 65) (v := iv (-3)) dX12_arc_65 (by decide) ?_
    obtain ⟨fs9, hfs9⟩ := t_obj ht4 (rd_of RX_y)
    refine r_callV (pc := 67) (as := [.int (iv (-3))]) (st := []) kX12_153 rfl dX12_arc_67 hfs9 (x_X12_refuse (d := d - 1) (x1 := (-3)) (by omega) ht4 (by omega) (fun _ _ _ h => h)) rfl (by omega) (Nat.le_of_ble_eq_true rfl) (Nat.zero_le _) (Nat.zero_le _) rfl (fun r6 hp5 n7 hq8 => ?_)
    obtain ⟨hnn7, ht10, hrr6⟩ := hq8
    subst n7 r6
    change Rn _ _ _ 70 _ [.int (iv (-3))] _ _ _ _ _
    exact r_iret (pc := 70) dX12_arc_70 rfl (hPo _ _ _ ⟨rfl, (-3), mn, fr, tt, wt, co, (-3), ht10, rfl, (by (first | (intro h9; exfalso; omega) | (intro _; exact ⟨(by show fup mn 120 (mn 120 + 1) 120 - 1 = mn 120; rw [fup_s]; omega), rfl, rfl, rfl, rfl, rfl, rfl⟩))), (by (first | (intro h9; exfalso; omega) | (intro _; exact ⟨rfl, rfl, rfl, rfl, rfl, rfl, rfl⟩))), (by (first | (intro h9; exfalso; omega) | (intro _; exact ⟨rfl, rfl, rfl, rfl, rfl, rfl, rfl⟩)))⟩)
  · refine r_iload_n (pc := 18) dX12_arc_18 (i := 1) rfl rfl ?_
    refine r_iload (pc := 19) dX12_arc_19 rfl ?_
    refine t_icmp_ge (pc := 21) (tgt := 64) dX12_arc_21 (by decide) (by omega) (by omega) (fun c21 => ?_) (fun c21 => ?_)
    · refine r_aload_n (pc := 64) dX12_arc_64 (i := 0) rfl rfl ?_
      refine r_bipush (pc := 65) (v := iv (-3)) dX12_arc_65 (by decide) ?_
      obtain ⟨fs15, hfs15⟩ := t_obj ht4 (rd_of RX_y)
      refine r_callV (pc := 67) (as := [.int (iv (-3))]) (st := []) kX12_153 rfl dX12_arc_67 hfs15 (x_X12_refuse (d := d - 1) (x1 := (-3)) (by omega) ht4 (by omega) (fun _ _ _ h => h)) rfl (by omega) (Nat.le_of_ble_eq_true rfl) (Nat.zero_le _) (Nat.zero_le _) rfl (fun r12 hp11 n13 hq14 => ?_)
      obtain ⟨hnn13, ht16, hrr12⟩ := hq14
      subst n13 r12
      change Rn _ _ _ 70 _ [.int (iv (-3))] _ _ _ _ _
      exact r_iret (pc := 70) dX12_arc_70 rfl (hPo _ _ _ ⟨rfl, (-3), mn, fr, tt, wt, co, (-3), ht16, rfl, (by (first | (intro h9; exfalso; omega) | (intro _; exact ⟨(by show fup mn 120 (mn 120 + 1) 120 - 1 = mn 120; rw [fup_s]; omega), rfl, rfl, rfl, rfl, rfl, rfl⟩))), (by (first | (intro h9; exfalso; omega) | (intro _; exact ⟨rfl, rfl, rfl, rfl, rfl, rfl, rfl⟩))), (by (first | (intro h9; exfalso; omega) | (intro _; exact ⟨rfl, rfl, rfl, rfl, rfl, rfl, rfl⟩)))⟩)
    · refine r_iload_n (pc := 24) dX12_arc_24 (i := 2) rfl rfl ?_
      refine t_if_lt (pc := 25) (tgt := 64) dX12_arc_25 (by decide) (by omega) (fun c25 => ?_) (fun c25 => ?_)
      · refine r_aload_n (pc := 64) dX12_arc_64 (i := 0) rfl rfl ?_
        refine r_bipush (pc := 65) (v := iv (-3)) dX12_arc_65 (by decide) ?_
        obtain ⟨fs21, hfs21⟩ := t_obj ht4 (rd_of RX_y)
        refine r_callV (pc := 67) (as := [.int (iv (-3))]) (st := []) kX12_153 rfl dX12_arc_67 hfs21 (x_X12_refuse (d := d - 1) (x1 := (-3)) (by omega) ht4 (by omega) (fun _ _ _ h => h)) rfl (by omega) (Nat.le_of_ble_eq_true rfl) (Nat.zero_le _) (Nat.zero_le _) rfl (fun r18 hp17 n19 hq20 => ?_)
        obtain ⟨hnn19, ht22, hrr18⟩ := hq20
        subst n19 r18
        change Rn _ _ _ 70 _ [.int (iv (-3))] _ _ _ _ _
        exact r_iret (pc := 70) dX12_arc_70 rfl (hPo _ _ _ ⟨rfl, (-3), mn, fr, tt, wt, co, (-3), ht22, rfl, (by (first | (intro h9; exfalso; omega) | (intro _; exact ⟨(by show fup mn 120 (mn 120 + 1) 120 - 1 = mn 120; rw [fup_s]; omega), rfl, rfl, rfl, rfl, rfl, rfl⟩))), (by (first | (intro h9; exfalso; omega) | (intro _; exact ⟨rfl, rfl, rfl, rfl, rfl, rfl, rfl⟩))), (by (first | (intro h9; exfalso; omega) | (intro _; exact ⟨rfl, rfl, rfl, rfl, rfl, rfl, rfl⟩)))⟩)
      · refine r_iload_n (pc := 28) dX12_arc_28 (i := 2) rfl rfl ?_
        refine r_iload (pc := 29) dX12_arc_29 rfl ?_
        refine t_icmp_ge (pc := 31) (tgt := 64) dX12_arc_31 (by decide) (by omega) (by omega) (fun c31 => ?_) (fun c31 => ?_)
        · refine r_aload_n (pc := 64) dX12_arc_64 (i := 0) rfl rfl ?_
          refine r_bipush (pc := 65) (v := iv (-3)) dX12_arc_65 (by decide) ?_
          obtain ⟨fs27, hfs27⟩ := t_obj ht4 (rd_of RX_y)
          refine r_callV (pc := 67) (as := [.int (iv (-3))]) (st := []) kX12_153 rfl dX12_arc_67 hfs27 (x_X12_refuse (d := d - 1) (x1 := (-3)) (by omega) ht4 (by omega) (fun _ _ _ h => h)) rfl (by omega) (Nat.le_of_ble_eq_true rfl) (Nat.zero_le _) (Nat.zero_le _) rfl (fun r24 hp23 n25 hq26 => ?_)
          obtain ⟨hnn25, ht28, hrr24⟩ := hq26
          subst n25 r24
          change Rn _ _ _ 70 _ [.int (iv (-3))] _ _ _ _ _
          exact r_iret (pc := 70) dX12_arc_70 rfl (hPo _ _ _ ⟨rfl, (-3), mn, fr, tt, wt, co, (-3), ht28, rfl, (by (first | (intro h9; exfalso; omega) | (intro _; exact ⟨(by show fup mn 120 (mn 120 + 1) 120 - 1 = mn 120; rw [fup_s]; omega), rfl, rfl, rfl, rfl, rfl, rfl⟩))), (by (first | (intro h9; exfalso; omega) | (intro _; exact ⟨rfl, rfl, rfl, rfl, rfl, rfl, rfl⟩))), (by (first | (intro h9; exfalso; omega) | (intro _; exact ⟨rfl, rfl, rfl, rfl, rfl, rfl, rfl⟩)))⟩)
        · refine r_iload_n (pc := 34) dX12_arc_34 (i := 3) rfl rfl ?_
          refine r_sipush (pc := 35) (v := iv (-1000)) dX12_arc_35 (by decide) ?_
          refine t_icmp_lt (pc := 38) (tgt := 64) dX12_arc_38 (by decide) (by omega) (by omega) (fun c38 => ?_) (fun c38 => ?_)
          · refine r_aload_n (pc := 64) dX12_arc_64 (i := 0) rfl rfl ?_
            refine r_bipush (pc := 65) (v := iv (-3)) dX12_arc_65 (by decide) ?_
            obtain ⟨fs33, hfs33⟩ := t_obj ht4 (rd_of RX_y)
            refine r_callV (pc := 67) (as := [.int (iv (-3))]) (st := []) kX12_153 rfl dX12_arc_67 hfs33 (x_X12_refuse (d := d - 1) (x1 := (-3)) (by omega) ht4 (by omega) (fun _ _ _ h => h)) rfl (by omega) (Nat.le_of_ble_eq_true rfl) (Nat.zero_le _) (Nat.zero_le _) rfl (fun r30 hp29 n31 hq32 => ?_)
            obtain ⟨hnn31, ht34, hrr30⟩ := hq32
            subst n31 r30
            change Rn _ _ _ 70 _ [.int (iv (-3))] _ _ _ _ _
            exact r_iret (pc := 70) dX12_arc_70 rfl (hPo _ _ _ ⟨rfl, (-3), mn, fr, tt, wt, co, (-3), ht34, rfl, (by (first | (intro h9; exfalso; omega) | (intro _; exact ⟨(by show fup mn 120 (mn 120 + 1) 120 - 1 = mn 120; rw [fup_s]; omega), rfl, rfl, rfl, rfl, rfl, rfl⟩))), (by (first | (intro h9; exfalso; omega) | (intro _; exact ⟨rfl, rfl, rfl, rfl, rfl, rfl, rfl⟩))), (by (first | (intro h9; exfalso; omega) | (intro _; exact ⟨rfl, rfl, rfl, rfl, rfl, rfl, rfl⟩)))⟩)
          · refine r_iload_n (pc := 41) dX12_arc_41 (i := 3) rfl rfl ?_
            refine r_sipush (pc := 42) (v := iv 1000) dX12_arc_42 (by decide) ?_
            refine t_icmp_gt (pc := 45) (tgt := 64) dX12_arc_45 (by decide) (by omega) (by omega) (fun c45 => ?_) (fun c45 => ?_)
            · refine r_aload_n (pc := 64) dX12_arc_64 (i := 0) rfl rfl ?_
              refine r_bipush (pc := 65) (v := iv (-3)) dX12_arc_65 (by decide) ?_
              obtain ⟨fs39, hfs39⟩ := t_obj ht4 (rd_of RX_y)
              refine r_callV (pc := 67) (as := [.int (iv (-3))]) (st := []) kX12_153 rfl dX12_arc_67 hfs39 (x_X12_refuse (d := d - 1) (x1 := (-3)) (by omega) ht4 (by omega) (fun _ _ _ h => h)) rfl (by omega) (Nat.le_of_ble_eq_true rfl) (Nat.zero_le _) (Nat.zero_le _) rfl (fun r36 hp35 n37 hq38 => ?_)
              obtain ⟨hnn37, ht40, hrr36⟩ := hq38
              subst n37 r36
              change Rn _ _ _ 70 _ [.int (iv (-3))] _ _ _ _ _
              exact r_iret (pc := 70) dX12_arc_70 rfl (hPo _ _ _ ⟨rfl, (-3), mn, fr, tt, wt, co, (-3), ht40, rfl, (by (first | (intro h9; exfalso; omega) | (intro _; exact ⟨(by show fup mn 120 (mn 120 + 1) 120 - 1 = mn 120; rw [fup_s]; omega), rfl, rfl, rfl, rfl, rfl, rfl⟩))), (by (first | (intro h9; exfalso; omega) | (intro _; exact ⟨rfl, rfl, rfl, rfl, rfl, rfl, rfl⟩))), (by (first | (intro h9; exfalso; omega) | (intro _; exact ⟨rfl, rfl, rfl, rfl, rfl, rfl, rfl⟩)))⟩)
            · refine r_iload (pc := 48) dX12_arc_48 rfl ?_
              refine r_sipush (pc := 50) (v := iv (-1000)) dX12_arc_50 (by decide) ?_
              refine t_icmp_lt (pc := 53) (tgt := 64) dX12_arc_53 (by decide) (by omega) (by omega) (fun c53 => ?_) (fun c53 => ?_)
              · refine r_aload_n (pc := 64) dX12_arc_64 (i := 0) rfl rfl ?_
                refine r_bipush (pc := 65) (v := iv (-3)) dX12_arc_65 (by decide) ?_
                obtain ⟨fs45, hfs45⟩ := t_obj ht4 (rd_of RX_y)
                refine r_callV (pc := 67) (as := [.int (iv (-3))]) (st := []) kX12_153 rfl dX12_arc_67 hfs45 (x_X12_refuse (d := d - 1) (x1 := (-3)) (by omega) ht4 (by omega) (fun _ _ _ h => h)) rfl (by omega) (Nat.le_of_ble_eq_true rfl) (Nat.zero_le _) (Nat.zero_le _) rfl (fun r42 hp41 n43 hq44 => ?_)
                obtain ⟨hnn43, ht46, hrr42⟩ := hq44
                subst n43 r42
                change Rn _ _ _ 70 _ [.int (iv (-3))] _ _ _ _ _
                exact r_iret (pc := 70) dX12_arc_70 rfl (hPo _ _ _ ⟨rfl, (-3), mn, fr, tt, wt, co, (-3), ht46, rfl, (by (first | (intro h9; exfalso; omega) | (intro _; exact ⟨(by show fup mn 120 (mn 120 + 1) 120 - 1 = mn 120; rw [fup_s]; omega), rfl, rfl, rfl, rfl, rfl, rfl⟩))), (by (first | (intro h9; exfalso; omega) | (intro _; exact ⟨rfl, rfl, rfl, rfl, rfl, rfl, rfl⟩))), (by (first | (intro h9; exfalso; omega) | (intro _; exact ⟨rfl, rfl, rfl, rfl, rfl, rfl, rfl⟩)))⟩)
              · refine r_iload (pc := 56) dX12_arc_56 rfl ?_
                refine r_sipush (pc := 58) (v := iv 1000) dX12_arc_58 (by decide) ?_
                refine t_icmp_le (pc := 61) (tgt := 71) dX12_arc_61 (by decide) (by omega) (by omega) (fun c61 => ?_) (fun c61 => ?_)
                · refine r_aload_n (pc := 71) dX12_arc_71 (i := 0) rfl rfl ?_
                  refine t_getE (pc := 72) (.ref (y + 4)) ht4 (rd_of RX_y) fX12_20 dX12_arc_72 rfl ?_
                  refine r_bipush (pc := 75) (v := iv 120) dX12_arc_75 (by decide) ?_
                  refine t_ialdX (pc := 77) (t0 := 0) ht4 (rd_of RX_many) dX12_arc_77 rfl (by decide) (by omega) (fun b47 => ?_)
                  have rb47 := (show Rfx 121 0 60 mn by assumption) (Int.toNat 120) (by omega)
                  refine r_bipush (pc := 78) (v := iv 60) dX12_arc_78 (by decide) ?_
                  refine t_icmp_ne (pc := 80) (tgt := 90) dX12_arc_80 (by decide) (by omega) (by omega) (fun c80 => ?_) (fun c80 => ?_)
                  · refine r_aload_n (pc := 90) dX12_arc_90 (i := 0) rfl rfl ?_
                    refine r_bipush (pc := 91) (v := iv 120) dX12_arc_91 (by decide) ?_
                    refine r_iload_n (pc := 93) dX12_arc_93 (i := 1) rfl rfl ?_
                    refine r_iload_n (pc := 94) dX12_arc_94 (i := 2) rfl rfl ?_
                    refine r_iload_n (pc := 95) dX12_arc_95 (i := 3) rfl rfl ?_
                    refine r_iload (pc := 96) dX12_arc_96 rfl ?_
                    obtain ⟨fs52, hfs52⟩ := t_obj ht4 (rd_of RX_y)
                    refine r_callV (pc := 98) (as := [.int (iv 120), .int (iv x1), .int (iv x2), .int (iv x3), .int (iv x4)]) (st := []) kX12_161 rfl dX12_arc_98 hfs52 (x_X12_add (d := d - 1) (x1 := 120) (x2 := x1) (x3 := x2) (x4 := x3) (x5 := x4) (by omega) (by assumption) (by assumption) (by assumption) (by assumption) (by assumption) ht4 (by omega) (by omega) (by omega) (by omega) (by omega) (by omega) (fun _ _ _ h => h)) rfl (by omega) (Nat.le_of_ble_eq_true rfl) (Nat.zero_le _) (Nat.zero_le _) rfl (fun r49 hp48 n50 hq51 => ?_)
                    obtain ⟨hnn50, ht53, hrr49⟩ := hq51
                    subst n50 r49
                    have hqR54 : Rfx 7260 0 15 (fup fr (Int.toNat (60 * 120 + mn (Int.toNat 120))) x1) := Rfx_up (by assumption) (by omega)
                    have hqR55 : Rfx 7260 0 15 (fup tt (Int.toNat (60 * 120 + mn (Int.toNat 120))) x2) := Rfx_up (by assumption) (by omega)
                    have hqR56 : Rfx 7260 (-1000) 1000 (fup wt (Int.toNat (60 * 120 + mn (Int.toNat 120))) x3) := Rfx_up (by assumption) (by omega)
                    have hqR57 : Rfx 7260 (-1000) 1000 (fup co (Int.toNat (60 * 120 + mn (Int.toNat 120))) x4) := Rfx_up (by assumption) (by omega)
                    have hqR58 : Rfx 121 0 60 (fup mn (Int.toNat 120) (mn (Int.toNat 120) + 1)) := Rfx_up (by assumption) (by omega)
                    change Rn _ _ _ 101 _ [] _ _ _ _ _
                    refine r_aload_n (pc := 101) dX12_arc_101 (i := 0) rfl rfl ?_
                    refine t_getE (pc := 102) (.ref (y + 4)) ht53 (rd_of RX_y) fX12_20 dX12_arc_102 rfl ?_
                    refine r_bipush (pc := 105) (v := iv 120) dX12_arc_105 (by decide) ?_
                    refine t_ialdX (pc := 107) (t0 := 0) ht53 (rd_of RX_many) dX12_arc_107 rfl (by decide) (by omega) (fun b59 => ?_)
                    have rb59 := (show Rfx 121 0 60 (fup mn (Int.toNat 120) (mn (Int.toNat 120) + 1)) by assumption) (Int.toNat 120) (by omega)
                    refine r_iconst (pc := 108) (v := iv 1) dX12_arc_108 (by decide) ?_
                    refine r_isub (pc := 109) (v := iv (((fup mn (Int.toNat 120) (mn (Int.toNat 120) + 1)) (Int.toNat 120)) - 1)) dX12_arc_109 (iv_sub _ _) ?_
                    exact r_iret (pc := 110) dX12_arc_110 rfl (hPo _ _ _ ⟨rfl, 0, (fup mn (Int.toNat 120) (mn (Int.toNat 120) + 1)), (fup fr (Int.toNat (60 * 120 + mn (Int.toNat 120))) x1), (fup tt (Int.toNat (60 * 120 + mn (Int.toNat 120))) x2), (fup wt (Int.toNat (60 * 120 + mn (Int.toNat 120))) x3), (fup co (Int.toNat (60 * 120 + mn (Int.toNat 120))) x4), (((fup mn (Int.toNat 120) (mn (Int.toNat 120) + 1)) (Int.toNat 120)) - 1), ht53, rfl, (by (first | (intro h9; exfalso; omega) | (intro _; exact ⟨(by show fup mn 120 (mn 120 + 1) 120 - 1 = mn 120; rw [fup_s]; omega), rfl, rfl, rfl, rfl, rfl, rfl⟩))), (by (first | (intro h9; exfalso; omega) | (intro _; exact ⟨rfl, rfl, rfl, rfl, rfl, rfl, rfl⟩))), (by (first | (intro h9; exfalso; omega) | (intro _; exact ⟨rfl, rfl, rfl, rfl, rfl, rfl, rfl⟩)))⟩)
                  · refine r_aload_n (pc := 83) dX12_arc_83 (i := 0) rfl rfl ?_
                    refine r_bipush (pc := 84) (v := iv (-4)) dX12_arc_84 (by decide) ?_
                    obtain ⟨fs64, hfs64⟩ := t_obj ht4 (rd_of RX_y)
                    refine r_callV (pc := 86) (as := [.int (iv (-4))]) (st := []) kX12_153 rfl dX12_arc_86 hfs64 (x_X12_refuse (d := d - 1) (x1 := (-4)) (by omega) ht4 (by omega) (fun _ _ _ h => h)) rfl (by omega) (Nat.le_of_ble_eq_true rfl) (Nat.zero_le _) (Nat.zero_le _) rfl (fun r61 hp60 n62 hq63 => ?_)
                    obtain ⟨hnn62, ht65, hrr61⟩ := hq63
                    subst n62 r61
                    change Rn _ _ _ 89 _ [.int (iv (-4))] _ _ _ _ _
                    exact r_iret (pc := 89) dX12_arc_89 rfl (hPo _ _ _ ⟨rfl, (-4), mn, fr, tt, wt, co, (-4), ht65, rfl, (by (first | (intro h9; exfalso; omega) | (intro _; exact ⟨(by show fup mn 120 (mn 120 + 1) 120 - 1 = mn 120; rw [fup_s]; omega), rfl, rfl, rfl, rfl, rfl, rfl⟩))), (by (first | (intro h9; exfalso; omega) | (intro _; exact ⟨rfl, rfl, rfl, rfl, rfl, rfl, rfl⟩))), (by (first | (intro h9; exfalso; omega) | (intro _; exact ⟨rfl, rfl, rfl, rfl, rfl, rfl, rfl⟩)))⟩)
                · refine r_aload_n (pc := 64) dX12_arc_64 (i := 0) rfl rfl ?_
                  refine r_bipush (pc := 65) (v := iv (-3)) dX12_arc_65 (by decide) ?_
                  obtain ⟨fs70, hfs70⟩ := t_obj ht4 (rd_of RX_y)
                  refine r_callV (pc := 67) (as := [.int (iv (-3))]) (st := []) kX12_153 rfl dX12_arc_67 hfs70 (x_X12_refuse (d := d - 1) (x1 := (-3)) (by omega) ht4 (by omega) (fun _ _ _ h => h)) rfl (by omega) (Nat.le_of_ble_eq_true rfl) (Nat.zero_le _) (Nat.zero_le _) rfl (fun r67 hp66 n68 hq69 => ?_)
                  obtain ⟨hnn68, ht71, hrr67⟩ := hq69
                  subst n68 r67
                  change Rn _ _ _ 70 _ [.int (iv (-3))] _ _ _ _ _
                  exact r_iret (pc := 70) dX12_arc_70 rfl (hPo _ _ _ ⟨rfl, (-3), mn, fr, tt, wt, co, (-3), ht71, rfl, (by (first | (intro h9; exfalso; omega) | (intro _; exact ⟨(by show fup mn 120 (mn 120 + 1) 120 - 1 = mn 120; rw [fup_s]; omega), rfl, rfl, rfl, rfl, rfl, rfl⟩))), (by (first | (intro h9; exfalso; omega) | (intro _; exact ⟨rfl, rfl, rfl, rfl, rfl, rfl, rfl⟩))), (by (first | (intro h9; exfalso; omega) | (intro _; exact ⟨rfl, rfl, rfl, rfl, rfl, rfl, rfl⟩)))⟩)
