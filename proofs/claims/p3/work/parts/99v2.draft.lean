theorem RK_begin {rf cn nm : Int} {so sz dr mn fr tt wt co : Nat → Int} {nu : Nat → Int64} {qi qc nf nt nw nc : Nat → Int} {x1 x2 v : Int} (hk : RK rf cn nm so sz dr mn fr tt wt co nu qi qc nf nt nw nc) (hx : 1 ≤ x1 ∧ x1 ≤ 16) (hx2 : 0 ≤ x2 ∧ x2 ≤ 1) (hv : -2147483648 ≤ v ∧ v ≤ 2147483647) : RK v cn nm so (fup sz 120 x1) (fup dr 120 x2) (fup mn 120 0) fr tt wt co nu qi qc nf nt nw nc := by
  obtain ⟨hR_sorts, hR_sizes, hR_directs, hR_many, hR_from, hR_to, hR_weight, hR_cost, hR_inPart, hR_partCount, hcn, hrf, hnm, hdf, hgr, hpa, hsz⟩ := hk
  have ho : ∀ g : Int, 0 ≤ g → g < cn → g.toNat ≠ 120 := fun g h0 h1 => by omega
  refine ⟨hR_sorts, Rfx_up hR_sizes (by omega), Rfx_up hR_directs hx2, Rfx_up hR_many (by omega), hR_from, hR_to, hR_weight, hR_cost, hR_inPart, hR_partCount, hcn, hv, hnm, ⟨?_, ?_⟩, ?_, ?_, ?_⟩
  · show 1 ≤ fup sz 120 x1 120
    rw [fup_s]; exact hx.1
  · intro e h0 h1
    have h2 : e < fup mn 120 0 120 := h1
    rw [fup_s] at h2; omega
  · intro g h0 h1 h2
    exact enA_eq (hgr g h0 h1 h2) (fup_o _ _ (ho g h0 h1)) (fup_o _ _ (ho g h0 h1)) (fun _ _ _ => ⟨rfl, rfl⟩)
  · intro g h0 h1 h2 v9 v0 v1
    rw [fup_o _ _ (ho g h0 h1)] at v1
    exact hpa g h0 h1 h2 v9 v0 v1
  · intro g h0 h1
    rw [fup_o _ _ (ho g h0 h1)]; exact hsz g h0 h1
theorem RK_arc {rf cn nm : Int} {so sz dr mn fr tt wt co : Nat → Int} {nu : Nat → Int64} {qi qc nf nt nw nc : Nat → Int} {x1 x2 x3 x4 v : Int} (hk : RK rf cn nm so sz dr mn fr tt wt co nu qi qc nf nt nw nc) (hm : mn 120 < 60) (h1 : 0 ≤ x1 ∧ x1 < sz 120) (h2 : 0 ≤ x2 ∧ x2 < sz 120) (h3 : -1000 ≤ x3 ∧ x3 ≤ 1000) (h4 : -1000 ≤ x4 ∧ x4 ≤ 1000) (hv : -2147483648 ≤ v ∧ v ≤ 2147483647) : RK v cn nm so sz dr (fup mn 120 (mn 120 + 1)) (fup fr (7200 + mn 120).toNat x1) (fup tt (7200 + mn 120).toNat x2) (fup wt (7200 + mn 120).toNat x3) (fup co (7200 + mn 120).toNat x4) nu qi qc nf nt nw nc := by
  obtain ⟨hR_sorts, hR_sizes, hR_directs, hR_many, hR_from, hR_to, hR_weight, hR_cost, hR_inPart, hR_partCount, hcn, hrf, hnm, hdf, hgr, hpa, hsz⟩ := hk
  have ho : ∀ g : Int, 0 ≤ g → g < cn → g.toNat ≠ 120 := fun g h0 h1 => by omega
  have r0 := hR_sizes 120 (by omega)
  have r1 := hR_many 120 (by omega)
  refine ⟨hR_sorts, hR_sizes, hR_directs, Rfx_up hR_many (by omega), Rfx_up hR_from (by omega), Rfx_up hR_to (by omega), Rfx_up hR_weight h3, Rfx_up hR_cost h4, hR_inPart, hR_partCount, hcn, hv, hnm, ⟨hdf.1, ?_⟩, ?_, hpa, hsz⟩
  · intro e h0 h9
    have h8 : e < fup mn 120 (mn 120 + 1) 120 := h9
    rw [fup_s] at h8
    show fup fr (7200 + mn 120).toNat x1 (60 * 120 + e).toNat < sz 120 ∧ fup tt (7200 + mn 120).toNat x2 (60 * 120 + e).toNat < sz 120
    by_cases he : e = mn 120
    · rw [he, show (60 * 120 + mn 120).toNat = (7200 + mn 120).toNat by omega, fup_s, fup_s]
      exact ⟨h1.2, h2.2⟩
    · rw [fup_o _ _ (by omega), fup_o _ _ (by omega)]
      exact hdf.2 e h0 (by show e < mn 120; omega)
  · intro g h0 h9 h8
    have r2 := hR_many g.toNat (by omega)
    exact enA_eq (hgr g h0 h9 h8) rfl (fup_o _ _ (ho g h0 h9)) (fun e e0 e1 => ⟨fup_o _ _ (by omega), fup_o _ _ (by omega)⟩)
def q_X12_begin (Γ : TG) (cI cJ cZ : ClassId) (y n : Nat) (rf cn nm : Int) (so sz dr mn fr tt wt co : Nat → Int) (nu : Nat → Int64) (qi qc nf nt nw nc : Nat → Int) (x1 x2 : Int) : Option Value → MH → Nat → Prop := fun r hp1 n1 => n1 = n ∧ ∃ (v : Int) (z1 : Nat → Int) (d1 : Nat → Int) (m1 : Nat → Int) (bb : Int), Tw (RG Γ cI cJ cZ y v cn nm so z1 d1 m1 fr tt wt co nu qi qc nf nt nw nc) hp1 ∧ r = some (.int (iv bb)) ∧ (-3 ≤ v ∧ v ≤ 0) ∧ ((1 ≤ x1 ∧ x1 ≤ 16) → bb = 1 ∧ z1 = fup sz 120 x1 ∧ d1 = fup dr 120 x2 ∧ m1 = fup mn 120 0) ∧ (¬ (1 ≤ x1 ∧ x1 ≤ 16) → bb = 0 ∧ z1 = sz ∧ d1 = dr ∧ m1 = mn)
set_option maxHeartbeats 4000000 in
set_option maxRecDepth 100000 in
theorem s_X12_begin {D : va_G} {cI cJ cZ cT : ClassId} {lo b L : Nat} {xs : Nat → Int32} {hp : MH} {n d : Nat} {Γ : TG} {y : Nat} {rf cn nm : Int} {so sz dr mn fr tt wt co : Nat → Int} {nu : Nat → Int64} {qi qc nf nt nw nc : Nat → Int} {x1 x2 : Int} (hd0 : 1 ≤ d) (hk : RK rf cn nm so sz dr mn fr tt wt co nu qi qc nf nt nw nc) (ht : Tw (RG Γ cI cJ cZ y rf cn nm so sz dr mn fr tt wt co nu qi qc nf nt nw nc) hp) (hx1 : (-2147483648) ≤ x1 ∧ x1 ≤ 2147483647) (hx2 : 0 ≤ x2 ∧ x2 ≤ 1) : Mt (gG D cI cJ cZ cT lo b L xs) mX12_begin d 0 0 [.ref y, .int (iv x1), .int (iv x2)] hp n (q_X12_begin Γ cI cJ cZ y n rf cn nm so sz dr mn fr tt wt co nu qi qc nf nt nw nc x1 x2) := by
  refine Mt.of rfl (Nat.le_of_ble_eq_true rfl) ?_
  refine Rn.pick (lv' := [(0, .ref y), (1, .int (iv x1)), (2, .int (iv x2))]) [0, 1, 2] rfl ?_
  obtain ⟨hR_sorts, hR_sizes, hR_directs, hR_many, hR_from, hR_to, hR_weight, hR_cost, hR_inPart, hR_partCount, hcn, hrf, hnm, hdf, hgr, hpa, hsz⟩ := id hk
  refine r_iload_n (pc := 0) dX12_begin_0 (i := 1) rfl rfl ?_
  refine r_iconst (pc := 1) (v := iv 1) dX12_begin_1 (by decide) ?_
  refine t_icmp_lt (pc := 2) (tgt := 11) dX12_begin_2 (by decide) (by omega) (by omega) (fun c2 => ?_) (fun c2 => ?_)
  · refine r_aload_n (pc := 11) dX12_begin_11 (i := 0) rfl rfl ?_
    refine r_bipush (pc := 12) (v := iv (-3)) dX12_begin_12 (by decide) ?_
    obtain ⟨fs5, hfs5⟩ := t_obj ht (rd_of RG_y)
    refine r_callV (pc := 14) (as := [.int (iv (-3))]) (st := []) kX12_153 rfl dX12_begin_14 hfs5 (s_X12_refuse (d := d - 1) (x1 := (-3)) (by omega) ht (by omega)) rfl (by omega) (Nat.le_of_ble_eq_true rfl) (Nat.zero_le _) (Nat.zero_le _) rfl (fun r2 hp1 n3 hq4 => ?_)
    obtain ⟨hnn3, ht6, hrr2⟩ := hq4
    subst n3 r2
    change Rn _ _ _ 17 _ [.int (iv (-3))] _ _ _ _ _
    refine r_pop (pc := 17) dX12_begin_17 rfl ?_
    refine r_iconst (pc := 18) (v := iv 0) dX12_begin_18 (by decide) ?_
    exact r_zret (pc := 19) dX12_begin_19 rfl (iv_nar (by omega)) ⟨rfl, (-3), sz, dr, mn, 0, ht6, rfl, (by omega), (by (first | (intro h9; exfalso; omega) | (intro _; exact ⟨rfl, rfl, rfl, rfl⟩))), (by (first | (intro h9; exfalso; omega) | (intro _; exact ⟨rfl, rfl, rfl, rfl⟩)))⟩
  · refine r_iload_n (pc := 5) dX12_begin_5 (i := 1) rfl rfl ?_
    refine r_bipush (pc := 6) (v := iv 16) dX12_begin_6 (by decide) ?_
    refine t_icmp_le (pc := 8) (tgt := 20) dX12_begin_8 (by decide) (by omega) (by omega) (fun c8 => ?_) (fun c8 => ?_)
    · refine r_aload_n (pc := 20) dX12_begin_20 (i := 0) rfl rfl ?_
      refine r_iconst (pc := 21) (v := iv 0) dX12_begin_21 (by decide) ?_
      refine t_putX (pc := 22) (ty := .int) ht RG_y fX12_142 tyX12 tyX12_ok nmX12 (by decide +kernel) (Or.inl rfl) dX12_begin_22 (Nat.le_of_ble_eq_true rfl) rfl rfl rfl (fun hp8 ht9 => ?_)
      have ht10 := RGw_rf ht9
      refine r_aload_n (pc := 25) dX12_begin_25 (i := 0) rfl rfl ?_
      refine t_getE (pc := 26) (.ref (y + 2)) ht10 (rd_of RG_y) fX12_13 dX12_begin_26 rfl ?_
      refine r_bipush (pc := 29) (v := iv 120) dX12_begin_29 (by decide) ?_
      refine r_iload_n (pc := 31) dX12_begin_31 (i := 1) rfl rfl ?_
      refine t_iastX (pc := 32) (t0 := 0) ht10 RG_sizes dX12_begin_32 rfl (by decide) (by omega) (by omega) (fun hp11 ht12 => ?_)
      have ht13 := RGw_sz ht12
      have hqht13 : Rfx 121 0 16 (fup sz (Int.toNat 120) x1) := Rfx_up (by assumption) (by omega)
      refine r_aload_n (pc := 33) dX12_begin_33 (i := 0) rfl rfl ?_
      refine t_getE (pc := 34) (.ref (y + 3)) ht13 (rd_of RG_y) fX12_16 dX12_begin_34 rfl ?_
      refine r_bipush (pc := 37) (v := iv 120) dX12_begin_37 (by decide) ?_
      refine r_iload_n (pc := 39) dX12_begin_39 (i := 2) rfl rfl ?_
      refine t_zastX (pc := 40) (t0 := 2) ht13 RG_directs dX12_begin_40 rfl (by decide) (by omega) (by omega) (fun hp14 ht15 => ?_)
      have ht16 := RGw_dr ht15
      have hqht16 : Rfx 121 0 1 (fup dr (Int.toNat 120) x2) := Rfx_up (by assumption) (by omega)
      refine r_aload_n (pc := 41) dX12_begin_41 (i := 0) rfl rfl ?_
      refine t_getE (pc := 42) (.ref (y + 4)) ht16 (rd_of RG_y) fX12_20 dX12_begin_42 rfl ?_
      refine r_bipush (pc := 45) (v := iv 120) dX12_begin_45 (by decide) ?_
      refine r_iconst (pc := 47) (v := iv 0) dX12_begin_47 (by decide) ?_
      refine t_iastX (pc := 48) (t0 := 0) ht16 RG_many dX12_begin_48 rfl (by decide) (by omega) (by omega) (fun hp17 ht18 => ?_)
      have ht19 := RGw_mn ht18
      have hqht19 : Rfx 121 0 60 (fup mn (Int.toNat 120) 0) := Rfx_up (by assumption) (by omega)
      refine r_iconst (pc := 49) (v := iv 1) dX12_begin_49 (by decide) ?_
      exact r_zret (pc := 50) dX12_begin_50 rfl (iv_nar (by omega)) ⟨rfl, 0, (fup sz (Int.toNat 120) x1), (fup dr (Int.toNat 120) x2), (fup mn (Int.toNat 120) 0), 1, ht19, rfl, (by omega), (by (first | (intro h9; exfalso; omega) | (intro _; exact ⟨rfl, rfl, rfl, rfl⟩))), (by (first | (intro h9; exfalso; omega) | (intro _; exact ⟨rfl, rfl, rfl, rfl⟩)))⟩
    · refine r_aload_n (pc := 11) dX12_begin_11 (i := 0) rfl rfl ?_
      refine r_bipush (pc := 12) (v := iv (-3)) dX12_begin_12 (by decide) ?_
      obtain ⟨fs24, hfs24⟩ := t_obj ht (rd_of RG_y)
      refine r_callV (pc := 14) (as := [.int (iv (-3))]) (st := []) kX12_153 rfl dX12_begin_14 hfs24 (s_X12_refuse (d := d - 1) (x1 := (-3)) (by omega) ht (by omega)) rfl (by omega) (Nat.le_of_ble_eq_true rfl) (Nat.zero_le _) (Nat.zero_le _) rfl (fun r21 hp20 n22 hq23 => ?_)
      obtain ⟨hnn22, ht25, hrr21⟩ := hq23
      subst n22 r21
      change Rn _ _ _ 17 _ [.int (iv (-3))] _ _ _ _ _
      refine r_pop (pc := 17) dX12_begin_17 rfl ?_
      refine r_iconst (pc := 18) (v := iv 0) dX12_begin_18 (by decide) ?_
      exact r_zret (pc := 19) dX12_begin_19 rfl (iv_nar (by omega)) ⟨rfl, (-3), sz, dr, mn, 0, ht25, rfl, (by omega), (by (first | (intro h9; exfalso; omega) | (intro _; exact ⟨rfl, rfl, rfl, rfl⟩))), (by (first | (intro h9; exfalso; omega) | (intro _; exact ⟨rfl, rfl, rfl, rfl⟩)))⟩
def q_X12_arc (Γ : TG) (cI cJ cZ : ClassId) (y n : Nat) (rf cn nm : Int) (so sz dr mn fr tt wt co : Nat → Int) (nu : Nat → Int64) (qi qc nf nt nw nc : Nat → Int) (x1 x2 x3 x4 : Int) : Option Value → MH → Nat → Prop := fun r hp1 n1 => n1 = n ∧ ∃ (v : Int) (m1 : Nat → Int) (f1 : Nat → Int) (t1 : Nat → Int) (w1 : Nat → Int) (o1 : Nat → Int) (h : Int), Tw (RG Γ cI cJ cZ y v cn nm so sz dr m1 f1 t1 w1 o1 nu qi qc nf nt nw nc) hp1 ∧ r = some (.int (iv h)) ∧ (-4 ≤ v ∧ v ≤ 0) ∧ (-4 ≤ h ∧ h ≤ 59) ∧ (((0 ≤ x1 ∧ x1 < sz 120) ∧ (0 ≤ x2 ∧ x2 < sz 120) ∧ (-1000 ≤ x3 ∧ x3 ≤ 1000) ∧ (-1000 ≤ x4 ∧ x4 ≤ 1000)) ∧ mn 120 < 60 → h = mn 120 ∧ m1 = fup mn 120 (mn 120 + 1) ∧ f1 = fup fr (7200 + mn 120).toNat x1 ∧ t1 = fup tt (7200 + mn 120).toNat x2 ∧ w1 = fup wt (7200 + mn 120).toNat x3 ∧ o1 = fup co (7200 + mn 120).toNat x4) ∧ (((0 ≤ x1 ∧ x1 < sz 120) ∧ (0 ≤ x2 ∧ x2 < sz 120) ∧ (-1000 ≤ x3 ∧ x3 ≤ 1000) ∧ (-1000 ≤ x4 ∧ x4 ≤ 1000)) ∧ ¬ mn 120 < 60 → h = -4 ∧ m1 = mn ∧ f1 = fr ∧ t1 = tt ∧ w1 = wt ∧ o1 = co) ∧ (¬ ((0 ≤ x1 ∧ x1 < sz 120) ∧ (0 ≤ x2 ∧ x2 < sz 120) ∧ (-1000 ≤ x3 ∧ x3 ≤ 1000) ∧ (-1000 ≤ x4 ∧ x4 ≤ 1000)) → h = -3 ∧ m1 = mn ∧ f1 = fr ∧ t1 = tt ∧ w1 = wt ∧ o1 = co)
set_option maxHeartbeats 4000000 in
set_option maxRecDepth 100000 in
theorem s_X12_arc {D : va_G} {cI cJ cZ cT : ClassId} {lo b L : Nat} {xs : Nat → Int32} {hp : MH} {n d : Nat} {Γ : TG} {y : Nat} {rf cn nm : Int} {so sz dr mn fr tt wt co : Nat → Int} {nu : Nat → Int64} {qi qc nf nt nw nc : Nat → Int} {x1 x2 x3 x4 : Int} (hd0 : 2 ≤ d) (hk : RK rf cn nm so sz dr mn fr tt wt co nu qi qc nf nt nw nc) (ht : Tw (RG Γ cI cJ cZ y rf cn nm so sz dr mn fr tt wt co nu qi qc nf nt nw nc) hp) (hx1 : (-2147483648) ≤ x1 ∧ x1 ≤ 2147483647) (hx2 : (-2147483648) ≤ x2 ∧ x2 ≤ 2147483647) (hx3 : (-2147483648) ≤ x3 ∧ x3 ≤ 2147483647) (hx4 : (-2147483648) ≤ x4 ∧ x4 ≤ 2147483647) : Mt (gG D cI cJ cZ cT lo b L xs) mX12_arc d 0 0 [.ref y, .int (iv x1), .int (iv x2), .int (iv x3), .int (iv x4)] hp n (q_X12_arc Γ cI cJ cZ y n rf cn nm so sz dr mn fr tt wt co nu qi qc nf nt nw nc x1 x2 x3 x4) := by
  refine Mt.of rfl (Nat.le_of_ble_eq_true rfl) ?_
  refine Rn.pick (lv' := [(0, .ref y), (1, .int (iv x1)), (2, .int (iv x2)), (3, .int (iv x3)), (4, .int (iv x4))]) [0, 1, 2, 3, 4] rfl ?_
  obtain ⟨hR_sorts, hR_sizes, hR_directs, hR_many, hR_from, hR_to, hR_weight, hR_cost, hR_inPart, hR_partCount, hcn, hrf, hnm, hdf, hgr, hpa, hsz⟩ := id hk
  have e1 : sz (Int.toNat 120) = sz 120 := rfl
  have e2 : mn (Int.toNat 120) = mn 120 := rfl
  refine r_aload_n (pc := 0) dX12_arc_0 (i := 0) rfl rfl ?_
  refine t_getE (pc := 1) (.ref (y + 2)) ht (rd_of RG_y) fX12_13 dX12_arc_1 rfl ?_
  refine r_bipush (pc := 4) (v := iv 120) dX12_arc_4 (by decide) ?_
  refine t_ialdX (pc := 6) (t0 := 0) ht (rd_of RG_sizes) dX12_arc_6 rfl (by decide) (by omega) (fun b1 => ?_)
  have rb1 := (show Rfx 121 0 16 sz by assumption) (Int.toNat 120) (by omega)
  refine r_istore (pc := 7) (lv' := [(5, .int (iv (sz (Int.toNat 120)))), (0, .ref y), (1, .int (iv x1)), (2, .int (iv x2)), (3, .int (iv x3)), (4, .int (iv x4))]) dX12_arc_7 (by decide) rfl ?_
  refine r_aload_n (pc := 9) dX12_arc_9 (i := 0) rfl rfl ?_
  refine r_iconst (pc := 10) (v := iv 0) dX12_arc_10 (by decide) ?_
  refine t_putX (pc := 11) (ty := .int) ht RG_y fX12_142 tyX12 tyX12_ok nmX12 (by decide +kernel) (Or.inl rfl) dX12_arc_11 (Nat.le_of_ble_eq_true rfl) rfl rfl rfl (fun hp2 ht3 => ?_)
  have ht4 := RGw_rf ht3
  refine r_iload_n (pc := 14) dX12_arc_14 (i := 1) rfl rfl ?_
  refine t_if_lt (pc := 15) (tgt := 64) dX12_arc_15 (by decide) (by omega) (fun c15 => ?_) (fun c15 => ?_)
  · refine r_aload_n (pc := 64) dX12_arc_64 (i := 0) rfl rfl ?_
    refine r_bipush (pc := 65) (v := iv (-3)) dX12_arc_65 (by decide) ?_
    obtain ⟨fs9, hfs9⟩ := t_obj ht4 (rd_of RG_y)
    refine r_callV (pc := 67) (as := [.int (iv (-3))]) (st := []) kX12_153 rfl dX12_arc_67 hfs9 (s_X12_refuse (d := d - 1) (x1 := (-3)) (by omega) ht4 (by omega)) rfl (by omega) (Nat.le_of_ble_eq_true rfl) (Nat.zero_le _) (Nat.zero_le _) rfl (fun r6 hp5 n7 hq8 => ?_)
    obtain ⟨hnn7, ht10, hrr6⟩ := hq8
    subst n7 r6
    change Rn _ _ _ 70 _ [.int (iv (-3))] _ _ _ _ _
    exact r_iret (pc := 70) dX12_arc_70 rfl ⟨rfl, (-3), mn, fr, tt, wt, co, (-3), ht10, rfl, (by omega), (by omega), (by (first | (intro h9; exfalso; omega) | (intro _; exact ⟨(by show fup mn 120 (mn 120 + 1) 120 - 1 = mn 120; rw [fup_s]; omega), rfl, rfl, rfl, rfl, rfl⟩))), (by (first | (intro h9; exfalso; omega) | (intro _; exact ⟨rfl, rfl, rfl, rfl, rfl, rfl⟩))), (by (first | (intro h9; exfalso; omega) | (intro _; exact ⟨rfl, rfl, rfl, rfl, rfl, rfl⟩)))⟩
  · refine r_iload_n (pc := 18) dX12_arc_18 (i := 1) rfl rfl ?_
    refine r_iload (pc := 19) dX12_arc_19 rfl ?_
    refine t_icmp_ge (pc := 21) (tgt := 64) dX12_arc_21 (by decide) (by omega) (by omega) (fun c21 => ?_) (fun c21 => ?_)
    · refine r_aload_n (pc := 64) dX12_arc_64 (i := 0) rfl rfl ?_
      refine r_bipush (pc := 65) (v := iv (-3)) dX12_arc_65 (by decide) ?_
      obtain ⟨fs16, hfs16⟩ := t_obj ht4 (rd_of RG_y)
      refine r_callV (pc := 67) (as := [.int (iv (-3))]) (st := []) kX12_153 rfl dX12_arc_67 hfs16 (s_X12_refuse (d := d - 1) (x1 := (-3)) (by omega) ht4 (by omega)) rfl (by omega) (Nat.le_of_ble_eq_true rfl) (Nat.zero_le _) (Nat.zero_le _) rfl (fun r13 hp12 n14 hq15 => ?_)
      obtain ⟨hnn14, ht17, hrr13⟩ := hq15
      subst n14 r13
      change Rn _ _ _ 70 _ [.int (iv (-3))] _ _ _ _ _
      exact r_iret (pc := 70) dX12_arc_70 rfl ⟨rfl, (-3), mn, fr, tt, wt, co, (-3), ht17, rfl, (by omega), (by omega), (by (first | (intro h9; exfalso; omega) | (intro _; exact ⟨(by show fup mn 120 (mn 120 + 1) 120 - 1 = mn 120; rw [fup_s]; omega), rfl, rfl, rfl, rfl, rfl⟩))), (by (first | (intro h9; exfalso; omega) | (intro _; exact ⟨rfl, rfl, rfl, rfl, rfl, rfl⟩))), (by (first | (intro h9; exfalso; omega) | (intro _; exact ⟨rfl, rfl, rfl, rfl, rfl, rfl⟩)))⟩
    · refine r_iload_n (pc := 24) dX12_arc_24 (i := 2) rfl rfl ?_
      refine t_if_lt (pc := 25) (tgt := 64) dX12_arc_25 (by decide) (by omega) (fun c25 => ?_) (fun c25 => ?_)
      · refine r_aload_n (pc := 64) dX12_arc_64 (i := 0) rfl rfl ?_
        refine r_bipush (pc := 65) (v := iv (-3)) dX12_arc_65 (by decide) ?_
        obtain ⟨fs23, hfs23⟩ := t_obj ht4 (rd_of RG_y)
        refine r_callV (pc := 67) (as := [.int (iv (-3))]) (st := []) kX12_153 rfl dX12_arc_67 hfs23 (s_X12_refuse (d := d - 1) (x1 := (-3)) (by omega) ht4 (by omega)) rfl (by omega) (Nat.le_of_ble_eq_true rfl) (Nat.zero_le _) (Nat.zero_le _) rfl (fun r20 hp19 n21 hq22 => ?_)
        obtain ⟨hnn21, ht24, hrr20⟩ := hq22
        subst n21 r20
        change Rn _ _ _ 70 _ [.int (iv (-3))] _ _ _ _ _
        exact r_iret (pc := 70) dX12_arc_70 rfl ⟨rfl, (-3), mn, fr, tt, wt, co, (-3), ht24, rfl, (by omega), (by omega), (by (first | (intro h9; exfalso; omega) | (intro _; exact ⟨(by show fup mn 120 (mn 120 + 1) 120 - 1 = mn 120; rw [fup_s]; omega), rfl, rfl, rfl, rfl, rfl⟩))), (by (first | (intro h9; exfalso; omega) | (intro _; exact ⟨rfl, rfl, rfl, rfl, rfl, rfl⟩))), (by (first | (intro h9; exfalso; omega) | (intro _; exact ⟨rfl, rfl, rfl, rfl, rfl, rfl⟩)))⟩
      · refine r_iload_n (pc := 28) dX12_arc_28 (i := 2) rfl rfl ?_
        refine r_iload (pc := 29) dX12_arc_29 rfl ?_
        refine t_icmp_ge (pc := 31) (tgt := 64) dX12_arc_31 (by decide) (by omega) (by omega) (fun c31 => ?_) (fun c31 => ?_)
        · refine r_aload_n (pc := 64) dX12_arc_64 (i := 0) rfl rfl ?_
          refine r_bipush (pc := 65) (v := iv (-3)) dX12_arc_65 (by decide) ?_
          obtain ⟨fs30, hfs30⟩ := t_obj ht4 (rd_of RG_y)
          refine r_callV (pc := 67) (as := [.int (iv (-3))]) (st := []) kX12_153 rfl dX12_arc_67 hfs30 (s_X12_refuse (d := d - 1) (x1 := (-3)) (by omega) ht4 (by omega)) rfl (by omega) (Nat.le_of_ble_eq_true rfl) (Nat.zero_le _) (Nat.zero_le _) rfl (fun r27 hp26 n28 hq29 => ?_)
          obtain ⟨hnn28, ht31, hrr27⟩ := hq29
          subst n28 r27
          change Rn _ _ _ 70 _ [.int (iv (-3))] _ _ _ _ _
          exact r_iret (pc := 70) dX12_arc_70 rfl ⟨rfl, (-3), mn, fr, tt, wt, co, (-3), ht31, rfl, (by omega), (by omega), (by (first | (intro h9; exfalso; omega) | (intro _; exact ⟨(by show fup mn 120 (mn 120 + 1) 120 - 1 = mn 120; rw [fup_s]; omega), rfl, rfl, rfl, rfl, rfl⟩))), (by (first | (intro h9; exfalso; omega) | (intro _; exact ⟨rfl, rfl, rfl, rfl, rfl, rfl⟩))), (by (first | (intro h9; exfalso; omega) | (intro _; exact ⟨rfl, rfl, rfl, rfl, rfl, rfl⟩)))⟩
        · refine r_iload_n (pc := 34) dX12_arc_34 (i := 3) rfl rfl ?_
          refine r_sipush (pc := 35) (v := iv (-1000)) dX12_arc_35 (by decide) ?_
          refine t_icmp_lt (pc := 38) (tgt := 64) dX12_arc_38 (by decide) (by omega) (by omega) (fun c38 => ?_) (fun c38 => ?_)
          · refine r_aload_n (pc := 64) dX12_arc_64 (i := 0) rfl rfl ?_
            refine r_bipush (pc := 65) (v := iv (-3)) dX12_arc_65 (by decide) ?_
            obtain ⟨fs37, hfs37⟩ := t_obj ht4 (rd_of RG_y)
            refine r_callV (pc := 67) (as := [.int (iv (-3))]) (st := []) kX12_153 rfl dX12_arc_67 hfs37 (s_X12_refuse (d := d - 1) (x1 := (-3)) (by omega) ht4 (by omega)) rfl (by omega) (Nat.le_of_ble_eq_true rfl) (Nat.zero_le _) (Nat.zero_le _) rfl (fun r34 hp33 n35 hq36 => ?_)
            obtain ⟨hnn35, ht38, hrr34⟩ := hq36
            subst n35 r34
            change Rn _ _ _ 70 _ [.int (iv (-3))] _ _ _ _ _
            exact r_iret (pc := 70) dX12_arc_70 rfl ⟨rfl, (-3), mn, fr, tt, wt, co, (-3), ht38, rfl, (by omega), (by omega), (by (first | (intro h9; exfalso; omega) | (intro _; exact ⟨(by show fup mn 120 (mn 120 + 1) 120 - 1 = mn 120; rw [fup_s]; omega), rfl, rfl, rfl, rfl, rfl⟩))), (by (first | (intro h9; exfalso; omega) | (intro _; exact ⟨rfl, rfl, rfl, rfl, rfl, rfl⟩))), (by (first | (intro h9; exfalso; omega) | (intro _; exact ⟨rfl, rfl, rfl, rfl, rfl, rfl⟩)))⟩
          · refine r_iload_n (pc := 41) dX12_arc_41 (i := 3) rfl rfl ?_
            refine r_sipush (pc := 42) (v := iv 1000) dX12_arc_42 (by decide) ?_
            refine t_icmp_gt (pc := 45) (tgt := 64) dX12_arc_45 (by decide) (by omega) (by omega) (fun c45 => ?_) (fun c45 => ?_)
            · refine r_aload_n (pc := 64) dX12_arc_64 (i := 0) rfl rfl ?_
              refine r_bipush (pc := 65) (v := iv (-3)) dX12_arc_65 (by decide) ?_
              obtain ⟨fs44, hfs44⟩ := t_obj ht4 (rd_of RG_y)
              refine r_callV (pc := 67) (as := [.int (iv (-3))]) (st := []) kX12_153 rfl dX12_arc_67 hfs44 (s_X12_refuse (d := d - 1) (x1 := (-3)) (by omega) ht4 (by omega)) rfl (by omega) (Nat.le_of_ble_eq_true rfl) (Nat.zero_le _) (Nat.zero_le _) rfl (fun r41 hp40 n42 hq43 => ?_)
              obtain ⟨hnn42, ht45, hrr41⟩ := hq43
              subst n42 r41
              change Rn _ _ _ 70 _ [.int (iv (-3))] _ _ _ _ _
              exact r_iret (pc := 70) dX12_arc_70 rfl ⟨rfl, (-3), mn, fr, tt, wt, co, (-3), ht45, rfl, (by omega), (by omega), (by (first | (intro h9; exfalso; omega) | (intro _; exact ⟨(by show fup mn 120 (mn 120 + 1) 120 - 1 = mn 120; rw [fup_s]; omega), rfl, rfl, rfl, rfl, rfl⟩))), (by (first | (intro h9; exfalso; omega) | (intro _; exact ⟨rfl, rfl, rfl, rfl, rfl, rfl⟩))), (by (first | (intro h9; exfalso; omega) | (intro _; exact ⟨rfl, rfl, rfl, rfl, rfl, rfl⟩)))⟩
            · refine r_iload (pc := 48) dX12_arc_48 rfl ?_
              refine r_sipush (pc := 50) (v := iv (-1000)) dX12_arc_50 (by decide) ?_
              refine t_icmp_lt (pc := 53) (tgt := 64) dX12_arc_53 (by decide) (by omega) (by omega) (fun c53 => ?_) (fun c53 => ?_)
              · refine r_aload_n (pc := 64) dX12_arc_64 (i := 0) rfl rfl ?_
                refine r_bipush (pc := 65) (v := iv (-3)) dX12_arc_65 (by decide) ?_
                obtain ⟨fs51, hfs51⟩ := t_obj ht4 (rd_of RG_y)
                refine r_callV (pc := 67) (as := [.int (iv (-3))]) (st := []) kX12_153 rfl dX12_arc_67 hfs51 (s_X12_refuse (d := d - 1) (x1 := (-3)) (by omega) ht4 (by omega)) rfl (by omega) (Nat.le_of_ble_eq_true rfl) (Nat.zero_le _) (Nat.zero_le _) rfl (fun r48 hp47 n49 hq50 => ?_)
                obtain ⟨hnn49, ht52, hrr48⟩ := hq50
                subst n49 r48
                change Rn _ _ _ 70 _ [.int (iv (-3))] _ _ _ _ _
                exact r_iret (pc := 70) dX12_arc_70 rfl ⟨rfl, (-3), mn, fr, tt, wt, co, (-3), ht52, rfl, (by omega), (by omega), (by (first | (intro h9; exfalso; omega) | (intro _; exact ⟨(by show fup mn 120 (mn 120 + 1) 120 - 1 = mn 120; rw [fup_s]; omega), rfl, rfl, rfl, rfl, rfl⟩))), (by (first | (intro h9; exfalso; omega) | (intro _; exact ⟨rfl, rfl, rfl, rfl, rfl, rfl⟩))), (by (first | (intro h9; exfalso; omega) | (intro _; exact ⟨rfl, rfl, rfl, rfl, rfl, rfl⟩)))⟩
              · refine r_iload (pc := 56) dX12_arc_56 rfl ?_
                refine r_sipush (pc := 58) (v := iv 1000) dX12_arc_58 (by decide) ?_
                refine t_icmp_le (pc := 61) (tgt := 71) dX12_arc_61 (by decide) (by omega) (by omega) (fun c61 => ?_) (fun c61 => ?_)
                · refine r_aload_n (pc := 71) dX12_arc_71 (i := 0) rfl rfl ?_
                  refine t_getE (pc := 72) (.ref (y + 4)) ht4 (rd_of RG_y) fX12_20 dX12_arc_72 rfl ?_
                  refine r_bipush (pc := 75) (v := iv 120) dX12_arc_75 (by decide) ?_
                  refine t_ialdX (pc := 77) (t0 := 0) ht4 (rd_of RG_many) dX12_arc_77 rfl (by decide) (by omega) (fun b54 => ?_)
                  have rb54 := (show Rfx 121 0 60 mn by assumption) (Int.toNat 120) (by omega)
                  refine r_bipush (pc := 78) (v := iv 60) dX12_arc_78 (by decide) ?_
                  refine t_icmp_ne (pc := 80) (tgt := 90) dX12_arc_80 (by decide) (by omega) (by omega) (fun c80 => ?_) (fun c80 => ?_)
                  · refine r_aload_n (pc := 90) dX12_arc_90 (i := 0) rfl rfl ?_
                    refine r_bipush (pc := 91) (v := iv 120) dX12_arc_91 (by decide) ?_
                    refine r_iload_n (pc := 93) dX12_arc_93 (i := 1) rfl rfl ?_
                    refine r_iload_n (pc := 94) dX12_arc_94 (i := 2) rfl rfl ?_
                    refine r_iload_n (pc := 95) dX12_arc_95 (i := 3) rfl rfl ?_
                    refine r_iload (pc := 96) dX12_arc_96 rfl ?_
                    obtain ⟨fs59, hfs59⟩ := t_obj ht4 (rd_of RG_y)
                    refine r_callV (pc := 98) (as := [.int (iv 120), .int (iv x1), .int (iv x2), .int (iv x3), .int (iv x4)]) (st := []) kX12_161 rfl dX12_arc_98 hfs59 (s_X12_add (d := d - 1) (x1 := 120) (x2 := x1) (x3 := x2) (x4 := x3) (x5 := x4) (by omega) (by assumption) (by assumption) (by assumption) (by assumption) (by assumption) ht4 (by omega) (by omega) (by omega) (by omega) (by omega) (by omega)) rfl (by omega) (Nat.le_of_ble_eq_true rfl) (Nat.zero_le _) (Nat.zero_le _) rfl (fun r56 hp55 n57 hq58 => ?_)
                    obtain ⟨hnn57, ht60, hrr56⟩ := hq58
                    subst n57 r56
                    have hqR62 : Rfx 7260 0 15 (fup fr (Int.toNat (60 * 120 + mn (Int.toNat 120))) x1) := Rfx_up (by assumption) (by omega)
                    have hqR63 : Rfx 7260 0 15 (fup tt (Int.toNat (60 * 120 + mn (Int.toNat 120))) x2) := Rfx_up (by assumption) (by omega)
                    have hqR64 : Rfx 7260 (-1000) 1000 (fup wt (Int.toNat (60 * 120 + mn (Int.toNat 120))) x3) := Rfx_up (by assumption) (by omega)
                    have hqR65 : Rfx 7260 (-1000) 1000 (fup co (Int.toNat (60 * 120 + mn (Int.toNat 120))) x4) := Rfx_up (by assumption) (by omega)
                    have hqR66 : Rfx 121 0 60 (fup mn (Int.toNat 120) (mn (Int.toNat 120) + 1)) := Rfx_up (by assumption) (by omega)
                    change Rn _ _ _ 101 _ [] _ _ _ _ _
                    refine r_aload_n (pc := 101) dX12_arc_101 (i := 0) rfl rfl ?_
                    refine t_getE (pc := 102) (.ref (y + 4)) ht60 (rd_of RG_y) fX12_20 dX12_arc_102 rfl ?_
                    refine r_bipush (pc := 105) (v := iv 120) dX12_arc_105 (by decide) ?_
                    refine t_ialdX (pc := 107) (t0 := 0) ht60 (rd_of RG_many) dX12_arc_107 rfl (by decide) (by omega) (fun b67 => ?_)
                    have rb67 := (show Rfx 121 0 60 (fup mn (Int.toNat 120) (mn (Int.toNat 120) + 1)) by assumption) (Int.toNat 120) (by omega)
                    refine r_iconst (pc := 108) (v := iv 1) dX12_arc_108 (by decide) ?_
                    refine r_isub (pc := 109) (v := iv (((fup mn (Int.toNat 120) (mn (Int.toNat 120) + 1)) (Int.toNat 120)) - 1)) dX12_arc_109 (iv_sub _ _) ?_
                    exact r_iret (pc := 110) dX12_arc_110 rfl ⟨rfl, 0, (fup mn (Int.toNat 120) (mn (Int.toNat 120) + 1)), (fup fr (Int.toNat (60 * 120 + mn (Int.toNat 120))) x1), (fup tt (Int.toNat (60 * 120 + mn (Int.toNat 120))) x2), (fup wt (Int.toNat (60 * 120 + mn (Int.toNat 120))) x3), (fup co (Int.toNat (60 * 120 + mn (Int.toNat 120))) x4), (((fup mn (Int.toNat 120) (mn (Int.toNat 120) + 1)) (Int.toNat 120)) - 1), ht60, rfl, (by omega), (by omega), (by (first | (intro h9; exfalso; omega) | (intro _; exact ⟨(by show fup mn 120 (mn 120 + 1) 120 - 1 = mn 120; rw [fup_s]; omega), rfl, rfl, rfl, rfl, rfl⟩))), (by (first | (intro h9; exfalso; omega) | (intro _; exact ⟨rfl, rfl, rfl, rfl, rfl, rfl⟩))), (by (first | (intro h9; exfalso; omega) | (intro _; exact ⟨rfl, rfl, rfl, rfl, rfl, rfl⟩)))⟩
                  · refine r_aload_n (pc := 83) dX12_arc_83 (i := 0) rfl rfl ?_
                    refine r_bipush (pc := 84) (v := iv (-4)) dX12_arc_84 (by decide) ?_
                    obtain ⟨fs72, hfs72⟩ := t_obj ht4 (rd_of RG_y)
                    refine r_callV (pc := 86) (as := [.int (iv (-4))]) (st := []) kX12_153 rfl dX12_arc_86 hfs72 (s_X12_refuse (d := d - 1) (x1 := (-4)) (by omega) ht4 (by omega)) rfl (by omega) (Nat.le_of_ble_eq_true rfl) (Nat.zero_le _) (Nat.zero_le _) rfl (fun r69 hp68 n70 hq71 => ?_)
                    obtain ⟨hnn70, ht73, hrr69⟩ := hq71
                    subst n70 r69
                    change Rn _ _ _ 89 _ [.int (iv (-4))] _ _ _ _ _
                    exact r_iret (pc := 89) dX12_arc_89 rfl ⟨rfl, (-4), mn, fr, tt, wt, co, (-4), ht73, rfl, (by omega), (by omega), (by (first | (intro h9; exfalso; omega) | (intro _; exact ⟨(by show fup mn 120 (mn 120 + 1) 120 - 1 = mn 120; rw [fup_s]; omega), rfl, rfl, rfl, rfl, rfl⟩))), (by (first | (intro h9; exfalso; omega) | (intro _; exact ⟨rfl, rfl, rfl, rfl, rfl, rfl⟩))), (by (first | (intro h9; exfalso; omega) | (intro _; exact ⟨rfl, rfl, rfl, rfl, rfl, rfl⟩)))⟩
                · refine r_aload_n (pc := 64) dX12_arc_64 (i := 0) rfl rfl ?_
                  refine r_bipush (pc := 65) (v := iv (-3)) dX12_arc_65 (by decide) ?_
                  obtain ⟨fs79, hfs79⟩ := t_obj ht4 (rd_of RG_y)
                  refine r_callV (pc := 67) (as := [.int (iv (-3))]) (st := []) kX12_153 rfl dX12_arc_67 hfs79 (s_X12_refuse (d := d - 1) (x1 := (-3)) (by omega) ht4 (by omega)) rfl (by omega) (Nat.le_of_ble_eq_true rfl) (Nat.zero_le _) (Nat.zero_le _) rfl (fun r76 hp75 n77 hq78 => ?_)
                  obtain ⟨hnn77, ht80, hrr76⟩ := hq78
                  subst n77 r76
                  change Rn _ _ _ 70 _ [.int (iv (-3))] _ _ _ _ _
                  exact r_iret (pc := 70) dX12_arc_70 rfl ⟨rfl, (-3), mn, fr, tt, wt, co, (-3), ht80, rfl, (by omega), (by omega), (by (first | (intro h9; exfalso; omega) | (intro _; exact ⟨(by show fup mn 120 (mn 120 + 1) 120 - 1 = mn 120; rw [fup_s]; omega), rfl, rfl, rfl, rfl, rfl⟩))), (by (first | (intro h9; exfalso; omega) | (intro _; exact ⟨rfl, rfl, rfl, rfl, rfl, rfl⟩))), (by (first | (intro h9; exfalso; omega) | (intro _; exact ⟨rfl, rfl, rfl, rfl, rfl, rfl⟩)))⟩
