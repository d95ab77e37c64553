theorem RK_drop {rf cn nm : Int} {so sz dr mn fr tt wt co : Nat → Int} {nu : Nat → Int64} {qi qc nf nt nw nc : Nat → Int} {rf1 c1 : Int} (hk : RK rf cn nm so sz dr mn fr tt wt co nu qi qc nf nt nw nc) (h1 : -2147483648 ≤ rf1 ∧ rf1 ≤ 2147483647) (h0 : 0 ≤ c1) (h2 : c1 ≤ cn) : RK rf1 c1 nm so sz dr mn fr tt wt co nu qi qc nf nt nw nc := by
  obtain ⟨hR_sorts, hR_sizes, hR_directs, hR_many, hR_from, hR_to, hR_weight, hR_cost, hR_inPart, hR_partCount, hcn, hrf, hnm, hdf, hgr, hpa, hsz⟩ := hk
  exact ⟨hR_sorts, hR_sizes, hR_directs, hR_many, hR_from, hR_to, hR_weight, hR_cost, hR_inPart, hR_partCount, (by omega), h1, hnm, hdf, (fun g a b c => hgr g a (by omega) c), (fun g a b c => hpa g a (by omega) c), (fun g a b => hsz g a (by omega))⟩
def q_X12_graph (Γ : TG) (cI cJ cZ : ClassId) (y n : Nat) (rf cn nm : Int) (so sz dr mn fr tt wt co : Nat → Int) (nu : Nat → Int64) (qi qc nf nt nw nc : Nat → Int) : Option Value → MH → Nat → Prop := fun r hp1 n1 => n1 = n ∧ ∃ (rf' : Int) (cn' : Int) (nm' : Int) (so' : Nat → Int) (sz' : Nat → Int) (dr' : Nat → Int) (mn' : Nat → Int) (fr' : Nat → Int) (tt' : Nat → Int) (wt' : Nat → Int) (co' : Nat → Int) (nu' : Nat → Int64) (qi' : Nat → Int) (qc' : Nat → Int) (nf' : Nat → Int) (nt' : Nat → Int) (nw' : Nat → Int) (nc' : Nat → Int) (v' : Int), Tw (RG Γ cI cJ cZ y rf' cn' nm' so' sz' dr' mn' fr' tt' wt' co' nu' qi' qc' nf' nt' nw' nc') hp1 ∧ r = some (.int (iv v')) ∧ (RK rf' cn' nm' so' sz' dr' mn' fr' tt' wt' co' nu' qi' qc' nf' nt' nw' nc') ∧ (dfE sz dr mn fr tt wt co sz' dr' mn' fr' tt' wt' co') ∧ (-2147483648 ≤ v' ∧ v' ≤ 2147483647)
set_option maxHeartbeats 4000000 in
set_option maxRecDepth 100000 in
theorem s_X12_graph {D : va_G} {cI cJ cZ cT : ClassId} {lo b L : Nat} {xs : Nat → Int32} {hp : MH} {n d : Nat} {Γ : TG} {y : Nat} {rf cn nm : Int} {so sz dr mn fr tt wt co : Nat → Int} {nu : Nat → Int64} {qi qc nf nt nw nc : Nat → Int} (hd0 : 3 ≤ d) (hk : RK rf cn nm so sz dr mn fr tt wt co nu qi qc nf nt nw nc) (ht : Tw (RG Γ cI cJ cZ y rf cn nm so sz dr mn fr tt wt co nu qi qc nf nt nw nc) hp)  : Mt (gG D cI cJ cZ cT lo b L xs) mX12_graph d 0 0 [.ref y] hp n (q_X12_graph Γ cI cJ cZ y n rf cn nm so sz dr mn fr tt wt co nu qi qc nf nt nw nc) := by
  refine Mt.of rfl (Nat.le_of_ble_eq_true rfl) ?_
  refine Rn.pick (lv' := [(0, .ref y)]) [0] rfl ?_
  obtain ⟨hR_sorts, hR_sizes, hR_directs, hR_many, hR_from, hR_to, hR_weight, hR_cost, hR_inPart, hR_partCount, hcn, hrf, hnm, hdf, hgr, hpa, hsz⟩ := id hk
  have rsz := hR_sizes (Int.toNat 120) (by decide)
  have rmn := hR_many (Int.toNat 120) (by decide)
  refine r_aload_n (pc := 0) dX12_graph_0 (i := 0) rfl rfl ?_
  refine r_iconst (pc := 1) (v := iv 0) dX12_graph_1 (by decide) ?_
  refine t_putX (pc := 2) (ty := .int) ht RG_y fX12_142 tyX12 tyX12_ok nmX12 (by decide +kernel) (Or.inl rfl) dX12_graph_2 (Nat.le_of_ble_eq_true rfl) rfl rfl rfl (fun hp1 ht2 => ?_)
  have ht3 := RGw_rf ht2
  refine r_aload_n (pc := 5) dX12_graph_5 (i := 0) rfl rfl ?_
  refine r_iconst (pc := 6) (v := iv 0) dX12_graph_6 (by decide) ?_
  refine t_putX (pc := 7) (ty := .int) ht3 RG_y fX12_165 tyX12 tyX12_ok nmX12 (by decide +kernel) (Or.inl rfl) dX12_graph_7 (Nat.le_of_ble_eq_true rfl) rfl rfl rfl (fun hp4 ht5 => ?_)
  have ht6 := RGw_nm ht5
  refine r_aload_n (pc := 10) dX12_graph_10 (i := 0) rfl rfl ?_
  refine r_bipush (pc := 11) (v := iv 120) dX12_graph_11 (by decide) ?_
  refine r_iconst (pc := 13) (v := iv 0) dX12_graph_13 (by decide) ?_
  obtain ⟨fs11, hfs11⟩ := t_obj ht6 (rd_of RG_y)
  refine r_callV (pc := 14) (as := [.int (iv 120), .int (iv 0)]) (st := []) kX12_175 rfl dX12_graph_14 hfs11 (s_X12_copyArcs (d := d - 1) (x1 := 120) (x2 := 0) (by omega) (by assumption) (by assumption) (by assumption) (by assumption) (by assumption) ht6 (by omega) (by omega) (by omega)) rfl (by omega) (Nat.le_of_ble_eq_true rfl) (Nat.zero_le _) (Nat.zero_le _) rfl (fun r8 hp7 n9 hq10 => ?_)
  obtain ⟨hnn9, nf1_14, nt1_15, nw1_16, nc1_17, m1_18, ht12, hrr8, hhq100, hhq101, hhq102, hhq103, hhq104⟩ := hq10
  subst n9 r8
  have hhq100 : m1_18 = 0 + mn (Int.toNat 120) := hhq100
  have hhq101 : nf1_14 = kcF (fun i : Nat => fr (Int.toNat (60 * 120 + (i : Int))) + 0) nf (Int.toNat 0) (Int.toNat (mn (Int.toNat 120))) := hhq101
  have hhq102 : nt1_15 = kcF (fun i : Nat => tt (Int.toNat (60 * 120 + (i : Int))) + 0) nt (Int.toNat 0) (Int.toNat (mn (Int.toNat 120))) := hhq102
  have hhq103 : nw1_16 = kcF (fun i : Nat => wt (Int.toNat (60 * 120 + (i : Int)))) nw (Int.toNat 0) (Int.toNat (mn (Int.toNat 120))) := hhq103
  have hhq104 : nc1_17 = kcF (fun i : Nat => co (Int.toNat (60 * 120 + (i : Int)))) nc (Int.toNat 0) (Int.toNat (mn (Int.toNat 120))) := hhq104
  change Rn _ _ _ 17 _ [] _ _ _ _ _
  have hap : arP nf1_14 nt1_15 nw1_16 nc1_17 m1_18 (sz (Int.toNat 120)) := ar_cp (s := 0) (g := 120) (ar_0 _ _ _ _ _) (by omega) (by omega) hhq100 hhq101 hhq102 hhq103 hhq104 hdf.2 hR_many hR_from hR_to hR_weight hR_cost (by omega)
  have hdf1 : 1 ≤ sz (Int.toNat 120) := hdf.1
  refine r_aload_n (pc := 17) dX12_graph_17 (i := 0) rfl rfl ?_
  refine r_aload_n (pc := 18) dX12_graph_18 (i := 0) rfl rfl ?_
  refine t_getE (pc := 19) (.ref (y + 2)) ht12 (rd_of RG_y) fX12_13 dX12_graph_19 rfl ?_
  refine r_bipush (pc := 22) (v := iv 120) dX12_graph_22 (by decide) ?_
  refine t_ialdX (pc := 24) (t0 := 0) ht12 (rd_of RG_sizes) dX12_graph_24 rfl (by decide) (by omega) (fun b19 => ?_)
  have rb19 := (show Rfx 121 0 16 sz by assumption) (Int.toNat 120) (by omega)
  refine r_aload_n (pc := 25) dX12_graph_25 (i := 0) rfl rfl ?_
  refine t_getE (pc := 26) (.ref (y + 3)) ht12 (rd_of RG_y) fX12_16 dX12_graph_26 rfl ?_
  refine r_bipush (pc := 29) (v := iv 120) dX12_graph_29 (by decide) ?_
  refine t_zaldX (pc := 31) (t0 := 2) ht12 (rd_of RG_directs) dX12_graph_31 rfl (by decide) (by omega) (fun b20 => ?_)
  have rb20 := (show Rfx 121 0 1 dr by assumption) (Int.toNat 120) (by omega)
  obtain ⟨fs25, hfs25⟩ := t_obj ht12 (rd_of RG_y)
  refine r_callV (pc := 32) (as := [.int (iv (sz (Int.toNat 120))), .int (iv (dr (Int.toNat 120)))]) (st := []) kX12_179 rfl dX12_graph_32 hfs25 (s_X12_made (d := d - 1) (x1 := sz (Int.toNat 120)) (x2 := dr (Int.toNat 120)) (by omega) (RK_set hk (by omega) (by omega)) ht12 (by omega) (by omega) (fun _ => hap)) rfl (by omega) (Nat.le_of_ble_eq_true rfl) (Nat.zero_le _) (Nat.zero_le _) rfl (fun r22 hp21 n23 hq24 => ?_)
  obtain ⟨hnn23, h_28, v_29, c1_30, s1_31, z1_32, d1_33, m1_34, f1_35, t1_36, w1_37, o1_38, ht26, hrr22, hhq240, hhq241, hhq242, hhq243⟩ := hq24
  subst n23 r22
  have hhq240 : (60 < m1_18 ∨ cn = 120) → h_28 = -4 ∧ v_29 = -4 ∧ c1_30 = cn := hhq240
  have hhq241 : (60 < m1_18 ∨ cn = 120) → s1_31 = so ∧ z1_32 = sz ∧ d1_33 = dr ∧ m1_34 = mn ∧ f1_35 = fr ∧ t1_36 = tt ∧ w1_37 = wt ∧ o1_38 = co := hhq241
  have hhq242 : m1_18 ≤ 60 ∧ cn < 120 → h_28 = cn ∧ v_29 = 0 ∧ c1_30 = cn + 1 := hhq242
  have hhq243 : m1_18 ≤ 60 ∧ cn < 120 → s1_31 = fup so (Int.toNat cn) 1 ∧ z1_32 = fup sz (Int.toNat cn) (sz (Int.toNat 120)) ∧ d1_33 = fup dr (Int.toNat cn) (dr (Int.toNat 120)) ∧ m1_34 = fup mn (Int.toNat cn) m1_18 ∧ f1_35 = kcF nf1_14 fr (Int.toNat (60 * cn)) (Int.toNat m1_18) ∧ t1_36 = kcF nt1_15 tt (Int.toNat (60 * cn)) (Int.toNat m1_18) ∧ w1_37 = kcF nw1_16 wt (Int.toNat (60 * cn)) (Int.toNat m1_18) ∧ o1_38 = kcF nc1_17 co (Int.toNat (60 * cn)) (Int.toNat m1_18) := hhq243
  change Rn _ _ _ 35 _ [.int (iv h_28)] _ _ _ _ _
  obtain ⟨hRKm, hDFm, hhm⟩ := RK_made (x1 := sz (Int.toNat 120)) (x2 := dr (Int.toNat 120)) (RK_set hk (by omega) (by omega)) (by omega) (by omega) (fun _ => hap) hhq240 hhq241 hhq242 hhq243
  exact r_iret (pc := 35) dX12_graph_35 rfl ⟨rfl, v_29, c1_30, m1_18, s1_31, z1_32, d1_33, m1_34, f1_35, t1_36, w1_37, o1_38, nu, qi, qc, nf1_14, nt1_15, nw1_16, nc1_17, h_28, ht26, rfl, (by (first | assumption | exact RK_set hk (by omega) (by omega))), (by (first | assumption | exact df_r _ _ _ _ _ _ _)), (by omega)⟩
def q_X12_view (Γ : TG) (cI cJ cZ : ClassId) (y n : Nat) (rf cn nm : Int) (so sz dr mn fr tt wt co : Nat → Int) (nu : Nat → Int64) (qi qc nf nt nw nc : Nat → Int) (x1 x2 x3 : Int) : Option Value → MH → Nat → Prop := fun r hp1 n1 => n1 = n ∧ ∃ (rf' : Int) (cn' : Int) (nm' : Int) (so' : Nat → Int) (sz' : Nat → Int) (dr' : Nat → Int) (mn' : Nat → Int) (fr' : Nat → Int) (tt' : Nat → Int) (wt' : Nat → Int) (co' : Nat → Int) (nu' : Nat → Int64) (qi' : Nat → Int) (qc' : Nat → Int) (nf' : Nat → Int) (nt' : Nat → Int) (nw' : Nat → Int) (nc' : Nat → Int) (v' : Int), Tw (RG Γ cI cJ cZ y rf' cn' nm' so' sz' dr' mn' fr' tt' wt' co' nu' qi' qc' nf' nt' nw' nc') hp1 ∧ r = some (.int (iv v')) ∧ (RK rf' cn' nm' so' sz' dr' mn' fr' tt' wt' co' nu' qi' qc' nf' nt' nw' nc') ∧ (dfE sz dr mn fr tt wt co sz' dr' mn' fr' tt' wt' co') ∧ (-2147483648 ≤ v' ∧ v' ≤ 2147483647)
set_option maxHeartbeats 4000000 in
set_option maxRecDepth 100000 in
theorem s_X12_view {D : va_G} {cI cJ cZ cT : ClassId} {lo b L : Nat} {xs : Nat → Int32} {hp : MH} {n d : Nat} {Γ : TG} {y : Nat} {rf cn nm : Int} {so sz dr mn fr tt wt co : Nat → Int} {nu : Nat → Int64} {qi qc nf nt nw nc : Nat → Int} {x1 x2 x3 : Int} (hd0 : 3 ≤ d) (hk : RK rf cn nm so sz dr mn fr tt wt co nu qi qc nf nt nw nc) (ht : Tw (RG Γ cI cJ cZ y rf cn nm so sz dr mn fr tt wt co nu qi qc nf nt nw nc) hp) (hx1 : (-2147483648) ≤ x1 ∧ x1 ≤ 2147483647) (hx2 : (-2147483648) ≤ x2 ∧ x2 ≤ 2147483647) (hx3 : (-2147483648) ≤ x3 ∧ x3 ≤ 2147483647) : Mt (gG D cI cJ cZ cT lo b L xs) mX12_view d 0 0 [.ref y, .int (iv x1), .int (iv x2), .int (iv x3)] hp n (q_X12_view Γ cI cJ cZ y n rf cn nm so sz dr mn fr tt wt co nu qi qc nf nt nw nc x1 x2 x3) := by
  refine Mt.of rfl (Nat.le_of_ble_eq_true rfl) ?_
  refine Rn.pick (lv' := [(0, .ref y), (1, .int (iv x1)), (2, .int (iv x2)), (3, .int (iv x3))]) [0, 1, 2, 3] rfl ?_
  obtain ⟨hR_sorts, hR_sizes, hR_directs, hR_many, hR_from, hR_to, hR_weight, hR_cost, hR_inPart, hR_partCount, hcn, hrf, hnm, hdf, hgr, hpa, hsz⟩ := id hk
  obtain ⟨N9, hN4, hN0⟩ : ∃ N : Int, (x2 = 4 → N = bcI x3 16) ∧ (x2 ≠ 4 → N = sz (Int.toNat x1)) := by by_cases h : x2 = 4 <;> exact ⟨if x2 = 4 then bcI x3 16 else sz (Int.toNat x1), by simp [h], by simp [h]⟩
  refine r_aload_n (pc := 0) dX12_view_0 (i := 0) rfl rfl ?_
  refine r_iload_n (pc := 1) dX12_view_1 (i := 1) rfl rfl ?_
  refine r_iconst (pc := 2) (v := iv 1) dX12_view_2 (by decide) ?_
  obtain ⟨fs5, hfs5⟩ := t_obj ht (rd_of RG_y)
  refine r_callV (pc := 3) (as := [.int (iv x1), .int (iv 1)]) (st := []) kX12_183 rfl dX12_view_3 hfs5 (s_X12_has (d := d - 1) (x1 := x1) (x2 := 1) (by omega) (by omega) (by assumption) ht (by omega) (by omega)) rfl (by omega) (Nat.le_of_ble_eq_true rfl) (Nat.zero_le _) (Nat.zero_le _) rfl (fun r2 hp1 n3 hq4 => ?_)
  obtain ⟨hnn3, v_8, b_9, ht6, hrr2, hhq40, hhq41⟩ := hq4
  subst n3 r2
  have hhq40 : -2 ≤ v_8 ∧ v_8 ≤ 0 ∧ (b_9 = 0 ∨ b_9 = 1) := hhq40
  have hhq41 : (b_9 = 1 ∧ v_8 = 0 ∧ 0 ≤ x1 ∧ x1 < cn ∧ so (Int.toNat x1) = 1) ∨ (b_9 = 0 ∧ v_8 = -1 ∧ ¬ (0 ≤ x1 ∧ x1 < cn)) ∨ (b_9 = 0 ∧ v_8 = -2 ∧ 0 ≤ x1 ∧ x1 < cn ∧ so (Int.toNat x1) ≠ 1) := hhq41
  change Rn _ _ _ 6 _ [.int (iv b_9)] _ _ _ _ _
  refine t_if_ne (pc := 6) (tgt := 14) dX12_view_6 (by decide) (by omega) (fun c6 => ?_) (fun c6 => ?_)
  · have rsz6 := hR_sizes (Int.toNat x1) (by omega)
    have rsy6 := hsz x1 (by omega) (by omega)
    have hen := hgr x1 (by omega) (by omega) (by omega)
    have rmn6 := hR_many (Int.toNat x1) (by omega)
    refine r_aload_n (pc := 14) dX12_view_14 (i := 0) rfl rfl ?_
    refine t_getE (pc := 15) (.ref (y + 2)) ht6 (rd_of RG_y) fX12_13 dX12_view_15 rfl ?_
    refine r_iload_n (pc := 18) dX12_view_18 (i := 1) rfl rfl ?_
    refine t_ialdX (pc := 19) (t0 := 0) ht6 (rd_of RG_sizes) dX12_view_19 rfl (by decide) (by omega) (fun b10 => ?_)
    have rb10 := (show Rfx 121 0 16 sz by assumption) (Int.toNat x1) (by omega)
    refine r_istore (pc := 20) (lv' := [(4, .int (iv (sz (Int.toNat x1)))), (0, .ref y), (1, .int (iv x1)), (2, .int (iv x2)), (3, .int (iv x3))]) dX12_view_20 (by decide) rfl ?_
    refine r_iload_n (pc := 22) dX12_view_22 (i := 2) rfl rfl ?_
    have B75 : ∀ hp75 : MH, Tw (RG Γ cI cJ cZ y v_8 cn nm so sz dr mn fr tt wt co nu qi qc nf nt nw nc) hp75 → True → Rn (gG D cI cJ cZ cT lo b L xs) mX12_view d 75 [(0, .ref y)] [] hp75 n 0 0 (q_X12_view Γ cI cJ cZ y n rf cn nm so sz dr mn fr tt wt co nu qi qc nf nt nw nc x1 x2 x3) := by
      intro hp75 ht75 hf75
      refine r_aload_n (pc := 75) dX12_view_75 (i := 0) rfl rfl ?_
      refine r_bipush (pc := 76) (v := iv (-3)) dX12_view_76 (by decide) ?_
      obtain ⟨fs15, hfs15⟩ := t_obj ht75 (rd_of RG_y)
      refine r_callV (pc := 78) (as := [.int (iv (-3))]) (st := []) kX12_153 rfl dX12_view_78 hfs15 (s_X12_refuse (d := d - 1) (x1 := (-3)) (by omega) ht75 (by omega)) rfl (by omega) (Nat.le_of_ble_eq_true rfl) (Nat.zero_le _) (Nat.zero_le _) rfl (fun r12 hp11 n13 hq14 => ?_)
      obtain ⟨hnn13, ht16, hrr12⟩ := hq14
      subst n13 r12
      change Rn _ _ _ 81 _ [.int (iv (-3))] _ _ _ _ _
      exact r_iret (pc := 81) dX12_view_81 rfl ⟨rfl, (-3), cn, nm, so, sz, dr, mn, fr, tt, wt, co, nu, qi, qc, nf, nt, nw, nc, (-3), ht16, rfl, (by (first | assumption | exact RK_set hk (by omega) (by omega))), (by (first | assumption | exact df_r _ _ _ _ _ _ _)), (by omega)⟩
    refine t_if_lt (pc := 23) (tgt := 75) dX12_view_23 (by decide) (by omega) (fun c23 => ?_) (fun c23 => ?_)
    · refine Rn.pick (lv' := [(0, .ref y)]) [1] rfl ?_
      exact B75 _ ht6 trivial
    · refine r_iload_n (pc := 26) dX12_view_26 (i := 2) rfl rfl ?_
      refine r_bipush (pc := 27) (v := iv 7) dX12_view_27 (by decide) ?_
      refine t_icmp_gt (pc := 29) (tgt := 75) dX12_view_29 (by decide) (by omega) (by omega) (fun c29 => ?_) (fun c29 => ?_)
      · refine Rn.pick (lv' := [(0, .ref y)]) [1] rfl ?_
        exact B75 _ ht6 trivial
      · refine r_iload_n (pc := 32) dX12_view_32 (i := 2) rfl rfl ?_
        refine r_iconst (pc := 33) (v := iv 4) dX12_view_33 (by decide) ?_
        have B49 : ∀ hp49 : MH, Tw (RG Γ cI cJ cZ y v_8 cn nm so sz dr mn fr tt wt co nu qi qc nf nt nw nc) hp49 → (x2 = 4 → 1 ≤ x3 ∧ x3 ≤ 65535) → Rn (gG D cI cJ cZ cT lo b L xs) mX12_view d 49 [(0, .ref y), (1, .int (iv x1)), (2, .int (iv x2)), (3, .int (iv x3)), (4, .int (iv (sz (Int.toNat x1))))] [] hp49 n 0 0 (q_X12_view Γ cI cJ cZ y n rf cn nm so sz dr mn fr tt wt co nu qi qc nf nt nw nc x1 x2 x3) := by
          intro hp49 ht49 hf49
          refine r_iload_n (pc := 49) dX12_view_49 (i := 2) rfl rfl ?_
          refine r_bipush (pc := 50) (v := iv 7) dX12_view_50 (by decide) ?_
          have B82 : ∀ hp82 : MH, Tw (RG Γ cI cJ cZ y v_8 cn nm so sz dr mn fr tt wt co nu qi qc nf nt nw nc) hp82 → (x2 = 7 → 1 ≤ (mn (Int.toNat x1)) ∧ (mn (Int.toNat x1)) ≤ 16) ∧ (x2 = 4 → 1 ≤ x3 ∧ x3 ≤ 65535) → Rn (gG D cI cJ cZ cT lo b L xs) mX12_view d 82 [(0, .ref y), (1, .int (iv x1)), (2, .int (iv x2)), (3, .int (iv x3)), (4, .int (iv (sz (Int.toNat x1))))] [] hp82 n 0 0 (q_X12_view Γ cI cJ cZ y n rf cn nm so sz dr mn fr tt wt co nu qi qc nf nt nw nc x1 x2 x3) := by
            intro hp82 ht82 hf82
            refine r_aload_n (pc := 82) dX12_view_82 (i := 0) rfl rfl ?_
            refine r_iconst (pc := 83) (v := iv 0) dX12_view_83 (by decide) ?_
            refine t_putX (pc := 84) (ty := .int) ht82 RG_y fX12_165 tyX12 tyX12_ok nmX12 (by decide +kernel) (Or.inl rfl) dX12_view_84 (Nat.le_of_ble_eq_true rfl) rfl rfl rfl (fun hp18 ht19 => ?_)
            have ht20 := RGw_nm ht19
            have ha0 : arP nf nt nw nc 0 N9 := ar_0 _ _ _ _ _
            refine r_aload_n (pc := 87) dX12_view_87 (i := 0) rfl rfl ?_
            refine t_getE (pc := 88) (.ref (y + 3)) ht20 (rd_of RG_y) fX12_16 dX12_view_88 rfl ?_
            refine r_iload_n (pc := 91) dX12_view_91 (i := 1) rfl rfl ?_
            refine t_zaldX (pc := 92) (t0 := 2) ht20 (rd_of RG_directs) dX12_view_92 rfl (by decide) (by omega) (fun b21 => ?_)
            have rb21 := (show Rfx 121 0 1 dr by assumption) (Int.toNat x1) (by omega)
            have B106 : ∀ hp106 : MH, Tw (RG Γ cI cJ cZ y v_8 cn 0 so sz dr mn fr tt wt co nu qi qc nf nt nw nc) hp106 → ∀  (u106_0 : Int), 0 ≤ u106_0 ∧ u106_0 ≤ 1 → Rn (gG D cI cJ cZ cT lo b L xs) mX12_view d 106 [(0, .ref y), (1, .int (iv x1)), (2, .int (iv x2)), (3, .int (iv x3)), (4, .int (iv (sz (Int.toNat x1))))] [.int (iv u106_0)] hp106 n 0 0 (q_X12_view Γ cI cJ cZ y n rf cn nm so sz dr mn fr tt wt co nu qi qc nf nt nw nc x1 x2 x3) := by
              intro hp106 ht106 u106_0 hf106
              refine r_istore (pc := 106) (lv' := [(5, .int (iv u106_0)), (0, .ref y), (1, .int (iv x1)), (2, .int (iv x2)), (3, .int (iv x3)), (4, .int (iv (sz (Int.toNat x1))))]) dX12_view_106 (by decide) rfl ?_
              refine r_iload_n (pc := 108) dX12_view_108 (i := 2) rfl rfl ?_
              refine r_bipush (pc := 109) (v := iv 6) dX12_view_109 (by decide) ?_
              refine t_icmp_ne (pc := 111) (tgt := 128) dX12_view_111 (by decide) (by omega) (by omega) (fun c111 => ?_) (fun c111 => ?_)
              · refine r_iload_n (pc := 128) dX12_view_128 (i := 2) rfl rfl ?_
                refine r_bipush (pc := 129) (v := iv 7) dX12_view_129 (by decide) ?_
                refine t_icmp_ne (pc := 131) (tgt := 152) dX12_view_131 (by decide) (by omega) (by omega) (fun c131 => ?_) (fun c131 => ?_)
                · refine r_iconst (pc := 152) (v := iv 0) dX12_view_152 (by decide) ?_
                  refine r_istore (pc := 153) (lv' := [(6, .int (iv 0)), (5, .int (iv u106_0)), (0, .ref y), (1, .int (iv x1)), (2, .int (iv x2)), (3, .int (iv x3)), (4, .int (iv (sz (Int.toNat x1))))]) dX12_view_153 (by decide) rfl ?_
                  have B155 : ∀ k : Nat, ∀ nm155 : Int, ∀ nf155 : Nat → Int, ∀ nt155 : Nat → Int, ∀ nw155 : Nat → Int, ∀ nc155 : Nat → Int, ∀ hp155 : MH, Tw (RG Γ cI cJ cZ y v_8 cn nm155 so sz dr mn fr tt wt co nu qi qc nf155 nt155 nw155 nc155) hp155 → ∀  (v155_6 : Int), 0 ≤ v155_6 ∧ v155_6 ≤ 60 ∧ 0 ≤ nm155 ∧ nm155 ≤ 400 ∧ v155_6 ≤ (mn (Int.toNat x1)) ∧ nm155 ≤ v155_6 ∧ arP nf155 nt155 nw155 nc155 nm155 N9 → 60 - v155_6 ≤ (k : Int) → Rn (gG D cI cJ cZ cT lo b L xs) mX12_view d 155 [(0, .ref y), (1, .int (iv x1)), (2, .int (iv x2)), (3, .int (iv x3)), (4, .int (iv (sz (Int.toNat x1)))), (5, .int (iv u106_0)), (6, .int (iv v155_6))] [] hp155 n 0 0 (q_X12_view Γ cI cJ cZ y n rf cn nm so sz dr mn fr tt wt co nu qi qc nf nt nw nc x1 x2 x3) := by
                    refine lpS _ ?_
                    intro k155 ih155 nm155 nf155 nt155 nw155 nc155 hp155 ht155 v155_6 hf155 hm155
                    obtain ⟨hf155_0, hf155_1, hf155_2, hf155_3, hf155_4, hf155_5, ha155_6⟩ := hf155
                    refine r_iload (pc := 155) dX12_view_155 rfl ?_
                    refine r_aload_n (pc := 157) dX12_view_157 (i := 0) rfl rfl ?_
                    refine t_getE (pc := 158) (.ref (y + 4)) ht155 (rd_of RG_y) fX12_20 dX12_view_158 rfl ?_
                    refine r_iload_n (pc := 161) dX12_view_161 (i := 1) rfl rfl ?_
                    refine t_ialdX (pc := 162) (t0 := 0) ht155 (rd_of RG_many) dX12_view_162 rfl (by decide) (by omega) (fun b22 => ?_)
                    have rb22 := (show Rfx 121 0 60 mn by assumption) (Int.toNat x1) (by omega)
                    refine t_icmp_ge (pc := 163) (tgt := 458) dX12_view_163 (by decide) (by omega) (by omega) (fun c163 => ?_) (fun c163 => ?_)
                    · refine r_aload_n (pc := 458) dX12_view_458 (i := 0) rfl rfl ?_
                      refine r_iload_n (pc := 459) dX12_view_459 (i := 2) rfl rfl ?_
                      refine r_iconst (pc := 460) (v := iv 4) dX12_view_460 (by decide) ?_
                      have B473 : ∀ hp473 : MH, Tw (RG Γ cI cJ cZ y v_8 cn nm155 so sz dr mn fr tt wt co nu qi qc nf155 nt155 nw155 nc155) hp473 → ∀  (u473_1 : Int), 0 ≤ u473_1 ∧ u473_1 ≤ 16 ∧ u473_1 = N9 ∧ 1 ≤ N9 ∧ N9 ≤ 16 → Rn (gG D cI cJ cZ cT lo b L xs) mX12_view d 473 [(5, .int (iv u106_0))] [.int (iv u473_1), .ref y] hp473 n 0 0 (q_X12_view Γ cI cJ cZ y n rf cn nm so sz dr mn fr tt wt co nu qi qc nf nt nw nc x1 x2 x3) := by
                        intro hp473 ht473 u473_1 hf473
                        refine r_iload (pc := 473) dX12_view_473 rfl ?_
                        obtain ⟨fs27, hfs27⟩ := t_obj ht473 (rd_of RG_y)
                        refine r_callV (pc := 475) (as := [.int (iv u473_1), .int (iv u106_0)]) (st := []) kX12_179 rfl dX12_view_475 hfs27 (s_X12_made (d := d - 1) (x1 := u473_1) (x2 := u106_0) (by omega) (RK_set hk (by omega) (by omega)) ht473 (by omega) (by omega) (fun _ => (by rw [show u473_1 = N9 by omega]; assumption))) rfl (by omega) (Nat.le_of_ble_eq_true rfl) (Nat.zero_le _) (Nat.zero_le _) rfl (fun r24 hp23 n25 hq26 => ?_)
                        obtain ⟨hnn25, h_30, v_31, c1_32, s1_33, z1_34, d1_35, m1_36, f1_37, t1_38, w1_39, o1_40, ht28, hrr24, hhq260, hhq261, hhq262, hhq263⟩ := hq26
                        subst n25 r24
                        have hhq260 : (60 < nm155 ∨ cn = 120) → h_30 = -4 ∧ v_31 = -4 ∧ c1_32 = cn := hhq260
                        have hhq261 : (60 < nm155 ∨ cn = 120) → s1_33 = so ∧ z1_34 = sz ∧ d1_35 = dr ∧ m1_36 = mn ∧ f1_37 = fr ∧ t1_38 = tt ∧ w1_39 = wt ∧ o1_40 = co := hhq261
                        have hhq262 : nm155 ≤ 60 ∧ cn < 120 → h_30 = cn ∧ v_31 = v_8 ∧ c1_32 = cn + 1 := hhq262
                        have hhq263 : nm155 ≤ 60 ∧ cn < 120 → s1_33 = fup so (Int.toNat cn) 1 ∧ z1_34 = fup sz (Int.toNat cn) u473_1 ∧ d1_35 = fup dr (Int.toNat cn) u106_0 ∧ m1_36 = fup mn (Int.toNat cn) nm155 ∧ f1_37 = kcF nf155 fr (Int.toNat (60 * cn)) (Int.toNat nm155) ∧ t1_38 = kcF nt155 tt (Int.toNat (60 * cn)) (Int.toNat nm155) ∧ w1_39 = kcF nw155 wt (Int.toNat (60 * cn)) (Int.toNat nm155) ∧ o1_40 = kcF nc155 co (Int.toNat (60 * cn)) (Int.toNat nm155) := hhq263
                        change Rn _ _ _ 478 _ [.int (iv h_30)] _ _ _ _ _
                        obtain ⟨hRKm, hDFm, hhm⟩ := RK_made (x1 := u473_1) (x2 := u106_0) (RK_set hk (by omega) (by omega)) (by omega) (by omega) (fun _ => (by rw [show u473_1 = N9 by omega]; assumption)) hhq260 hhq261 hhq262 hhq263
                        exact r_iret (pc := 478) dX12_view_478 rfl ⟨rfl, v_31, c1_32, nm155, s1_33, z1_34, d1_35, m1_36, f1_37, t1_38, w1_39, o1_40, nu, qi, qc, nf155, nt155, nw155, nc155, h_30, ht28, rfl, (by (first | assumption | exact RK_set hk (by omega) (by omega))), (by (first | assumption | exact df_r _ _ _ _ _ _ _)), (by omega)⟩
                      refine t_icmp_ne (pc := 461) (tgt := 471) dX12_view_461 (by decide) (by omega) (by omega) (fun c461 => ?_) (fun c461 => ?_)
                      · refine r_iload (pc := 471) dX12_view_471 rfl ?_
                        refine Rn.pick (lv' := [(5, .int (iv u106_0))]) [5] rfl ?_
                        exact B473 _ ht155 (sz (Int.toNat x1)) ⟨by omega, by omega, by omega, by omega, by omega⟩
                      · refine r_iload_n (pc := 464) dX12_view_464 (i := 3) rfl rfl ?_
                        refine t_callSI (pc := 465) (as := [.int (iv x3)]) (st := [.ref y]) kX12_201 dX12_view_465 (t_X12_bitsx (d := d - 1) (x1 := x3) (by omega)  ht155 (by omega)) rfl (by omega) (Nat.le_of_ble_eq_true rfl) rfl (fun hp41 y43 ht42 by43 => ?_)
                        have ey43 : y43 = bcI x3 16 := by43
                        subst ey43
                        have ry43 := bc_le x3 16
                        have hbp := bc_pos (x := x3) (by omega)
                        refine r_goto (pc := 468) (tgt := 473) dX12_view_468 (by decide) ?_
                        refine Rn.pick (lv' := [(5, .int (iv u106_0))]) [5] rfl ?_
                        exact B473 _ ht42 (bcI x3 16) ⟨by omega, by omega, by omega, by omega, by omega⟩
                    · refine r_iload_n (pc := 166) dX12_view_166 (i := 1) rfl rfl ?_
                      refine r_iload (pc := 167) dX12_view_167 rfl ?_
                      refine t_callSI (pc := 169) (as := [.int (iv x1), .int (iv v155_6)]) (st := []) kX12_157 dX12_view_169 (t_X12_at1x (d := d - 1) (x1 := x1) (x2 := v155_6) (by omega)  ht155 (by omega) (by omega)) rfl (by omega) (Nat.le_of_ble_eq_true rfl) rfl (fun hp44 y46 ht45 by46 => ?_)
                      have ey46 : y46 = 60 * x1 + v155_6 := by46
                      subst ey46
                      refine r_istore (pc := 172) (lv' := [(7, .int (iv (60 * x1 + v155_6))), (0, .ref y), (1, .int (iv x1)), (2, .int (iv x2)), (3, .int (iv x3)), (4, .int (iv (sz (Int.toNat x1)))), (5, .int (iv u106_0)), (6, .int (iv v155_6))]) dX12_view_172 (by decide) rfl ?_
                      refine r_aload_n (pc := 174) dX12_view_174 (i := 0) rfl rfl ?_
                      refine t_getE (pc := 175) (.ref (y + 5)) ht45 (rd_of RG_y) fX12_23 dX12_view_175 rfl ?_
                      refine r_iload (pc := 178) dX12_view_178 rfl ?_
                      refine t_ialdX (pc := 180) (t0 := 0) ht45 (rd_of RG_from) dX12_view_180 rfl (by decide) (by omega) (fun b47 => ?_)
                      have rb47 := (show Rfx 7260 0 15 fr by assumption) (Int.toNat (60 * x1 + v155_6)) (by omega)
                      refine r_istore (pc := 181) (lv' := [(8, .int (iv (fr (Int.toNat (60 * x1 + v155_6))))), (7, .int (iv (60 * x1 + v155_6))), (0, .ref y), (1, .int (iv x1)), (2, .int (iv x2)), (3, .int (iv x3)), (4, .int (iv (sz (Int.toNat x1)))), (5, .int (iv u106_0)), (6, .int (iv v155_6))]) dX12_view_181 (by decide) rfl ?_
                      refine r_aload_n (pc := 183) dX12_view_183 (i := 0) rfl rfl ?_
                      refine t_getE (pc := 184) (.ref (y + 6)) ht45 (rd_of RG_y) fX12_26 dX12_view_184 rfl ?_
                      refine r_iload (pc := 187) dX12_view_187 rfl ?_
                      refine t_ialdX (pc := 189) (t0 := 0) ht45 (rd_of RG_to) dX12_view_189 rfl (by decide) (by omega) (fun b48 => ?_)
                      have rb48 := (show Rfx 7260 0 15 tt by assumption) (Int.toNat (60 * x1 + v155_6)) (by omega)
                      refine r_istore (pc := 190) (lv' := [(9, .int (iv (tt (Int.toNat (60 * x1 + v155_6))))), (8, .int (iv (fr (Int.toNat (60 * x1 + v155_6))))), (7, .int (iv (60 * x1 + v155_6))), (0, .ref y), (1, .int (iv x1)), (2, .int (iv x2)), (3, .int (iv x3)), (4, .int (iv (sz (Int.toNat x1)))), (5, .int (iv u106_0)), (6, .int (iv v155_6))]) dX12_view_190 (by decide) rfl ?_
                      have he9 := hen.2 v155_6 (by omega) (by omega)
                      refine r_iconst (pc := 192) (v := iv 1) dX12_view_192 (by decide) ?_
                      refine r_istore (pc := 193) (lv' := [(10, .int (iv 1)), (9, .int (iv (tt (Int.toNat (60 * x1 + v155_6))))), (8, .int (iv (fr (Int.toNat (60 * x1 + v155_6))))), (7, .int (iv (60 * x1 + v155_6))), (0, .ref y), (1, .int (iv x1)), (2, .int (iv x2)), (3, .int (iv x3)), (4, .int (iv (sz (Int.toNat x1)))), (5, .int (iv u106_0)), (6, .int (iv v155_6))]) dX12_view_193 (by decide) rfl ?_
                      refine r_iload_n (pc := 195) dX12_view_195 (i := 2) rfl rfl ?_
                      refine r_iconst (pc := 196) (v := iv 2) dX12_view_196 (by decide) ?_
                      have B219 : ∀ hp219 : MH, Tw (RG Γ cI cJ cZ y v_8 cn nm155 so sz dr mn fr tt wt co nu qi qc nf155 nt155 nw155 nc155) hp219 → ∀  (v219_10 : Int), 0 ≤ v219_10 ∧ v219_10 ≤ 1 → Rn (gG D cI cJ cZ cT lo b L xs) mX12_view d 219 [(0, .ref y), (1, .int (iv x1)), (2, .int (iv x2)), (3, .int (iv x3)), (4, .int (iv (sz (Int.toNat x1)))), (5, .int (iv u106_0)), (6, .int (iv v155_6)), (7, .int (iv (60 * x1 + v155_6))), (8, .int (iv (fr (Int.toNat (60 * x1 + v155_6))))), (9, .int (iv (tt (Int.toNat (60 * x1 + v155_6))))), (10, .int (iv v219_10))] [] hp219 n 0 0 (q_X12_view Γ cI cJ cZ y n rf cn nm so sz dr mn fr tt wt co nu qi qc nf nt nw nc x1 x2 x3) := by
                        intro hp219 ht219 v219_10 hf219
                        refine r_iconst (pc := 219) (v := iv 0) dX12_view_219 (by decide) ?_
                        refine r_istore (pc := 220) (lv' := [(11, .int (iv 0)), (0, .ref y), (1, .int (iv x1)), (2, .int (iv x2)), (3, .int (iv x3)), (4, .int (iv (sz (Int.toNat x1)))), (5, .int (iv u106_0)), (6, .int (iv v155_6)), (7, .int (iv (60 * x1 + v155_6))), (8, .int (iv (fr (Int.toNat (60 * x1 + v155_6))))), (9, .int (iv (tt (Int.toNat (60 * x1 + v155_6))))), (10, .int (iv v219_10))]) dX12_view_220 (by decide) rfl ?_
                        have B222 : ∀ k : Nat, ∀ hp222 : MH, Tw (RG Γ cI cJ cZ y v_8 cn nm155 so sz dr mn fr tt wt co nu qi qc nf155 nt155 nw155 nc155) hp222 → ∀  (v222_10 : Int) (v222_11 : Int), 0 ≤ v222_10 ∧ v222_10 ≤ 1 ∧ 0 ≤ v222_11 ∧ v222_11 ≤ 60 → 60 - v222_11 ≤ (k : Int) → Rn (gG D cI cJ cZ cT lo b L xs) mX12_view d 222 [(0, .ref y), (1, .int (iv x1)), (2, .int (iv x2)), (3, .int (iv x3)), (4, .int (iv (sz (Int.toNat x1)))), (5, .int (iv u106_0)), (6, .int (iv v155_6)), (7, .int (iv (60 * x1 + v155_6))), (8, .int (iv (fr (Int.toNat (60 * x1 + v155_6))))), (9, .int (iv (tt (Int.toNat (60 * x1 + v155_6))))), (10, .int (iv v222_10)), (11, .int (iv v222_11))] [] hp222 n 0 0 (q_X12_view Γ cI cJ cZ y n rf cn nm so sz dr mn fr tt wt co nu qi qc nf nt nw nc x1 x2 x3) := by
                          refine lpS _ ?_
                          intro k222 ih222 hp222 ht222 v222_10 v222_11 hf222 hm222
                          refine r_iload (pc := 222) dX12_view_222 rfl ?_
                          refine r_aload_n (pc := 224) dX12_view_224 (i := 0) rfl rfl ?_
                          refine t_getE (pc := 225) (.ref (y + 4)) ht222 (rd_of RG_y) fX12_20 dX12_view_225 rfl ?_
                          refine r_iload_n (pc := 228) dX12_view_228 (i := 1) rfl rfl ?_
                          refine t_ialdX (pc := 229) (t0 := 0) ht222 (rd_of RG_many) dX12_view_229 rfl (by decide) (by omega) (fun b49 => ?_)
                          have rb49 := (show Rfx 121 0 60 mn by assumption) (Int.toNat x1) (by omega)
                          have B324 : ∀ hp324 : MH, Tw (RG Γ cI cJ cZ y v_8 cn nm155 so sz dr mn fr tt wt co nu qi qc nf155 nt155 nw155 nc155) hp324 → True → Rn (gG D cI cJ cZ cT lo b L xs) mX12_view d 324 [(0, .ref y), (1, .int (iv x1)), (2, .int (iv x2)), (3, .int (iv x3)), (4, .int (iv (sz (Int.toNat x1)))), (5, .int (iv u106_0)), (6, .int (iv v155_6)), (7, .int (iv (60 * x1 + v155_6))), (8, .int (iv (fr (Int.toNat (60 * x1 + v155_6))))), (9, .int (iv (tt (Int.toNat (60 * x1 + v155_6))))), (10, .int (iv v222_10))] [] hp324 n 0 0 (q_X12_view Γ cI cJ cZ y n rf cn nm so sz dr mn fr tt wt co nu qi qc nf nt nw nc x1 x2 x3) := by
                            intro hp324 ht324 hf324
                            refine r_iload_n (pc := 324) dX12_view_324 (i := 2) rfl rfl ?_
                            refine r_iconst (pc := 325) (v := iv 4) dX12_view_325 (by decide) ?_
                            have B356 : ∀ hp356 : MH, Tw (RG Γ cI cJ cZ y v_8 cn nm155 so sz dr mn fr tt wt co nu qi qc nf155 nt155 nw155 nc155) hp356 → ∀  (v356_10 : Int), 0 ≤ v356_10 ∧ v356_10 ≤ 1 ∧ (x2 = 4 → v356_10 ≠ 0 → ((Int.toNat x3 >>> Int.toNat (fr (Int.toNat (60 * x1 + v155_6))) : Nat) : Int) % 2 = 1 ∧ ((Int.toNat x3 >>> Int.toNat (tt (Int.toNat (60 * x1 + v155_6))) : Nat) : Int) % 2 = 1) → Rn (gG D cI cJ cZ cT lo b L xs) mX12_view d 356 [(0, .ref y), (1, .int (iv x1)), (2, .int (iv x2)), (3, .int (iv x3)), (4, .int (iv (sz (Int.toNat x1)))), (5, .int (iv u106_0)), (6, .int (iv v155_6)), (7, .int (iv (60 * x1 + v155_6))), (8, .int (iv (fr (Int.toNat (60 * x1 + v155_6))))), (9, .int (iv (tt (Int.toNat (60 * x1 + v155_6))))), (10, .int (iv v356_10))] [] hp356 n 0 0 (q_X12_view Γ cI cJ cZ y n rf cn nm so sz dr mn fr tt wt co nu qi qc nf nt nw nc x1 x2 x3) := by
                              intro hp356 ht356 v356_10 hf356
                              refine r_iload_n (pc := 356) dX12_view_356 (i := 2) rfl rfl ?_
                              refine r_iconst (pc := 357) (v := iv 5) dX12_view_357 (by decide) ?_
                              have B379 : ∀ hp379 : MH, Tw (RG Γ cI cJ cZ y v_8 cn nm155 so sz dr mn fr tt wt co nu qi qc nf155 nt155 nw155 nc155) hp379 → ∀  (v379_10 : Int), 0 ≤ v379_10 ∧ v379_10 ≤ 1 ∧ (x2 = 4 → v379_10 ≠ 0 → ((Int.toNat x3 >>> Int.toNat (fr (Int.toNat (60 * x1 + v155_6))) : Nat) : Int) % 2 = 1 ∧ ((Int.toNat x3 >>> Int.toNat (tt (Int.toNat (60 * x1 + v155_6))) : Nat) : Int) % 2 = 1) → Rn (gG D cI cJ cZ cT lo b L xs) mX12_view d 379 [(0, .ref y), (1, .int (iv x1)), (2, .int (iv x2)), (3, .int (iv x3)), (4, .int (iv (sz (Int.toNat x1)))), (5, .int (iv u106_0)), (6, .int (iv v155_6)), (7, .int (iv (60 * x1 + v155_6))), (8, .int (iv (fr (Int.toNat (60 * x1 + v155_6))))), (9, .int (iv (tt (Int.toNat (60 * x1 + v155_6))))), (10, .int (iv v379_10))] [] hp379 n 0 0 (q_X12_view Γ cI cJ cZ y n rf cn nm so sz dr mn fr tt wt co nu qi qc nf nt nw nc x1 x2 x3) := by
                                intro hp379 ht379 v379_10 hf379
                                refine r_iload (pc := 379) dX12_view_379 rfl ?_
                                have B452 : ∀ nm452 : Int, ∀ nf452 : Nat → Int, ∀ nt452 : Nat → Int, ∀ nw452 : Nat → Int, ∀ nc452 : Nat → Int, ∀ hp452 : MH, Tw (RG Γ cI cJ cZ y v_8 cn nm452 so sz dr mn fr tt wt co nu qi qc nf452 nt452 nw452 nc452) hp452 → 0 ≤ nm452 ∧ nm452 ≤ 400 ∧ nm452 ≤ v155_6 + 1 ∧ arP nf452 nt452 nw452 nc452 nm452 N9 → Rn (gG D cI cJ cZ cT lo b L xs) mX12_view d 452 [(0, .ref y), (1, .int (iv x1)), (2, .int (iv x2)), (3, .int (iv x3)), (4, .int (iv (sz (Int.toNat x1)))), (5, .int (iv u106_0)), (6, .int (iv v155_6))] [] hp452 n 0 0 (q_X12_view Γ cI cJ cZ y n rf cn nm so sz dr mn fr tt wt co nu qi qc nf nt nw nc x1 x2 x3) := by
                                  intro nm452 nf452 nt452 nw452 nc452 hp452 ht452 hf452
                                  obtain ⟨hf452_0, hf452_1, hf452_2, ha452_3⟩ := hf452
                                  refine r_iinc (pc := 452) (v := iv (v155_6 + 1)) (lv' := [(6, .int (iv (v155_6 + 1))), (0, .ref y), (1, .int (iv x1)), (2, .int (iv x2)), (3, .int (iv x3)), (4, .int (iv (sz (Int.toNat x1)))), (5, .int (iv u106_0))]) dX12_view_452 rfl (iv_add _ _) (by decide) rfl ?_
                                  refine r_goto (pc := 455) (tgt := 155) dX12_view_455 (by decide) ?_
                                  refine Rn.pick (lv' := [(0, .ref y), (1, .int (iv x1)), (2, .int (iv x2)), (3, .int (iv x3)), (4, .int (iv (sz (Int.toNat x1)))), (5, .int (iv u106_0)), (6, .int (iv (v155_6 + 1)))]) [1, 2, 3, 4, 5, 6, 0] rfl ?_
                                  exact ih155 (Int.toNat (60 - (v155_6 + 1))) (by omega) nm452 nf452 nt452 nw452 nc452 _ ht452 (v155_6 + 1) ⟨by omega, by omega, by omega, by omega, by omega, by omega, by assumption⟩ (by omega)
                                refine t_if_eq (pc := 381) (tgt := 452) dX12_view_381 (by decide) (by omega) (fun c381 => ?_) (fun c381 => ?_)
                                · refine Rn.pick (lv' := [(0, .ref y), (1, .int (iv x1)), (2, .int (iv x2)), (3, .int (iv x3)), (4, .int (iv (sz (Int.toNat x1)))), (5, .int (iv u106_0)), (6, .int (iv v155_6))]) [0, 1, 2, 3, 4, 5, 6] rfl ?_
                                  exact B452 nm155 nf155 nt155 nw155 nc155 _ ht379 ⟨by omega, by omega, by omega, by assumption⟩
                                · refine r_aload_n (pc := 384) dX12_view_384 (i := 0) rfl rfl ?_
                                  refine r_iload_n (pc := 385) dX12_view_385 (i := 2) rfl rfl ?_
                                  have B410 : ∀ hp410 : MH, Tw (RG Γ cI cJ cZ y v_8 cn nm155 so sz dr mn fr tt wt co nu qi qc nf155 nt155 nw155 nc155) hp410 → ∀  (u410_1 : Int), 0 ≤ u410_1 ∧ u410_1 ≤ 15 ∧ 0 ≤ u410_1 ∧ u410_1 < N9 → Rn (gG D cI cJ cZ cT lo b L xs) mX12_view d 410 [(0, .ref y), (1, .int (iv x1)), (2, .int (iv x2)), (3, .int (iv x3)), (4, .int (iv (sz (Int.toNat x1)))), (5, .int (iv u106_0)), (6, .int (iv v155_6)), (7, .int (iv (60 * x1 + v155_6))), (8, .int (iv (fr (Int.toNat (60 * x1 + v155_6))))), (9, .int (iv (tt (Int.toNat (60 * x1 + v155_6)))))] [.int (iv u410_1), .ref y] hp410 n 0 0 (q_X12_view Γ cI cJ cZ y n rf cn nm so sz dr mn fr tt wt co nu qi qc nf nt nw nc x1 x2 x3) := by
                                    intro hp410 ht410 u410_1 hf410
                                    refine r_iload_n (pc := 410) dX12_view_410 (i := 2) rfl rfl ?_
                                    have B435 : ∀ hp435 : MH, Tw (RG Γ cI cJ cZ y v_8 cn nm155 so sz dr mn fr tt wt co nu qi qc nf155 nt155 nw155 nc155) hp435 → ∀  (u435_2 : Int), 0 ≤ u435_2 ∧ u435_2 ≤ 15 ∧ 0 ≤ u435_2 ∧ u435_2 < N9 → Rn (gG D cI cJ cZ cT lo b L xs) mX12_view d 435 [(0, .ref y), (1, .int (iv x1)), (2, .int (iv x2)), (3, .int (iv x3)), (4, .int (iv (sz (Int.toNat x1)))), (5, .int (iv u106_0)), (6, .int (iv v155_6)), (7, .int (iv (60 * x1 + v155_6)))] [.int (iv u435_2), .int (iv u410_1), .ref y] hp435 n 0 0 (q_X12_view Γ cI cJ cZ y n rf cn nm so sz dr mn fr tt wt co nu qi qc nf nt nw nc x1 x2 x3) := by
                                      intro hp435 ht435 u435_2 hf435
                                      refine r_aload_n (pc := 435) dX12_view_435 (i := 0) rfl rfl ?_
                                      refine t_getE (pc := 436) (.ref (y + 7)) ht435 (rd_of RG_y) fX12_29 dX12_view_436 rfl ?_
                                      refine r_iload (pc := 439) dX12_view_439 rfl ?_
                                      refine t_ialdX (pc := 441) (t0 := 0) ht435 (rd_of RG_weight) dX12_view_441 rfl (by decide) (by omega) (fun b50 => ?_)
                                      have rb50 := (show Rfx 7260 (-1000) 1000 wt by assumption) (Int.toNat (60 * x1 + v155_6)) (by omega)
                                      refine r_aload_n (pc := 442) dX12_view_442 (i := 0) rfl rfl ?_
                                      refine t_getE (pc := 443) (.ref (y + 8)) ht435 (rd_of RG_y) fX12_32 dX12_view_443 rfl ?_
                                      refine r_iload (pc := 446) dX12_view_446 rfl ?_
                                      refine t_ialdX (pc := 448) (t0 := 0) ht435 (rd_of RG_cost) dX12_view_448 rfl (by decide) (by omega) (fun b51 => ?_)
                                      have rb51 := (show Rfx 7260 (-1000) 1000 co by assumption) (Int.toNat (60 * x1 + v155_6)) (by omega)
                                      obtain ⟨fs56, hfs56⟩ := t_obj ht435 (rd_of RG_y)
                                      refine r_callV (pc := 449) (as := [.int (iv u410_1), .int (iv u435_2), .int (iv (wt (Int.toNat (60 * x1 + v155_6)))), .int (iv (co (Int.toNat (60 * x1 + v155_6))))]) (st := []) kX12_171 rfl dX12_view_449 hfs56 (s_X12_put (d := d - 1) (x1 := u410_1) (x2 := u435_2) (x3 := wt (Int.toNat (60 * x1 + v155_6))) (x4 := co (Int.toNat (60 * x1 + v155_6))) (by omega) ht435 (by omega) (by omega) (by omega) (by omega) (by omega)) rfl (by omega) (Nat.le_of_ble_eq_true rfl) (Nat.zero_le _) (Nat.zero_le _) rfl (fun r53 hp52 n54 hq55 => ?_)
                                      obtain ⟨hnn54, ht57, hrr53⟩ := hq55
                                      subst n54 r53
                                      change Rn _ _ _ 452 _ [] _ _ _ _ _
                                      have hapq59 : arP (fup nf155 (Int.toNat nm155) u410_1) (fup nt155 (Int.toNat nm155) u435_2) (fup nw155 (Int.toNat nm155) (wt (Int.toNat (60 * x1 + v155_6)))) (fup nc155 (Int.toNat nm155) (co (Int.toNat (60 * x1 + v155_6)))) (nm155 + 1) N9 := ar_up (by assumption) (by omega) (by omega) (by omega) (by omega) (by omega)
                                      refine Rn.pick (lv' := [(0, .ref y), (1, .int (iv x1)), (2, .int (iv x2)), (3, .int (iv x3)), (4, .int (iv (sz (Int.toNat x1)))), (5, .int (iv u106_0)), (6, .int (iv v155_6))]) [0, 1, 2, 3, 4, 5, 6] rfl ?_
                                      exact B452 (nm155 + 1) (fup nf155 (Int.toNat nm155) u410_1) (fup nt155 (Int.toNat nm155) u435_2) (fup nw155 (Int.toNat nm155) (wt (Int.toNat (60 * x1 + v155_6)))) (fup nc155 (Int.toNat nm155) (co (Int.toNat (60 * x1 + v155_6)))) _ ht57 ⟨by omega, by omega, by omega, by assumption⟩
                                    refine t_if_ne (pc := 411) (tgt := 419) dX12_view_411 (by decide) (by omega) (fun c411 => ?_) (fun c411 => ?_)
                                    · refine r_iload_n (pc := 419) dX12_view_419 (i := 2) rfl rfl ?_
                                      refine r_iconst (pc := 420) (v := iv 4) dX12_view_420 (by decide) ?_
                                      refine t_icmp_ne (pc := 421) (tgt := 433) dX12_view_421 (by decide) (by omega) (by omega) (fun c421 => ?_) (fun c421 => ?_)
                                      · refine r_iload (pc := 433) dX12_view_433 rfl ?_
                                        refine Rn.pick (lv' := [(0, .ref y), (1, .int (iv x1)), (2, .int (iv x2)), (3, .int (iv x3)), (4, .int (iv (sz (Int.toNat x1)))), (5, .int (iv u106_0)), (6, .int (iv v155_6)), (7, .int (iv (60 * x1 + v155_6)))]) [0, 1, 2, 3, 4, 5, 6, 7] rfl ?_
                                        exact B435 _ ht410 (tt (Int.toNat (60 * x1 + v155_6))) ⟨by omega, by omega, by omega, by omega⟩
                                      · refine r_iload_n (pc := 424) dX12_view_424 (i := 3) rfl rfl ?_
                                        refine r_iload (pc := 425) dX12_view_425 rfl ?_
                                        refine t_callSI (pc := 427) (as := [.int (iv x3), .int (iv (tt (Int.toNat (60 * x1 + v155_6))))]) (st := [.int (iv u410_1), .ref y]) kX12_198 dX12_view_427 (t_X12_placeInx (d := d - 1) (x1 := x3) (x2 := tt (Int.toNat (60 * x1 + v155_6))) (by omega)  ht410 (by omega) (by omega)) rfl (by omega) (Nat.le_of_ble_eq_true rfl) rfl (fun hp60 y62 ht61 by62 => ?_)
                                        have ey62 : y62 = bcI x3 (Int.toNat (tt (Int.toNat (60 * x1 + v155_6)))) := by62
                                        subst ey62
                                        have ry62 := bc_le x3 (Int.toNat (tt (Int.toNat (60 * x1 + v155_6))))
                                        have hbl427 : x2 = 4 → bcI x3 (Int.toNat (tt (Int.toNat (60 * x1 + v155_6)))) < bcI x3 16 := fun _ => bc_lt (by omega) (by omega)
                                        refine r_goto (pc := 430) (tgt := 435) dX12_view_430 (by decide) ?_
                                        refine Rn.pick (lv' := [(0, .ref y), (1, .int (iv x1)), (2, .int (iv x2)), (3, .int (iv x3)), (4, .int (iv (sz (Int.toNat x1)))), (5, .int (iv u106_0)), (6, .int (iv v155_6)), (7, .int (iv (60 * x1 + v155_6)))]) [0, 1, 2, 3, 4, 5, 6, 7] rfl ?_
                                        exact B435 _ ht61 (bcI x3 (Int.toNat (tt (Int.toNat (60 * x1 + v155_6))))) ⟨by omega, by omega, by omega, by omega⟩
                                    · refine r_iload (pc := 414) dX12_view_414 rfl ?_
                                      refine r_goto (pc := 416) (tgt := 435) dX12_view_416 (by decide) ?_
                                      refine Rn.pick (lv' := [(0, .ref y), (1, .int (iv x1)), (2, .int (iv x2)), (3, .int (iv x3)), (4, .int (iv (sz (Int.toNat x1)))), (5, .int (iv u106_0)), (6, .int (iv v155_6)), (7, .int (iv (60 * x1 + v155_6)))]) [0, 1, 2, 3, 4, 5, 6, 7] rfl ?_
                                      exact B435 _ ht410 (fr (Int.toNat (60 * x1 + v155_6))) ⟨by omega, by omega, by omega, by omega⟩
                                  refine t_if_ne (pc := 386) (tgt := 394) dX12_view_386 (by decide) (by omega) (fun c386 => ?_) (fun c386 => ?_)
                                  · refine r_iload_n (pc := 394) dX12_view_394 (i := 2) rfl rfl ?_
                                    refine r_iconst (pc := 395) (v := iv 4) dX12_view_395 (by decide) ?_
                                    refine t_icmp_ne (pc := 396) (tgt := 408) dX12_view_396 (by decide) (by omega) (by omega) (fun c396 => ?_) (fun c396 => ?_)
                                    · refine r_iload (pc := 408) dX12_view_408 rfl ?_
                                      refine Rn.pick (lv' := [(0, .ref y), (1, .int (iv x1)), (2, .int (iv x2)), (3, .int (iv x3)), (4, .int (iv (sz (Int.toNat x1)))), (5, .int (iv u106_0)), (6, .int (iv v155_6)), (7, .int (iv (60 * x1 + v155_6))), (8, .int (iv (fr (Int.toNat (60 * x1 + v155_6))))), (9, .int (iv (tt (Int.toNat (60 * x1 + v155_6)))))]) [0, 1, 2, 3, 4, 5, 6, 7, 8, 9] rfl ?_
                                      exact B410 _ ht379 (fr (Int.toNat (60 * x1 + v155_6))) ⟨by omega, by omega, by omega, by omega⟩
                                    · refine r_iload_n (pc := 399) dX12_view_399 (i := 3) rfl rfl ?_
                                      refine r_iload (pc := 400) dX12_view_400 rfl ?_
                                      refine t_callSI (pc := 402) (as := [.int (iv x3), .int (iv (fr (Int.toNat (60 * x1 + v155_6))))]) (st := [.ref y]) kX12_198 dX12_view_402 (t_X12_placeInx (d := d - 1) (x1 := x3) (x2 := fr (Int.toNat (60 * x1 + v155_6))) (by omega)  ht379 (by omega) (by omega)) rfl (by omega) (Nat.le_of_ble_eq_true rfl) rfl (fun hp63 y65 ht64 by65 => ?_)
                                      have ey65 : y65 = bcI x3 (Int.toNat (fr (Int.toNat (60 * x1 + v155_6)))) := by65
                                      subst ey65
                                      have ry65 := bc_le x3 (Int.toNat (fr (Int.toNat (60 * x1 + v155_6))))
                                      have hbl402 : x2 = 4 → bcI x3 (Int.toNat (fr (Int.toNat (60 * x1 + v155_6)))) < bcI x3 16 := fun _ => bc_lt (by omega) (by omega)
                                      refine r_goto (pc := 405) (tgt := 410) dX12_view_405 (by decide) ?_
                                      refine Rn.pick (lv' := [(0, .ref y), (1, .int (iv x1)), (2, .int (iv x2)), (3, .int (iv x3)), (4, .int (iv (sz (Int.toNat x1)))), (5, .int (iv u106_0)), (6, .int (iv v155_6)), (7, .int (iv (60 * x1 + v155_6))), (8, .int (iv (fr (Int.toNat (60 * x1 + v155_6))))), (9, .int (iv (tt (Int.toNat (60 * x1 + v155_6)))))]) [0, 1, 2, 3, 4, 5, 6, 7, 8, 9] rfl ?_
                                      exact B410 _ ht64 (bcI x3 (Int.toNat (fr (Int.toNat (60 * x1 + v155_6))))) ⟨by omega, by omega, by omega, by omega⟩
                                  · refine r_iload (pc := 389) dX12_view_389 rfl ?_
                                    refine r_goto (pc := 391) (tgt := 410) dX12_view_391 (by decide) ?_
                                    refine Rn.pick (lv' := [(0, .ref y), (1, .int (iv x1)), (2, .int (iv x2)), (3, .int (iv x3)), (4, .int (iv (sz (Int.toNat x1)))), (5, .int (iv u106_0)), (6, .int (iv v155_6)), (7, .int (iv (60 * x1 + v155_6))), (8, .int (iv (fr (Int.toNat (60 * x1 + v155_6))))), (9, .int (iv (tt (Int.toNat (60 * x1 + v155_6)))))]) [0, 1, 2, 3, 4, 5, 6, 7, 8, 9] rfl ?_
                                    exact B410 _ ht379 (tt (Int.toNat (60 * x1 + v155_6))) ⟨by omega, by omega, by omega, by omega⟩
                              refine t_icmp_ne (pc := 358) (tgt := 379) dX12_view_358 (by decide) (by omega) (by omega) (fun c358 => ?_) (fun c358 => ?_)
                              · refine Rn.pick (lv' := [(0, .ref y), (1, .int (iv x1)), (2, .int (iv x2)), (3, .int (iv x3)), (4, .int (iv (sz (Int.toNat x1)))), (5, .int (iv u106_0)), (6, .int (iv v155_6)), (7, .int (iv (60 * x1 + v155_6))), (8, .int (iv (fr (Int.toNat (60 * x1 + v155_6))))), (9, .int (iv (tt (Int.toNat (60 * x1 + v155_6))))), (10, .int (iv v356_10))]) [0, 1, 2, 3, 4, 5, 6, 7, 8, 9, 10] rfl ?_
                                exact B379 _ ht356 v356_10 ⟨by omega, by omega, by omega⟩
                              · refine r_aload_n (pc := 361) dX12_view_361 (i := 0) rfl rfl ?_
                                refine t_getE (pc := 362) (.ref (y + 7)) ht356 (rd_of RG_y) fX12_29 dX12_view_362 rfl ?_
                                refine r_iload (pc := 365) dX12_view_365 rfl ?_
                                refine t_ialdX (pc := 367) (t0 := 0) ht356 (rd_of RG_weight) dX12_view_367 rfl (by decide) (by omega) (fun b66 => ?_)
                                have rb66 := (show Rfx 7260 (-1000) 1000 wt by assumption) (Int.toNat (60 * x1 + v155_6)) (by omega)
                                refine r_iload_n (pc := 368) dX12_view_368 (i := 3) rfl rfl ?_
                                have B377 : ∀ hp377 : MH, Tw (RG Γ cI cJ cZ y v_8 cn nm155 so sz dr mn fr tt wt co nu qi qc nf155 nt155 nw155 nc155) hp377 → ∀  (u377_0 : Int), 0 ≤ u377_0 ∧ u377_0 ≤ 1 → Rn (gG D cI cJ cZ cT lo b L xs) mX12_view d 377 [(0, .ref y), (1, .int (iv x1)), (2, .int (iv x2)), (3, .int (iv x3)), (4, .int (iv (sz (Int.toNat x1)))), (5, .int (iv u106_0)), (6, .int (iv v155_6)), (7, .int (iv (60 * x1 + v155_6))), (8, .int (iv (fr (Int.toNat (60 * x1 + v155_6))))), (9, .int (iv (tt (Int.toNat (60 * x1 + v155_6)))))] [.int (iv u377_0)] hp377 n 0 0 (q_X12_view Γ cI cJ cZ y n rf cn nm so sz dr mn fr tt wt co nu qi qc nf nt nw nc x1 x2 x3) := by
                                  intro hp377 ht377 u377_0 hf377
                                  refine r_istore (pc := 377) (lv' := [(10, .int (iv u377_0)), (0, .ref y), (1, .int (iv x1)), (2, .int (iv x2)), (3, .int (iv x3)), (4, .int (iv (sz (Int.toNat x1)))), (5, .int (iv u106_0)), (6, .int (iv v155_6)), (7, .int (iv (60 * x1 + v155_6))), (8, .int (iv (fr (Int.toNat (60 * x1 + v155_6))))), (9, .int (iv (tt (Int.toNat (60 * x1 + v155_6)))))]) dX12_view_377 (by decide) rfl ?_
                                  refine Rn.pick (lv' := [(0, .ref y), (1, .int (iv x1)), (2, .int (iv x2)), (3, .int (iv x3)), (4, .int (iv (sz (Int.toNat x1)))), (5, .int (iv u106_0)), (6, .int (iv v155_6)), (7, .int (iv (60 * x1 + v155_6))), (8, .int (iv (fr (Int.toNat (60 * x1 + v155_6))))), (9, .int (iv (tt (Int.toNat (60 * x1 + v155_6))))), (10, .int (iv u377_0))]) [1, 2, 3, 4, 5, 6, 7, 8, 9, 10, 0] rfl ?_
                                  exact B379 _ ht377 u377_0 ⟨by omega, by omega, by omega⟩
                                refine t_icmp_lt (pc := 369) (tgt := 376) dX12_view_369 (by decide) (by omega) (by omega) (fun c369 => ?_) (fun c369 => ?_)
                                · refine r_iconst (pc := 376) (v := iv 0) dX12_view_376 (by decide) ?_
                                  refine Rn.pick (lv' := [(0, .ref y), (1, .int (iv x1)), (2, .int (iv x2)), (3, .int (iv x3)), (4, .int (iv (sz (Int.toNat x1)))), (5, .int (iv u106_0)), (6, .int (iv v155_6)), (7, .int (iv (60 * x1 + v155_6))), (8, .int (iv (fr (Int.toNat (60 * x1 + v155_6))))), (9, .int (iv (tt (Int.toNat (60 * x1 + v155_6)))))]) [0, 1, 2, 3, 4, 5, 6, 7, 8, 9] rfl ?_
                                  exact B377 _ ht356 0 ⟨by omega, by omega⟩
                                · refine r_iconst (pc := 372) (v := iv 1) dX12_view_372 (by decide) ?_
                                  refine r_goto (pc := 373) (tgt := 377) dX12_view_373 (by decide) ?_
                                  refine Rn.pick (lv' := [(0, .ref y), (1, .int (iv x1)), (2, .int (iv x2)), (3, .int (iv x3)), (4, .int (iv (sz (Int.toNat x1)))), (5, .int (iv u106_0)), (6, .int (iv v155_6)), (7, .int (iv (60 * x1 + v155_6))), (8, .int (iv (fr (Int.toNat (60 * x1 + v155_6))))), (9, .int (iv (tt (Int.toNat (60 * x1 + v155_6)))))]) [0, 1, 2, 3, 4, 5, 6, 7, 8, 9] rfl ?_
                                  exact B377 _ ht356 1 ⟨by omega, by omega⟩
                            refine t_icmp_ne (pc := 326) (tgt := 356) dX12_view_326 (by decide) (by omega) (by omega) (fun c326 => ?_) (fun c326 => ?_)
                            · refine Rn.pick (lv' := [(0, .ref y), (1, .int (iv x1)), (2, .int (iv x2)), (3, .int (iv x3)), (4, .int (iv (sz (Int.toNat x1)))), (5, .int (iv u106_0)), (6, .int (iv v155_6)), (7, .int (iv (60 * x1 + v155_6))), (8, .int (iv (fr (Int.toNat (60 * x1 + v155_6))))), (9, .int (iv (tt (Int.toNat (60 * x1 + v155_6))))), (10, .int (iv v222_10))]) [0, 1, 2, 3, 4, 5, 6, 7, 8, 9, 10] rfl ?_
                              exact B356 _ ht324 v222_10 ⟨by omega, by omega, by omega⟩
                            · refine r_iload_n (pc := 329) dX12_view_329 (i := 3) rfl rfl ?_
                              refine r_iload (pc := 330) dX12_view_330 rfl ?_
                              have hq332 := shr_le (Int.toNat x3) (Int.toNat (fr (Int.toNat (60 * x1 + v155_6))))
                              refine r_ishr (pc := 332) (v := iv ((Int.toNat x3 >>> Int.toNat (fr (Int.toNat (60 * x1 + v155_6))) : Nat) : Int)) dX12_view_332 (shr_e (by omega) (by omega)) ?_
                              refine r_iconst (pc := 333) (v := iv 1) dX12_view_333 (by decide) ?_
                              refine r_iand (pc := 334) (v := iv (((Int.toNat x3 >>> Int.toNat (fr (Int.toNat (60 * x1 + v155_6))) : Nat) : Int) % 2)) dX12_view_334 (and1_e _ (by omega)) ?_
                              refine r_iconst (pc := 335) (v := iv 1) dX12_view_335 (by decide) ?_
                              have B354 : ∀ hp354 : MH, Tw (RG Γ cI cJ cZ y v_8 cn nm155 so sz dr mn fr tt wt co nu qi qc nf155 nt155 nw155 nc155) hp354 → ∀  (u354_0 : Int), 0 ≤ u354_0 ∧ u354_0 ≤ 1 ∧ (x2 = 4 → u354_0 ≠ 0 → ((Int.toNat x3 >>> Int.toNat (fr (Int.toNat (60 * x1 + v155_6))) : Nat) : Int) % 2 = 1 ∧ ((Int.toNat x3 >>> Int.toNat (tt (Int.toNat (60 * x1 + v155_6))) : Nat) : Int) % 2 = 1) → Rn (gG D cI cJ cZ cT lo b L xs) mX12_view d 354 [(0, .ref y), (1, .int (iv x1)), (2, .int (iv x2)), (3, .int (iv x3)), (4, .int (iv (sz (Int.toNat x1)))), (5, .int (iv u106_0)), (6, .int (iv v155_6)), (7, .int (iv (60 * x1 + v155_6))), (8, .int (iv (fr (Int.toNat (60 * x1 + v155_6))))), (9, .int (iv (tt (Int.toNat (60 * x1 + v155_6)))))] [.int (iv u354_0)] hp354 n 0 0 (q_X12_view Γ cI cJ cZ y n rf cn nm so sz dr mn fr tt wt co nu qi qc nf nt nw nc x1 x2 x3) := by
                                intro hp354 ht354 u354_0 hf354
                                refine r_istore (pc := 354) (lv' := [(10, .int (iv u354_0)), (0, .ref y), (1, .int (iv x1)), (2, .int (iv x2)), (3, .int (iv x3)), (4, .int (iv (sz (Int.toNat x1)))), (5, .int (iv u106_0)), (6, .int (iv v155_6)), (7, .int (iv (60 * x1 + v155_6))), (8, .int (iv (fr (Int.toNat (60 * x1 + v155_6))))), (9, .int (iv (tt (Int.toNat (60 * x1 + v155_6)))))]) dX12_view_354 (by decide) rfl ?_
                                refine Rn.pick (lv' := [(0, .ref y), (1, .int (iv x1)), (2, .int (iv x2)), (3, .int (iv x3)), (4, .int (iv (sz (Int.toNat x1)))), (5, .int (iv u106_0)), (6, .int (iv v155_6)), (7, .int (iv (60 * x1 + v155_6))), (8, .int (iv (fr (Int.toNat (60 * x1 + v155_6))))), (9, .int (iv (tt (Int.toNat (60 * x1 + v155_6))))), (10, .int (iv u354_0))]) [1, 2, 3, 4, 5, 6, 7, 8, 9, 10, 0] rfl ?_
                                exact B356 _ ht354 u354_0 ⟨by omega, by omega, by omega⟩
                              have B353 : ∀ hp353 : MH, Tw (RG Γ cI cJ cZ y v_8 cn nm155 so sz dr mn fr tt wt co nu qi qc nf155 nt155 nw155 nc155) hp353 → True → Rn (gG D cI cJ cZ cT lo b L xs) mX12_view d 353 [(0, .ref y), (1, .int (iv x1)), (2, .int (iv x2)), (3, .int (iv x3)), (4, .int (iv (sz (Int.toNat x1)))), (5, .int (iv u106_0)), (6, .int (iv v155_6)), (7, .int (iv (60 * x1 + v155_6))), (8, .int (iv (fr (Int.toNat (60 * x1 + v155_6))))), (9, .int (iv (tt (Int.toNat (60 * x1 + v155_6)))))] [] hp353 n 0 0 (q_X12_view Γ cI cJ cZ y n rf cn nm so sz dr mn fr tt wt co nu qi qc nf nt nw nc x1 x2 x3) := by
                                intro hp353 ht353 hf353
                                refine r_iconst (pc := 353) (v := iv 0) dX12_view_353 (by decide) ?_
                                refine Rn.pick (lv' := [(0, .ref y), (1, .int (iv x1)), (2, .int (iv x2)), (3, .int (iv x3)), (4, .int (iv (sz (Int.toNat x1)))), (5, .int (iv u106_0)), (6, .int (iv v155_6)), (7, .int (iv (60 * x1 + v155_6))), (8, .int (iv (fr (Int.toNat (60 * x1 + v155_6))))), (9, .int (iv (tt (Int.toNat (60 * x1 + v155_6)))))]) [0, 1, 2, 3, 4, 5, 6, 7, 8, 9] rfl ?_
                                exact B354 _ ht353 0 ⟨by omega, by omega, by omega⟩
                              refine t_icmp_ne (pc := 336) (tgt := 353) dX12_view_336 (by decide) (by omega) (by omega) (fun c336 => ?_) (fun c336 => ?_)
                              · refine Rn.pick (lv' := [(0, .ref y), (1, .int (iv x1)), (2, .int (iv x2)), (3, .int (iv x3)), (4, .int (iv (sz (Int.toNat x1)))), (5, .int (iv u106_0)), (6, .int (iv v155_6)), (7, .int (iv (60 * x1 + v155_6))), (8, .int (iv (fr (Int.toNat (60 * x1 + v155_6))))), (9, .int (iv (tt (Int.toNat (60 * x1 + v155_6)))))]) [0, 1, 2, 3, 4, 5, 6, 7, 8, 9] rfl ?_
                                exact B353 _ ht324 trivial
                              · refine r_iload_n (pc := 339) dX12_view_339 (i := 3) rfl rfl ?_
                                refine r_iload (pc := 340) dX12_view_340 rfl ?_
                                have hq342 := shr_le (Int.toNat x3) (Int.toNat (tt (Int.toNat (60 * x1 + v155_6))))
                                refine r_ishr (pc := 342) (v := iv ((Int.toNat x3 >>> Int.toNat (tt (Int.toNat (60 * x1 + v155_6))) : Nat) : Int)) dX12_view_342 (shr_e (by omega) (by omega)) ?_
                                refine r_iconst (pc := 343) (v := iv 1) dX12_view_343 (by decide) ?_
                                refine r_iand (pc := 344) (v := iv (((Int.toNat x3 >>> Int.toNat (tt (Int.toNat (60 * x1 + v155_6))) : Nat) : Int) % 2)) dX12_view_344 (and1_e _ (by omega)) ?_
                                refine r_iconst (pc := 345) (v := iv 1) dX12_view_345 (by decide) ?_
                                refine t_icmp_ne (pc := 346) (tgt := 353) dX12_view_346 (by decide) (by omega) (by omega) (fun c346 => ?_) (fun c346 => ?_)
                                · refine Rn.pick (lv' := [(0, .ref y), (1, .int (iv x1)), (2, .int (iv x2)), (3, .int (iv x3)), (4, .int (iv (sz (Int.toNat x1)))), (5, .int (iv u106_0)), (6, .int (iv v155_6)), (7, .int (iv (60 * x1 + v155_6))), (8, .int (iv (fr (Int.toNat (60 * x1 + v155_6))))), (9, .int (iv (tt (Int.toNat (60 * x1 + v155_6)))))]) [0, 1, 2, 3, 4, 5, 6, 7, 8, 9] rfl ?_
                                  exact B353 _ ht324 trivial
                                · refine r_iconst (pc := 349) (v := iv 1) dX12_view_349 (by decide) ?_
                                  refine r_goto (pc := 350) (tgt := 354) dX12_view_350 (by decide) ?_
                                  refine Rn.pick (lv' := [(0, .ref y), (1, .int (iv x1)), (2, .int (iv x2)), (3, .int (iv x3)), (4, .int (iv (sz (Int.toNat x1)))), (5, .int (iv u106_0)), (6, .int (iv v155_6)), (7, .int (iv (60 * x1 + v155_6))), (8, .int (iv (fr (Int.toNat (60 * x1 + v155_6))))), (9, .int (iv (tt (Int.toNat (60 * x1 + v155_6)))))]) [0, 1, 2, 3, 4, 5, 6, 7, 8, 9] rfl ?_
                                  exact B354 _ ht324 1 ⟨by omega, by omega, by omega⟩
                          refine t_icmp_ge (pc := 230) (tgt := 324) dX12_view_230 (by decide) (by omega) (by omega) (fun c230 => ?_) (fun c230 => ?_)
                          · refine Rn.pick (lv' := [(0, .ref y), (1, .int (iv x1)), (2, .int (iv x2)), (3, .int (iv x3)), (4, .int (iv (sz (Int.toNat x1)))), (5, .int (iv u106_0)), (6, .int (iv v155_6)), (7, .int (iv (60 * x1 + v155_6))), (8, .int (iv (fr (Int.toNat (60 * x1 + v155_6))))), (9, .int (iv (tt (Int.toNat (60 * x1 + v155_6))))), (10, .int (iv v222_10))]) [0, 1, 2, 3, 4, 5, 6, 7, 8, 9, 10] rfl ?_
                            exact B324 _ ht222 trivial
                          · refine r_iload_n (pc := 233) dX12_view_233 (i := 2) rfl rfl ?_
                            refine r_iconst (pc := 234) (v := iv 3) dX12_view_234 (by decide) ?_
                            refine t_icmp_ne (pc := 235) (tgt := 324) dX12_view_235 (by decide) (by omega) (by omega) (fun c235 => ?_) (fun c235 => ?_)
                            · refine Rn.pick (lv' := [(0, .ref y), (1, .int (iv x1)), (2, .int (iv x2)), (3, .int (iv x3)), (4, .int (iv (sz (Int.toNat x1)))), (5, .int (iv u106_0)), (6, .int (iv v155_6)), (7, .int (iv (60 * x1 + v155_6))), (8, .int (iv (fr (Int.toNat (60 * x1 + v155_6))))), (9, .int (iv (tt (Int.toNat (60 * x1 + v155_6))))), (10, .int (iv v222_10))]) [0, 1, 2, 3, 4, 5, 6, 7, 8, 9, 10] rfl ?_
                              exact B324 _ ht222 trivial
                            · refine r_iload (pc := 238) dX12_view_238 rfl ?_
                              refine t_if_eq (pc := 240) (tgt := 324) dX12_view_240 (by decide) (by omega) (fun c240 => ?_) (fun c240 => ?_)
                              · refine Rn.pick (lv' := [(0, .ref y), (1, .int (iv x1)), (2, .int (iv x2)), (3, .int (iv x3)), (4, .int (iv (sz (Int.toNat x1)))), (5, .int (iv u106_0)), (6, .int (iv v155_6)), (7, .int (iv (60 * x1 + v155_6))), (8, .int (iv (fr (Int.toNat (60 * x1 + v155_6))))), (9, .int (iv (tt (Int.toNat (60 * x1 + v155_6))))), (10, .int (iv v222_10))]) [0, 1, 2, 3, 4, 5, 6, 7, 8, 9, 10] rfl ?_
                                exact B324 _ ht222 trivial
                              · refine r_iload_n (pc := 243) dX12_view_243 (i := 1) rfl rfl ?_
                                refine r_iload (pc := 244) dX12_view_244 rfl ?_
                                refine t_callSI (pc := 246) (as := [.int (iv x1), .int (iv v222_11)]) (st := []) kX12_157 dX12_view_246 (t_X12_at1x (d := d - 1) (x1 := x1) (x2 := v222_11) (by omega)  ht222 (by omega) (by omega)) rfl (by omega) (Nat.le_of_ble_eq_true rfl) rfl (fun hp67 y69 ht68 by69 => ?_)
                                have ey69 : y69 = 60 * x1 + v222_11 := by69
                                subst ey69
                                refine r_istore (pc := 249) (lv' := [(12, .int (iv (60 * x1 + v222_11))), (0, .ref y), (1, .int (iv x1)), (2, .int (iv x2)), (3, .int (iv x3)), (4, .int (iv (sz (Int.toNat x1)))), (5, .int (iv u106_0)), (6, .int (iv v155_6)), (7, .int (iv (60 * x1 + v155_6))), (8, .int (iv (fr (Int.toNat (60 * x1 + v155_6))))), (9, .int (iv (tt (Int.toNat (60 * x1 + v155_6))))), (10, .int (iv v222_10)), (11, .int (iv v222_11))]) dX12_view_249 (by decide) rfl ?_
                                refine r_iload (pc := 251) dX12_view_251 rfl ?_
                                refine r_iload (pc := 253) dX12_view_253 rfl ?_
                                have B316 : ∀ hp316 : MH, Tw (RG Γ cI cJ cZ y v_8 cn nm155 so sz dr mn fr tt wt co nu qi qc nf155 nt155 nw155 nc155) hp316 → ∀  (u316_0 : Int), 0 ≤ u316_0 ∧ u316_0 ≤ 1 → Rn (gG D cI cJ cZ cT lo b L xs) mX12_view d 316 [(0, .ref y), (1, .int (iv x1)), (2, .int (iv x2)), (3, .int (iv x3)), (4, .int (iv (sz (Int.toNat x1)))), (5, .int (iv u106_0)), (6, .int (iv v155_6)), (7, .int (iv (60 * x1 + v155_6))), (8, .int (iv (fr (Int.toNat (60 * x1 + v155_6))))), (9, .int (iv (tt (Int.toNat (60 * x1 + v155_6))))), (11, .int (iv v222_11))] [.int (iv u316_0)] hp316 n 0 0 (q_X12_view Γ cI cJ cZ y n rf cn nm so sz dr mn fr tt wt co nu qi qc nf nt nw nc x1 x2 x3) := by
                                  intro hp316 ht316 u316_0 hf316
                                  refine r_istore (pc := 316) (lv' := [(10, .int (iv u316_0)), (0, .ref y), (1, .int (iv x1)), (2, .int (iv x2)), (3, .int (iv x3)), (4, .int (iv (sz (Int.toNat x1)))), (5, .int (iv u106_0)), (6, .int (iv v155_6)), (7, .int (iv (60 * x1 + v155_6))), (8, .int (iv (fr (Int.toNat (60 * x1 + v155_6))))), (9, .int (iv (tt (Int.toNat (60 * x1 + v155_6))))), (11, .int (iv v222_11))]) dX12_view_316 (by decide) rfl ?_
                                  refine r_iinc (pc := 318) (v := iv (v222_11 + 1)) (lv' := [(11, .int (iv (v222_11 + 1))), (10, .int (iv u316_0)), (0, .ref y), (1, .int (iv x1)), (2, .int (iv x2)), (3, .int (iv x3)), (4, .int (iv (sz (Int.toNat x1)))), (5, .int (iv u106_0)), (6, .int (iv v155_6)), (7, .int (iv (60 * x1 + v155_6))), (8, .int (iv (fr (Int.toNat (60 * x1 + v155_6))))), (9, .int (iv (tt (Int.toNat (60 * x1 + v155_6)))))]) dX12_view_318 rfl (iv_add _ _) (by decide) rfl ?_
                                  refine r_goto (pc := 321) (tgt := 222) dX12_view_321 (by decide) ?_
                                  refine Rn.pick (lv' := [(0, .ref y), (1, .int (iv x1)), (2, .int (iv x2)), (3, .int (iv x3)), (4, .int (iv (sz (Int.toNat x1)))), (5, .int (iv u106_0)), (6, .int (iv v155_6)), (7, .int (iv (60 * x1 + v155_6))), (8, .int (iv (fr (Int.toNat (60 * x1 + v155_6))))), (9, .int (iv (tt (Int.toNat (60 * x1 + v155_6))))), (10, .int (iv u316_0)), (11, .int (iv (v222_11 + 1)))]) [2, 3, 4, 5, 6, 7, 8, 9, 10, 11, 1, 0] rfl ?_
                                  exact ih222 (Int.toNat (60 - (v222_11 + 1))) (by omega) _ ht316 u316_0 (v222_11 + 1) ⟨by omega, by omega, by omega, by omega⟩ (by omega)
                                have B311 : ∀ hp311 : MH, Tw (RG Γ cI cJ cZ y v_8 cn nm155 so sz dr mn fr tt wt co nu qi qc nf155 nt155 nw155 nc155) hp311 → True → Rn (gG D cI cJ cZ cT lo b L xs) mX12_view d 311 [(0, .ref y), (1, .int (iv x1)), (2, .int (iv x2)), (3, .int (iv x3)), (4, .int (iv (sz (Int.toNat x1)))), (5, .int (iv u106_0)), (6, .int (iv v155_6)), (7, .int (iv (60 * x1 + v155_6))), (8, .int (iv (fr (Int.toNat (60 * x1 + v155_6))))), (9, .int (iv (tt (Int.toNat (60 * x1 + v155_6))))), (11, .int (iv v222_11))] [] hp311 n 0 0 (q_X12_view Γ cI cJ cZ y n rf cn nm so sz dr mn fr tt wt co nu qi qc nf nt nw nc x1 x2 x3) := by
                                  intro hp311 ht311 hf311
                                  refine r_iconst (pc := 311) (v := iv 1) dX12_view_311 (by decide) ?_
                                  refine r_goto (pc := 312) (tgt := 316) dX12_view_312 (by decide) ?_
                                  refine Rn.pick (lv' := [(0, .ref y), (1, .int (iv x1)), (2, .int (iv x2)), (3, .int (iv x3)), (4, .int (iv (sz (Int.toNat x1)))), (5, .int (iv u106_0)), (6, .int (iv v155_6)), (7, .int (iv (60 * x1 + v155_6))), (8, .int (iv (fr (Int.toNat (60 * x1 + v155_6))))), (9, .int (iv (tt (Int.toNat (60 * x1 + v155_6))))), (11, .int (iv v222_11))]) [0, 1, 2, 3, 4, 5, 6, 7, 8, 9, 10] rfl ?_
                                  exact B316 _ ht311 1 ⟨by omega, by omega⟩
                                refine t_icmp_eq (pc := 255) (tgt := 311) dX12_view_255 (by decide) (by omega) (by omega) (fun c255 => ?_) (fun c255 => ?_)
                                · refine Rn.pick (lv' := [(0, .ref y), (1, .int (iv x1)), (2, .int (iv x2)), (3, .int (iv x3)), (4, .int (iv (sz (Int.toNat x1)))), (5, .int (iv u106_0)), (6, .int (iv v155_6)), (7, .int (iv (60 * x1 + v155_6))), (8, .int (iv (fr (Int.toNat (60 * x1 + v155_6))))), (9, .int (iv (tt (Int.toNat (60 * x1 + v155_6))))), (11, .int (iv v222_11))]) [1, 2, 3, 4, 5, 6, 7, 8, 9, 10, 12] rfl ?_
                                  exact B311 _ ht68 trivial
                                · refine r_aload_n (pc := 258) dX12_view_258 (i := 0) rfl rfl ?_
                                  refine r_iload_n (pc := 259) dX12_view_259 (i := 1) rfl rfl ?_
                                  refine r_iload (pc := 260) dX12_view_260 rfl ?_
                                  refine r_iload (pc := 262) dX12_view_262 rfl ?_
                                  refine t_callVR (pc := 264) (as := [.int (iv x1), .int (iv (60 * x1 + v155_6)), .int (iv (60 * x1 + v222_11))]) (st := []) ht68 (rd_of RG_y) kX12_194 rfl dX12_view_264 (t_X12_sameEnds (d := d - 1) (x1 := x1) (x2 := 60 * x1 + v155_6) (x3 := 60 * x1 + v222_11) (by omega) (rd_of RG_y) (rd_xr (rd_of RG_directs) (show Rfx 121 0 1 dr by assumption)) (rd_xr (rd_of RG_from) (show Rfx 7260 0 15 fr by assumption)) (rd_xr (rd_of RG_to) (show Rfx 7260 0 15 tt by assumption)) ht68 (by omega) (by omega) (by omega)) rfl (by omega) (Nat.le_of_ble_eq_true rfl) rfl (fun hp70 y72 ht71 by72 => ?_)
                                  refine t_if_eq (pc := 267) (tgt := 311) dX12_view_267 (by decide) (by omega) (fun c267 => ?_) (fun c267 => ?_)
                                  · refine Rn.pick (lv' := [(0, .ref y), (1, .int (iv x1)), (2, .int (iv x2)), (3, .int (iv x3)), (4, .int (iv (sz (Int.toNat x1)))), (5, .int (iv u106_0)), (6, .int (iv v155_6)), (7, .int (iv (60 * x1 + v155_6))), (8, .int (iv (fr (Int.toNat (60 * x1 + v155_6))))), (9, .int (iv (tt (Int.toNat (60 * x1 + v155_6))))), (11, .int (iv v222_11))]) [1, 2, 3, 4, 5, 6, 7, 8, 9, 10, 12] rfl ?_
                                    exact B311 _ ht71 trivial
                                  · refine r_aload_n (pc := 270) dX12_view_270 (i := 0) rfl rfl ?_
                                    refine t_getE (pc := 271) (.ref (y + 7)) ht71 (rd_of RG_y) fX12_29 dX12_view_271 rfl ?_
                                    refine r_iload (pc := 274) dX12_view_274 rfl ?_
                                    refine t_ialdX (pc := 276) (t0 := 0) ht71 (rd_of RG_weight) dX12_view_276 rfl (by decide) (by omega) (fun b73 => ?_)
                                    have rb73 := (show Rfx 7260 (-1000) 1000 wt by assumption) (Int.toNat (60 * x1 + v222_11)) (by omega)
                                    refine r_aload_n (pc := 277) dX12_view_277 (i := 0) rfl rfl ?_
                                    refine t_getE (pc := 278) (.ref (y + 7)) ht71 (rd_of RG_y) fX12_29 dX12_view_278 rfl ?_
                                    refine r_iload (pc := 281) dX12_view_281 rfl ?_
                                    refine t_ialdX (pc := 283) (t0 := 0) ht71 (rd_of RG_weight) dX12_view_283 rfl (by decide) (by omega) (fun b74 => ?_)
                                    have rb74 := (show Rfx 7260 (-1000) 1000 wt by assumption) (Int.toNat (60 * x1 + v155_6)) (by omega)
                                    refine t_icmp_gt (pc := 284) (tgt := 311) dX12_view_284 (by decide) (by omega) (by omega) (fun c284 => ?_) (fun c284 => ?_)
                                    · refine Rn.pick (lv' := [(0, .ref y), (1, .int (iv x1)), (2, .int (iv x2)), (3, .int (iv x3)), (4, .int (iv (sz (Int.toNat x1)))), (5, .int (iv u106_0)), (6, .int (iv v155_6)), (7, .int (iv (60 * x1 + v155_6))), (8, .int (iv (fr (Int.toNat (60 * x1 + v155_6))))), (9, .int (iv (tt (Int.toNat (60 * x1 + v155_6))))), (11, .int (iv v222_11))]) [1, 2, 3, 4, 5, 6, 7, 8, 9, 10, 12] rfl ?_
                                      exact B311 _ ht71 trivial
                                    · refine r_aload_n (pc := 287) dX12_view_287 (i := 0) rfl rfl ?_
                                      refine t_getE (pc := 288) (.ref (y + 7)) ht71 (rd_of RG_y) fX12_29 dX12_view_288 rfl ?_
                                      refine r_iload (pc := 291) dX12_view_291 rfl ?_
                                      refine t_ialdX (pc := 293) (t0 := 0) ht71 (rd_of RG_weight) dX12_view_293 rfl (by decide) (by omega) (fun b75 => ?_)
                                      have rb75 := (show Rfx 7260 (-1000) 1000 wt by assumption) (Int.toNat (60 * x1 + v222_11)) (by omega)
                                      refine r_aload_n (pc := 294) dX12_view_294 (i := 0) rfl rfl ?_
                                      refine t_getE (pc := 295) (.ref (y + 7)) ht71 (rd_of RG_y) fX12_29 dX12_view_295 rfl ?_
                                      refine r_iload (pc := 298) dX12_view_298 rfl ?_
                                      refine t_ialdX (pc := 300) (t0 := 0) ht71 (rd_of RG_weight) dX12_view_300 rfl (by decide) (by omega) (fun b76 => ?_)
                                      have rb76 := (show Rfx 7260 (-1000) 1000 wt by assumption) (Int.toNat (60 * x1 + v155_6)) (by omega)
                                      have B315 : ∀ hp315 : MH, Tw (RG Γ cI cJ cZ y v_8 cn nm155 so sz dr mn fr tt wt co nu qi qc nf155 nt155 nw155 nc155) hp315 → True → Rn (gG D cI cJ cZ cT lo b L xs) mX12_view d 315 [(0, .ref y), (1, .int (iv x1)), (2, .int (iv x2)), (3, .int (iv x3)), (4, .int (iv (sz (Int.toNat x1)))), (5, .int (iv u106_0)), (6, .int (iv v155_6)), (7, .int (iv (60 * x1 + v155_6))), (8, .int (iv (fr (Int.toNat (60 * x1 + v155_6))))), (9, .int (iv (tt (Int.toNat (60 * x1 + v155_6))))), (11, .int (iv v222_11))] [] hp315 n 0 0 (q_X12_view Γ cI cJ cZ y n rf cn nm so sz dr mn fr tt wt co nu qi qc nf nt nw nc x1 x2 x3) := by
                                        intro hp315 ht315 hf315
                                        refine r_iconst (pc := 315) (v := iv 0) dX12_view_315 (by decide) ?_
                                        refine Rn.pick (lv' := [(0, .ref y), (1, .int (iv x1)), (2, .int (iv x2)), (3, .int (iv x3)), (4, .int (iv (sz (Int.toNat x1)))), (5, .int (iv u106_0)), (6, .int (iv v155_6)), (7, .int (iv (60 * x1 + v155_6))), (8, .int (iv (fr (Int.toNat (60 * x1 + v155_6))))), (9, .int (iv (tt (Int.toNat (60 * x1 + v155_6))))), (11, .int (iv v222_11))]) [0, 1, 2, 3, 4, 5, 6, 7, 8, 9, 10] rfl ?_
                                        exact B316 _ ht315 0 ⟨by omega, by omega⟩
                                      refine t_icmp_ne (pc := 301) (tgt := 315) dX12_view_301 (by decide) (by omega) (by omega) (fun c301 => ?_) (fun c301 => ?_)
                                      · refine Rn.pick (lv' := [(0, .ref y), (1, .int (iv x1)), (2, .int (iv x2)), (3, .int (iv x3)), (4, .int (iv (sz (Int.toNat x1)))), (5, .int (iv u106_0)), (6, .int (iv v155_6)), (7, .int (iv (60 * x1 + v155_6))), (8, .int (iv (fr (Int.toNat (60 * x1 + v155_6))))), (9, .int (iv (tt (Int.toNat (60 * x1 + v155_6))))), (11, .int (iv v222_11))]) [1, 2, 3, 4, 5, 6, 7, 8, 9, 10, 12] rfl ?_
                                        exact B315 _ ht71 trivial
                                      · refine r_iload (pc := 304) dX12_view_304 rfl ?_
                                        refine r_iload (pc := 306) dX12_view_306 rfl ?_
                                        refine t_icmp_le (pc := 308) (tgt := 315) dX12_view_308 (by decide) (by omega) (by omega) (fun c308 => ?_) (fun c308 => ?_)
                                        · refine Rn.pick (lv' := [(0, .ref y), (1, .int (iv x1)), (2, .int (iv x2)), (3, .int (iv x3)), (4, .int (iv (sz (Int.toNat x1)))), (5, .int (iv u106_0)), (6, .int (iv v155_6)), (7, .int (iv (60 * x1 + v155_6))), (8, .int (iv (fr (Int.toNat (60 * x1 + v155_6))))), (9, .int (iv (tt (Int.toNat (60 * x1 + v155_6))))), (11, .int (iv v222_11))]) [1, 2, 3, 4, 5, 6, 7, 8, 9, 10, 12] rfl ?_
                                          exact B315 _ ht71 trivial
                                        · refine Rn.pick (lv' := [(0, .ref y), (1, .int (iv x1)), (2, .int (iv x2)), (3, .int (iv x3)), (4, .int (iv (sz (Int.toNat x1)))), (5, .int (iv u106_0)), (6, .int (iv v155_6)), (7, .int (iv (60 * x1 + v155_6))), (8, .int (iv (fr (Int.toNat (60 * x1 + v155_6))))), (9, .int (iv (tt (Int.toNat (60 * x1 + v155_6))))), (11, .int (iv v222_11))]) [1, 2, 3, 4, 5, 6, 7, 8, 9, 10, 12] rfl ?_
                                          exact B311 _ ht71 trivial
                        refine Rn.pick (lv' := [(0, .ref y), (1, .int (iv x1)), (2, .int (iv x2)), (3, .int (iv x3)), (4, .int (iv (sz (Int.toNat x1)))), (5, .int (iv u106_0)), (6, .int (iv v155_6)), (7, .int (iv (60 * x1 + v155_6))), (8, .int (iv (fr (Int.toNat (60 * x1 + v155_6))))), (9, .int (iv (tt (Int.toNat (60 * x1 + v155_6))))), (10, .int (iv v219_10)), (11, .int (iv 0))]) [1, 2, 3, 4, 5, 6, 7, 8, 9, 10, 11, 0] rfl ?_
                        exact B222 (Int.toNat (60 - 0)) _ ht219 v219_10 0 ⟨by omega, by omega, by omega, by omega⟩ (by omega)
                      have B205 : ∀ hp205 : MH, Tw (RG Γ cI cJ cZ y v_8 cn nm155 so sz dr mn fr tt wt co nu qi qc nf155 nt155 nw155 nc155) hp205 → 2 ≤ x2 ∧ x2 ≤ 3 → Rn (gG D cI cJ cZ cT lo b L xs) mX12_view d 205 [(0, .ref y), (1, .int (iv x1)), (2, .int (iv x2)), (3, .int (iv x3)), (4, .int (iv (sz (Int.toNat x1)))), (5, .int (iv u106_0)), (6, .int (iv v155_6)), (7, .int (iv (60 * x1 + v155_6))), (8, .int (iv (fr (Int.toNat (60 * x1 + v155_6))))), (9, .int (iv (tt (Int.toNat (60 * x1 + v155_6)))))] [] hp205 n 0 0 (q_X12_view Γ cI cJ cZ y n rf cn nm so sz dr mn fr tt wt co nu qi qc nf nt nw nc x1 x2 x3) := by
                        intro hp205 ht205 hf205
                        refine r_iload (pc := 205) dX12_view_205 rfl ?_
                        refine r_iload (pc := 207) dX12_view_207 rfl ?_
                        have B217 : ∀ hp217 : MH, Tw (RG Γ cI cJ cZ y v_8 cn nm155 so sz dr mn fr tt wt co nu qi qc nf155 nt155 nw155 nc155) hp217 → ∀  (u217_0 : Int), 0 ≤ u217_0 ∧ u217_0 ≤ 1 → Rn (gG D cI cJ cZ cT lo b L xs) mX12_view d 217 [(0, .ref y), (1, .int (iv x1)), (2, .int (iv x2)), (3, .int (iv x3)), (4, .int (iv (sz (Int.toNat x1)))), (5, .int (iv u106_0)), (6, .int (iv v155_6)), (7, .int (iv (60 * x1 + v155_6))), (8, .int (iv (fr (Int.toNat (60 * x1 + v155_6))))), (9, .int (iv (tt (Int.toNat (60 * x1 + v155_6)))))] [.int (iv u217_0)] hp217 n 0 0 (q_X12_view Γ cI cJ cZ y n rf cn nm so sz dr mn fr tt wt co nu qi qc nf nt nw nc x1 x2 x3) := by
                          intro hp217 ht217 u217_0 hf217
                          refine r_istore (pc := 217) (lv' := [(10, .int (iv u217_0)), (0, .ref y), (1, .int (iv x1)), (2, .int (iv x2)), (3, .int (iv x3)), (4, .int (iv (sz (Int.toNat x1)))), (5, .int (iv u106_0)), (6, .int (iv v155_6)), (7, .int (iv (60 * x1 + v155_6))), (8, .int (iv (fr (Int.toNat (60 * x1 + v155_6))))), (9, .int (iv (tt (Int.toNat (60 * x1 + v155_6)))))]) dX12_view_217 (by decide) rfl ?_
                          refine Rn.pick (lv' := [(0, .ref y), (1, .int (iv x1)), (2, .int (iv x2)), (3, .int (iv x3)), (4, .int (iv (sz (Int.toNat x1)))), (5, .int (iv u106_0)), (6, .int (iv v155_6)), (7, .int (iv (60 * x1 + v155_6))), (8, .int (iv (fr (Int.toNat (60 * x1 + v155_6))))), (9, .int (iv (tt (Int.toNat (60 * x1 + v155_6))))), (10, .int (iv u217_0))]) [1, 2, 3, 4, 5, 6, 7, 8, 9, 10, 0] rfl ?_
                          exact B219 _ ht217 u217_0 ⟨by omega, by omega⟩
                        refine t_icmp_eq (pc := 209) (tgt := 216) dX12_view_209 (by decide) (by omega) (by omega) (fun c209 => ?_) (fun c209 => ?_)
                        · refine r_iconst (pc := 216) (v := iv 0) dX12_view_216 (by decide) ?_
                          refine Rn.pick (lv' := [(0, .ref y), (1, .int (iv x1)), (2, .int (iv x2)), (3, .int (iv x3)), (4, .int (iv (sz (Int.toNat x1)))), (5, .int (iv u106_0)), (6, .int (iv v155_6)), (7, .int (iv (60 * x1 + v155_6))), (8, .int (iv (fr (Int.toNat (60 * x1 + v155_6))))), (9, .int (iv (tt (Int.toNat (60 * x1 + v155_6)))))]) [0, 1, 2, 3, 4, 5, 6, 7, 8, 9] rfl ?_
                          exact B217 _ ht205 0 ⟨by omega, by omega⟩
                        · refine r_iconst (pc := 212) (v := iv 1) dX12_view_212 (by decide) ?_
                          refine r_goto (pc := 213) (tgt := 217) dX12_view_213 (by decide) ?_
                          refine Rn.pick (lv' := [(0, .ref y), (1, .int (iv x1)), (2, .int (iv x2)), (3, .int (iv x3)), (4, .int (iv (sz (Int.toNat x1)))), (5, .int (iv u106_0)), (6, .int (iv v155_6)), (7, .int (iv (60 * x1 + v155_6))), (8, .int (iv (fr (Int.toNat (60 * x1 + v155_6))))), (9, .int (iv (tt (Int.toNat (60 * x1 + v155_6)))))]) [0, 1, 2, 3, 4, 5, 6, 7, 8, 9] rfl ?_
                          exact B217 _ ht205 1 ⟨by omega, by omega⟩
                      refine t_icmp_eq (pc := 197) (tgt := 205) dX12_view_197 (by decide) (by omega) (by omega) (fun c197 => ?_) (fun c197 => ?_)
                      · refine Rn.pick (lv' := [(0, .ref y), (1, .int (iv x1)), (2, .int (iv x2)), (3, .int (iv x3)), (4, .int (iv (sz (Int.toNat x1)))), (5, .int (iv u106_0)), (6, .int (iv v155_6)), (7, .int (iv (60 * x1 + v155_6))), (8, .int (iv (fr (Int.toNat (60 * x1 + v155_6))))), (9, .int (iv (tt (Int.toNat (60 * x1 + v155_6)))))]) [4, 5, 6, 7, 8, 9, 10, 3, 2, 1] rfl ?_
                        exact B205 _ ht45 ⟨by omega, by omega⟩
                      · refine r_iload_n (pc := 200) dX12_view_200 (i := 2) rfl rfl ?_
                        refine r_iconst (pc := 201) (v := iv 3) dX12_view_201 (by decide) ?_
                        refine t_icmp_ne (pc := 202) (tgt := 219) dX12_view_202 (by decide) (by omega) (by omega) (fun c202 => ?_) (fun c202 => ?_)
                        · refine Rn.pick (lv' := [(0, .ref y), (1, .int (iv x1)), (2, .int (iv x2)), (3, .int (iv x3)), (4, .int (iv (sz (Int.toNat x1)))), (5, .int (iv u106_0)), (6, .int (iv v155_6)), (7, .int (iv (60 * x1 + v155_6))), (8, .int (iv (fr (Int.toNat (60 * x1 + v155_6))))), (9, .int (iv (tt (Int.toNat (60 * x1 + v155_6))))), (10, .int (iv 1))]) [4, 5, 6, 7, 8, 9, 10, 3, 2, 1, 0] rfl ?_
                          exact B219 _ ht45 1 ⟨by omega, by omega⟩
                        · refine Rn.pick (lv' := [(0, .ref y), (1, .int (iv x1)), (2, .int (iv x2)), (3, .int (iv x3)), (4, .int (iv (sz (Int.toNat x1)))), (5, .int (iv u106_0)), (6, .int (iv v155_6)), (7, .int (iv (60 * x1 + v155_6))), (8, .int (iv (fr (Int.toNat (60 * x1 + v155_6))))), (9, .int (iv (tt (Int.toNat (60 * x1 + v155_6)))))]) [4, 5, 6, 7, 8, 9, 10, 3, 2, 1] rfl ?_
                          exact B205 _ ht45 ⟨by omega, by omega⟩
                  refine Rn.pick (lv' := [(0, .ref y), (1, .int (iv x1)), (2, .int (iv x2)), (3, .int (iv x3)), (4, .int (iv (sz (Int.toNat x1)))), (5, .int (iv u106_0)), (6, .int (iv 0))]) [2, 3, 4, 5, 6, 1, 0] rfl ?_
                  exact B155 (Int.toNat (60 - 0)) 0 nf nt nw nc _ ht106 0 ⟨by omega, by omega, by omega, by omega, by omega, by omega, by assumption⟩ (by omega)
                · refine r_aload_n (pc := 134) dX12_view_134 (i := 0) rfl rfl ?_
                  refine r_iload_n (pc := 135) dX12_view_135 (i := 1) rfl rfl ?_
                  obtain ⟨fs81, hfs81⟩ := t_obj ht106 (rd_of RG_y)
                  refine r_callV (pc := 136) (as := [.int (iv x1)]) (st := []) kX12_191 rfl dX12_view_136 hfs81 (s_X12_line (d := d - 1) (x1 := x1) (by omega) (by assumption) (by assumption) (by assumption) (by assumption) ht106 (by omega) (by omega) (by omega)) rfl (by omega) (Nat.le_of_ble_eq_true rfl) (Nat.zero_le _) (Nat.zero_le _) rfl (fun r78 hp77 n79 hq80 => ?_)
                  obtain ⟨hnn79, nf1_84, nt1_85, nw1_86, nc1_87, m1_88, ht82, hrr78, hhq800, hhq801⟩ := hq80
                  subst n79 r78
                  have hhq800 : 0 ≤ m1_88 ∧ m1_88 ≤ 256 := hhq800
                  have hhq801 : arP nf1_84 nt1_85 nw1_86 nc1_87 m1_88 (mn (Int.toNat x1)) := hhq801
                  change Rn _ _ _ 139 _ [] _ _ _ _ _
                  refine r_aload_n (pc := 139) dX12_view_139 (i := 0) rfl rfl ?_
                  refine r_aload_n (pc := 140) dX12_view_140 (i := 0) rfl rfl ?_
                  refine t_getE (pc := 141) (.ref (y + 4)) ht82 (rd_of RG_y) fX12_20 dX12_view_141 rfl ?_
                  refine r_iload_n (pc := 144) dX12_view_144 (i := 1) rfl rfl ?_
                  refine t_ialdX (pc := 145) (t0 := 0) ht82 (rd_of RG_many) dX12_view_145 rfl (by decide) (by omega) (fun b89 => ?_)
                  have rb89 := (show Rfx 121 0 60 mn by assumption) (Int.toNat x1) (by omega)
                  refine r_iload (pc := 146) dX12_view_146 rfl ?_
                  obtain ⟨fs94, hfs94⟩ := t_obj ht82 (rd_of RG_y)
                  refine r_callV (pc := 148) (as := [.int (iv (mn (Int.toNat x1))), .int (iv u106_0)]) (st := []) kX12_179 rfl dX12_view_148 hfs94 (s_X12_made (d := d - 1) (x1 := mn (Int.toNat x1)) (x2 := u106_0) (by omega) (RK_set hk (by omega) (by omega)) ht82 (by omega) (by omega) (fun _ => hhq801)) rfl (by omega) (Nat.le_of_ble_eq_true rfl) (Nat.zero_le _) (Nat.zero_le _) rfl (fun r91 hp90 n92 hq93 => ?_)
                  obtain ⟨hnn92, h_97, v_98, c1_99, s1_100, z1_101, d1_102, m1_103, f1_104, t1_105, w1_106, o1_107, ht95, hrr91, hhq930, hhq931, hhq932, hhq933⟩ := hq93
                  subst n92 r91
                  have hhq930 : (60 < m1_88 ∨ cn = 120) → h_97 = -4 ∧ v_98 = -4 ∧ c1_99 = cn := hhq930
                  have hhq931 : (60 < m1_88 ∨ cn = 120) → s1_100 = so ∧ z1_101 = sz ∧ d1_102 = dr ∧ m1_103 = mn ∧ f1_104 = fr ∧ t1_105 = tt ∧ w1_106 = wt ∧ o1_107 = co := hhq931
                  have hhq932 : m1_88 ≤ 60 ∧ cn < 120 → h_97 = cn ∧ v_98 = v_8 ∧ c1_99 = cn + 1 := hhq932
                  have hhq933 : m1_88 ≤ 60 ∧ cn < 120 → s1_100 = fup so (Int.toNat cn) 1 ∧ z1_101 = fup sz (Int.toNat cn) (mn (Int.toNat x1)) ∧ d1_102 = fup dr (Int.toNat cn) u106_0 ∧ m1_103 = fup mn (Int.toNat cn) m1_88 ∧ f1_104 = kcF nf1_84 fr (Int.toNat (60 * cn)) (Int.toNat m1_88) ∧ t1_105 = kcF nt1_85 tt (Int.toNat (60 * cn)) (Int.toNat m1_88) ∧ w1_106 = kcF nw1_86 wt (Int.toNat (60 * cn)) (Int.toNat m1_88) ∧ o1_107 = kcF nc1_87 co (Int.toNat (60 * cn)) (Int.toNat m1_88) := hhq933
                  change Rn _ _ _ 151 _ [.int (iv h_97)] _ _ _ _ _
                  obtain ⟨hRKm, hDFm, hhm⟩ := RK_made (x1 := mn (Int.toNat x1)) (x2 := u106_0) (RK_set hk (by omega) (by omega)) (by omega) (by omega) (fun _ => hhq801) hhq930 hhq931 hhq932 hhq933
                  exact r_iret (pc := 151) dX12_view_151 rfl ⟨rfl, v_98, c1_99, m1_88, s1_100, z1_101, d1_102, m1_103, f1_104, t1_105, w1_106, o1_107, nu, qi, qc, nf1_84, nt1_85, nw1_86, nc1_87, h_97, ht95, rfl, (by (first | assumption | exact RK_set hk (by omega) (by omega))), (by (first | assumption | exact df_r _ _ _ _ _ _ _)), (by omega)⟩
              · refine r_aload_n (pc := 114) dX12_view_114 (i := 0) rfl rfl ?_
                refine r_iload_n (pc := 115) dX12_view_115 (i := 1) rfl rfl ?_
                obtain ⟨fs112, hfs112⟩ := t_obj ht106 (rd_of RG_y)
                refine r_callV (pc := 116) (as := [.int (iv x1)]) (st := []) kX12_187 rfl dX12_view_116 hfs112 (s_X12_square (d := d - 1) (x1 := x1) (by omega) (by assumption) (by assumption) (by assumption) (by assumption) (by assumption) (by assumption) ht106 (by omega) (by omega)) rfl (by omega) (Nat.le_of_ble_eq_true rfl) (Nat.zero_le _) (Nat.zero_le _) rfl (fun r109 hp108 n110 hq111 => ?_)
                obtain ⟨hnn110, nf1_115, nt1_116, nw1_117, nc1_118, m1_119, ht113, hrr109, hhq1110, hhq1111⟩ := hq111
                subst n110 r109
                have hhq1110 : 0 ≤ m1_119 ∧ m1_119 ≤ 256 := hhq1110
                have hhq1111 : arP nf1_115 nt1_116 nw1_117 nc1_118 m1_119 (sz (Int.toNat x1)) := hhq1111
                change Rn _ _ _ 119 _ [] _ _ _ _ _
                refine r_aload_n (pc := 119) dX12_view_119 (i := 0) rfl rfl ?_
                refine r_iload (pc := 120) dX12_view_120 rfl ?_
                refine r_iload (pc := 122) dX12_view_122 rfl ?_
                obtain ⟨fs124, hfs124⟩ := t_obj ht113 (rd_of RG_y)
                refine r_callV (pc := 124) (as := [.int (iv (sz (Int.toNat x1))), .int (iv u106_0)]) (st := []) kX12_179 rfl dX12_view_124 hfs124 (s_X12_made (d := d - 1) (x1 := sz (Int.toNat x1)) (x2 := u106_0) (by omega) (RK_set hk (by omega) (by omega)) ht113 (by omega) (by omega) (fun _ => hhq1111)) rfl (by omega) (Nat.le_of_ble_eq_true rfl) (Nat.zero_le _) (Nat.zero_le _) rfl (fun r121 hp120 n122 hq123 => ?_)
                obtain ⟨hnn122, h_127, v_128, c1_129, s1_130, z1_131, d1_132, m1_133, f1_134, t1_135, w1_136, o1_137, ht125, hrr121, hhq1230, hhq1231, hhq1232, hhq1233⟩ := hq123
                subst n122 r121
                have hhq1230 : (60 < m1_119 ∨ cn = 120) → h_127 = -4 ∧ v_128 = -4 ∧ c1_129 = cn := hhq1230
                have hhq1231 : (60 < m1_119 ∨ cn = 120) → s1_130 = so ∧ z1_131 = sz ∧ d1_132 = dr ∧ m1_133 = mn ∧ f1_134 = fr ∧ t1_135 = tt ∧ w1_136 = wt ∧ o1_137 = co := hhq1231
                have hhq1232 : m1_119 ≤ 60 ∧ cn < 120 → h_127 = cn ∧ v_128 = v_8 ∧ c1_129 = cn + 1 := hhq1232
                have hhq1233 : m1_119 ≤ 60 ∧ cn < 120 → s1_130 = fup so (Int.toNat cn) 1 ∧ z1_131 = fup sz (Int.toNat cn) (sz (Int.toNat x1)) ∧ d1_132 = fup dr (Int.toNat cn) u106_0 ∧ m1_133 = fup mn (Int.toNat cn) m1_119 ∧ f1_134 = kcF nf1_115 fr (Int.toNat (60 * cn)) (Int.toNat m1_119) ∧ t1_135 = kcF nt1_116 tt (Int.toNat (60 * cn)) (Int.toNat m1_119) ∧ w1_136 = kcF nw1_117 wt (Int.toNat (60 * cn)) (Int.toNat m1_119) ∧ o1_137 = kcF nc1_118 co (Int.toNat (60 * cn)) (Int.toNat m1_119) := hhq1233
                change Rn _ _ _ 127 _ [.int (iv h_127)] _ _ _ _ _
                obtain ⟨hRKm, hDFm, hhm⟩ := RK_made (x1 := sz (Int.toNat x1)) (x2 := u106_0) (RK_set hk (by omega) (by omega)) (by omega) (by omega) (fun _ => hhq1111) hhq1230 hhq1231 hhq1232 hhq1233
                exact r_iret (pc := 127) dX12_view_127 rfl ⟨rfl, v_128, c1_129, m1_119, s1_130, z1_131, d1_132, m1_133, f1_134, t1_135, w1_136, o1_137, nu, qi, qc, nf1_115, nt1_116, nw1_117, nc1_118, h_127, ht125, rfl, (by (first | assumption | exact RK_set hk (by omega) (by omega))), (by (first | assumption | exact df_r _ _ _ _ _ _ _)), (by omega)⟩
            have B105 : ∀ hp105 : MH, Tw (RG Γ cI cJ cZ y v_8 cn 0 so sz dr mn fr tt wt co nu qi qc nf nt nw nc) hp105 → True → Rn (gG D cI cJ cZ cT lo b L xs) mX12_view d 105 [(0, .ref y), (1, .int (iv x1)), (2, .int (iv x2)), (3, .int (iv x3)), (4, .int (iv (sz (Int.toNat x1))))] [] hp105 n 0 0 (q_X12_view Γ cI cJ cZ y n rf cn nm so sz dr mn fr tt wt co nu qi qc nf nt nw nc x1 x2 x3) := by
              intro hp105 ht105 hf105
              refine r_iconst (pc := 105) (v := iv 0) dX12_view_105 (by decide) ?_
              refine Rn.pick (lv' := [(0, .ref y), (1, .int (iv x1)), (2, .int (iv x2)), (3, .int (iv x3)), (4, .int (iv (sz (Int.toNat x1))))]) [0, 1, 2, 3, 4] rfl ?_
              exact B106 _ ht105 0 ⟨by omega, by omega⟩
            refine t_if_eq (pc := 93) (tgt := 105) dX12_view_93 (by decide) (by omega) (fun c93 => ?_) (fun c93 => ?_)
            · refine Rn.pick (lv' := [(0, .ref y), (1, .int (iv x1)), (2, .int (iv x2)), (3, .int (iv x3)), (4, .int (iv (sz (Int.toNat x1))))]) [0, 1, 2, 3, 4] rfl ?_
              exact B105 _ ht20 trivial
            · refine r_iload_n (pc := 96) dX12_view_96 (i := 2) rfl rfl ?_
              refine r_iconst (pc := 97) (v := iv 1) dX12_view_97 (by decide) ?_
              refine t_icmp_eq (pc := 98) (tgt := 105) dX12_view_98 (by decide) (by omega) (by omega) (fun c98 => ?_) (fun c98 => ?_)
              · refine Rn.pick (lv' := [(0, .ref y), (1, .int (iv x1)), (2, .int (iv x2)), (3, .int (iv x3)), (4, .int (iv (sz (Int.toNat x1))))]) [0, 1, 2, 3, 4] rfl ?_
                exact B105 _ ht20 trivial
              · refine r_iconst (pc := 101) (v := iv 1) dX12_view_101 (by decide) ?_
                refine r_goto (pc := 102) (tgt := 106) dX12_view_102 (by decide) ?_
                refine Rn.pick (lv' := [(0, .ref y), (1, .int (iv x1)), (2, .int (iv x2)), (3, .int (iv x3)), (4, .int (iv (sz (Int.toNat x1))))]) [0, 1, 2, 3, 4] rfl ?_
                exact B106 _ ht20 1 ⟨by omega, by omega⟩
          refine t_icmp_ne (pc := 52) (tgt := 82) dX12_view_52 (by decide) (by omega) (by omega) (fun c52 => ?_) (fun c52 => ?_)
          · refine Rn.pick (lv' := [(0, .ref y), (1, .int (iv x1)), (2, .int (iv x2)), (3, .int (iv x3)), (4, .int (iv (sz (Int.toNat x1))))]) [0, 1, 2, 3, 4] rfl ?_
            exact B82 _ ht49 ⟨by omega, by omega⟩
          · refine r_aload_n (pc := 55) dX12_view_55 (i := 0) rfl rfl ?_
            refine t_getE (pc := 56) (.ref (y + 4)) ht49 (rd_of RG_y) fX12_20 dX12_view_56 rfl ?_
            refine r_iload_n (pc := 59) dX12_view_59 (i := 1) rfl rfl ?_
            refine t_ialdX (pc := 60) (t0 := 0) ht49 (rd_of RG_many) dX12_view_60 rfl (by decide) (by omega) (fun b138 => ?_)
            have rb138 := (show Rfx 121 0 60 mn by assumption) (Int.toNat x1) (by omega)
            refine t_if_eq (pc := 61) (tgt := 75) dX12_view_61 (by decide) (by omega) (fun c61 => ?_) (fun c61 => ?_)
            · refine Rn.pick (lv' := [(0, .ref y)]) [0] rfl ?_
              exact B75 _ ht49 trivial
            · refine r_aload_n (pc := 64) dX12_view_64 (i := 0) rfl rfl ?_
              refine t_getE (pc := 65) (.ref (y + 4)) ht49 (rd_of RG_y) fX12_20 dX12_view_65 rfl ?_
              refine r_iload_n (pc := 68) dX12_view_68 (i := 1) rfl rfl ?_
              refine t_ialdX (pc := 69) (t0 := 0) ht49 (rd_of RG_many) dX12_view_69 rfl (by decide) (by omega) (fun b139 => ?_)
              have rb139 := (show Rfx 121 0 60 mn by assumption) (Int.toNat x1) (by omega)
              refine r_bipush (pc := 70) (v := iv 16) dX12_view_70 (by decide) ?_
              refine t_icmp_le (pc := 72) (tgt := 82) dX12_view_72 (by decide) (by omega) (by omega) (fun c72 => ?_) (fun c72 => ?_)
              · refine Rn.pick (lv' := [(0, .ref y), (1, .int (iv x1)), (2, .int (iv x2)), (3, .int (iv x3)), (4, .int (iv (sz (Int.toNat x1))))]) [0, 1, 2, 3, 4] rfl ?_
                exact B82 _ ht49 ⟨by omega, by omega⟩
              · refine Rn.pick (lv' := [(0, .ref y)]) [0] rfl ?_
                exact B75 _ ht49 trivial
        refine t_icmp_ne (pc := 34) (tgt := 49) dX12_view_34 (by decide) (by omega) (by omega) (fun c34 => ?_) (fun c34 => ?_)
        · refine Rn.pick (lv' := [(0, .ref y), (1, .int (iv x1)), (2, .int (iv x2)), (3, .int (iv x3)), (4, .int (iv (sz (Int.toNat x1))))]) [1, 2, 3, 4, 0] rfl ?_
          exact B49 _ ht6 (by omega)
        · refine r_iload_n (pc := 37) dX12_view_37 (i := 3) rfl rfl ?_
          refine t_if_le (pc := 38) (tgt := 75) dX12_view_38 (by decide) (by omega) (fun c38 => ?_) (fun c38 => ?_)
          · refine Rn.pick (lv' := [(0, .ref y)]) [1] rfl ?_
            exact B75 _ ht6 trivial
          · refine r_iload_n (pc := 41) dX12_view_41 (i := 3) rfl rfl ?_
            refine r_iconst (pc := 42) (v := iv 1) dX12_view_42 (by decide) ?_
            refine r_iload (pc := 43) dX12_view_43 rfl ?_
            obtain ⟨z140, hz140, bz140⟩ := shl_1 0 16 (sz (Int.toNat x1)) (by omega) (by omega) (by decide)
            refine r_ishl (pc := 45) (v := iv z140) dX12_view_45 hz140 ?_
            refine t_icmp_ge (pc := 46) (tgt := 75) dX12_view_46 (by decide) (by omega) (by omega) (fun c46 => ?_) (fun c46 => ?_)
            · refine Rn.pick (lv' := [(0, .ref y)]) [1] rfl ?_
              exact B75 _ ht6 trivial
            · refine Rn.pick (lv' := [(0, .ref y), (1, .int (iv x1)), (2, .int (iv x2)), (3, .int (iv x3)), (4, .int (iv (sz (Int.toNat x1))))]) [1, 2, 3, 4, 0] rfl ?_
              exact B49 _ ht6 (by omega)
  · refine r_aload_n (pc := 9) dX12_view_9 (i := 0) rfl rfl ?_
    refine t_getE (pc := 10) (.int (iv v_8)) ht6 (rd_of RG_y) fX12_142 dX12_view_10 rfl ?_
    exact r_iret (pc := 13) dX12_view_13 rfl ⟨rfl, v_8, cn, nm, so, sz, dr, mn, fr, tt, wt, co, nu, qi, qc, nf, nt, nw, nc, v_8, ht6, rfl, (by (first | assumption | exact RK_set hk (by omega) (by omega))), (by (first | assumption | exact df_r _ _ _ _ _ _ _)), (by omega)⟩
def q_X12_join (Γ : TG) (cI cJ cZ : ClassId) (y n : Nat) (rf cn nm : Int) (so sz dr mn fr tt wt co : Nat → Int) (nu : Nat → Int64) (qi qc nf nt nw nc : Nat → Int) (x1 x2 x3 : Int) : Option Value → MH → Nat → Prop := fun r hp1 n1 => n1 = n ∧ ∃ (rf' : Int) (cn' : Int) (nm' : Int) (so' : Nat → Int) (sz' : Nat → Int) (dr' : Nat → Int) (mn' : Nat → Int) (fr' : Nat → Int) (tt' : Nat → Int) (wt' : Nat → Int) (co' : Nat → Int) (nu' : Nat → Int64) (qi' : Nat → Int) (qc' : Nat → Int) (nf' : Nat → Int) (nt' : Nat → Int) (nw' : Nat → Int) (nc' : Nat → Int) (v' : Int), Tw (RG Γ cI cJ cZ y rf' cn' nm' so' sz' dr' mn' fr' tt' wt' co' nu' qi' qc' nf' nt' nw' nc') hp1 ∧ r = some (.int (iv v')) ∧ (RK rf' cn' nm' so' sz' dr' mn' fr' tt' wt' co' nu' qi' qc' nf' nt' nw' nc') ∧ (dfE sz dr mn fr tt wt co sz' dr' mn' fr' tt' wt' co') ∧ (-2147483648 ≤ v' ∧ v' ≤ 2147483647)
set_option maxHeartbeats 4000000 in
set_option maxRecDepth 100000 in
theorem s_X12_join {D : va_G} {cI cJ cZ cT : ClassId} {lo b L : Nat} {xs : Nat → Int32} {hp : MH} {n d : Nat} {Γ : TG} {y : Nat} {rf cn nm : Int} {so sz dr mn fr tt wt co : Nat → Int} {nu : Nat → Int64} {qi qc nf nt nw nc : Nat → Int} {x1 x2 x3 : Int} (hd0 : 3 ≤ d) (hk : RK rf cn nm so sz dr mn fr tt wt co nu qi qc nf nt nw nc) (ht : Tw (RG Γ cI cJ cZ y rf cn nm so sz dr mn fr tt wt co nu qi qc nf nt nw nc) hp) (hx1 : (-2147483648) ≤ x1 ∧ x1 ≤ 2147483647) (hx2 : (-2147483648) ≤ x2 ∧ x2 ≤ 2147483647) (hx3 : 0 ≤ x3 ∧ x3 ≤ 1) : Mt (gG D cI cJ cZ cT lo b L xs) mX12_join d 0 0 [.ref y, .int (iv x1), .int (iv x2), .int (iv x3)] hp n (q_X12_join Γ cI cJ cZ y n rf cn nm so sz dr mn fr tt wt co nu qi qc nf nt nw nc x1 x2 x3) := by
  refine Mt.of rfl (Nat.le_of_ble_eq_true rfl) ?_
  refine Rn.pick (lv' := [(0, .ref y), (1, .int (iv x1)), (2, .int (iv x2)), (3, .int (iv x3))]) [0, 1, 2, 3] rfl ?_
  obtain ⟨hR_sorts, hR_sizes, hR_directs, hR_many, hR_from, hR_to, hR_weight, hR_cost, hR_inPart, hR_partCount, hcn, hrf, hnm, hdf, hgr, hpa, hsz⟩ := id hk
  refine r_aload_n (pc := 0) dX12_join_0 (i := 0) rfl rfl ?_
  refine r_iload_n (pc := 1) dX12_join_1 (i := 1) rfl rfl ?_
  refine r_iconst (pc := 2) (v := iv 1) dX12_join_2 (by decide) ?_
  refine r_iload_n (pc := 3) dX12_join_3 (i := 2) rfl rfl ?_
  refine r_iload_n (pc := 4) dX12_join_4 (i := 3) rfl rfl ?_
  have B13 : ∀ hp13 : MH, Tw (RG Γ cI cJ cZ y rf cn nm so sz dr mn fr tt wt co nu qi qc nf nt nw nc) hp13 → ∀  (u13_4 : Int), 1 ≤ u13_4 ∧ u13_4 ≤ 4 ∧ ((x3 = 0 ∧ u13_4 = 1) ∨ (x3 ≠ 0 ∧ u13_4 = 4)) → Rn (gG D cI cJ cZ cT lo b L xs) mX12_join d 13 [(0, .ref y), (1, .int (iv x1)), (2, .int (iv x2)), (3, .int (iv x3))] [.int (iv u13_4), .int (iv x2), .int (iv 1), .int (iv x1), .ref y] hp13 n 0 0 (q_X12_join Γ cI cJ cZ y n rf cn nm so sz dr mn fr tt wt co nu qi qc nf nt nw nc x1 x2 x3) := by
    intro hp13 ht13 u13_4 hf13
    obtain ⟨fs5, hfs5⟩ := t_obj ht13 (rd_of RG_y)
    refine r_callV (pc := 13) (as := [.int (iv x1), .int (iv 1), .int (iv x2), .int (iv u13_4)]) (st := []) kX12_209 rfl dX12_join_13 hfs5 (s_X12_haveTwo (d := d - 1) (x1 := x1) (x2 := 1) (x3 := x2) (x4 := u13_4) (by omega) (by omega) (by assumption) ht13 (by omega) (by omega) (by omega) (by omega)) rfl (by omega) (Nat.le_of_ble_eq_true rfl) (Nat.zero_le _) (Nat.zero_le _) rfl (fun r2 hp1 n3 hq4 => ?_)
    obtain ⟨hnn3, v_8, b_9, ht6, hrr2, hhq40, hhq41⟩ := hq4
    subst n3 r2
    have hhq40 : -2 ≤ v_8 ∧ v_8 ≤ 0 ∧ (b_9 = 0 ∨ b_9 = 1) := hhq40
    have hhq41 : (b_9 = 1 ∧ v_8 = 0 ∧ 0 ≤ x1 ∧ x1 < cn ∧ 0 ≤ x2 ∧ x2 < cn ∧ so (Int.toNat x1) = 1 ∧ so (Int.toNat x2) = u13_4) ∨ (b_9 = 0 ∧ v_8 = -1 ∧ ¬ (0 ≤ x1 ∧ x1 < cn ∧ 0 ≤ x2 ∧ x2 < cn)) ∨ (b_9 = 0 ∧ v_8 = -2 ∧ 0 ≤ x1 ∧ x1 < cn ∧ 0 ≤ x2 ∧ x2 < cn ∧ ¬ (so (Int.toNat x1) = 1 ∧ so (Int.toNat x2) = u13_4)) := hhq41
    change Rn _ _ _ 16 _ [.int (iv b_9)] _ _ _ _ _
    refine t_if_ne (pc := 16) (tgt := 24) dX12_join_16 (by decide) (by omega) (fun c16 => ?_) (fun c16 => ?_)
    · have rsz16 := hR_sizes (Int.toNat x1) (by omega)
      have rsy16 := hsz x1 (by omega) (by omega)
      have hen := hgr x1 (by omega) (by omega) (by omega)
      have rmn16 := hR_many (Int.toNat x1) (by omega)
      have rsw16 := hR_sizes (Int.toNat x2) (by omega)
      have rsx16 := hsz x2 (by omega) (by omega)
      refine r_aload_n (pc := 24) dX12_join_24 (i := 0) rfl rfl ?_
      refine r_iconst (pc := 25) (v := iv 0) dX12_join_25 (by decide) ?_
      refine t_putX (pc := 26) (ty := .int) ht6 RG_y fX12_165 tyX12 tyX12_ok nmX12 (by decide +kernel) (Or.inl rfl) dX12_join_26 (Nat.le_of_ble_eq_true rfl) rfl rfl rfl (fun hp10 ht11 => ?_)
      have ht12 := RGw_nm ht11
      have ha0 : arP nf nt nw nc 0 (qc (Int.toNat x2)) := ar_0 _ _ _ _ _
      have rqc := hR_partCount (Int.toNat x2) (by omega)
      have rmn2 := hR_many (Int.toNat x2) (by omega)
      refine r_iload_n (pc := 29) dX12_join_29 (i := 3) rfl rfl ?_
      refine t_if_eq (pc := 30) (tgt := 167) dX12_join_30 (by decide) (by omega) (fun c30 => ?_) (fun c30 => ?_)
      · refine r_aload_n (pc := 167) dX12_join_167 (i := 0) rfl rfl ?_
        refine t_getE (pc := 168) (.ref (y + 3)) ht12 (rd_of RG_y) fX12_16 dX12_join_168 rfl ?_
        refine r_iload_n (pc := 171) dX12_join_171 (i := 1) rfl rfl ?_
        refine t_zaldX (pc := 172) (t0 := 2) ht12 (rd_of RG_directs) dX12_join_172 rfl (by decide) (by omega) (fun b13 => ?_)
        have rb13 := (show Rfx 121 0 1 dr by assumption) (Int.toNat x1) (by omega)
        refine r_aload_n (pc := 173) dX12_join_173 (i := 0) rfl rfl ?_
        refine t_getE (pc := 174) (.ref (y + 3)) ht12 (rd_of RG_y) fX12_16 dX12_join_174 rfl ?_
        refine r_iload_n (pc := 177) dX12_join_177 (i := 2) rfl rfl ?_
        refine t_zaldX (pc := 178) (t0 := 2) ht12 (rd_of RG_directs) dX12_join_178 rfl (by decide) (by omega) (fun b14 => ?_)
        have rb14 := (show Rfx 121 0 1 dr by assumption) (Int.toNat x2) (by omega)
        refine t_icmp_eq (pc := 179) (tgt := 189) dX12_join_179 (by decide) (by omega) (by omega) (fun c179 => ?_) (fun c179 => ?_)
        · refine r_aload_n (pc := 189) dX12_join_189 (i := 0) rfl rfl ?_
          refine t_getE (pc := 190) (.ref (y + 2)) ht12 (rd_of RG_y) fX12_13 dX12_join_190 rfl ?_
          refine r_iload_n (pc := 193) dX12_join_193 (i := 1) rfl rfl ?_
          refine t_ialdX (pc := 194) (t0 := 0) ht12 (rd_of RG_sizes) dX12_join_194 rfl (by decide) (by omega) (fun b15 => ?_)
          have rb15 := (show Rfx 121 0 16 sz by assumption) (Int.toNat x1) (by omega)
          refine r_aload_n (pc := 195) dX12_join_195 (i := 0) rfl rfl ?_
          refine t_getE (pc := 196) (.ref (y + 2)) ht12 (rd_of RG_y) fX12_13 dX12_join_196 rfl ?_
          refine r_iload_n (pc := 199) dX12_join_199 (i := 2) rfl rfl ?_
          refine t_ialdX (pc := 200) (t0 := 0) ht12 (rd_of RG_sizes) dX12_join_200 rfl (by decide) (by omega) (fun b16 => ?_)
          have rb16 := (show Rfx 121 0 16 sz by assumption) (Int.toNat x2) (by omega)
          refine r_iadd (pc := 201) (v := iv ((sz (Int.toNat x1)) + (sz (Int.toNat x2)))) dX12_join_201 (iv_add _ _) ?_
          refine r_bipush (pc := 202) (v := iv 16) dX12_join_202 (by decide) ?_
          refine t_icmp_le (pc := 204) (tgt := 214) dX12_join_204 (by decide) (by omega) (by omega) (fun c204 => ?_) (fun c204 => ?_)
          · refine r_aload_n (pc := 214) dX12_join_214 (i := 0) rfl rfl ?_
            refine r_iload_n (pc := 215) dX12_join_215 (i := 1) rfl rfl ?_
            refine r_iconst (pc := 216) (v := iv 0) dX12_join_216 (by decide) ?_
            obtain ⟨fs21, hfs21⟩ := t_obj ht12 (rd_of RG_y)
            refine r_callV (pc := 217) (as := [.int (iv x1), .int (iv 0)]) (st := []) kX12_175 rfl dX12_join_217 hfs21 (s_X12_copyArcs (d := d - 1) (x1 := x1) (x2 := 0) (by omega) (by assumption) (by assumption) (by assumption) (by assumption) (by assumption) ht12 (by omega) (by omega) (by omega)) rfl (by omega) (Nat.le_of_ble_eq_true rfl) (Nat.zero_le _) (Nat.zero_le _) rfl (fun r18 hp17 n19 hq20 => ?_)
            obtain ⟨hnn19, nf1_24, nt1_25, nw1_26, nc1_27, m1_28, ht22, hrr18, hhq200, hhq201, hhq202, hhq203, hhq204⟩ := hq20
            subst n19 r18
            have hhq200 : m1_28 = 0 + mn (Int.toNat x1) := hhq200
            have hhq201 : nf1_24 = kcF (fun i : Nat => fr (Int.toNat (60 * x1 + (i : Int))) + 0) nf (Int.toNat 0) (Int.toNat (mn (Int.toNat x1))) := hhq201
            have hhq202 : nt1_25 = kcF (fun i : Nat => tt (Int.toNat (60 * x1 + (i : Int))) + 0) nt (Int.toNat 0) (Int.toNat (mn (Int.toNat x1))) := hhq202
            have hhq203 : nw1_26 = kcF (fun i : Nat => wt (Int.toNat (60 * x1 + (i : Int)))) nw (Int.toNat 0) (Int.toNat (mn (Int.toNat x1))) := hhq203
            have hhq204 : nc1_27 = kcF (fun i : Nat => co (Int.toNat (60 * x1 + (i : Int)))) nc (Int.toNat 0) (Int.toNat (mn (Int.toNat x1))) := hhq204
            change Rn _ _ _ 220 _ [] _ _ _ _ _
            have hap1 : arP nf1_24 nt1_25 nw1_26 nc1_27 m1_28 (sz (Int.toNat x1) + sz (Int.toNat x2)) := ar_cp (s := 0) (g := x1) (ar_0 _ _ _ _ _) (by omega) (by omega) hhq200 hhq201 hhq202 hhq203 hhq204 hen.2 hR_many hR_from hR_to hR_weight hR_cost (by omega)
            refine r_aload_n (pc := 220) dX12_join_220 (i := 0) rfl rfl ?_
            refine r_iload_n (pc := 221) dX12_join_221 (i := 2) rfl rfl ?_
            refine r_aload_n (pc := 222) dX12_join_222 (i := 0) rfl rfl ?_
            refine t_getE (pc := 223) (.ref (y + 2)) ht22 (rd_of RG_y) fX12_13 dX12_join_223 rfl ?_
            refine r_iload_n (pc := 226) dX12_join_226 (i := 1) rfl rfl ?_
            refine t_ialdX (pc := 227) (t0 := 0) ht22 (rd_of RG_sizes) dX12_join_227 rfl (by decide) (by omega) (fun b29 => ?_)
            have rb29 := (show Rfx 121 0 16 sz by assumption) (Int.toNat x1) (by omega)
            obtain ⟨fs34, hfs34⟩ := t_obj ht22 (rd_of RG_y)
            refine r_callV (pc := 228) (as := [.int (iv x2), .int (iv (sz (Int.toNat x1)))]) (st := []) kX12_175 rfl dX12_join_228 hfs34 (s_X12_copyArcs (d := d - 1) (x1 := x2) (x2 := sz (Int.toNat x1)) (by omega) (by assumption) (by assumption) (by assumption) (by assumption) (by assumption) ht22 (by omega) (by omega) (by omega)) rfl (by omega) (Nat.le_of_ble_eq_true rfl) (Nat.zero_le _) (Nat.zero_le _) rfl (fun r31 hp30 n32 hq33 => ?_)
            obtain ⟨hnn32, nf1_37, nt1_38, nw1_39, nc1_40, m1_41, ht35, hrr31, hhq330, hhq331, hhq332, hhq333, hhq334⟩ := hq33
            subst n32 r31
            have hhq330 : m1_41 = m1_28 + mn (Int.toNat x2) := hhq330
            have hhq331 : nf1_37 = kcF (fun i : Nat => fr (Int.toNat (60 * x2 + (i : Int))) + (sz (Int.toNat x1))) nf1_24 (Int.toNat m1_28) (Int.toNat (mn (Int.toNat x2))) := hhq331
            have hhq332 : nt1_38 = kcF (fun i : Nat => tt (Int.toNat (60 * x2 + (i : Int))) + (sz (Int.toNat x1))) nt1_25 (Int.toNat m1_28) (Int.toNat (mn (Int.toNat x2))) := hhq332
            have hhq333 : nw1_39 = kcF (fun i : Nat => wt (Int.toNat (60 * x2 + (i : Int)))) nw1_26 (Int.toNat m1_28) (Int.toNat (mn (Int.toNat x2))) := hhq333
            have hhq334 : nc1_40 = kcF (fun i : Nat => co (Int.toNat (60 * x2 + (i : Int)))) nc1_27 (Int.toNat m1_28) (Int.toNat (mn (Int.toNat x2))) := hhq334
            change Rn _ _ _ 231 _ [] _ _ _ _ _
            have hap2 : arP nf1_37 nt1_38 nw1_39 nc1_40 m1_41 (sz (Int.toNat x1) + sz (Int.toNat x2)) := ar_cp (s := (sz (Int.toNat x1))) (g := x2) hap1 (by omega) (by omega) hhq330 hhq331 hhq332 hhq333 hhq334 (hgr x2 (by omega) (by omega) (by omega)).2 hR_many hR_from hR_to hR_weight hR_cost (by omega)
            refine r_aload_n (pc := 231) dX12_join_231 (i := 0) rfl rfl ?_
            refine r_aload_n (pc := 232) dX12_join_232 (i := 0) rfl rfl ?_
            refine t_getE (pc := 233) (.ref (y + 2)) ht35 (rd_of RG_y) fX12_13 dX12_join_233 rfl ?_
            refine r_iload_n (pc := 236) dX12_join_236 (i := 1) rfl rfl ?_
            refine t_ialdX (pc := 237) (t0 := 0) ht35 (rd_of RG_sizes) dX12_join_237 rfl (by decide) (by omega) (fun b42 => ?_)
            have rb42 := (show Rfx 121 0 16 sz by assumption) (Int.toNat x1) (by omega)
            refine r_aload_n (pc := 238) dX12_join_238 (i := 0) rfl rfl ?_
            refine t_getE (pc := 239) (.ref (y + 2)) ht35 (rd_of RG_y) fX12_13 dX12_join_239 rfl ?_
            refine r_iload_n (pc := 242) dX12_join_242 (i := 2) rfl rfl ?_
            refine t_ialdX (pc := 243) (t0 := 0) ht35 (rd_of RG_sizes) dX12_join_243 rfl (by decide) (by omega) (fun b43 => ?_)
            have rb43 := (show Rfx 121 0 16 sz by assumption) (Int.toNat x2) (by omega)
            refine r_iadd (pc := 244) (v := iv ((sz (Int.toNat x1)) + (sz (Int.toNat x2)))) dX12_join_244 (iv_add _ _) ?_
            refine r_aload_n (pc := 245) dX12_join_245 (i := 0) rfl rfl ?_
            refine t_getE (pc := 246) (.ref (y + 3)) ht35 (rd_of RG_y) fX12_16 dX12_join_246 rfl ?_
            refine r_iload_n (pc := 249) dX12_join_249 (i := 1) rfl rfl ?_
            refine t_zaldX (pc := 250) (t0 := 2) ht35 (rd_of RG_directs) dX12_join_250 rfl (by decide) (by omega) (fun b44 => ?_)
            have rb44 := (show Rfx 121 0 1 dr by assumption) (Int.toNat x1) (by omega)
            obtain ⟨fs49, hfs49⟩ := t_obj ht35 (rd_of RG_y)
            refine r_callV (pc := 251) (as := [.int (iv ((sz (Int.toNat x1)) + (sz (Int.toNat x2)))), .int (iv (dr (Int.toNat x1)))]) (st := []) kX12_179 rfl dX12_join_251 hfs49 (s_X12_made (d := d - 1) (x1 := (sz (Int.toNat x1)) + (sz (Int.toNat x2))) (x2 := dr (Int.toNat x1)) (by omega) (RK_set hk (by omega) (by omega)) ht35 (by omega) (by omega) (fun _ => hap2)) rfl (by omega) (Nat.le_of_ble_eq_true rfl) (Nat.zero_le _) (Nat.zero_le _) rfl (fun r46 hp45 n47 hq48 => ?_)
            obtain ⟨hnn47, h_52, v_53, c1_54, s1_55, z1_56, d1_57, m1_58, f1_59, t1_60, w1_61, o1_62, ht50, hrr46, hhq480, hhq481, hhq482, hhq483⟩ := hq48
            subst n47 r46
            have hhq480 : (60 < m1_41 ∨ cn = 120) → h_52 = -4 ∧ v_53 = -4 ∧ c1_54 = cn := hhq480
            have hhq481 : (60 < m1_41 ∨ cn = 120) → s1_55 = so ∧ z1_56 = sz ∧ d1_57 = dr ∧ m1_58 = mn ∧ f1_59 = fr ∧ t1_60 = tt ∧ w1_61 = wt ∧ o1_62 = co := hhq481
            have hhq482 : m1_41 ≤ 60 ∧ cn < 120 → h_52 = cn ∧ v_53 = v_8 ∧ c1_54 = cn + 1 := hhq482
            have hhq483 : m1_41 ≤ 60 ∧ cn < 120 → s1_55 = fup so (Int.toNat cn) 1 ∧ z1_56 = fup sz (Int.toNat cn) ((sz (Int.toNat x1)) + (sz (Int.toNat x2))) ∧ d1_57 = fup dr (Int.toNat cn) (dr (Int.toNat x1)) ∧ m1_58 = fup mn (Int.toNat cn) m1_41 ∧ f1_59 = kcF nf1_37 fr (Int.toNat (60 * cn)) (Int.toNat m1_41) ∧ t1_60 = kcF nt1_38 tt (Int.toNat (60 * cn)) (Int.toNat m1_41) ∧ w1_61 = kcF nw1_39 wt (Int.toNat (60 * cn)) (Int.toNat m1_41) ∧ o1_62 = kcF nc1_40 co (Int.toNat (60 * cn)) (Int.toNat m1_41) := hhq483
            change Rn _ _ _ 254 _ [.int (iv h_52)] _ _ _ _ _
            obtain ⟨hRKm, hDFm, hhm⟩ := RK_made (x1 := (sz (Int.toNat x1)) + (sz (Int.toNat x2))) (x2 := dr (Int.toNat x1)) (RK_set hk (by omega) (by omega)) (by omega) (by omega) (fun _ => hap2) hhq480 hhq481 hhq482 hhq483
            exact r_iret (pc := 254) dX12_join_254 rfl ⟨rfl, v_53, c1_54, m1_41, s1_55, z1_56, d1_57, m1_58, f1_59, t1_60, w1_61, o1_62, nu, qi, qc, nf1_37, nt1_38, nw1_39, nc1_40, h_52, ht50, rfl, (by (first | assumption | exact RK_set hk (by omega) (by omega))), (by (first | assumption | exact df_r _ _ _ _ _ _ _)), (by omega)⟩
          · refine r_aload_n (pc := 207) dX12_join_207 (i := 0) rfl rfl ?_
            refine r_bipush (pc := 208) (v := iv (-4)) dX12_join_208 (by decide) ?_
            obtain ⟨fs67, hfs67⟩ := t_obj ht12 (rd_of RG_y)
            refine r_callV (pc := 210) (as := [.int (iv (-4))]) (st := []) kX12_153 rfl dX12_join_210 hfs67 (s_X12_refuse (d := d - 1) (x1 := (-4)) (by omega) ht12 (by omega)) rfl (by omega) (Nat.le_of_ble_eq_true rfl) (Nat.zero_le _) (Nat.zero_le _) rfl (fun r64 hp63 n65 hq66 => ?_)
            obtain ⟨hnn65, ht68, hrr64⟩ := hq66
            subst n65 r64
            change Rn _ _ _ 213 _ [.int (iv (-4))] _ _ _ _ _
            exact r_iret (pc := 213) dX12_join_213 rfl ⟨rfl, (-4), cn, 0, so, sz, dr, mn, fr, tt, wt, co, nu, qi, qc, nf, nt, nw, nc, (-4), ht68, rfl, (by (first | assumption | exact RK_set hk (by omega) (by omega))), (by (first | assumption | exact df_r _ _ _ _ _ _ _)), (by omega)⟩
        · refine r_aload_n (pc := 182) dX12_join_182 (i := 0) rfl rfl ?_
          refine r_bipush (pc := 183) (v := iv (-3)) dX12_join_183 (by decide) ?_
          obtain ⟨fs74, hfs74⟩ := t_obj ht12 (rd_of RG_y)
          refine r_callV (pc := 185) (as := [.int (iv (-3))]) (st := []) kX12_153 rfl dX12_join_185 hfs74 (s_X12_refuse (d := d - 1) (x1 := (-3)) (by omega) ht12 (by omega)) rfl (by omega) (Nat.le_of_ble_eq_true rfl) (Nat.zero_le _) (Nat.zero_le _) rfl (fun r71 hp70 n72 hq73 => ?_)
          obtain ⟨hnn72, ht75, hrr71⟩ := hq73
          subst n72 r71
          change Rn _ _ _ 188 _ [.int (iv (-3))] _ _ _ _ _
          exact r_iret (pc := 188) dX12_join_188 rfl ⟨rfl, (-3), cn, 0, so, sz, dr, mn, fr, tt, wt, co, nu, qi, qc, nf, nt, nw, nc, (-3), ht75, rfl, (by (first | assumption | exact RK_set hk (by omega) (by omega))), (by (first | assumption | exact df_r _ _ _ _ _ _ _)), (by omega)⟩
      · refine r_aload_n (pc := 33) dX12_join_33 (i := 0) rfl rfl ?_
        refine t_getE (pc := 34) (.ref (y + 2)) ht12 (rd_of RG_y) fX12_13 dX12_join_34 rfl ?_
        refine r_iload_n (pc := 37) dX12_join_37 (i := 1) rfl rfl ?_
        refine t_ialdX (pc := 38) (t0 := 0) ht12 (rd_of RG_sizes) dX12_join_38 rfl (by decide) (by omega) (fun b77 => ?_)
        have rb77 := (show Rfx 121 0 16 sz by assumption) (Int.toNat x1) (by omega)
        refine r_aload_n (pc := 39) dX12_join_39 (i := 0) rfl rfl ?_
        refine t_getE (pc := 40) (.ref (y + 2)) ht12 (rd_of RG_y) fX12_13 dX12_join_40 rfl ?_
        refine r_iload_n (pc := 43) dX12_join_43 (i := 2) rfl rfl ?_
        refine t_ialdX (pc := 44) (t0 := 0) ht12 (rd_of RG_sizes) dX12_join_44 rfl (by decide) (by omega) (fun b78 => ?_)
        have rb78 := (show Rfx 121 0 16 sz by assumption) (Int.toNat x2) (by omega)
        refine t_icmp_eq (pc := 45) (tgt := 55) dX12_join_45 (by decide) (by omega) (by omega) (fun c45 => ?_) (fun c45 => ?_)
        · refine r_iconst (pc := 55) (v := iv 0) dX12_join_55 (by decide) ?_
          refine r_istore (pc := 56) (lv' := [(4, .int (iv 0)), (0, .ref y), (1, .int (iv x1)), (2, .int (iv x2)), (3, .int (iv x3))]) dX12_join_56 (by decide) rfl ?_
          have B58 : ∀ k : Nat, ∀ nm58 : Int, ∀ nf58 : Nat → Int, ∀ nt58 : Nat → Int, ∀ nw58 : Nat → Int, ∀ nc58 : Nat → Int, ∀ hp58 : MH, Tw (RG Γ cI cJ cZ y v_8 cn nm58 so sz dr mn fr tt wt co nu qi qc nf58 nt58 nw58 nc58) hp58 → ∀  (v58_4 : Int), 0 ≤ v58_4 ∧ v58_4 ≤ 60 ∧ 0 ≤ nm58 ∧ nm58 ≤ 400 ∧ v58_4 ≤ (mn (Int.toNat x1)) ∧ nm58 ≤ v58_4 ∧ arP nf58 nt58 nw58 nc58 nm58 (qc (Int.toNat x2)) → 60 - v58_4 ≤ (k : Int) → Rn (gG D cI cJ cZ cT lo b L xs) mX12_join d 58 [(0, .ref y), (1, .int (iv x1)), (2, .int (iv x2)), (4, .int (iv v58_4))] [] hp58 n 0 0 (q_X12_join Γ cI cJ cZ y n rf cn nm so sz dr mn fr tt wt co nu qi qc nf nt nw nc x1 x2 x3) := by
            refine lpS _ ?_
            intro k58 ih58 nm58 nf58 nt58 nw58 nc58 hp58 ht58 v58_4 hf58 hm58
            obtain ⟨hf58_0, hf58_1, hf58_2, hf58_3, hf58_4, hf58_5, ha58_6⟩ := hf58
            refine r_iload (pc := 58) dX12_join_58 rfl ?_
            refine r_aload_n (pc := 60) dX12_join_60 (i := 0) rfl rfl ?_
            refine t_getE (pc := 61) (.ref (y + 4)) ht58 (rd_of RG_y) fX12_20 dX12_join_61 rfl ?_
            refine r_iload_n (pc := 64) dX12_join_64 (i := 1) rfl rfl ?_
            refine t_ialdX (pc := 65) (t0 := 0) ht58 (rd_of RG_many) dX12_join_65 rfl (by decide) (by omega) (fun b79 => ?_)
            have rb79 := (show Rfx 121 0 60 mn by assumption) (Int.toNat x1) (by omega)
            refine t_icmp_ge (pc := 66) (tgt := 150) dX12_join_66 (by decide) (by omega) (by omega) (fun c66 => ?_) (fun c66 => ?_)
            · refine r_aload_n (pc := 150) dX12_join_150 (i := 0) rfl rfl ?_
              refine r_aload_n (pc := 151) dX12_join_151 (i := 0) rfl rfl ?_
              refine t_getE (pc := 152) (.ref (y + 16)) ht58 (rd_of RG_y) fX12_57 dX12_join_152 rfl ?_
              refine r_iload_n (pc := 155) dX12_join_155 (i := 2) rfl rfl ?_
              refine t_ialdX (pc := 156) (t0 := 0) ht58 (rd_of RG_partCount) dX12_join_156 rfl (by decide) (by omega) (fun b80 => ?_)
              have rb80 := (show Rfx 121 0 16 qc by assumption) (Int.toNat x2) (by omega)
              have hq156 := hpa x2 (by omega) (by omega) (by omega) 0 (by omega) (by omega)
              have hr156 := hR_inPart (Int.toNat (16 * x2 + 0)) (by omega)
              refine r_aload_n (pc := 157) dX12_join_157 (i := 0) rfl rfl ?_
              refine t_getE (pc := 158) (.ref (y + 3)) ht58 (rd_of RG_y) fX12_16 dX12_join_158 rfl ?_
              refine r_iload_n (pc := 161) dX12_join_161 (i := 1) rfl rfl ?_
              refine t_zaldX (pc := 162) (t0 := 2) ht58 (rd_of RG_directs) dX12_join_162 rfl (by decide) (by omega) (fun b81 => ?_)
              have rb81 := (show Rfx 121 0 1 dr by assumption) (Int.toNat x1) (by omega)
              obtain ⟨fs86, hfs86⟩ := t_obj ht58 (rd_of RG_y)
              refine r_callV (pc := 163) (as := [.int (iv (qc (Int.toNat x2))), .int (iv (dr (Int.toNat x1)))]) (st := []) kX12_179 rfl dX12_join_163 hfs86 (s_X12_made (d := d - 1) (x1 := qc (Int.toNat x2)) (x2 := dr (Int.toNat x1)) (by omega) (RK_set hk (by omega) (by omega)) ht58 (by omega) (by omega) (fun _ => (by assumption))) rfl (by omega) (Nat.le_of_ble_eq_true rfl) (Nat.zero_le _) (Nat.zero_le _) rfl (fun r83 hp82 n84 hq85 => ?_)
              obtain ⟨hnn84, h_89, v_90, c1_91, s1_92, z1_93, d1_94, m1_95, f1_96, t1_97, w1_98, o1_99, ht87, hrr83, hhq850, hhq851, hhq852, hhq853⟩ := hq85
              subst n84 r83
              have hhq850 : (60 < nm58 ∨ cn = 120) → h_89 = -4 ∧ v_90 = -4 ∧ c1_91 = cn := hhq850
              have hhq851 : (60 < nm58 ∨ cn = 120) → s1_92 = so ∧ z1_93 = sz ∧ d1_94 = dr ∧ m1_95 = mn ∧ f1_96 = fr ∧ t1_97 = tt ∧ w1_98 = wt ∧ o1_99 = co := hhq851
              have hhq852 : nm58 ≤ 60 ∧ cn < 120 → h_89 = cn ∧ v_90 = v_8 ∧ c1_91 = cn + 1 := hhq852
              have hhq853 : nm58 ≤ 60 ∧ cn < 120 → s1_92 = fup so (Int.toNat cn) 1 ∧ z1_93 = fup sz (Int.toNat cn) (qc (Int.toNat x2)) ∧ d1_94 = fup dr (Int.toNat cn) (dr (Int.toNat x1)) ∧ m1_95 = fup mn (Int.toNat cn) nm58 ∧ f1_96 = kcF nf58 fr (Int.toNat (60 * cn)) (Int.toNat nm58) ∧ t1_97 = kcF nt58 tt (Int.toNat (60 * cn)) (Int.toNat nm58) ∧ w1_98 = kcF nw58 wt (Int.toNat (60 * cn)) (Int.toNat nm58) ∧ o1_99 = kcF nc58 co (Int.toNat (60 * cn)) (Int.toNat nm58) := hhq853
              change Rn _ _ _ 166 _ [.int (iv h_89)] _ _ _ _ _
              obtain ⟨hRKm, hDFm, hhm⟩ := RK_made (x1 := qc (Int.toNat x2)) (x2 := dr (Int.toNat x1)) (RK_set hk (by omega) (by omega)) (by omega) (by omega) (fun _ => (by assumption)) hhq850 hhq851 hhq852 hhq853
              exact r_iret (pc := 166) dX12_join_166 rfl ⟨rfl, v_90, c1_91, nm58, s1_92, z1_93, d1_94, m1_95, f1_96, t1_97, w1_98, o1_99, nu, qi, qc, nf58, nt58, nw58, nc58, h_89, ht87, rfl, (by (first | assumption | exact RK_set hk (by omega) (by omega))), (by (first | assumption | exact df_r _ _ _ _ _ _ _)), (by omega)⟩
            · refine r_iload_n (pc := 69) dX12_join_69 (i := 1) rfl rfl ?_
              refine r_iload (pc := 70) dX12_join_70 rfl ?_
              refine t_callSI (pc := 72) (as := [.int (iv x1), .int (iv v58_4)]) (st := []) kX12_157 dX12_join_72 (t_X12_at1x (d := d - 1) (x1 := x1) (x2 := v58_4) (by omega)  ht58 (by omega) (by omega)) rfl (by omega) (Nat.le_of_ble_eq_true rfl) rfl (fun hp100 y102 ht101 by102 => ?_)
              have ey102 : y102 = 60 * x1 + v58_4 := by102
              subst ey102
              refine r_istore (pc := 75) (lv' := [(5, .int (iv (60 * x1 + v58_4))), (0, .ref y), (1, .int (iv x1)), (2, .int (iv x2)), (4, .int (iv v58_4))]) dX12_join_75 (by decide) rfl ?_
              have he9 := hen.2 v58_4 (by omega) (by omega)
              refine r_aload_n (pc := 77) dX12_join_77 (i := 0) rfl rfl ?_
              refine t_getE (pc := 78) (.ref (y + 15)) ht101 (rd_of RG_y) fX12_54 dX12_join_78 rfl ?_
              refine r_bipush (pc := 81) (v := iv 16) dX12_join_81 (by decide) ?_
              refine r_iload_n (pc := 83) dX12_join_83 (i := 2) rfl rfl ?_
              refine r_imul (pc := 84) (v := iv (16 * x2)) dX12_join_84 (iv_mul _ _) ?_
              refine r_aload_n (pc := 85) dX12_join_85 (i := 0) rfl rfl ?_
              refine t_getE (pc := 86) (.ref (y + 5)) ht101 (rd_of RG_y) fX12_23 dX12_join_86 rfl ?_
              refine r_iload (pc := 89) dX12_join_89 rfl ?_
              refine t_ialdX (pc := 91) (t0 := 0) ht101 (rd_of RG_from) dX12_join_91 rfl (by decide) (by omega) (fun b103 => ?_)
              have rb103 := (show Rfx 7260 0 15 fr by assumption) (Int.toNat (60 * x1 + v58_4)) (by omega)
              refine r_iadd (pc := 92) (v := iv ((16 * x2) + (fr (Int.toNat (60 * x1 + v58_4))))) dX12_join_92 (iv_add _ _) ?_
              refine t_ialdX (pc := 93) (t0 := 0) ht101 (rd_of RG_inPart) dX12_join_93 rfl (by decide) (by omega) (fun b104 => ?_)
              have rb104 := (show Rfx 1936 0 15 qi by assumption) (Int.toNat ((16 * x2) + (fr (Int.toNat (60 * x1 + v58_4))))) (by omega)
              have hq93 := hpa x2 (by omega) (by omega) (by omega) (fr (Int.toNat (60 * x1 + v58_4))) (by omega) (by omega)
              refine r_istore (pc := 94) (lv' := [(6, .int (iv (qi (Int.toNat ((16 * x2) + (fr (Int.toNat (60 * x1 + v58_4)))))))), (5, .int (iv (60 * x1 + v58_4))), (0, .ref y), (1, .int (iv x1)), (2, .int (iv x2)), (4, .int (iv v58_4))]) dX12_join_94 (by decide) rfl ?_
              refine r_aload_n (pc := 96) dX12_join_96 (i := 0) rfl rfl ?_
              refine t_getE (pc := 97) (.ref (y + 15)) ht101 (rd_of RG_y) fX12_54 dX12_join_97 rfl ?_
              refine r_bipush (pc := 100) (v := iv 16) dX12_join_100 (by decide) ?_
              refine r_iload_n (pc := 102) dX12_join_102 (i := 2) rfl rfl ?_
              refine r_imul (pc := 103) (v := iv (16 * x2)) dX12_join_103 (iv_mul _ _) ?_
              refine r_aload_n (pc := 104) dX12_join_104 (i := 0) rfl rfl ?_
              refine t_getE (pc := 105) (.ref (y + 6)) ht101 (rd_of RG_y) fX12_26 dX12_join_105 rfl ?_
              refine r_iload (pc := 108) dX12_join_108 rfl ?_
              refine t_ialdX (pc := 110) (t0 := 0) ht101 (rd_of RG_to) dX12_join_110 rfl (by decide) (by omega) (fun b105 => ?_)
              have rb105 := (show Rfx 7260 0 15 tt by assumption) (Int.toNat (60 * x1 + v58_4)) (by omega)
              refine r_iadd (pc := 111) (v := iv ((16 * x2) + (tt (Int.toNat (60 * x1 + v58_4))))) dX12_join_111 (iv_add _ _) ?_
              refine t_ialdX (pc := 112) (t0 := 0) ht101 (rd_of RG_inPart) dX12_join_112 rfl (by decide) (by omega) (fun b106 => ?_)
              have rb106 := (show Rfx 1936 0 15 qi by assumption) (Int.toNat ((16 * x2) + (tt (Int.toNat (60 * x1 + v58_4))))) (by omega)
              have hq112 := hpa x2 (by omega) (by omega) (by omega) (tt (Int.toNat (60 * x1 + v58_4))) (by omega) (by omega)
              refine r_istore (pc := 113) (lv' := [(7, .int (iv (qi (Int.toNat ((16 * x2) + (tt (Int.toNat (60 * x1 + v58_4)))))))), (6, .int (iv (qi (Int.toNat ((16 * x2) + (fr (Int.toNat (60 * x1 + v58_4)))))))), (5, .int (iv (60 * x1 + v58_4))), (0, .ref y), (1, .int (iv x1)), (2, .int (iv x2)), (4, .int (iv v58_4))]) dX12_join_113 (by decide) rfl ?_
              refine r_iload (pc := 115) dX12_join_115 rfl ?_
              refine r_iload (pc := 117) dX12_join_117 rfl ?_
              have B144 : ∀ nm144 : Int, ∀ nf144 : Nat → Int, ∀ nt144 : Nat → Int, ∀ nw144 : Nat → Int, ∀ nc144 : Nat → Int, ∀ hp144 : MH, Tw (RG Γ cI cJ cZ y v_8 cn nm144 so sz dr mn fr tt wt co nu qi qc nf144 nt144 nw144 nc144) hp144 → 0 ≤ nm144 ∧ nm144 ≤ 400 ∧ nm144 ≤ v58_4 + 1 ∧ arP nf144 nt144 nw144 nc144 nm144 (qc (Int.toNat x2)) → Rn (gG D cI cJ cZ cT lo b L xs) mX12_join d 144 [(0, .ref y), (1, .int (iv x1)), (2, .int (iv x2)), (4, .int (iv v58_4))] [] hp144 n 0 0 (q_X12_join Γ cI cJ cZ y n rf cn nm so sz dr mn fr tt wt co nu qi qc nf nt nw nc x1 x2 x3) := by
                intro nm144 nf144 nt144 nw144 nc144 hp144 ht144 hf144
                obtain ⟨hf144_0, hf144_1, hf144_2, ha144_3⟩ := hf144
                refine r_iinc (pc := 144) (v := iv (v58_4 + 1)) (lv' := [(4, .int (iv (v58_4 + 1))), (0, .ref y), (1, .int (iv x1)), (2, .int (iv x2))]) dX12_join_144 rfl (iv_add _ _) (by decide) rfl ?_
                refine r_goto (pc := 147) (tgt := 58) dX12_join_147 (by decide) ?_
                refine Rn.pick (lv' := [(0, .ref y), (1, .int (iv x1)), (2, .int (iv x2)), (4, .int (iv (v58_4 + 1)))]) [1, 2, 3, 0] rfl ?_
                exact ih58 (Int.toNat (60 - (v58_4 + 1))) (by omega) nm144 nf144 nt144 nw144 nc144 _ ht144 (v58_4 + 1) ⟨by omega, by omega, by omega, by omega, by omega, by omega, by assumption⟩ (by omega)
              refine t_icmp_eq (pc := 119) (tgt := 144) dX12_join_119 (by decide) (by omega) (by omega) (fun c119 => ?_) (fun c119 => ?_)
              · refine Rn.pick (lv' := [(0, .ref y), (1, .int (iv x1)), (2, .int (iv x2)), (4, .int (iv v58_4))]) [3, 4, 5, 6] rfl ?_
                exact B144 nm58 nf58 nt58 nw58 nc58 _ ht101 ⟨by omega, by omega, by omega, by assumption⟩
              · refine r_aload_n (pc := 122) dX12_join_122 (i := 0) rfl rfl ?_
                refine r_iload (pc := 123) dX12_join_123 rfl ?_
                refine r_iload (pc := 125) dX12_join_125 rfl ?_
                refine r_aload_n (pc := 127) dX12_join_127 (i := 0) rfl rfl ?_
                refine t_getE (pc := 128) (.ref (y + 7)) ht101 (rd_of RG_y) fX12_29 dX12_join_128 rfl ?_
                refine r_iload (pc := 131) dX12_join_131 rfl ?_
                refine t_ialdX (pc := 133) (t0 := 0) ht101 (rd_of RG_weight) dX12_join_133 rfl (by decide) (by omega) (fun b107 => ?_)
                have rb107 := (show Rfx 7260 (-1000) 1000 wt by assumption) (Int.toNat (60 * x1 + v58_4)) (by omega)
                refine r_aload_n (pc := 134) dX12_join_134 (i := 0) rfl rfl ?_
                refine t_getE (pc := 135) (.ref (y + 8)) ht101 (rd_of RG_y) fX12_32 dX12_join_135 rfl ?_
                refine r_iload (pc := 138) dX12_join_138 rfl ?_
                refine t_ialdX (pc := 140) (t0 := 0) ht101 (rd_of RG_cost) dX12_join_140 rfl (by decide) (by omega) (fun b108 => ?_)
                have rb108 := (show Rfx 7260 (-1000) 1000 co by assumption) (Int.toNat (60 * x1 + v58_4)) (by omega)
                obtain ⟨fs113, hfs113⟩ := t_obj ht101 (rd_of RG_y)
                refine r_callV (pc := 141) (as := [.int (iv (qi (Int.toNat ((16 * x2) + (fr (Int.toNat (60 * x1 + v58_4))))))), .int (iv (qi (Int.toNat ((16 * x2) + (tt (Int.toNat (60 * x1 + v58_4))))))), .int (iv (wt (Int.toNat (60 * x1 + v58_4)))), .int (iv (co (Int.toNat (60 * x1 + v58_4))))]) (st := []) kX12_171 rfl dX12_join_141 hfs113 (s_X12_put (d := d - 1) (x1 := qi (Int.toNat ((16 * x2) + (fr (Int.toNat (60 * x1 + v58_4)))))) (x2 := qi (Int.toNat ((16 * x2) + (tt (Int.toNat (60 * x1 + v58_4)))))) (x3 := wt (Int.toNat (60 * x1 + v58_4))) (x4 := co (Int.toNat (60 * x1 + v58_4))) (by omega) ht101 (by omega) (by omega) (by omega) (by omega) (by omega)) rfl (by omega) (Nat.le_of_ble_eq_true rfl) (Nat.zero_le _) (Nat.zero_le _) rfl (fun r110 hp109 n111 hq112 => ?_)
                obtain ⟨hnn111, ht114, hrr110⟩ := hq112
                subst n111 r110
                change Rn _ _ _ 144 _ [] _ _ _ _ _
                have hapq116 : arP (fup nf58 (Int.toNat nm58) (qi (Int.toNat ((16 * x2) + (fr (Int.toNat (60 * x1 + v58_4))))))) (fup nt58 (Int.toNat nm58) (qi (Int.toNat ((16 * x2) + (tt (Int.toNat (60 * x1 + v58_4))))))) (fup nw58 (Int.toNat nm58) (wt (Int.toNat (60 * x1 + v58_4)))) (fup nc58 (Int.toNat nm58) (co (Int.toNat (60 * x1 + v58_4)))) (nm58 + 1) (qc (Int.toNat x2)) := ar_up (by assumption) (by omega) (by omega) (by omega) (by omega) (by omega)
                refine Rn.pick (lv' := [(0, .ref y), (1, .int (iv x1)), (2, .int (iv x2)), (4, .int (iv v58_4))]) [3, 4, 5, 6] rfl ?_
                exact B144 (nm58 + 1) (fup nf58 (Int.toNat nm58) (qi (Int.toNat ((16 * x2) + (fr (Int.toNat (60 * x1 + v58_4))))))) (fup nt58 (Int.toNat nm58) (qi (Int.toNat ((16 * x2) + (tt (Int.toNat (60 * x1 + v58_4))))))) (fup nw58 (Int.toNat nm58) (wt (Int.toNat (60 * x1 + v58_4)))) (fup nc58 (Int.toNat nm58) (co (Int.toNat (60 * x1 + v58_4)))) _ ht114 ⟨by omega, by omega, by omega, by assumption⟩
          refine Rn.pick (lv' := [(0, .ref y), (1, .int (iv x1)), (2, .int (iv x2)), (4, .int (iv 0))]) [1, 2, 3, 0] rfl ?_
          exact B58 (Int.toNat (60 - 0)) 0 nf nt nw nc _ ht12 0 ⟨by omega, by omega, by omega, by omega, by omega, by omega, by assumption⟩ (by omega)
        · refine r_aload_n (pc := 48) dX12_join_48 (i := 0) rfl rfl ?_
          refine r_bipush (pc := 49) (v := iv (-3)) dX12_join_49 (by decide) ?_
          obtain ⟨fs121, hfs121⟩ := t_obj ht12 (rd_of RG_y)
          refine r_callV (pc := 51) (as := [.int (iv (-3))]) (st := []) kX12_153 rfl dX12_join_51 hfs121 (s_X12_refuse (d := d - 1) (x1 := (-3)) (by omega) ht12 (by omega)) rfl (by omega) (Nat.le_of_ble_eq_true rfl) (Nat.zero_le _) (Nat.zero_le _) rfl (fun r118 hp117 n119 hq120 => ?_)
          obtain ⟨hnn119, ht122, hrr118⟩ := hq120
          subst n119 r118
          change Rn _ _ _ 54 _ [.int (iv (-3))] _ _ _ _ _
          exact r_iret (pc := 54) dX12_join_54 rfl ⟨rfl, (-3), cn, 0, so, sz, dr, mn, fr, tt, wt, co, nu, qi, qc, nf, nt, nw, nc, (-3), ht122, rfl, (by (first | assumption | exact RK_set hk (by omega) (by omega))), (by (first | assumption | exact df_r _ _ _ _ _ _ _)), (by omega)⟩
    · refine r_aload_n (pc := 19) dX12_join_19 (i := 0) rfl rfl ?_
      refine t_getE (pc := 20) (.int (iv v_8)) ht6 (rd_of RG_y) fX12_142 dX12_join_20 rfl ?_
      exact r_iret (pc := 23) dX12_join_23 rfl ⟨rfl, v_8, cn, nm, so, sz, dr, mn, fr, tt, wt, co, nu, qi, qc, nf, nt, nw, nc, v_8, ht6, rfl, (by (first | assumption | exact RK_set hk (by omega) (by omega))), (by (first | assumption | exact df_r _ _ _ _ _ _ _)), (by omega)⟩
  refine t_if_eq (pc := 5) (tgt := 12) dX12_join_5 (by decide) (by omega) (fun c5 => ?_) (fun c5 => ?_)
  · refine r_iconst (pc := 12) (v := iv 1) dX12_join_12 (by decide) ?_
    refine Rn.pick (lv' := [(0, .ref y), (1, .int (iv x1)), (2, .int (iv x2)), (3, .int (iv x3))]) [0, 1, 2, 3] rfl ?_
    exact B13 _ ht 1 ⟨by omega, by omega, by omega⟩
  · refine r_iconst (pc := 8) (v := iv 4) dX12_join_8 (by decide) ?_
    refine r_goto (pc := 9) (tgt := 13) dX12_join_9 (by decide) ?_
    refine Rn.pick (lv' := [(0, .ref y), (1, .int (iv x1)), (2, .int (iv x2)), (3, .int (iv x3))]) [0, 1, 2, 3] rfl ?_
    exact B13 _ ht 4 ⟨by omega, by omega, by omega⟩
def q_X12_column (Γ : TG) (cI cJ cZ : ClassId) (y n : Nat) (rf cn nm : Int) (so sz dr mn fr tt wt co : Nat → Int) (nu : Nat → Int64) (qi qc nf nt nw nc : Nat → Int) (x1 x2 x3 : Int) : Option Value → MH → Nat → Prop := fun r hp1 n1 => n1 = n ∧ ∃ (rf' : Int) (cn' : Int) (nm' : Int) (so' : Nat → Int) (sz' : Nat → Int) (dr' : Nat → Int) (mn' : Nat → Int) (fr' : Nat → Int) (tt' : Nat → Int) (wt' : Nat → Int) (co' : Nat → Int) (nu' : Nat → Int64) (qi' : Nat → Int) (qc' : Nat → Int) (nf' : Nat → Int) (nt' : Nat → Int) (nw' : Nat → Int) (nc' : Nat → Int) (v' : Int), Tw (RG Γ cI cJ cZ y rf' cn' nm' so' sz' dr' mn' fr' tt' wt' co' nu' qi' qc' nf' nt' nw' nc') hp1 ∧ r = some (.int (iv v')) ∧ (RK rf' cn' nm' so' sz' dr' mn' fr' tt' wt' co' nu' qi' qc' nf' nt' nw' nc') ∧ (dfE sz dr mn fr tt wt co sz' dr' mn' fr' tt' wt' co') ∧ (-2147483648 ≤ v' ∧ v' ≤ 2147483647)
set_option maxHeartbeats 4000000 in
set_option maxRecDepth 100000 in
theorem s_X12_column {D : va_G} {cI cJ cZ cT : ClassId} {lo b L : Nat} {xs : Nat → Int32} {hp : MH} {n d : Nat} {Γ : TG} {y : Nat} {rf cn nm : Int} {so sz dr mn fr tt wt co : Nat → Int} {nu : Nat → Int64} {qi qc nf nt nw nc : Nat → Int} {x1 x2 x3 : Int} (hd0 : 3 ≤ d) (hk : RK rf cn nm so sz dr mn fr tt wt co nu qi qc nf nt nw nc) (ht : Tw (RG Γ cI cJ cZ y rf cn nm so sz dr mn fr tt wt co nu qi qc nf nt nw nc) hp) (hx1 : (-2147483648) ≤ x1 ∧ x1 ≤ 2147483647) (hx2 : (-2147483648) ≤ x2 ∧ x2 ≤ 2147483647) (hx3 : (-2147483648) ≤ x3 ∧ x3 ≤ 2147483647) : Mt (gG D cI cJ cZ cT lo b L xs) mX12_column d 0 0 [.ref y, .int (iv x1), .int (iv x2), .int (iv x3)] hp n (q_X12_column Γ cI cJ cZ y n rf cn nm so sz dr mn fr tt wt co nu qi qc nf nt nw nc x1 x2 x3) := by
  refine Mt.of rfl (Nat.le_of_ble_eq_true rfl) ?_
  refine Rn.pick (lv' := [(0, .ref y), (1, .int (iv x1)), (2, .int (iv x2)), (3, .int (iv x3))]) [0, 1, 2, 3] rfl ?_
  obtain ⟨hR_sorts, hR_sizes, hR_directs, hR_many, hR_from, hR_to, hR_weight, hR_cost, hR_inPart, hR_partCount, hcn, hrf, hnm, hdf, hgr, hpa, hsz⟩ := id hk
  refine r_aload_n (pc := 0) dX12_column_0 (i := 0) rfl rfl ?_
  refine r_iload_n (pc := 1) dX12_column_1 (i := 1) rfl rfl ?_
  refine r_iconst (pc := 2) (v := iv 1) dX12_column_2 (by decide) ?_
  obtain ⟨fs5, hfs5⟩ := t_obj ht (rd_of RG_y)
  refine r_callV (pc := 3) (as := [.int (iv x1), .int (iv 1)]) (st := []) kX12_183 rfl dX12_column_3 hfs5 (s_X12_has (d := d - 1) (x1 := x1) (x2 := 1) (by omega) (by omega) (by assumption) ht (by omega) (by omega)) rfl (by omega) (Nat.le_of_ble_eq_true rfl) (Nat.zero_le _) (Nat.zero_le _) rfl (fun r2 hp1 n3 hq4 => ?_)
  obtain ⟨hnn3, v_8, b_9, ht6, hrr2, hhq40, hhq41⟩ := hq4
  subst n3 r2
  have hhq40 : -2 ≤ v_8 ∧ v_8 ≤ 0 ∧ (b_9 = 0 ∨ b_9 = 1) := hhq40
  have hhq41 : (b_9 = 1 ∧ v_8 = 0 ∧ 0 ≤ x1 ∧ x1 < cn ∧ so (Int.toNat x1) = 1) ∨ (b_9 = 0 ∧ v_8 = -1 ∧ ¬ (0 ≤ x1 ∧ x1 < cn)) ∨ (b_9 = 0 ∧ v_8 = -2 ∧ 0 ≤ x1 ∧ x1 < cn ∧ so (Int.toNat x1) ≠ 1) := hhq41
  change Rn _ _ _ 6 _ [.int (iv b_9)] _ _ _ _ _
  refine t_if_ne (pc := 6) (tgt := 14) dX12_column_6 (by decide) (by omega) (fun c6 => ?_) (fun c6 => ?_)
  · have rsz6 := hR_sizes (Int.toNat x1) (by omega)
    have rsy6 := hsz x1 (by omega) (by omega)
    have hen := hgr x1 (by omega) (by omega) (by omega)
    have rmn6 := hR_many (Int.toNat x1) (by omega)
    refine r_iload_n (pc := 14) dX12_column_14 (i := 2) rfl rfl ?_
    have B40 : ∀ hp40 : MH, Tw (RG Γ cI cJ cZ y v_8 cn nm so sz dr mn fr tt wt co nu qi qc nf nt nw nc) hp40 → True → Rn (gG D cI cJ cZ cT lo b L xs) mX12_column d 40 [(0, .ref y)] [] hp40 n 0 0 (q_X12_column Γ cI cJ cZ y n rf cn nm so sz dr mn fr tt wt co nu qi qc nf nt nw nc x1 x2 x3) := by
      intro hp40 ht40 hf40
      refine r_aload_n (pc := 40) dX12_column_40 (i := 0) rfl rfl ?_
      refine r_bipush (pc := 41) (v := iv (-3)) dX12_column_41 (by decide) ?_
      obtain ⟨fs14, hfs14⟩ := t_obj ht40 (rd_of RG_y)
      refine r_callV (pc := 43) (as := [.int (iv (-3))]) (st := []) kX12_153 rfl dX12_column_43 hfs14 (s_X12_refuse (d := d - 1) (x1 := (-3)) (by omega) ht40 (by omega)) rfl (by omega) (Nat.le_of_ble_eq_true rfl) (Nat.zero_le _) (Nat.zero_le _) rfl (fun r11 hp10 n12 hq13 => ?_)
      obtain ⟨hnn12, ht15, hrr11⟩ := hq13
      subst n12 r11
      change Rn _ _ _ 46 _ [.int (iv (-3))] _ _ _ _ _
      exact r_iret (pc := 46) dX12_column_46 rfl ⟨rfl, (-3), cn, nm, so, sz, dr, mn, fr, tt, wt, co, nu, qi, qc, nf, nt, nw, nc, (-3), ht15, rfl, (by (first | assumption | exact RK_set hk (by omega) (by omega))), (by (first | assumption | exact df_r _ _ _ _ _ _ _)), (by omega)⟩
    refine t_if_lt (pc := 15) (tgt := 40) dX12_column_15 (by decide) (by omega) (fun c15 => ?_) (fun c15 => ?_)
    · refine Rn.pick (lv' := [(0, .ref y)]) [0] rfl ?_
      exact B40 _ ht6 trivial
    · refine r_iload_n (pc := 18) dX12_column_18 (i := 2) rfl rfl ?_
      refine r_bipush (pc := 19) (v := iv 6) dX12_column_19 (by decide) ?_
      refine t_icmp_gt (pc := 21) (tgt := 40) dX12_column_21 (by decide) (by omega) (by omega) (fun c21 => ?_) (fun c21 => ?_)
      · refine Rn.pick (lv' := [(0, .ref y)]) [0] rfl ?_
        exact B40 _ ht6 trivial
      · refine r_iload_n (pc := 24) dX12_column_24 (i := 2) rfl rfl ?_
        refine r_iconst (pc := 25) (v := iv 5) dX12_column_25 (by decide) ?_
        have B47 : ∀ hp47 : MH, Tw (RG Γ cI cJ cZ y v_8 cn nm so sz dr mn fr tt wt co nu qi qc nf nt nw nc) hp47 → (x2 = 5 → 0 ≤ x3 ∧ x3 ≤ 1000) → Rn (gG D cI cJ cZ cT lo b L xs) mX12_column d 47 [(0, .ref y), (1, .int (iv x1)), (2, .int (iv x2)), (3, .int (iv x3))] [] hp47 n 0 0 (q_X12_column Γ cI cJ cZ y n rf cn nm so sz dr mn fr tt wt co nu qi qc nf nt nw nc x1 x2 x3) := by
          intro hp47 ht47 hf47
          refine r_aload_n (pc := 47) dX12_column_47 (i := 0) rfl rfl ?_
          refine t_getE (pc := 48) (.ref (y + 2)) ht47 (rd_of RG_y) fX12_13 dX12_column_48 rfl ?_
          refine r_iload_n (pc := 51) dX12_column_51 (i := 1) rfl rfl ?_
          refine t_ialdX (pc := 52) (t0 := 0) ht47 (rd_of RG_sizes) dX12_column_52 rfl (by decide) (by omega) (fun b17 => ?_)
          have rb17 := (show Rfx 121 0 16 sz by assumption) (Int.toNat x1) (by omega)
          refine r_istore (pc := 53) (lv' := [(4, .int (iv (sz (Int.toNat x1)))), (0, .ref y), (1, .int (iv x1)), (2, .int (iv x2)), (3, .int (iv x3))]) dX12_column_53 (by decide) rfl ?_
          refine r_iconst (pc := 55) (v := iv 0) dX12_column_55 (by decide) ?_
          refine r_istore (pc := 56) (lv' := [(5, .int (iv 0)), (4, .int (iv (sz (Int.toNat x1)))), (0, .ref y), (1, .int (iv x1)), (2, .int (iv x2)), (3, .int (iv x3))]) dX12_column_56 (by decide) rfl ?_
          have B58 : ∀ k : Nat, ∀ hp58 : MH, Tw (RG Γ cI cJ cZ y v_8 cn nm so sz dr mn fr tt wt co nu qi qc nf nt nw nc) hp58 → ∀  (v58_5 : Int), 0 ≤ v58_5 ∧ v58_5 ≤ 16 → 16 - v58_5 ≤ (k : Int) → Rn (gG D cI cJ cZ cT lo b L xs) mX12_column d 58 [(0, .ref y), (1, .int (iv x1)), (2, .int (iv x2)), (3, .int (iv x3)), (4, .int (iv (sz (Int.toNat x1)))), (5, .int (iv v58_5))] [] hp58 n 0 0 (q_X12_column Γ cI cJ cZ y n rf cn nm so sz dr mn fr tt wt co nu qi qc nf nt nw nc x1 x2 x3) := by
            refine lpS _ ?_
            intro k58 ih58 hp58 ht58 v58_5 hf58 hm58
            refine r_iload (pc := 58) dX12_column_58 rfl ?_
            refine r_iload (pc := 60) dX12_column_60 rfl ?_
            refine t_icmp_ge (pc := 62) (tgt := 88) dX12_column_62 (by decide) (by omega) (by omega) (fun c62 => ?_) (fun c62 => ?_)
            · refine r_iload_n (pc := 88) dX12_column_88 (i := 2) rfl rfl ?_
              refine r_iconst (pc := 89) (v := iv 3) dX12_column_89 (by decide) ?_
              have B147 : ∀ hp147 : MH, Tw (RG Γ cI cJ cZ y v_8 cn nm so sz dr mn fr tt wt co nu qi qc nf nt nw nc) hp147 → True → Rn (gG D cI cJ cZ cT lo b L xs) mX12_column d 147 [(0, .ref y), (4, .int (iv (sz (Int.toNat x1))))] [] hp147 n 0 0 (q_X12_column Γ cI cJ cZ y n rf cn nm so sz dr mn fr tt wt co nu qi qc nf nt nw nc x1 x2 x3) := by
                intro hp147 ht147 hf147
                refine r_aload_n (pc := 147) dX12_column_147 (i := 0) rfl rfl ?_
                refine r_iload (pc := 148) dX12_column_148 rfl ?_
                obtain ⟨fs22, hfs22⟩ := t_obj ht147 (rd_of RG_y)
                refine r_callV (pc := 150) (as := [.int (iv (sz (Int.toNat x1)))]) (st := []) kX12_228 rfl dX12_column_150 hfs22 (s_X12_madeColumn (d := d - 1) (x1 := sz (Int.toNat x1)) (by omega) (by omega) (by assumption) (by omega) (by assumption) ht147 (by omega)) rfl (by omega) (Nat.le_of_ble_eq_true rfl) (Nat.zero_le _) (Nat.zero_le _) rfl (fun r19 hp18 n20 hq21 => ?_)
                obtain ⟨hnn20, h_25, v_26, c1_27, s1_28, z1_29, u1_30, ht23, hrr19, hhq210, hhq211, hhq212, hhq213⟩ := hq21
                subst n20 r19
                have hhq210 : cn = 120 → h_25 = -4 ∧ v_26 = -4 ∧ c1_27 = cn := hhq210
                have hhq211 : cn = 120 → s1_28 = so ∧ z1_29 = sz := hhq211
                have hhq212 : cn < 120 → h_25 = cn ∧ v_26 = v_8 ∧ c1_27 = cn + 1 := hhq212
                have hhq213 : cn < 120 → s1_28 = fup so (Int.toNat cn) 2 ∧ z1_29 = fup sz (Int.toNat cn) (sz (Int.toNat x1)) := hhq213
                change Rn _ _ _ 153 _ [.int (iv h_25)] _ _ _ _ _
                obtain ⟨hRKm, hDFm, hhm⟩ := RK_col (nu := nu) (x1 := sz (Int.toNat x1)) (u1 := u1_30) (RK_set hk (by omega) (by omega)) (by omega) hhq210 hhq211 hhq212 hhq213
                exact r_iret (pc := 153) dX12_column_153 rfl ⟨rfl, v_26, c1_27, nm, s1_28, z1_29, dr, mn, fr, tt, wt, co, u1_30, qi, qc, nf, nt, nw, nc, h_25, ht23, rfl, (by (first | assumption | exact RK_set hk (by omega) (by omega))), (by (first | assumption | exact df_r _ _ _ _ _ _ _)), (by omega)⟩
              refine t_icmp_ge (pc := 90) (tgt := 102) dX12_column_90 (by decide) (by omega) (by omega) (fun c90 => ?_) (fun c90 => ?_)
              · refine r_iload_n (pc := 102) dX12_column_102 (i := 2) rfl rfl ?_
                refine r_iconst (pc := 103) (v := iv 3) dX12_column_103 (by decide) ?_
                refine t_icmp_ne (pc := 104) (tgt := 115) dX12_column_104 (by decide) (by omega) (by omega) (fun c104 => ?_) (fun c104 => ?_)
                · refine r_iload_n (pc := 115) dX12_column_115 (i := 2) rfl rfl ?_
                  refine r_iconst (pc := 116) (v := iv 4) dX12_column_116 (by decide) ?_
                  refine t_icmp_ne (pc := 117) (tgt := 128) dX12_column_117 (by decide) (by omega) (by omega) (fun c117 => ?_) (fun c117 => ?_)
                  · refine r_iload_n (pc := 128) dX12_column_128 (i := 2) rfl rfl ?_
                    refine r_iconst (pc := 129) (v := iv 5) dX12_column_129 (by decide) ?_
                    refine t_icmp_ne (pc := 130) (tgt := 142) dX12_column_130 (by decide) (by omega) (by omega) (fun c130 => ?_) (fun c130 => ?_)
                    · refine r_aload_n (pc := 142) dX12_column_142 (i := 0) rfl rfl ?_
                      refine r_iload_n (pc := 143) dX12_column_143 (i := 1) rfl rfl ?_
                      refine t_callVV (pc := 144) (as := [.int (iv x1)]) (st := []) ht58 (rd_of RG_y) kX12_225 rfl dX12_column_144 (t_X12_blocks (d := d - 1) (x1 := x1) (by omega) (rd_of RG_y) (rd_xr (rd_of RG_sizes) (show Rfx 121 0 16 sz by assumption)) (rd_xr (rd_of RG_many) (show Rfx 121 0 60 mn by assumption)) (rd_xr (rd_of RG_from) (show Rfx 7260 0 15 fr by assumption)) (rd_xr (rd_of RG_to) (show Rfx 7260 0 15 tt by assumption)) RG_column RG_beside RG_solid RG_below ht58 (by omega)) rfl (by omega) (Nat.le_of_ble_eq_true rfl) rfl (fun hp31 ht32 => ?_)
                      refine Rn.pick (lv' := [(0, .ref y), (4, .int (iv (sz (Int.toNat x1))))]) [0, 4] rfl ?_
                      exact B147 _ ht32 trivial
                    · refine r_aload_n (pc := 133) dX12_column_133 (i := 0) rfl rfl ?_
                      refine r_iload_n (pc := 134) dX12_column_134 (i := 1) rfl rfl ?_
                      refine r_iload_n (pc := 135) dX12_column_135 (i := 3) rfl rfl ?_
                      refine t_callVV (pc := 136) (as := [.int (iv x1), .int (iv x3)]) (st := []) ht58 (rd_of RG_y) kX12_222 rfl dX12_column_136 (t_X12_walks (d := d - 1) (x1 := x1) (x2 := x3) (by omega) (rd_of RG_y) (rd_xr (rd_of RG_sizes) (show Rfx 121 0 16 sz by assumption)) (rd_xr (rd_of RG_directs) (show Rfx 121 0 1 dr by assumption)) (rd_xr (rd_of RG_many) (show Rfx 121 0 60 mn by assumption)) (rd_xr (rd_of RG_from) (show Rfx 7260 0 15 fr by assumption)) (rd_xr (rd_of RG_to) (show Rfx 7260 0 15 tt by assumption)) RG_column RG_next ht58 (by omega) (by omega)) rfl (by omega) (Nat.le_of_ble_eq_true rfl) rfl (fun hp34 ht35 => ?_)
                      refine r_goto (pc := 139) (tgt := 147) dX12_column_139 (by decide) ?_
                      refine Rn.pick (lv' := [(0, .ref y), (4, .int (iv (sz (Int.toNat x1))))]) [0, 4] rfl ?_
                      exact B147 _ ht35 trivial
                  · refine r_aload_n (pc := 120) dX12_column_120 (i := 0) rfl rfl ?_
                    refine r_iload_n (pc := 121) dX12_column_121 (i := 1) rfl rfl ?_
                    refine t_callVV (pc := 122) (as := [.int (iv x1)]) (st := []) ht58 (rd_of RG_y) kX12_219 rfl dX12_column_122 (t_X12_farthest (d := d - 1) (x1 := x1) (by omega) (rd_of RG_y) (rd_xr (rd_of RG_sizes) (show Rfx 121 0 16 sz by assumption)) (rd_xr (rd_of RG_directs) (show Rfx 121 0 1 dr by assumption)) (rd_xr (rd_of RG_many) (show Rfx 121 0 60 mn by assumption)) (rd_xr (rd_of RG_from) (show Rfx 7260 0 15 fr by assumption)) (rd_xr (rd_of RG_to) (show Rfx 7260 0 15 tt by assumption)) RG_column ht58 (by omega)) rfl (by omega) (Nat.le_of_ble_eq_true rfl) rfl (fun hp37 ht38 => ?_)
                    refine r_goto (pc := 125) (tgt := 147) dX12_column_125 (by decide) ?_
                    refine Rn.pick (lv' := [(0, .ref y), (4, .int (iv (sz (Int.toNat x1))))]) [0, 4] rfl ?_
                    exact B147 _ ht38 trivial
                · refine r_aload_n (pc := 107) dX12_column_107 (i := 0) rfl rfl ?_
                  refine r_iload_n (pc := 108) dX12_column_108 (i := 1) rfl rfl ?_
                  refine t_callVV (pc := 109) (as := [.int (iv x1)]) (st := []) ht58 (rd_of RG_y) kX12_216 rfl dX12_column_109 (t_X12_cores (d := d - 1) (x1 := x1) (by omega) (rd_of RG_y) (rd_xr (rd_of RG_sizes) (show Rfx 121 0 16 sz by assumption)) (rd_xr (rd_of RG_many) (show Rfx 121 0 60 mn by assumption)) (rd_xr (rd_of RG_from) (show Rfx 7260 0 15 fr by assumption)) (rd_xr (rd_of RG_to) (show Rfx 7260 0 15 tt by assumption)) RG_column RG_inside ht58 (by omega)) rfl (by omega) (Nat.le_of_ble_eq_true rfl) rfl (fun hp40 ht41 => ?_)
                  refine r_goto (pc := 112) (tgt := 147) dX12_column_112 (by decide) ?_
                  refine Rn.pick (lv' := [(0, .ref y), (4, .int (iv (sz (Int.toNat x1))))]) [0, 4] rfl ?_
                  exact B147 _ ht41 trivial
              · refine r_aload_n (pc := 93) dX12_column_93 (i := 0) rfl rfl ?_
                refine r_iload_n (pc := 94) dX12_column_94 (i := 1) rfl rfl ?_
                refine r_iload_n (pc := 95) dX12_column_95 (i := 2) rfl rfl ?_
                refine t_callVV (pc := 96) (as := [.int (iv x1), .int (iv x2)]) (st := []) ht58 (rd_of RG_y) kX12_213 rfl dX12_column_96 (t_X12_degrees (d := d - 1) (x1 := x1) (x2 := x2) (by omega) (rd_of RG_y) (rd_xr (rd_of RG_directs) (show Rfx 121 0 1 dr by assumption)) (rd_xr (rd_of RG_many) (show Rfx 121 0 60 mn by assumption)) (rd_xr (rd_of RG_from) (show Rfx 7260 0 15 fr by assumption)) (rd_xr (rd_of RG_to) (show Rfx 7260 0 15 tt by assumption)) (rd_xr (rd_of RG_weight) (show Rfx 7260 (-1000) 1000 wt by assumption)) RG_column ht58 (by omega) (by omega)) rfl (by omega) (Nat.le_of_ble_eq_true rfl) rfl (fun hp43 ht44 => ?_)
                refine r_goto (pc := 99) (tgt := 147) dX12_column_99 (by decide) ?_
                refine Rn.pick (lv' := [(0, .ref y), (4, .int (iv (sz (Int.toNat x1))))]) [0, 4] rfl ?_
                exact B147 _ ht44 trivial
            · refine r_aload_n (pc := 65) dX12_column_65 (i := 0) rfl rfl ?_
              refine t_getE (pc := 66) (.ref (y + 21)) ht58 (rd_of RG_y) fX12_72 dX12_column_66 rfl ?_
              refine r_iload (pc := 69) dX12_column_69 rfl ?_
              refine r_iload_n (pc := 71) dX12_column_71 (i := 2) rfl rfl ?_
              refine r_iconst (pc := 72) (v := iv 5) dX12_column_72 (by decide) ?_
              have B81 : ∀ hp81 : MH, Tw (RG Γ cI cJ cZ y v_8 cn nm so sz dr mn fr tt wt co nu qi qc nf nt nw nc) hp81 → ∀  (x81_2 : Int64), True → Rn (gG D cI cJ cZ cT lo b L xs) mX12_column d 81 [(0, .ref y), (1, .int (iv x1)), (2, .int (iv x2)), (3, .int (iv x3)), (4, .int (iv (sz (Int.toNat x1)))), (5, .int (iv v58_5))] [.long x81_2, .int (iv v58_5), .ref (y + 21)] hp81 n 0 0 (q_X12_column Γ cI cJ cZ y n rf cn nm so sz dr mn fr tt wt co nu qi qc nf nt nw nc x1 x2 x3) := by
                intro hp81 ht81 x81_2 hf81
                refine t_last (pc := 81) (t0 := 1) ht81 RG_column dX12_column_81 rfl (by decide) (by omega) trivial (fun hp46 ht47 => ?_)
                refine r_iinc (pc := 82) (v := iv (v58_5 + 1)) (lv' := [(5, .int (iv (v58_5 + 1))), (0, .ref y), (1, .int (iv x1)), (2, .int (iv x2)), (3, .int (iv x3)), (4, .int (iv (sz (Int.toNat x1))))]) dX12_column_82 rfl (iv_add _ _) (by decide) rfl ?_
                refine r_goto (pc := 85) (tgt := 58) dX12_column_85 (by decide) ?_
                refine Rn.pick (lv' := [(0, .ref y), (1, .int (iv x1)), (2, .int (iv x2)), (3, .int (iv x3)), (4, .int (iv (sz (Int.toNat x1)))), (5, .int (iv (v58_5 + 1)))]) [1, 2, 3, 4, 5, 0] rfl ?_
                exact ih58 (Int.toNat (16 - (v58_5 + 1))) (by omega) _ ht47 (v58_5 + 1) ⟨by omega, by omega⟩ (by omega)
              refine t_icmp_ne (pc := 73) (tgt := 80) dX12_column_73 (by decide) (by omega) (by omega) (fun c73 => ?_) (fun c73 => ?_)
              · refine r_lconst (pc := 80) (v := 0) dX12_column_80 (by decide) ?_
                refine Rn.pick (lv' := [(0, .ref y), (1, .int (iv x1)), (2, .int (iv x2)), (3, .int (iv x3)), (4, .int (iv (sz (Int.toNat x1)))), (5, .int (iv v58_5))]) [0, 1, 2, 3, 4, 5] rfl ?_
                exact B81 _ ht58 (0 : Int64) trivial
              · refine r_lconst (pc := 76) (v := 1) dX12_column_76 (by decide) ?_
                refine r_goto (pc := 77) (tgt := 81) dX12_column_77 (by decide) ?_
                refine Rn.pick (lv' := [(0, .ref y), (1, .int (iv x1)), (2, .int (iv x2)), (3, .int (iv x3)), (4, .int (iv (sz (Int.toNat x1)))), (5, .int (iv v58_5))]) [0, 1, 2, 3, 4, 5] rfl ?_
                exact B81 _ ht58 (1 : Int64) trivial
          refine Rn.pick (lv' := [(0, .ref y), (1, .int (iv x1)), (2, .int (iv x2)), (3, .int (iv x3)), (4, .int (iv (sz (Int.toNat x1)))), (5, .int (iv 0))]) [2, 3, 4, 5, 1, 0] rfl ?_
          exact B58 (Int.toNat (16 - 0)) _ ht47 0 ⟨by omega, by omega⟩ (by omega)
        refine t_icmp_ne (pc := 26) (tgt := 47) dX12_column_26 (by decide) (by omega) (by omega) (fun c26 => ?_) (fun c26 => ?_)
        · refine Rn.pick (lv' := [(0, .ref y), (1, .int (iv x1)), (2, .int (iv x2)), (3, .int (iv x3))]) [0, 1, 2, 3] rfl ?_
          exact B47 _ ht6 (by omega)
        · refine r_iload_n (pc := 29) dX12_column_29 (i := 3) rfl rfl ?_
          refine t_if_lt (pc := 30) (tgt := 40) dX12_column_30 (by decide) (by omega) (fun c30 => ?_) (fun c30 => ?_)
          · refine Rn.pick (lv' := [(0, .ref y)]) [0] rfl ?_
            exact B40 _ ht6 trivial
          · refine r_iload_n (pc := 33) dX12_column_33 (i := 3) rfl rfl ?_
            refine r_sipush (pc := 34) (v := iv 1000) dX12_column_34 (by decide) ?_
            refine t_icmp_le (pc := 37) (tgt := 47) dX12_column_37 (by decide) (by omega) (by omega) (fun c37 => ?_) (fun c37 => ?_)
            · refine Rn.pick (lv' := [(0, .ref y), (1, .int (iv x1)), (2, .int (iv x2)), (3, .int (iv x3))]) [0, 1, 2, 3] rfl ?_
              exact B47 _ ht6 (by omega)
            · refine Rn.pick (lv' := [(0, .ref y)]) [0] rfl ?_
              exact B40 _ ht6 trivial
  · refine r_aload_n (pc := 9) dX12_column_9 (i := 0) rfl rfl ?_
    refine t_getE (pc := 10) (.int (iv v_8)) ht6 (rd_of RG_y) fX12_142 dX12_column_10 rfl ?_
    exact r_iret (pc := 13) dX12_column_13 rfl ⟨rfl, v_8, cn, nm, so, sz, dr, mn, fr, tt, wt, co, nu, qi, qc, nf, nt, nw, nc, v_8, ht6, rfl, (by (first | assumption | exact RK_set hk (by omega) (by omega))), (by (first | assumption | exact df_r _ _ _ _ _ _ _)), (by omega)⟩
def q_X12_flat (Γ : TG) (cI cJ cZ : ClassId) (y n : Nat) (rf cn nm : Int) (so sz dr mn fr tt wt co : Nat → Int) (nu : Nat → Int64) (qi qc nf nt nw nc : Nat → Int) (x1 x3 : Int) (j2 j4 : Int64) : Option Value → MH → Nat → Prop := fun r hp1 n1 => n1 = n ∧ ∃ (rf' : Int) (cn' : Int) (nm' : Int) (so' : Nat → Int) (sz' : Nat → Int) (dr' : Nat → Int) (mn' : Nat → Int) (fr' : Nat → Int) (tt' : Nat → Int) (wt' : Nat → Int) (co' : Nat → Int) (nu' : Nat → Int64) (qi' : Nat → Int) (qc' : Nat → Int) (nf' : Nat → Int) (nt' : Nat → Int) (nw' : Nat → Int) (nc' : Nat → Int) (v' : Int), Tw (RG Γ cI cJ cZ y rf' cn' nm' so' sz' dr' mn' fr' tt' wt' co' nu' qi' qc' nf' nt' nw' nc') hp1 ∧ r = some (.int (iv v')) ∧ (RK rf' cn' nm' so' sz' dr' mn' fr' tt' wt' co' nu' qi' qc' nf' nt' nw' nc') ∧ (dfE sz dr mn fr tt wt co sz' dr' mn' fr' tt' wt' co') ∧ (-2147483648 ≤ v' ∧ v' ≤ 2147483647)
set_option maxHeartbeats 4000000 in
set_option maxRecDepth 100000 in
theorem s_X12_flat {D : va_G} {cI cJ cZ cT : ClassId} {lo b L : Nat} {xs : Nat → Int32} {hp : MH} {n d : Nat} {Γ : TG} {y : Nat} {rf cn nm : Int} {so sz dr mn fr tt wt co : Nat → Int} {nu : Nat → Int64} {qi qc nf nt nw nc : Nat → Int} {x1 x3 : Int} {j2 j4 : Int64} (hd0 : 3 ≤ d) (hk : RK rf cn nm so sz dr mn fr tt wt co nu qi qc nf nt nw nc) (ht : Tw (RG Γ cI cJ cZ y rf cn nm so sz dr mn fr tt wt co nu qi qc nf nt nw nc) hp) (hx1 : (-2147483648) ≤ x1 ∧ x1 ≤ 2147483647) (hx3 : (-2147483648) ≤ x3 ∧ x3 ≤ 2147483647) : Mt (gG D cI cJ cZ cT lo b L xs) mX12_flat d 0 0 [.ref y, .int (iv x1), .long j2, .int (iv x3), .long j4] hp n (q_X12_flat Γ cI cJ cZ y n rf cn nm so sz dr mn fr tt wt co nu qi qc nf nt nw nc x1 x3 j2 j4) := by
  refine Mt.of rfl (Nat.le_of_ble_eq_true rfl) ?_
  refine Rn.pick (lv' := [(0, .ref y), (1, .int (iv x1)), (2, .long j2), (4, .int (iv x3)), (5, .long j4)]) [0, 1, 2, 3, 4] rfl ?_
  obtain ⟨hR_sorts, hR_sizes, hR_directs, hR_many, hR_from, hR_to, hR_weight, hR_cost, hR_inPart, hR_partCount, hcn, hrf, hnm, hdf, hgr, hpa, hsz⟩ := id hk
  refine r_aload_n (pc := 0) dX12_flat_0 (i := 0) rfl rfl ?_
  refine r_iconst (pc := 1) (v := iv 0) dX12_flat_1 (by decide) ?_
  refine t_putX (pc := 2) (ty := .int) ht RG_y fX12_142 tyX12 tyX12_ok nmX12 (by decide +kernel) (Or.inl rfl) dX12_flat_2 (Nat.le_of_ble_eq_true rfl) rfl rfl rfl (fun hp1 ht2 => ?_)
  have ht3 := RGw_rf ht2
  refine r_iload_n (pc := 5) dX12_flat_5 (i := 1) rfl rfl ?_
  refine r_iconst (pc := 6) (v := iv 1) dX12_flat_6 (by decide) ?_
  have B28 : ∀ hp28 : MH, Tw (RG Γ cI cJ cZ y 0 cn nm so sz dr mn fr tt wt co nu qi qc nf nt nw nc) hp28 → True → Rn (gG D cI cJ cZ cT lo b L xs) mX12_flat d 28 [(0, .ref y)] [] hp28 n 0 0 (q_X12_flat Γ cI cJ cZ y n rf cn nm so sz dr mn fr tt wt co nu qi qc nf nt nw nc x1 x3 j2 j4) := by
    intro hp28 ht28 hf28
    refine r_aload_n (pc := 28) dX12_flat_28 (i := 0) rfl rfl ?_
    refine r_bipush (pc := 29) (v := iv (-3)) dX12_flat_29 (by decide) ?_
    obtain ⟨fs8, hfs8⟩ := t_obj ht28 (rd_of RG_y)
    refine r_callV (pc := 31) (as := [.int (iv (-3))]) (st := []) kX12_153 rfl dX12_flat_31 hfs8 (s_X12_refuse (d := d - 1) (x1 := (-3)) (by omega) ht28 (by omega)) rfl (by omega) (Nat.le_of_ble_eq_true rfl) (Nat.zero_le _) (Nat.zero_le _) rfl (fun r5 hp4 n6 hq7 => ?_)
    obtain ⟨hnn6, ht9, hrr5⟩ := hq7
    subst n6 r5
    change Rn _ _ _ 34 _ [.int (iv (-3))] _ _ _ _ _
    exact r_iret (pc := 34) dX12_flat_34 rfl ⟨rfl, (-3), cn, nm, so, sz, dr, mn, fr, tt, wt, co, nu, qi, qc, nf, nt, nw, nc, (-3), ht9, rfl, (by (first | assumption | exact RK_set hk (by omega) (by omega))), (by (first | assumption | exact df_r _ _ _ _ _ _ _)), (by omega)⟩
  refine t_icmp_lt (pc := 7) (tgt := 28) dX12_flat_7 (by decide) (by omega) (by omega) (fun c7 => ?_) (fun c7 => ?_)
  · refine Rn.pick (lv' := [(0, .ref y)]) [0] rfl ?_
    exact B28 _ ht3 trivial
  · refine r_iload_n (pc := 10) dX12_flat_10 (i := 1) rfl rfl ?_
    refine r_bipush (pc := 11) (v := iv 16) dX12_flat_11 (by decide) ?_
    refine t_icmp_gt (pc := 13) (tgt := 28) dX12_flat_13 (by decide) (by omega) (by omega) (fun c13 => ?_) (fun c13 => ?_)
    · refine Rn.pick (lv' := [(0, .ref y)]) [0] rfl ?_
      exact B28 _ ht3 trivial
    · refine r_iload (pc := 16) dX12_flat_16 rfl ?_
      refine r_iconst (pc := 18) (v := iv (-1)) dX12_flat_18 (by decide) ?_
      refine t_icmp_lt (pc := 19) (tgt := 28) dX12_flat_19 (by decide) (by omega) (by omega) (fun c19 => ?_) (fun c19 => ?_)
      · refine Rn.pick (lv' := [(0, .ref y)]) [0] rfl ?_
        exact B28 _ ht3 trivial
      · refine r_iload (pc := 22) dX12_flat_22 rfl ?_
        refine r_iload_n (pc := 24) dX12_flat_24 (i := 1) rfl rfl ?_
        refine t_icmp_lt (pc := 25) (tgt := 35) dX12_flat_25 (by decide) (by omega) (by omega) (fun c25 => ?_) (fun c25 => ?_)
        · refine r_iconst (pc := 35) (v := iv 0) dX12_flat_35 (by decide) ?_
          refine r_istore (pc := 36) (lv' := [(7, .int (iv 0)), (0, .ref y), (1, .int (iv x1)), (2, .long j2), (4, .int (iv x3)), (5, .long j4)]) dX12_flat_36 (by decide) rfl ?_
          have B38 : ∀ k : Nat, ∀ hp38 : MH, Tw (RG Γ cI cJ cZ y 0 cn nm so sz dr mn fr tt wt co nu qi qc nf nt nw nc) hp38 → ∀  (v38_7 : Int), 0 ≤ v38_7 ∧ v38_7 ≤ 16 → 16 - v38_7 ≤ (k : Int) → Rn (gG D cI cJ cZ cT lo b L xs) mX12_flat d 38 [(0, .ref y), (1, .int (iv x1)), (2, .long j2), (4, .int (iv x3)), (5, .long j4), (7, .int (iv v38_7))] [] hp38 n 0 0 (q_X12_flat Γ cI cJ cZ y n rf cn nm so sz dr mn fr tt wt co nu qi qc nf nt nw nc x1 x3 j2 j4) := by
            refine lpS _ ?_
            intro k38 ih38 hp38 ht38 v38_7 hf38 hm38
            refine r_iload (pc := 38) dX12_flat_38 rfl ?_
            refine r_iload_n (pc := 40) dX12_flat_40 (i := 1) rfl rfl ?_
            refine t_icmp_ge (pc := 41) (tgt := 70) dX12_flat_41 (by decide) (by omega) (by omega) (fun c41 => ?_) (fun c41 => ?_)
            · refine r_aload_n (pc := 70) dX12_flat_70 (i := 0) rfl rfl ?_
              refine r_iload_n (pc := 71) dX12_flat_71 (i := 1) rfl rfl ?_
              obtain ⟨fs15, hfs15⟩ := t_obj ht38 (rd_of RG_y)
              refine r_callV (pc := 72) (as := [.int (iv x1)]) (st := []) kX12_228 rfl dX12_flat_72 hfs15 (s_X12_madeColumn (d := d - 1) (x1 := x1) (by omega) (by omega) (by assumption) (by omega) (by assumption) ht38 (by omega)) rfl (by omega) (Nat.le_of_ble_eq_true rfl) (Nat.zero_le _) (Nat.zero_le _) rfl (fun r12 hp11 n13 hq14 => ?_)
              obtain ⟨hnn13, h_18, v_19, c1_20, s1_21, z1_22, u1_23, ht16, hrr12, hhq140, hhq141, hhq142, hhq143⟩ := hq14
              subst n13 r12
              have hhq140 : cn = 120 → h_18 = -4 ∧ v_19 = -4 ∧ c1_20 = cn := hhq140
              have hhq141 : cn = 120 → s1_21 = so ∧ z1_22 = sz := hhq141
              have hhq142 : cn < 120 → h_18 = cn ∧ v_19 = 0 ∧ c1_20 = cn + 1 := hhq142
              have hhq143 : cn < 120 → s1_21 = fup so (Int.toNat cn) 2 ∧ z1_22 = fup sz (Int.toNat cn) x1 := hhq143
              change Rn _ _ _ 75 _ [.int (iv h_18)] _ _ _ _ _
              obtain ⟨hRKm, hDFm, hhm⟩ := RK_col (nu := nu) (x1 := x1) (u1 := u1_23) (RK_set hk (by omega) (by omega)) (by omega) hhq140 hhq141 hhq142 hhq143
              exact r_iret (pc := 75) dX12_flat_75 rfl ⟨rfl, v_19, c1_20, nm, s1_21, z1_22, dr, mn, fr, tt, wt, co, u1_23, qi, qc, nf, nt, nw, nc, h_18, ht16, rfl, (by (first | assumption | exact RK_set hk (by omega) (by omega))), (by (first | assumption | exact df_r _ _ _ _ _ _ _)), (by omega)⟩
            · refine r_aload_n (pc := 44) dX12_flat_44 (i := 0) rfl rfl ?_
              refine t_getE (pc := 45) (.ref (y + 21)) ht38 (rd_of RG_y) fX12_72 dX12_flat_45 rfl ?_
              refine r_iload (pc := 48) dX12_flat_48 rfl ?_
              refine r_iload (pc := 50) dX12_flat_50 rfl ?_
              refine r_iload (pc := 52) dX12_flat_52 rfl ?_
              have B63 : ∀ hp63 : MH, Tw (RG Γ cI cJ cZ y 0 cn nm so sz dr mn fr tt wt co nu qi qc nf nt nw nc) hp63 → ∀  (x63_2 : Int64), True → Rn (gG D cI cJ cZ cT lo b L xs) mX12_flat d 63 [(0, .ref y), (1, .int (iv x1)), (2, .long j2), (4, .int (iv x3)), (5, .long j4), (7, .int (iv v38_7))] [.long x63_2, .int (iv v38_7), .ref (y + 21)] hp63 n 0 0 (q_X12_flat Γ cI cJ cZ y n rf cn nm so sz dr mn fr tt wt co nu qi qc nf nt nw nc x1 x3 j2 j4) := by
                intro hp63 ht63 x63_2 hf63
                refine t_last (pc := 63) (t0 := 1) ht63 RG_column dX12_flat_63 rfl (by decide) (by omega) trivial (fun hp24 ht25 => ?_)
                refine r_iinc (pc := 64) (v := iv (v38_7 + 1)) (lv' := [(7, .int (iv (v38_7 + 1))), (0, .ref y), (1, .int (iv x1)), (2, .long j2), (4, .int (iv x3)), (5, .long j4)]) dX12_flat_64 rfl (iv_add _ _) (by decide) rfl ?_
                refine r_goto (pc := 67) (tgt := 38) dX12_flat_67 (by decide) ?_
                refine Rn.pick (lv' := [(0, .ref y), (1, .int (iv x1)), (2, .long j2), (4, .int (iv x3)), (5, .long j4), (7, .int (iv (v38_7 + 1)))]) [1, 2, 3, 4, 5, 0] rfl ?_
                exact ih38 (Int.toNat (16 - (v38_7 + 1))) (by omega) _ ht25 (v38_7 + 1) ⟨by omega, by omega⟩ (by omega)
              refine t_icmp_ne (pc := 54) (tgt := 62) dX12_flat_54 (by decide) (by omega) (by omega) (fun c54 => ?_) (fun c54 => ?_)
              · refine r_lload_n (pc := 62) dX12_flat_62 (i := 2) rfl rfl ?_
                refine Rn.pick (lv' := [(0, .ref y), (1, .int (iv x1)), (2, .long j2), (4, .int (iv x3)), (5, .long j4), (7, .int (iv v38_7))]) [0, 1, 2, 3, 4, 5] rfl ?_
                exact B63 _ ht38 j2 trivial
              · refine r_lload (pc := 57) dX12_flat_57 rfl ?_
                refine r_goto (pc := 59) (tgt := 63) dX12_flat_59 (by decide) ?_
                refine Rn.pick (lv' := [(0, .ref y), (1, .int (iv x1)), (2, .long j2), (4, .int (iv x3)), (5, .long j4), (7, .int (iv v38_7))]) [0, 1, 2, 3, 4, 5] rfl ?_
                exact B63 _ ht38 j4 trivial
          refine Rn.pick (lv' := [(0, .ref y), (1, .int (iv x1)), (2, .long j2), (4, .int (iv x3)), (5, .long j4), (7, .int (iv 0))]) [1, 2, 3, 4, 5, 0] rfl ?_
          exact B38 (Int.toNat (16 - 0)) _ ht3 0 ⟨by omega, by omega⟩ (by omega)
        · refine Rn.pick (lv' := [(0, .ref y)]) [0] rfl ?_
          exact B28 _ ht3 trivial
def q_X12_mix (Γ : TG) (cI cJ cZ : ClassId) (y n : Nat) (rf cn nm : Int) (so sz dr mn fr tt wt co : Nat → Int) (nu : Nat → Int64) (qi qc nf nt nw nc : Nat → Int) (x1 x2 x3 : Int) : Option Value → MH → Nat → Prop := fun r hp1 n1 => n1 = n ∧ ∃ (rf' : Int) (cn' : Int) (nm' : Int) (so' : Nat → Int) (sz' : Nat → Int) (dr' : Nat → Int) (mn' : Nat → Int) (fr' : Nat → Int) (tt' : Nat → Int) (wt' : Nat → Int) (co' : Nat → Int) (nu' : Nat → Int64) (qi' : Nat → Int) (qc' : Nat → Int) (nf' : Nat → Int) (nt' : Nat → Int) (nw' : Nat → Int) (nc' : Nat → Int) (v' : Int), Tw (RG Γ cI cJ cZ y rf' cn' nm' so' sz' dr' mn' fr' tt' wt' co' nu' qi' qc' nf' nt' nw' nc') hp1 ∧ r = some (.int (iv v')) ∧ (RK rf' cn' nm' so' sz' dr' mn' fr' tt' wt' co' nu' qi' qc' nf' nt' nw' nc') ∧ (dfE sz dr mn fr tt wt co sz' dr' mn' fr' tt' wt' co') ∧ (-2147483648 ≤ v' ∧ v' ≤ 2147483647)
set_option maxHeartbeats 4000000 in
set_option maxRecDepth 100000 in
theorem s_X12_mix {D : va_G} {cI cJ cZ cT : ClassId} {lo b L : Nat} {xs : Nat → Int32} {hp : MH} {n d : Nat} {Γ : TG} {y : Nat} {rf cn nm : Int} {so sz dr mn fr tt wt co : Nat → Int} {nu : Nat → Int64} {qi qc nf nt nw nc : Nat → Int} {x1 x2 x3 : Int} (hd0 : 3 ≤ d) (hk : RK rf cn nm so sz dr mn fr tt wt co nu qi qc nf nt nw nc) (ht : Tw (RG Γ cI cJ cZ y rf cn nm so sz dr mn fr tt wt co nu qi qc nf nt nw nc) hp) (hx1 : (-2147483648) ≤ x1 ∧ x1 ≤ 2147483647) (hx2 : (-2147483648) ≤ x2 ∧ x2 ≤ 2147483647) (hx3 : (-2147483648) ≤ x3 ∧ x3 ≤ 2147483647) : Mt (gG D cI cJ cZ cT lo b L xs) mX12_mix d 0 0 [.ref y, .int (iv x1), .int (iv x2), .int (iv x3)] hp n (q_X12_mix Γ cI cJ cZ y n rf cn nm so sz dr mn fr tt wt co nu qi qc nf nt nw nc x1 x2 x3) := by
  refine Mt.of rfl (Nat.le_of_ble_eq_true rfl) ?_
  refine Rn.pick (lv' := [(0, .ref y), (1, .int (iv x1)), (2, .int (iv x2)), (3, .int (iv x3))]) [0, 1, 2, 3] rfl ?_
  obtain ⟨hR_sorts, hR_sizes, hR_directs, hR_many, hR_from, hR_to, hR_weight, hR_cost, hR_inPart, hR_partCount, hcn, hrf, hnm, hdf, hgr, hpa, hsz⟩ := id hk
  refine r_aload_n (pc := 0) dX12_mix_0 (i := 0) rfl rfl ?_
  refine r_iload_n (pc := 1) dX12_mix_1 (i := 1) rfl rfl ?_
  refine r_iconst (pc := 2) (v := iv 2) dX12_mix_2 (by decide) ?_
  refine r_iload_n (pc := 3) dX12_mix_3 (i := 2) rfl rfl ?_
  refine r_iconst (pc := 4) (v := iv 2) dX12_mix_4 (by decide) ?_
  obtain ⟨fs5, hfs5⟩ := t_obj ht (rd_of RG_y)
  refine r_callV (pc := 5) (as := [.int (iv x1), .int (iv 2), .int (iv x2), .int (iv 2)]) (st := []) kX12_209 rfl dX12_mix_5 hfs5 (s_X12_haveTwo (d := d - 1) (x1 := x1) (x2 := 2) (x3 := x2) (x4 := 2) (by omega) (by omega) (by assumption) ht (by omega) (by omega) (by omega) (by omega)) rfl (by omega) (Nat.le_of_ble_eq_true rfl) (Nat.zero_le _) (Nat.zero_le _) rfl (fun r2 hp1 n3 hq4 => ?_)
  obtain ⟨hnn3, v_8, b_9, ht6, hrr2, hhq40, hhq41⟩ := hq4
  subst n3 r2
  have hhq40 : -2 ≤ v_8 ∧ v_8 ≤ 0 ∧ (b_9 = 0 ∨ b_9 = 1) := hhq40
  have hhq41 : (b_9 = 1 ∧ v_8 = 0 ∧ 0 ≤ x1 ∧ x1 < cn ∧ 0 ≤ x2 ∧ x2 < cn ∧ so (Int.toNat x1) = 2 ∧ so (Int.toNat x2) = 2) ∨ (b_9 = 0 ∧ v_8 = -1 ∧ ¬ (0 ≤ x1 ∧ x1 < cn ∧ 0 ≤ x2 ∧ x2 < cn)) ∨ (b_9 = 0 ∧ v_8 = -2 ∧ 0 ≤ x1 ∧ x1 < cn ∧ 0 ≤ x2 ∧ x2 < cn ∧ ¬ (so (Int.toNat x1) = 2 ∧ so (Int.toNat x2) = 2)) := hhq41
  change Rn _ _ _ 8 _ [.int (iv b_9)] _ _ _ _ _
  refine t_if_ne (pc := 8) (tgt := 16) dX12_mix_8 (by decide) (by omega) (fun c8 => ?_) (fun c8 => ?_)
  · have rsz8 := hR_sizes (Int.toNat x1) (by omega)
    have rsy8 := hsz x1 (by omega) (by omega)
    have rsw8 := hR_sizes (Int.toNat x2) (by omega)
    have rsx8 := hsz x2 (by omega) (by omega)
    refine r_iload_n (pc := 16) dX12_mix_16 (i := 3) rfl rfl ?_
    have B41 : ∀ hp41 : MH, Tw (RG Γ cI cJ cZ y v_8 cn nm so sz dr mn fr tt wt co nu qi qc nf nt nw nc) hp41 → True → Rn (gG D cI cJ cZ cT lo b L xs) mX12_mix d 41 [(0, .ref y)] [] hp41 n 0 0 (q_X12_mix Γ cI cJ cZ y n rf cn nm so sz dr mn fr tt wt co nu qi qc nf nt nw nc x1 x2 x3) := by
      intro hp41 ht41 hf41
      refine r_aload_n (pc := 41) dX12_mix_41 (i := 0) rfl rfl ?_
      refine r_bipush (pc := 42) (v := iv (-3)) dX12_mix_42 (by decide) ?_
      obtain ⟨fs14, hfs14⟩ := t_obj ht41 (rd_of RG_y)
      refine r_callV (pc := 44) (as := [.int (iv (-3))]) (st := []) kX12_153 rfl dX12_mix_44 hfs14 (s_X12_refuse (d := d - 1) (x1 := (-3)) (by omega) ht41 (by omega)) rfl (by omega) (Nat.le_of_ble_eq_true rfl) (Nat.zero_le _) (Nat.zero_le _) rfl (fun r11 hp10 n12 hq13 => ?_)
      obtain ⟨hnn12, ht15, hrr11⟩ := hq13
      subst n12 r11
      change Rn _ _ _ 47 _ [.int (iv (-3))] _ _ _ _ _
      exact r_iret (pc := 47) dX12_mix_47 rfl ⟨rfl, (-3), cn, nm, so, sz, dr, mn, fr, tt, wt, co, nu, qi, qc, nf, nt, nw, nc, (-3), ht15, rfl, (by (first | assumption | exact RK_set hk (by omega) (by omega))), (by (first | assumption | exact df_r _ _ _ _ _ _ _)), (by omega)⟩
    refine t_if_lt (pc := 17) (tgt := 41) dX12_mix_17 (by decide) (by omega) (fun c17 => ?_) (fun c17 => ?_)
    · refine Rn.pick (lv' := [(0, .ref y)]) [0] rfl ?_
      exact B41 _ ht6 trivial
    · refine r_iload_n (pc := 20) dX12_mix_20 (i := 3) rfl rfl ?_
      refine r_bipush (pc := 21) (v := iv 6) dX12_mix_21 (by decide) ?_
      refine t_icmp_gt (pc := 23) (tgt := 41) dX12_mix_23 (by decide) (by omega) (by omega) (fun c23 => ?_) (fun c23 => ?_)
      · refine Rn.pick (lv' := [(0, .ref y)]) [0] rfl ?_
        exact B41 _ ht6 trivial
      · refine r_aload_n (pc := 26) dX12_mix_26 (i := 0) rfl rfl ?_
        refine t_getE (pc := 27) (.ref (y + 2)) ht6 (rd_of RG_y) fX12_13 dX12_mix_27 rfl ?_
        refine r_iload_n (pc := 30) dX12_mix_30 (i := 1) rfl rfl ?_
        refine t_ialdX (pc := 31) (t0 := 0) ht6 (rd_of RG_sizes) dX12_mix_31 rfl (by decide) (by omega) (fun b17 => ?_)
        have rb17 := (show Rfx 121 0 16 sz by assumption) (Int.toNat x1) (by omega)
        refine r_aload_n (pc := 32) dX12_mix_32 (i := 0) rfl rfl ?_
        refine t_getE (pc := 33) (.ref (y + 2)) ht6 (rd_of RG_y) fX12_13 dX12_mix_33 rfl ?_
        refine r_iload_n (pc := 36) dX12_mix_36 (i := 2) rfl rfl ?_
        refine t_ialdX (pc := 37) (t0 := 0) ht6 (rd_of RG_sizes) dX12_mix_37 rfl (by decide) (by omega) (fun b18 => ?_)
        have rb18 := (show Rfx 121 0 16 sz by assumption) (Int.toNat x2) (by omega)
        refine t_icmp_eq (pc := 38) (tgt := 48) dX12_mix_38 (by decide) (by omega) (by omega) (fun c38 => ?_) (fun c38 => ?_)
        · refine r_iconst (pc := 48) (v := iv 0) dX12_mix_48 (by decide) ?_
          refine r_istore (pc := 49) (lv' := [(4, .int (iv 0)), (0, .ref y), (1, .int (iv x1)), (2, .int (iv x2)), (3, .int (iv x3))]) dX12_mix_49 (by decide) rfl ?_
          have B51 : ∀ k : Nat, ∀ hp51 : MH, Tw (RG Γ cI cJ cZ y v_8 cn nm so sz dr mn fr tt wt co nu qi qc nf nt nw nc) hp51 → ∀  (v51_4 : Int), 0 ≤ v51_4 ∧ v51_4 ≤ 16 → 16 - v51_4 ≤ (k : Int) → Rn (gG D cI cJ cZ cT lo b L xs) mX12_mix d 51 [(0, .ref y), (1, .int (iv x1)), (2, .int (iv x2)), (3, .int (iv x3)), (4, .int (iv v51_4))] [] hp51 n 0 0 (q_X12_mix Γ cI cJ cZ y n rf cn nm so sz dr mn fr tt wt co nu qi qc nf nt nw nc x1 x2 x3) := by
            refine lpS _ ?_
            intro k51 ih51 hp51 ht51 v51_4 hf51 hm51
            refine r_iload (pc := 51) dX12_mix_51 rfl ?_
            refine r_aload_n (pc := 53) dX12_mix_53 (i := 0) rfl rfl ?_
            refine t_getE (pc := 54) (.ref (y + 2)) ht51 (rd_of RG_y) fX12_13 dX12_mix_54 rfl ?_
            refine r_iload_n (pc := 57) dX12_mix_57 (i := 1) rfl rfl ?_
            refine t_ialdX (pc := 58) (t0 := 0) ht51 (rd_of RG_sizes) dX12_mix_58 rfl (by decide) (by omega) (fun b19 => ?_)
            have rb19 := (show Rfx 121 0 16 sz by assumption) (Int.toNat x1) (by omega)
            refine t_icmp_ge (pc := 59) (tgt := 213) dX12_mix_59 (by decide) (by omega) (by omega) (fun c59 => ?_) (fun c59 => ?_)
            · refine r_aload_n (pc := 213) dX12_mix_213 (i := 0) rfl rfl ?_
              refine r_aload_n (pc := 214) dX12_mix_214 (i := 0) rfl rfl ?_
              refine t_getE (pc := 215) (.ref (y + 2)) ht51 (rd_of RG_y) fX12_13 dX12_mix_215 rfl ?_
              refine r_iload_n (pc := 218) dX12_mix_218 (i := 1) rfl rfl ?_
              refine t_ialdX (pc := 219) (t0 := 0) ht51 (rd_of RG_sizes) dX12_mix_219 rfl (by decide) (by omega) (fun b20 => ?_)
              have rb20 := (show Rfx 121 0 16 sz by assumption) (Int.toNat x1) (by omega)
              obtain ⟨fs25, hfs25⟩ := t_obj ht51 (rd_of RG_y)
              refine r_callV (pc := 220) (as := [.int (iv (sz (Int.toNat x1)))]) (st := []) kX12_228 rfl dX12_mix_220 hfs25 (s_X12_madeColumn (d := d - 1) (x1 := sz (Int.toNat x1)) (by omega) (by omega) (by assumption) (by omega) (by assumption) ht51 (by omega)) rfl (by omega) (Nat.le_of_ble_eq_true rfl) (Nat.zero_le _) (Nat.zero_le _) rfl (fun r22 hp21 n23 hq24 => ?_)
              obtain ⟨hnn23, h_28, v_29, c1_30, s1_31, z1_32, u1_33, ht26, hrr22, hhq240, hhq241, hhq242, hhq243⟩ := hq24
              subst n23 r22
              have hhq240 : cn = 120 → h_28 = -4 ∧ v_29 = -4 ∧ c1_30 = cn := hhq240
              have hhq241 : cn = 120 → s1_31 = so ∧ z1_32 = sz := hhq241
              have hhq242 : cn < 120 → h_28 = cn ∧ v_29 = v_8 ∧ c1_30 = cn + 1 := hhq242
              have hhq243 : cn < 120 → s1_31 = fup so (Int.toNat cn) 2 ∧ z1_32 = fup sz (Int.toNat cn) (sz (Int.toNat x1)) := hhq243
              change Rn _ _ _ 223 _ [.int (iv h_28)] _ _ _ _ _
              obtain ⟨hRKm, hDFm, hhm⟩ := RK_col (nu := nu) (x1 := sz (Int.toNat x1)) (u1 := u1_33) (RK_set hk (by omega) (by omega)) (by omega) hhq240 hhq241 hhq242 hhq243
              exact r_iret (pc := 223) dX12_mix_223 rfl ⟨rfl, v_29, c1_30, nm, s1_31, z1_32, dr, mn, fr, tt, wt, co, u1_33, qi, qc, nf, nt, nw, nc, h_28, ht26, rfl, (by (first | assumption | exact RK_set hk (by omega) (by omega))), (by (first | assumption | exact df_r _ _ _ _ _ _ _)), (by omega)⟩
            · refine r_aload_n (pc := 62) dX12_mix_62 (i := 0) rfl rfl ?_
              refine t_getE (pc := 63) (.ref (y + 9)) ht51 (rd_of RG_y) fX12_35 dX12_mix_63 rfl ?_
              refine r_bipush (pc := 66) (v := iv 16) dX12_mix_66 (by decide) ?_
              refine r_iload_n (pc := 68) dX12_mix_68 (i := 1) rfl rfl ?_
              refine r_imul (pc := 69) (v := iv (16 * x1)) dX12_mix_69 (iv_mul _ _) ?_
              refine r_iload (pc := 70) dX12_mix_70 rfl ?_
              refine r_iadd (pc := 72) (v := iv ((16 * x1) + v51_4)) dX12_mix_72 (iv_add _ _) ?_
              refine t_laldX (pc := 73) (t0 := 1) ht51 (rd_of RG_numbers) dX12_mix_73 rfl (by decide) (by omega) ?_
              refine r_lstore (pc := 74) (lv' := [(5, .long (nu (Int.toNat ((16 * x1) + v51_4)))), (0, .ref y), (1, .int (iv x1)), (2, .int (iv x2)), (3, .int (iv x3)), (4, .int (iv v51_4))]) dX12_mix_74 (by decide) rfl ?_
              refine r_aload_n (pc := 76) dX12_mix_76 (i := 0) rfl rfl ?_
              refine t_getE (pc := 77) (.ref (y + 9)) ht51 (rd_of RG_y) fX12_35 dX12_mix_77 rfl ?_
              refine r_bipush (pc := 80) (v := iv 16) dX12_mix_80 (by decide) ?_
              refine r_iload_n (pc := 82) dX12_mix_82 (i := 2) rfl rfl ?_
              refine r_imul (pc := 83) (v := iv (16 * x2)) dX12_mix_83 (iv_mul _ _) ?_
              refine r_iload (pc := 84) dX12_mix_84 rfl ?_
              refine r_iadd (pc := 86) (v := iv ((16 * x2) + v51_4)) dX12_mix_86 (iv_add _ _) ?_
              refine t_laldX (pc := 87) (t0 := 1) ht51 (rd_of RG_numbers) dX12_mix_87 rfl (by decide) (by omega) ?_
              refine r_lstore (pc := 88) (lv' := [(7, .long (nu (Int.toNat ((16 * x2) + v51_4)))), (5, .long (nu (Int.toNat ((16 * x1) + v51_4)))), (0, .ref y), (1, .int (iv x1)), (2, .int (iv x2)), (3, .int (iv x3)), (4, .int (iv v51_4))]) dX12_mix_88 (by decide) rfl ?_
              refine r_aload_n (pc := 90) dX12_mix_90 (i := 0) rfl rfl ?_
              refine t_getE (pc := 91) (.ref (y + 21)) ht51 (rd_of RG_y) fX12_72 dX12_mix_91 rfl ?_
              refine r_iload (pc := 94) dX12_mix_94 rfl ?_
              refine r_iload_n (pc := 96) dX12_mix_96 (i := 3) rfl rfl ?_
              have B206 : ∀ hp206 : MH, Tw (RG Γ cI cJ cZ y v_8 cn nm so sz dr mn fr tt wt co nu qi qc nf nt nw nc) hp206 → ∀  (x206_2 : Int64), True → Rn (gG D cI cJ cZ cT lo b L xs) mX12_mix d 206 [(0, .ref y), (1, .int (iv x1)), (2, .int (iv x2)), (3, .int (iv x3)), (4, .int (iv v51_4))] [.long x206_2, .int (iv v51_4), .ref (y + 21)] hp206 n 0 0 (q_X12_mix Γ cI cJ cZ y n rf cn nm so sz dr mn fr tt wt co nu qi qc nf nt nw nc x1 x2 x3) := by
                intro hp206 ht206 x206_2 hf206
                refine t_last (pc := 206) (t0 := 1) ht206 RG_column dX12_mix_206 rfl (by decide) (by omega) trivial (fun hp34 ht35 => ?_)
                refine r_iinc (pc := 207) (v := iv (v51_4 + 1)) (lv' := [(4, .int (iv (v51_4 + 1))), (0, .ref y), (1, .int (iv x1)), (2, .int (iv x2)), (3, .int (iv x3))]) dX12_mix_207 rfl (iv_add _ _) (by decide) rfl ?_
                refine r_goto (pc := 210) (tgt := 51) dX12_mix_210 (by decide) ?_
                refine Rn.pick (lv' := [(0, .ref y), (1, .int (iv x1)), (2, .int (iv x2)), (3, .int (iv x3)), (4, .int (iv (v51_4 + 1)))]) [1, 2, 3, 4, 0] rfl ?_
                exact ih51 (Int.toNat (16 - (v51_4 + 1))) (by omega) _ ht35 (v51_4 + 1) ⟨by omega, by omega⟩ (by omega)
              refine t_if_ne (pc := 97) (tgt := 108) dX12_mix_97 (by decide) (by omega) (fun c97 => ?_) (fun c97 => ?_)
              · refine r_iload_n (pc := 108) dX12_mix_108 (i := 3) rfl rfl ?_
                refine r_iconst (pc := 109) (v := iv 1) dX12_mix_109 (by decide) ?_
                refine t_icmp_ne (pc := 110) (tgt := 121) dX12_mix_110 (by decide) (by omega) (by omega) (fun c110 => ?_) (fun c110 => ?_)
                · refine r_iload_n (pc := 121) dX12_mix_121 (i := 3) rfl rfl ?_
                  refine r_iconst (pc := 122) (v := iv 2) dX12_mix_122 (by decide) ?_
                  refine t_icmp_ne (pc := 123) (tgt := 134) dX12_mix_123 (by decide) (by omega) (by omega) (fun c123 => ?_) (fun c123 => ?_)
                  · refine r_iload_n (pc := 134) dX12_mix_134 (i := 3) rfl rfl ?_
                    refine r_iconst (pc := 135) (v := iv 3) dX12_mix_135 (by decide) ?_
                    refine t_icmp_ne (pc := 136) (tgt := 157) dX12_mix_136 (by decide) (by omega) (by omega) (fun c136 => ?_) (fun c136 => ?_)
                    · refine r_iload_n (pc := 157) dX12_mix_157 (i := 3) rfl rfl ?_
                      refine r_iconst (pc := 158) (v := iv 4) dX12_mix_158 (by decide) ?_
                      refine t_icmp_ne (pc := 159) (tgt := 180) dX12_mix_159 (by decide) (by omega) (by omega) (fun c159 => ?_) (fun c159 => ?_)
                      · refine r_iload_n (pc := 180) dX12_mix_180 (i := 3) rfl rfl ?_
                        refine r_iconst (pc := 181) (v := iv 5) dX12_mix_181 (by decide) ?_
                        refine t_icmp_ne (pc := 182) (tgt := 193) dX12_mix_182 (by decide) (by omega) (by omega) (fun c182 => ?_) (fun c182 => ?_)
                        · refine r_lload (pc := 193) dX12_mix_193 rfl ?_
                          refine r_lload (pc := 195) dX12_mix_195 rfl ?_
                          refine r_lcmp (pc := 197) dX12_mix_197 ?_
                          refine r_if_ge (pc := 198) (tgt := 205) dX12_mix_198 (by decide) (fun c198 => ?_) (fun c198 => ?_)
                          · refine r_lconst (pc := 205) (v := 0) dX12_mix_205 (by decide) ?_
                            refine Rn.pick (lv' := [(0, .ref y), (1, .int (iv x1)), (2, .int (iv x2)), (3, .int (iv x3)), (4, .int (iv v51_4))]) [2, 3, 4, 5, 6] rfl ?_
                            exact B206 _ ht51 (0 : Int64) trivial
                          · refine r_lconst (pc := 201) (v := 1) dX12_mix_201 (by decide) ?_
                            refine r_goto (pc := 202) (tgt := 206) dX12_mix_202 (by decide) ?_
                            refine Rn.pick (lv' := [(0, .ref y), (1, .int (iv x1)), (2, .int (iv x2)), (3, .int (iv x3)), (4, .int (iv v51_4))]) [2, 3, 4, 5, 6] rfl ?_
                            exact B206 _ ht51 (1 : Int64) trivial
                        · refine r_lload (pc := 185) dX12_mix_185 rfl ?_
                          refine r_lload (pc := 187) dX12_mix_187 rfl ?_
                          refine r_lxor (pc := 189) (v := (nu (Int.toNat ((16 * x1) + v51_4))) ^^^ (nu (Int.toNat ((16 * x2) + v51_4)))) dX12_mix_189 rfl ?_
                          refine r_goto (pc := 190) (tgt := 206) dX12_mix_190 (by decide) ?_
                          refine Rn.pick (lv' := [(0, .ref y), (1, .int (iv x1)), (2, .int (iv x2)), (3, .int (iv x3)), (4, .int (iv v51_4))]) [2, 3, 4, 5, 6] rfl ?_
                          exact B206 _ ht51 ((nu (Int.toNat ((16 * x1) + v51_4))) ^^^ (nu (Int.toNat ((16 * x2) + v51_4)))) trivial
                      · refine r_lload (pc := 162) dX12_mix_162 rfl ?_
                        refine r_lload (pc := 164) dX12_mix_164 rfl ?_
                        refine r_lcmp (pc := 166) dX12_mix_166 ?_
                        refine r_if_le (pc := 167) (tgt := 175) dX12_mix_167 (by decide) (fun c167 => ?_) (fun c167 => ?_)
                        · refine r_lload (pc := 175) dX12_mix_175 rfl ?_
                          refine r_goto (pc := 177) (tgt := 206) dX12_mix_177 (by decide) ?_
                          refine Rn.pick (lv' := [(0, .ref y), (1, .int (iv x1)), (2, .int (iv x2)), (3, .int (iv x3)), (4, .int (iv v51_4))]) [2, 3, 4, 5, 6] rfl ?_
                          exact B206 _ ht51 (nu (Int.toNat ((16 * x2) + v51_4))) trivial
                        · refine r_lload (pc := 170) dX12_mix_170 rfl ?_
                          refine r_goto (pc := 172) (tgt := 206) dX12_mix_172 (by decide) ?_
                          refine Rn.pick (lv' := [(0, .ref y), (1, .int (iv x1)), (2, .int (iv x2)), (3, .int (iv x3)), (4, .int (iv v51_4))]) [2, 3, 4, 5, 6] rfl ?_
                          exact B206 _ ht51 (nu (Int.toNat ((16 * x1) + v51_4))) trivial
                    · refine r_lload (pc := 139) dX12_mix_139 rfl ?_
                      refine r_lload (pc := 141) dX12_mix_141 rfl ?_
                      refine r_lcmp (pc := 143) dX12_mix_143 ?_
                      refine r_if_ge (pc := 144) (tgt := 152) dX12_mix_144 (by decide) (fun c144 => ?_) (fun c144 => ?_)
                      · refine r_lload (pc := 152) dX12_mix_152 rfl ?_
                        refine r_goto (pc := 154) (tgt := 206) dX12_mix_154 (by decide) ?_
                        refine Rn.pick (lv' := [(0, .ref y), (1, .int (iv x1)), (2, .int (iv x2)), (3, .int (iv x3)), (4, .int (iv v51_4))]) [2, 3, 4, 5, 6] rfl ?_
                        exact B206 _ ht51 (nu (Int.toNat ((16 * x2) + v51_4))) trivial
                      · refine r_lload (pc := 147) dX12_mix_147 rfl ?_
                        refine r_goto (pc := 149) (tgt := 206) dX12_mix_149 (by decide) ?_
                        refine Rn.pick (lv' := [(0, .ref y), (1, .int (iv x1)), (2, .int (iv x2)), (3, .int (iv x3)), (4, .int (iv v51_4))]) [2, 3, 4, 5, 6] rfl ?_
                        exact B206 _ ht51 (nu (Int.toNat ((16 * x1) + v51_4))) trivial
                  · refine r_lload (pc := 126) dX12_mix_126 rfl ?_
                    refine r_lload (pc := 128) dX12_mix_128 rfl ?_
                    refine r_lmul (pc := 130) (v := (nu (Int.toNat ((16 * x1) + v51_4))) * (nu (Int.toNat ((16 * x2) + v51_4)))) dX12_mix_130 rfl ?_
                    refine r_goto (pc := 131) (tgt := 206) dX12_mix_131 (by decide) ?_
                    refine Rn.pick (lv' := [(0, .ref y), (1, .int (iv x1)), (2, .int (iv x2)), (3, .int (iv x3)), (4, .int (iv v51_4))]) [2, 3, 4, 5, 6] rfl ?_
                    exact B206 _ ht51 ((nu (Int.toNat ((16 * x1) + v51_4))) * (nu (Int.toNat ((16 * x2) + v51_4)))) trivial
                · refine r_lload (pc := 113) dX12_mix_113 rfl ?_
                  refine r_lload (pc := 115) dX12_mix_115 rfl ?_
                  refine r_lsub (pc := 117) (v := (nu (Int.toNat ((16 * x1) + v51_4))) - (nu (Int.toNat ((16 * x2) + v51_4)))) dX12_mix_117 rfl ?_
                  refine r_goto (pc := 118) (tgt := 206) dX12_mix_118 (by decide) ?_
                  refine Rn.pick (lv' := [(0, .ref y), (1, .int (iv x1)), (2, .int (iv x2)), (3, .int (iv x3)), (4, .int (iv v51_4))]) [2, 3, 4, 5, 6] rfl ?_
                  exact B206 _ ht51 ((nu (Int.toNat ((16 * x1) + v51_4))) - (nu (Int.toNat ((16 * x2) + v51_4)))) trivial
              · refine r_lload (pc := 100) dX12_mix_100 rfl ?_
                refine r_lload (pc := 102) dX12_mix_102 rfl ?_
                refine r_ladd (pc := 104) (v := (nu (Int.toNat ((16 * x1) + v51_4))) + (nu (Int.toNat ((16 * x2) + v51_4)))) dX12_mix_104 rfl ?_
                refine r_goto (pc := 105) (tgt := 206) dX12_mix_105 (by decide) ?_
                refine Rn.pick (lv' := [(0, .ref y), (1, .int (iv x1)), (2, .int (iv x2)), (3, .int (iv x3)), (4, .int (iv v51_4))]) [2, 3, 4, 5, 6] rfl ?_
                exact B206 _ ht51 ((nu (Int.toNat ((16 * x1) + v51_4))) + (nu (Int.toNat ((16 * x2) + v51_4)))) trivial
          refine Rn.pick (lv' := [(0, .ref y), (1, .int (iv x1)), (2, .int (iv x2)), (3, .int (iv x3)), (4, .int (iv 0))]) [1, 2, 3, 4, 0] rfl ?_
          exact B51 (Int.toNat (16 - 0)) _ ht6 0 ⟨by omega, by omega⟩ (by omega)
        · refine Rn.pick (lv' := [(0, .ref y)]) [0] rfl ?_
          exact B41 _ ht6 trivial
  · refine r_aload_n (pc := 11) dX12_mix_11 (i := 0) rfl rfl ?_
    refine t_getE (pc := 12) (.int (iv v_8)) ht6 (rd_of RG_y) fX12_142 dX12_mix_12 rfl ?_
    exact r_iret (pc := 15) dX12_mix_15 rfl ⟨rfl, v_8, cn, nm, so, sz, dr, mn, fr, tt, wt, co, nu, qi, qc, nf, nt, nw, nc, v_8, ht6, rfl, (by (first | assumption | exact RK_set hk (by omega) (by omega))), (by (first | assumption | exact df_r _ _ _ _ _ _ _)), (by omega)⟩
def q_X12_run (Γ : TG) (cI cJ cZ : ClassId) (y n : Nat) (rf cn nm : Int) (so sz dr mn fr tt wt co : Nat → Int) (nu : Nat → Int64) (qi qc nf nt nw nc : Nat → Int) (x1 x2 x3 x4 x5 x6 : Int) : Option Value → MH → Nat → Prop := fun r hp1 n1 => n1 = n ∧ ∃ (rf' : Int) (cn' : Int) (nm' : Int) (so' : Nat → Int) (sz' : Nat → Int) (dr' : Nat → Int) (mn' : Nat → Int) (fr' : Nat → Int) (tt' : Nat → Int) (wt' : Nat → Int) (co' : Nat → Int) (nu' : Nat → Int64) (qi' : Nat → Int) (qc' : Nat → Int) (nf' : Nat → Int) (nt' : Nat → Int) (nw' : Nat → Int) (nc' : Nat → Int) (v' : Int), Tw (RG Γ cI cJ cZ y rf' cn' nm' so' sz' dr' mn' fr' tt' wt' co' nu' qi' qc' nf' nt' nw' nc') hp1 ∧ r = some (.int (iv v')) ∧ (RK rf' cn' nm' so' sz' dr' mn' fr' tt' wt' co' nu' qi' qc' nf' nt' nw' nc') ∧ (dfE sz dr mn fr tt wt co sz' dr' mn' fr' tt' wt' co') ∧ (-2147483648 ≤ v' ∧ v' ≤ 2147483647)
set_option maxHeartbeats 4000000 in
set_option maxRecDepth 100000 in
theorem s_X12_run {D : va_G} {cI cJ cZ cT : ClassId} {lo b L : Nat} {xs : Nat → Int32} {hp : MH} {n d : Nat} {Γ : TG} {y : Nat} {rf cn nm : Int} {so sz dr mn fr tt wt co : Nat → Int} {nu : Nat → Int64} {qi qc nf nt nw nc : Nat → Int} {x1 x2 x3 x4 x5 x6 : Int} (hd0 : 3 ≤ d) (hk : RK rf cn nm so sz dr mn fr tt wt co nu qi qc nf nt nw nc) (ht : Tw (RG Γ cI cJ cZ y rf cn nm so sz dr mn fr tt wt co nu qi qc nf nt nw nc) hp) (hx1 : (-2147483648) ≤ x1 ∧ x1 ≤ 2147483647) (hx2 : (-2147483648) ≤ x2 ∧ x2 ≤ 2147483647) (hx3 : (-2147483648) ≤ x3 ∧ x3 ≤ 2147483647) (hx4 : (-2147483648) ≤ x4 ∧ x4 ≤ 2147483647) (hx5 : 0 ≤ x5 ∧ x5 ≤ 1) (hx6 : (-2147483648) ≤ x6 ∧ x6 ≤ 2147483647) : Mt (gG D cI cJ cZ cT lo b L xs) mX12_run d 0 0 [.ref y, .int (iv x1), .int (iv x2), .int (iv x3), .int (iv x4), .int (iv x5), .int (iv x6)] hp n (q_X12_run Γ cI cJ cZ y n rf cn nm so sz dr mn fr tt wt co nu qi qc nf nt nw nc x1 x2 x3 x4 x5 x6) := by
  refine Mt.of rfl (Nat.le_of_ble_eq_true rfl) ?_
  refine Rn.pick (lv' := [(0, .ref y), (1, .int (iv x1)), (2, .int (iv x2)), (3, .int (iv x3)), (4, .int (iv x4)), (5, .int (iv x5)), (6, .int (iv x6))]) [0, 1, 2, 3, 4, 5, 6] rfl ?_
  obtain ⟨hR_sorts, hR_sizes, hR_directs, hR_many, hR_from, hR_to, hR_weight, hR_cost, hR_inPart, hR_partCount, hcn, hrf, hnm, hdf, hgr, hpa, hsz⟩ := id hk
  refine r_aload_n (pc := 0) dX12_run_0 (i := 0) rfl rfl ?_
  refine r_iload_n (pc := 1) dX12_run_1 (i := 1) rfl rfl ?_
  refine r_iconst (pc := 2) (v := iv 1) dX12_run_2 (by decide) ?_
  refine r_iload_n (pc := 3) dX12_run_3 (i := 2) rfl rfl ?_
  refine r_iconst (pc := 4) (v := iv 2) dX12_run_4 (by decide) ?_
  obtain ⟨fs5, hfs5⟩ := t_obj ht (rd_of RG_y)
  refine r_callV (pc := 5) (as := [.int (iv x1), .int (iv 1), .int (iv x2), .int (iv 2)]) (st := []) kX12_209 rfl dX12_run_5 hfs5 (s_X12_haveTwo (d := d - 1) (x1 := x1) (x2 := 1) (x3 := x2) (x4 := 2) (by omega) (by omega) (by assumption) ht (by omega) (by omega) (by omega) (by omega)) rfl (by omega) (Nat.le_of_ble_eq_true rfl) (Nat.zero_le _) (Nat.zero_le _) rfl (fun r2 hp1 n3 hq4 => ?_)
  obtain ⟨hnn3, v_8, b_9, ht6, hrr2, hhq40, hhq41⟩ := hq4
  subst n3 r2
  have hhq40 : -2 ≤ v_8 ∧ v_8 ≤ 0 ∧ (b_9 = 0 ∨ b_9 = 1) := hhq40
  have hhq41 : (b_9 = 1 ∧ v_8 = 0 ∧ 0 ≤ x1 ∧ x1 < cn ∧ 0 ≤ x2 ∧ x2 < cn ∧ so (Int.toNat x1) = 1 ∧ so (Int.toNat x2) = 2) ∨ (b_9 = 0 ∧ v_8 = -1 ∧ ¬ (0 ≤ x1 ∧ x1 < cn ∧ 0 ≤ x2 ∧ x2 < cn)) ∨ (b_9 = 0 ∧ v_8 = -2 ∧ 0 ≤ x1 ∧ x1 < cn ∧ 0 ≤ x2 ∧ x2 < cn ∧ ¬ (so (Int.toNat x1) = 1 ∧ so (Int.toNat x2) = 2)) := hhq41
  change Rn _ _ _ 8 _ [.int (iv b_9)] _ _ _ _ _
  refine t_if_ne (pc := 8) (tgt := 16) dX12_run_8 (by decide) (by omega) (fun c8 => ?_) (fun c8 => ?_)
  · have rsz8 := hR_sizes (Int.toNat x1) (by omega)
    have rsy8 := hsz x1 (by omega) (by omega)
    have hen := hgr x1 (by omega) (by omega) (by omega)
    have rmn8 := hR_many (Int.toNat x1) (by omega)
    have rsw8 := hR_sizes (Int.toNat x2) (by omega)
    have rsx8 := hsz x2 (by omega) (by omega)
    refine r_aload_n (pc := 16) dX12_run_16 (i := 0) rfl rfl ?_
    refine t_getE (pc := 17) (.ref (y + 2)) ht6 (rd_of RG_y) fX12_13 dX12_run_17 rfl ?_
    refine r_iload_n (pc := 20) dX12_run_20 (i := 1) rfl rfl ?_
    refine t_ialdX (pc := 21) (t0 := 0) ht6 (rd_of RG_sizes) dX12_run_21 rfl (by decide) (by omega) (fun b10 => ?_)
    have rb10 := (show Rfx 121 0 16 sz by assumption) (Int.toNat x1) (by omega)
    refine r_aload_n (pc := 22) dX12_run_22 (i := 0) rfl rfl ?_
    refine t_getE (pc := 23) (.ref (y + 2)) ht6 (rd_of RG_y) fX12_13 dX12_run_23 rfl ?_
    refine r_iload_n (pc := 26) dX12_run_26 (i := 2) rfl rfl ?_
    refine t_ialdX (pc := 27) (t0 := 0) ht6 (rd_of RG_sizes) dX12_run_27 rfl (by decide) (by omega) (fun b11 => ?_)
    have rb11 := (show Rfx 121 0 16 sz by assumption) (Int.toNat x2) (by omega)
    have B64 : ∀ hp64 : MH, Tw (RG Γ cI cJ cZ y v_8 cn nm so sz dr mn fr tt wt co nu qi qc nf nt nw nc) hp64 → True → Rn (gG D cI cJ cZ cT lo b L xs) mX12_run d 64 [(0, .ref y)] [] hp64 n 0 0 (q_X12_run Γ cI cJ cZ y n rf cn nm so sz dr mn fr tt wt co nu qi qc nf nt nw nc x1 x2 x3 x4 x5 x6) := by
      intro hp64 ht64 hf64
      refine r_aload_n (pc := 64) dX12_run_64 (i := 0) rfl rfl ?_
      refine r_bipush (pc := 65) (v := iv (-3)) dX12_run_65 (by decide) ?_
      obtain ⟨fs16, hfs16⟩ := t_obj ht64 (rd_of RG_y)
      refine r_callV (pc := 67) (as := [.int (iv (-3))]) (st := []) kX12_153 rfl dX12_run_67 hfs16 (s_X12_refuse (d := d - 1) (x1 := (-3)) (by omega) ht64 (by omega)) rfl (by omega) (Nat.le_of_ble_eq_true rfl) (Nat.zero_le _) (Nat.zero_le _) rfl (fun r13 hp12 n14 hq15 => ?_)
      obtain ⟨hnn14, ht17, hrr13⟩ := hq15
      subst n14 r13
      change Rn _ _ _ 70 _ [.int (iv (-3))] _ _ _ _ _
      exact r_iret (pc := 70) dX12_run_70 rfl ⟨rfl, (-3), cn, nm, so, sz, dr, mn, fr, tt, wt, co, nu, qi, qc, nf, nt, nw, nc, (-3), ht17, rfl, (by (first | assumption | exact RK_set hk (by omega) (by omega))), (by (first | assumption | exact df_r _ _ _ _ _ _ _)), (by omega)⟩
    refine t_icmp_ne (pc := 28) (tgt := 64) dX12_run_28 (by decide) (by omega) (by omega) (fun c28 => ?_) (fun c28 => ?_)
    · refine Rn.pick (lv' := [(0, .ref y)]) [0] rfl ?_
      exact B64 _ ht6 trivial
    · refine r_iload_n (pc := 31) dX12_run_31 (i := 3) rfl rfl ?_
      refine t_if_lt (pc := 32) (tgt := 64) dX12_run_32 (by decide) (by omega) (fun c32 => ?_) (fun c32 => ?_)
      · refine Rn.pick (lv' := [(0, .ref y)]) [0] rfl ?_
        exact B64 _ ht6 trivial
      · refine r_iload_n (pc := 35) dX12_run_35 (i := 3) rfl rfl ?_
        refine r_iconst (pc := 36) (v := iv 4) dX12_run_36 (by decide) ?_
        refine t_icmp_gt (pc := 37) (tgt := 64) dX12_run_37 (by decide) (by omega) (by omega) (fun c37 => ?_) (fun c37 => ?_)
        · refine Rn.pick (lv' := [(0, .ref y)]) [0] rfl ?_
          exact B64 _ ht6 trivial
        · refine r_iload (pc := 40) dX12_run_40 rfl ?_
          refine t_if_lt (pc := 42) (tgt := 64) dX12_run_42 (by decide) (by omega) (fun c42 => ?_) (fun c42 => ?_)
          · refine Rn.pick (lv' := [(0, .ref y)]) [0] rfl ?_
            exact B64 _ ht6 trivial
          · refine r_iload (pc := 45) dX12_run_45 rfl ?_
            refine r_iconst (pc := 47) (v := iv 3) dX12_run_47 (by decide) ?_
            refine t_icmp_gt (pc := 48) (tgt := 64) dX12_run_48 (by decide) (by omega) (by omega) (fun c48 => ?_) (fun c48 => ?_)
            · refine Rn.pick (lv' := [(0, .ref y)]) [0] rfl ?_
              exact B64 _ ht6 trivial
            · refine r_iload (pc := 51) dX12_run_51 rfl ?_
              refine t_if_lt (pc := 53) (tgt := 64) dX12_run_53 (by decide) (by omega) (fun c53 => ?_) (fun c53 => ?_)
              · refine Rn.pick (lv' := [(0, .ref y)]) [0] rfl ?_
                exact B64 _ ht6 trivial
              · refine r_iload (pc := 56) dX12_run_56 rfl ?_
                refine r_sipush (pc := 58) (v := iv 200) dX12_run_58 (by decide) ?_
                refine t_icmp_le (pc := 61) (tgt := 71) dX12_run_61 (by decide) (by omega) (by omega) (fun c61 => ?_) (fun c61 => ?_)
                · refine r_aload_n (pc := 71) dX12_run_71 (i := 0) rfl rfl ?_
                  refine t_getE (pc := 72) (.ref (y + 2)) ht6 (rd_of RG_y) fX12_13 dX12_run_72 rfl ?_
                  refine r_iload_n (pc := 75) dX12_run_75 (i := 1) rfl rfl ?_
                  refine t_ialdX (pc := 76) (t0 := 0) ht6 (rd_of RG_sizes) dX12_run_76 rfl (by decide) (by omega) (fun b19 => ?_)
                  have rb19 := (show Rfx 121 0 16 sz by assumption) (Int.toNat x1) (by omega)
                  refine r_istore (pc := 77) (lv' := [(7, .int (iv (sz (Int.toNat x1)))), (0, .ref y), (1, .int (iv x1)), (2, .int (iv x2)), (3, .int (iv x3)), (4, .int (iv x4)), (5, .int (iv x5)), (6, .int (iv x6))]) dX12_run_77 (by decide) rfl ?_
                  refine r_iconst (pc := 79) (v := iv 0) dX12_run_79 (by decide) ?_
                  refine r_istore (pc := 80) (lv' := [(8, .int (iv 0)), (7, .int (iv (sz (Int.toNat x1)))), (0, .ref y), (1, .int (iv x1)), (2, .int (iv x2)), (3, .int (iv x3)), (4, .int (iv x4)), (5, .int (iv x5)), (6, .int (iv x6))]) dX12_run_80 (by decide) rfl ?_
                  have B82 : ∀ k : Nat, ∀ hp82 : MH, Tw (RG Γ cI cJ cZ y v_8 cn nm so sz dr mn fr tt wt co nu qi qc nf nt nw nc) hp82 → ∀  (v82_8 : Int), 0 ≤ v82_8 ∧ v82_8 ≤ 16 → 16 - v82_8 ≤ (k : Int) → Rn (gG D cI cJ cZ cT lo b L xs) mX12_run d 82 [(0, .ref y), (1, .int (iv x1)), (2, .int (iv x2)), (3, .int (iv x3)), (4, .int (iv x4)), (5, .int (iv x5)), (6, .int (iv x6)), (7, .int (iv (sz (Int.toNat x1)))), (8, .int (iv v82_8))] [] hp82 n 0 0 (q_X12_run Γ cI cJ cZ y n rf cn nm so sz dr mn fr tt wt co nu qi qc nf nt nw nc x1 x2 x3 x4 x5 x6) := by
                    refine lpS _ ?_
                    intro k82 ih82 hp82 ht82 v82_8 hf82 hm82
                    refine r_iload (pc := 82) dX12_run_82 rfl ?_
                    refine r_iload (pc := 84) dX12_run_84 rfl ?_
                    refine t_icmp_ge (pc := 86) (tgt := 114) dX12_run_86 (by decide) (by omega) (by omega) (fun c86 => ?_) (fun c86 => ?_)
                    · refine r_iconst (pc := 114) (v := iv 0) dX12_run_114 (by decide) ?_
                      refine r_istore (pc := 115) (lv' := [(8, .int (iv 0)), (0, .ref y), (1, .int (iv x1)), (2, .int (iv x2)), (3, .int (iv x3)), (4, .int (iv x4)), (5, .int (iv x5)), (6, .int (iv x6)), (7, .int (iv (sz (Int.toNat x1))))]) dX12_run_115 (by decide) rfl ?_
                      have B117 : ∀ k : Nat, ∀ hp117 : MH, Tw (RG Γ cI cJ cZ y v_8 cn nm so sz dr mn fr tt wt co nu qi qc nf nt nw nc) hp117 → ∀  (v117_8 : Int), 0 ≤ v117_8 ∧ v117_8 ≤ 241 → 241 - v117_8 ≤ (k : Int) → Rn (gG D cI cJ cZ cT lo b L xs) mX12_run d 117 [(0, .ref y), (1, .int (iv x1)), (3, .int (iv x3)), (4, .int (iv x4)), (5, .int (iv x5)), (6, .int (iv x6)), (7, .int (iv (sz (Int.toNat x1)))), (8, .int (iv v117_8))] [] hp117 n 0 0 (q_X12_run Γ cI cJ cZ y n rf cn nm so sz dr mn fr tt wt co nu qi qc nf nt nw nc x1 x2 x3 x4 x5 x6) := by
                        refine lpS _ ?_
                        intro k117 ih117 hp117 ht117 v117_8 hf117 hm117
                        refine r_iload (pc := 117) dX12_run_117 rfl ?_
                        refine r_iload (pc := 119) dX12_run_119 rfl ?_
                        refine t_icmp_ge (pc := 121) (tgt := 195) dX12_run_121 (by decide) (by omega) (by omega) (fun c121 => ?_) (fun c121 => ?_)
                        · refine r_aload_n (pc := 195) dX12_run_195 (i := 0) rfl rfl ?_
                          refine r_iload (pc := 196) dX12_run_196 rfl ?_
                          obtain ⟨fs24, hfs24⟩ := t_obj ht117 (rd_of RG_y)
                          refine r_callV (pc := 198) (as := [.int (iv (sz (Int.toNat x1)))]) (st := []) kX12_228 rfl dX12_run_198 hfs24 (s_X12_madeColumn (d := d - 1) (x1 := sz (Int.toNat x1)) (by omega) (by omega) (by assumption) (by omega) (by assumption) ht117 (by omega)) rfl (by omega) (Nat.le_of_ble_eq_true rfl) (Nat.zero_le _) (Nat.zero_le _) rfl (fun r21 hp20 n22 hq23 => ?_)
                          obtain ⟨hnn22, h_27, v_28, c1_29, s1_30, z1_31, u1_32, ht25, hrr21, hhq230, hhq231, hhq232, hhq233⟩ := hq23
                          subst n22 r21
                          have hhq230 : cn = 120 → h_27 = -4 ∧ v_28 = -4 ∧ c1_29 = cn := hhq230
                          have hhq231 : cn = 120 → s1_30 = so ∧ z1_31 = sz := hhq231
                          have hhq232 : cn < 120 → h_27 = cn ∧ v_28 = v_8 ∧ c1_29 = cn + 1 := hhq232
                          have hhq233 : cn < 120 → s1_30 = fup so (Int.toNat cn) 2 ∧ z1_31 = fup sz (Int.toNat cn) (sz (Int.toNat x1)) := hhq233
                          change Rn _ _ _ 201 _ [.int (iv h_27)] _ _ _ _ _
                          obtain ⟨hRKm, hDFm, hhm⟩ := RK_col (nu := nu) (x1 := sz (Int.toNat x1)) (u1 := u1_32) (RK_set hk (by omega) (by omega)) (by omega) hhq230 hhq231 hhq232 hhq233
                          exact r_iret (pc := 201) dX12_run_201 rfl ⟨rfl, v_28, c1_29, nm, s1_30, z1_31, dr, mn, fr, tt, wt, co, u1_32, qi, qc, nf, nt, nw, nc, h_27, ht25, rfl, (by (first | assumption | exact RK_set hk (by omega) (by omega))), (by (first | assumption | exact df_r _ _ _ _ _ _ _)), (by omega)⟩
                        · refine r_iconst (pc := 124) (v := iv 0) dX12_run_124 (by decide) ?_
                          refine r_istore (pc := 125) (lv' := [(9, .int (iv 0)), (0, .ref y), (1, .int (iv x1)), (3, .int (iv x3)), (4, .int (iv x4)), (5, .int (iv x5)), (6, .int (iv x6)), (7, .int (iv (sz (Int.toNat x1)))), (8, .int (iv v117_8))]) dX12_run_125 (by decide) rfl ?_
                          have B127 : ∀ k : Nat, ∀ hp127 : MH, Tw (RG Γ cI cJ cZ y v_8 cn nm so sz dr mn fr tt wt co nu qi qc nf nt nw nc) hp127 → ∀  (v127_9 : Int), 0 ≤ v127_9 ∧ v127_9 ≤ 16 → 16 - v127_9 ≤ (k : Int) → Rn (gG D cI cJ cZ cT lo b L xs) mX12_run d 127 [(0, .ref y), (1, .int (iv x1)), (3, .int (iv x3)), (4, .int (iv x4)), (5, .int (iv x5)), (6, .int (iv x6)), (7, .int (iv (sz (Int.toNat x1)))), (8, .int (iv v117_8)), (9, .int (iv v127_9))] [] hp127 n 0 0 (q_X12_run Γ cI cJ cZ y n rf cn nm so sz dr mn fr tt wt co nu qi qc nf nt nw nc x1 x2 x3 x4 x5 x6) := by
                            refine lpS _ ?_
                            intro k127 ih127 hp127 ht127 v127_9 hf127 hm127
                            refine r_iload (pc := 127) dX12_run_127 rfl ?_
                            refine r_iload (pc := 129) dX12_run_129 rfl ?_
                            refine t_icmp_ge (pc := 131) (tgt := 159) dX12_run_131 (by decide) (by omega) (by omega) (fun c131 => ?_) (fun c131 => ?_)
                            · refine r_iconst (pc := 159) (v := iv 0) dX12_run_159 (by decide) ?_
                              refine r_istore (pc := 160) (lv' := [(9, .int (iv 0)), (0, .ref y), (1, .int (iv x1)), (3, .int (iv x3)), (4, .int (iv x4)), (5, .int (iv x5)), (6, .int (iv x6)), (7, .int (iv (sz (Int.toNat x1)))), (8, .int (iv v117_8))]) dX12_run_160 (by decide) rfl ?_
                              have B162 : ∀ k : Nat, ∀ hp162 : MH, Tw (RG Γ cI cJ cZ y v_8 cn nm so sz dr mn fr tt wt co nu qi qc nf nt nw nc) hp162 → ∀  (v162_9 : Int), 0 ≤ v162_9 ∧ v162_9 ≤ 16 → 16 - v162_9 ≤ (k : Int) → Rn (gG D cI cJ cZ cT lo b L xs) mX12_run d 162 [(0, .ref y), (1, .int (iv x1)), (3, .int (iv x3)), (4, .int (iv x4)), (5, .int (iv x5)), (6, .int (iv x6)), (7, .int (iv (sz (Int.toNat x1)))), (8, .int (iv v117_8)), (9, .int (iv v162_9))] [] hp162 n 0 0 (q_X12_run Γ cI cJ cZ y n rf cn nm so sz dr mn fr tt wt co nu qi qc nf nt nw nc x1 x2 x3 x4 x5 x6) := by
                                refine lpS _ ?_
                                intro k162 ih162 hp162 ht162 v162_9 hf162 hm162
                                refine r_iload (pc := 162) dX12_run_162 rfl ?_
                                refine r_iload (pc := 164) dX12_run_164 rfl ?_
                                refine t_icmp_ge (pc := 166) (tgt := 189) dX12_run_166 (by decide) (by omega) (by omega) (fun c166 => ?_) (fun c166 => ?_)
                                · refine r_iinc (pc := 189) (v := iv (v117_8 + 1)) (lv' := [(8, .int (iv (v117_8 + 1))), (0, .ref y), (1, .int (iv x1)), (3, .int (iv x3)), (4, .int (iv x4)), (5, .int (iv x5)), (6, .int (iv x6)), (7, .int (iv (sz (Int.toNat x1)))), (9, .int (iv v162_9))]) dX12_run_189 rfl (iv_add _ _) (by decide) rfl ?_
                                  refine r_goto (pc := 192) (tgt := 117) dX12_run_192 (by decide) ?_
                                  refine Rn.pick (lv' := [(0, .ref y), (1, .int (iv x1)), (3, .int (iv x3)), (4, .int (iv x4)), (5, .int (iv x5)), (6, .int (iv x6)), (7, .int (iv (sz (Int.toNat x1)))), (8, .int (iv (v117_8 + 1)))]) [1, 2, 3, 4, 5, 6, 7, 0] rfl ?_
                                  exact ih117 (Int.toNat (241 - (v117_8 + 1))) (by omega) _ ht162 (v117_8 + 1) ⟨by omega, by omega⟩ (by omega)
                                · refine r_aload_n (pc := 169) dX12_run_169 (i := 0) rfl rfl ?_
                                  refine t_getE (pc := 170) (.ref (y + 21)) ht162 (rd_of RG_y) fX12_72 dX12_run_170 rfl ?_
                                  refine r_iload (pc := 173) dX12_run_173 rfl ?_
                                  refine r_aload_n (pc := 175) dX12_run_175 (i := 0) rfl rfl ?_
                                  refine t_getE (pc := 176) (.ref (y + 22)) ht162 (rd_of RG_y) fX12_75 dX12_run_176 rfl ?_
                                  refine r_iload (pc := 179) dX12_run_179 rfl ?_
                                  refine t_lald (pc := 181) (t0 := 1) ht162 (rd_of RG_next) dX12_run_181 rfl (by decide) (by omega) (fun w33 _ => ?_)
                                  refine t_last (pc := 182) (t0 := 1) ht162 RG_column dX12_run_182 rfl (by decide) (by omega) trivial (fun hp34 ht35 => ?_)
                                  refine r_iinc (pc := 183) (v := iv (v162_9 + 1)) (lv' := [(9, .int (iv (v162_9 + 1))), (0, .ref y), (1, .int (iv x1)), (3, .int (iv x3)), (4, .int (iv x4)), (5, .int (iv x5)), (6, .int (iv x6)), (7, .int (iv (sz (Int.toNat x1)))), (8, .int (iv v117_8))]) dX12_run_183 rfl (iv_add _ _) (by decide) rfl ?_
                                  refine r_goto (pc := 186) (tgt := 162) dX12_run_186 (by decide) ?_
                                  refine Rn.pick (lv' := [(0, .ref y), (1, .int (iv x1)), (3, .int (iv x3)), (4, .int (iv x4)), (5, .int (iv x5)), (6, .int (iv x6)), (7, .int (iv (sz (Int.toNat x1)))), (8, .int (iv v117_8)), (9, .int (iv (v162_9 + 1)))]) [1, 2, 3, 4, 5, 6, 7, 8, 0] rfl ?_
                                  exact ih162 (Int.toNat (16 - (v162_9 + 1))) (by omega) _ ht35 (v162_9 + 1) ⟨by omega, by omega⟩ (by omega)
                              refine Rn.pick (lv' := [(0, .ref y), (1, .int (iv x1)), (3, .int (iv x3)), (4, .int (iv x4)), (5, .int (iv x5)), (6, .int (iv x6)), (7, .int (iv (sz (Int.toNat x1)))), (8, .int (iv v117_8)), (9, .int (iv 0))]) [1, 2, 3, 4, 5, 6, 7, 8, 0] rfl ?_
                              exact B162 (Int.toNat (16 - 0)) _ ht127 0 ⟨by omega, by omega⟩ (by omega)
                            · refine r_aload_n (pc := 134) dX12_run_134 (i := 0) rfl rfl ?_
                              refine t_getE (pc := 135) (.ref (y + 22)) ht127 (rd_of RG_y) fX12_75 dX12_run_135 rfl ?_
                              refine r_iload (pc := 138) dX12_run_138 rfl ?_
                              refine r_aload_n (pc := 140) dX12_run_140 (i := 0) rfl rfl ?_
                              refine r_iload_n (pc := 141) dX12_run_141 (i := 1) rfl rfl ?_
                              refine r_iload (pc := 142) dX12_run_142 rfl ?_
                              refine r_iload_n (pc := 144) dX12_run_144 (i := 3) rfl rfl ?_
                              refine r_iload (pc := 145) dX12_run_145 rfl ?_
                              refine r_iload (pc := 147) dX12_run_147 rfl ?_
                              refine t_callVJ (pc := 149) (as := [.int (iv x1), .int (iv v127_9), .int (iv x3), .int (iv x4), .int (iv x5)]) (st := [.int (iv v127_9), .ref (y + 22)]) ht127 (rd_of RG_y) kX12_240 rfl dX12_run_149 (t_X12_heard (d := d - 1) (x1 := x1) (x2 := v127_9) (x3 := x3) (x4 := x4) (x5 := x5) (by omega) (rd_of RG_y) (rd_xr (rd_of RG_directs) (show Rfx 121 0 1 dr by assumption)) (rd_xr (rd_of RG_many) (show Rfx 121 0 60 mn by assumption)) (rd_xr (rd_of RG_from) (show Rfx 7260 0 15 fr by assumption)) (rd_xr (rd_of RG_to) (show Rfx 7260 0 15 tt by assumption)) (rd_xr (rd_of RG_weight) (show Rfx 7260 (-1000) 1000 wt by assumption)) (rd_of RG_column) ht127 (by omega) (by omega) (by omega) (by omega) (by omega)) rfl (by omega) (Nat.le_of_ble_eq_true rfl) rfl (fun hp36 y38 ht37 _ => ?_)
                              refine t_last (pc := 152) (t0 := 1) ht37 RG_next dX12_run_152 rfl (by decide) (by omega) trivial (fun hp39 ht40 => ?_)
                              refine r_iinc (pc := 153) (v := iv (v127_9 + 1)) (lv' := [(9, .int (iv (v127_9 + 1))), (0, .ref y), (1, .int (iv x1)), (3, .int (iv x3)), (4, .int (iv x4)), (5, .int (iv x5)), (6, .int (iv x6)), (7, .int (iv (sz (Int.toNat x1)))), (8, .int (iv v117_8))]) dX12_run_153 rfl (iv_add _ _) (by decide) rfl ?_
                              refine r_goto (pc := 156) (tgt := 127) dX12_run_156 (by decide) ?_
                              refine Rn.pick (lv' := [(0, .ref y), (1, .int (iv x1)), (3, .int (iv x3)), (4, .int (iv x4)), (5, .int (iv x5)), (6, .int (iv x6)), (7, .int (iv (sz (Int.toNat x1)))), (8, .int (iv v117_8)), (9, .int (iv (v127_9 + 1)))]) [1, 2, 3, 4, 5, 6, 7, 8, 0] rfl ?_
                              exact ih127 (Int.toNat (16 - (v127_9 + 1))) (by omega) _ ht40 (v127_9 + 1) ⟨by omega, by omega⟩ (by omega)
                          refine Rn.pick (lv' := [(0, .ref y), (1, .int (iv x1)), (3, .int (iv x3)), (4, .int (iv x4)), (5, .int (iv x5)), (6, .int (iv x6)), (7, .int (iv (sz (Int.toNat x1)))), (8, .int (iv v117_8)), (9, .int (iv 0))]) [1, 2, 3, 4, 5, 6, 7, 8, 0] rfl ?_
                          exact B127 (Int.toNat (16 - 0)) _ ht117 0 ⟨by omega, by omega⟩ (by omega)
                      refine Rn.pick (lv' := [(0, .ref y), (1, .int (iv x1)), (3, .int (iv x3)), (4, .int (iv x4)), (5, .int (iv x5)), (6, .int (iv x6)), (7, .int (iv (sz (Int.toNat x1)))), (8, .int (iv 0))]) [1, 2, 4, 5, 6, 7, 8, 0] rfl ?_
                      exact B117 (Int.toNat (241 - 0)) _ ht82 0 ⟨by omega, by omega⟩ (by omega)
                    · refine r_aload_n (pc := 89) dX12_run_89 (i := 0) rfl rfl ?_
                      refine t_getE (pc := 90) (.ref (y + 21)) ht82 (rd_of RG_y) fX12_72 dX12_run_90 rfl ?_
                      refine r_iload (pc := 93) dX12_run_93 rfl ?_
                      refine r_aload_n (pc := 95) dX12_run_95 (i := 0) rfl rfl ?_
                      refine t_getE (pc := 96) (.ref (y + 9)) ht82 (rd_of RG_y) fX12_35 dX12_run_96 rfl ?_
                      refine r_bipush (pc := 99) (v := iv 16) dX12_run_99 (by decide) ?_
                      refine r_iload_n (pc := 101) dX12_run_101 (i := 2) rfl rfl ?_
                      refine r_imul (pc := 102) (v := iv (16 * x2)) dX12_run_102 (iv_mul _ _) ?_
                      refine r_iload (pc := 103) dX12_run_103 rfl ?_
                      refine r_iadd (pc := 105) (v := iv ((16 * x2) + v82_8)) dX12_run_105 (iv_add _ _) ?_
                      refine t_laldX (pc := 106) (t0 := 1) ht82 (rd_of RG_numbers) dX12_run_106 rfl (by decide) (by omega) ?_
                      refine t_last (pc := 107) (t0 := 1) ht82 RG_column dX12_run_107 rfl (by decide) (by omega) trivial (fun hp41 ht42 => ?_)
                      refine r_iinc (pc := 108) (v := iv (v82_8 + 1)) (lv' := [(8, .int (iv (v82_8 + 1))), (0, .ref y), (1, .int (iv x1)), (2, .int (iv x2)), (3, .int (iv x3)), (4, .int (iv x4)), (5, .int (iv x5)), (6, .int (iv x6)), (7, .int (iv (sz (Int.toNat x1))))]) dX12_run_108 rfl (iv_add _ _) (by decide) rfl ?_
                      refine r_goto (pc := 111) (tgt := 82) dX12_run_111 (by decide) ?_
                      refine Rn.pick (lv' := [(0, .ref y), (1, .int (iv x1)), (2, .int (iv x2)), (3, .int (iv x3)), (4, .int (iv x4)), (5, .int (iv x5)), (6, .int (iv x6)), (7, .int (iv (sz (Int.toNat x1)))), (8, .int (iv (v82_8 + 1)))]) [1, 2, 3, 4, 5, 6, 7, 8, 0] rfl ?_
                      exact ih82 (Int.toNat (16 - (v82_8 + 1))) (by omega) _ ht42 (v82_8 + 1) ⟨by omega, by omega⟩ (by omega)
                  refine Rn.pick (lv' := [(0, .ref y), (1, .int (iv x1)), (2, .int (iv x2)), (3, .int (iv x3)), (4, .int (iv x4)), (5, .int (iv x5)), (6, .int (iv x6)), (7, .int (iv (sz (Int.toNat x1)))), (8, .int (iv 0))]) [2, 3, 4, 5, 6, 7, 8, 1, 0] rfl ?_
                  exact B82 (Int.toNat (16 - 0)) _ ht6 0 ⟨by omega, by omega⟩ (by omega)
                · refine Rn.pick (lv' := [(0, .ref y)]) [0] rfl ?_
                  exact B64 _ ht6 trivial
  · refine r_aload_n (pc := 11) dX12_run_11 (i := 0) rfl rfl ?_
    refine t_getE (pc := 12) (.int (iv v_8)) ht6 (rd_of RG_y) fX12_142 dX12_run_12 rfl ?_
    exact r_iret (pc := 15) dX12_run_15 rfl ⟨rfl, v_8, cn, nm, so, sz, dr, mn, fr, tt, wt, co, nu, qi, qc, nf, nt, nw, nc, v_8, ht6, rfl, (by (first | assumption | exact RK_set hk (by omega) (by omega))), (by (first | assumption | exact df_r _ _ _ _ _ _ _)), (by omega)⟩
def q_X12_ways (Γ : TG) (cI cJ cZ : ClassId) (y n : Nat) (rf cn nm : Int) (so sz dr mn fr tt wt co : Nat → Int) (nu : Nat → Int64) (qi qc nf nt nw nc : Nat → Int) (x1 x2 x3 : Int) : Option Value → MH → Nat → Prop := fun r hp1 n1 => n1 = n ∧ ∃ (rf' : Int) (cn' : Int) (nm' : Int) (so' : Nat → Int) (sz' : Nat → Int) (dr' : Nat → Int) (mn' : Nat → Int) (fr' : Nat → Int) (tt' : Nat → Int) (wt' : Nat → Int) (co' : Nat → Int) (nu' : Nat → Int64) (qi' : Nat → Int) (qc' : Nat → Int) (nf' : Nat → Int) (nt' : Nat → Int) (nw' : Nat → Int) (nc' : Nat → Int) (v' : Int), Tw (RG Γ cI cJ cZ y rf' cn' nm' so' sz' dr' mn' fr' tt' wt' co' nu' qi' qc' nf' nt' nw' nc') hp1 ∧ r = some (.int (iv v')) ∧ (RK rf' cn' nm' so' sz' dr' mn' fr' tt' wt' co' nu' qi' qc' nf' nt' nw' nc') ∧ (dfE sz dr mn fr tt wt co sz' dr' mn' fr' tt' wt' co') ∧ (-2147483648 ≤ v' ∧ v' ≤ 2147483647)
set_option maxHeartbeats 4000000 in
set_option maxRecDepth 100000 in
theorem s_X12_ways {D : va_G} {cI cJ cZ cT : ClassId} {lo b L : Nat} {xs : Nat → Int32} {hp : MH} {n d : Nat} {Γ : TG} {y : Nat} {rf cn nm : Int} {so sz dr mn fr tt wt co : Nat → Int} {nu : Nat → Int64} {qi qc nf nt nw nc : Nat → Int} {x1 x2 x3 : Int} (hd0 : 5 ≤ d) (hk : RK rf cn nm so sz dr mn fr tt wt co nu qi qc nf nt nw nc) (ht : Tw (RG Γ cI cJ cZ y rf cn nm so sz dr mn fr tt wt co nu qi qc nf nt nw nc) hp) (hx1 : (-2147483648) ≤ x1 ∧ x1 ≤ 2147483647) (hx2 : (-2147483648) ≤ x2 ∧ x2 ≤ 2147483647) (hx3 : (-2147483648) ≤ x3 ∧ x3 ≤ 2147483647) : Mt (gG D cI cJ cZ cT lo b L xs) mX12_ways d 0 0 [.ref y, .int (iv x1), .int (iv x2), .int (iv x3)] hp n (q_X12_ways Γ cI cJ cZ y n rf cn nm so sz dr mn fr tt wt co nu qi qc nf nt nw nc x1 x2 x3) := by
  refine Mt.of rfl (Nat.le_of_ble_eq_true rfl) ?_
  refine Rn.pick (lv' := [(0, .ref y), (1, .int (iv x1)), (2, .int (iv x2)), (3, .int (iv x3))]) [0, 1, 2, 3] rfl ?_
  obtain ⟨hR_sorts, hR_sizes, hR_directs, hR_many, hR_from, hR_to, hR_weight, hR_cost, hR_inPart, hR_partCount, hcn, hrf, hnm, hdf, hgr, hpa, hsz⟩ := id hk
  refine r_aload_n (pc := 0) dX12_ways_0 (i := 0) rfl rfl ?_
  refine r_iload_n (pc := 1) dX12_ways_1 (i := 1) rfl rfl ?_
  refine r_iconst (pc := 2) (v := iv 1) dX12_ways_2 (by decide) ?_
  obtain ⟨fs5, hfs5⟩ := t_obj ht (rd_of RG_y)
  refine r_callV (pc := 3) (as := [.int (iv x1), .int (iv 1)]) (st := []) kX12_183 rfl dX12_ways_3 hfs5 (s_X12_has (d := d - 1) (x1 := x1) (x2 := 1) (by omega) (by omega) (by assumption) ht (by omega) (by omega)) rfl (by omega) (Nat.le_of_ble_eq_true rfl) (Nat.zero_le _) (Nat.zero_le _) rfl (fun r2 hp1 n3 hq4 => ?_)
  obtain ⟨hnn3, v_8, b_9, ht6, hrr2, hhq40, hhq41⟩ := hq4
  subst n3 r2
  have hhq40 : -2 ≤ v_8 ∧ v_8 ≤ 0 ∧ (b_9 = 0 ∨ b_9 = 1) := hhq40
  have hhq41 : (b_9 = 1 ∧ v_8 = 0 ∧ 0 ≤ x1 ∧ x1 < cn ∧ so (Int.toNat x1) = 1) ∨ (b_9 = 0 ∧ v_8 = -1 ∧ ¬ (0 ≤ x1 ∧ x1 < cn)) ∨ (b_9 = 0 ∧ v_8 = -2 ∧ 0 ≤ x1 ∧ x1 < cn ∧ so (Int.toNat x1) ≠ 1) := hhq41
  change Rn _ _ _ 6 _ [.int (iv b_9)] _ _ _ _ _
  refine t_if_ne (pc := 6) (tgt := 14) dX12_ways_6 (by decide) (by omega) (fun c6 => ?_) (fun c6 => ?_)
  · have rsz6 := hR_sizes (Int.toNat x1) (by omega)
    have rsy6 := hsz x1 (by omega) (by omega)
    have hen := hgr x1 (by omega) (by omega) (by omega)
    have rmn6 := hR_many (Int.toNat x1) (by omega)
    refine r_iload_n (pc := 14) dX12_ways_14 (i := 2) rfl rfl ?_
    have B37 : ∀ hp37 : MH, Tw (RG Γ cI cJ cZ y v_8 cn nm so sz dr mn fr tt wt co nu qi qc nf nt nw nc) hp37 → True → Rn (gG D cI cJ cZ cT lo b L xs) mX12_ways d 37 [(0, .ref y)] [] hp37 n 0 0 (q_X12_ways Γ cI cJ cZ y n rf cn nm so sz dr mn fr tt wt co nu qi qc nf nt nw nc x1 x2 x3) := by
      intro hp37 ht37 hf37
      refine r_aload_n (pc := 37) dX12_ways_37 (i := 0) rfl rfl ?_
      refine r_bipush (pc := 38) (v := iv (-3)) dX12_ways_38 (by decide) ?_
      obtain ⟨fs14, hfs14⟩ := t_obj ht37 (rd_of RG_y)
      refine r_callV (pc := 40) (as := [.int (iv (-3))]) (st := []) kX12_153 rfl dX12_ways_40 hfs14 (s_X12_refuse (d := d - 1) (x1 := (-3)) (by omega) ht37 (by omega)) rfl (by omega) (Nat.le_of_ble_eq_true rfl) (Nat.zero_le _) (Nat.zero_le _) rfl (fun r11 hp10 n12 hq13 => ?_)
      obtain ⟨hnn12, ht15, hrr11⟩ := hq13
      subst n12 r11
      change Rn _ _ _ 43 _ [.int (iv (-3))] _ _ _ _ _
      exact r_iret (pc := 43) dX12_ways_43 rfl ⟨rfl, (-3), cn, nm, so, sz, dr, mn, fr, tt, wt, co, nu, qi, qc, nf, nt, nw, nc, (-3), ht15, rfl, (by (exact RK_set hk (by omega) (by omega))), (by (exact df_r _ _ _ _ _ _ _)), (by omega)⟩
    refine t_if_lt (pc := 15) (tgt := 37) dX12_ways_15 (by decide) (by omega) (fun c15 => ?_) (fun c15 => ?_)
    · refine Rn.pick (lv' := [(0, .ref y)]) [0] rfl ?_
      exact B37 _ ht6 trivial
    · refine r_iload_n (pc := 18) dX12_ways_18 (i := 2) rfl rfl ?_
      refine r_iconst (pc := 19) (v := iv 2) dX12_ways_19 (by decide) ?_
      refine t_icmp_gt (pc := 20) (tgt := 37) dX12_ways_20 (by decide) (by omega) (by omega) (fun c20 => ?_) (fun c20 => ?_)
      · refine Rn.pick (lv' := [(0, .ref y)]) [0] rfl ?_
        exact B37 _ ht6 trivial
      · refine r_iload_n (pc := 23) dX12_ways_23 (i := 3) rfl rfl ?_
        refine t_if_lt (pc := 24) (tgt := 37) dX12_ways_24 (by decide) (by omega) (fun c24 => ?_) (fun c24 => ?_)
        · refine Rn.pick (lv' := [(0, .ref y)]) [0] rfl ?_
          exact B37 _ ht6 trivial
        · refine r_iload_n (pc := 27) dX12_ways_27 (i := 3) rfl rfl ?_
          refine r_aload_n (pc := 28) dX12_ways_28 (i := 0) rfl rfl ?_
          refine t_getE (pc := 29) (.ref (y + 2)) ht6 (rd_of RG_y) fX12_13 dX12_ways_29 rfl ?_
          refine r_iload_n (pc := 32) dX12_ways_32 (i := 1) rfl rfl ?_
          refine t_ialdX (pc := 33) (t0 := 0) ht6 (rd_of RG_sizes) dX12_ways_33 rfl (by decide) (by omega) (fun b17 => ?_)
          have rb17 := (show Rfx 121 0 16 sz by assumption) (Int.toNat x1) (by omega)
          refine t_icmp_lt (pc := 34) (tgt := 44) dX12_ways_34 (by decide) (by omega) (by omega) (fun c34 => ?_) (fun c34 => ?_)
          · refine r_aload_n (pc := 44) dX12_ways_44 (i := 0) rfl rfl ?_
            refine r_iconst (pc := 45) (v := iv 3) dX12_ways_45 (by decide) ?_
            obtain ⟨fs22, hfs22⟩ := t_obj ht6 (rd_of RG_y)
            refine r_callV (pc := 46) (as := [.int (iv 3)]) (st := []) kX12_168 rfl dX12_ways_46 hfs22 (s_X12_keep (d := d - 1) (x1 := 3) (by omega) (by omega) (by assumption) (by omega) ht6 (by omega)) rfl (by omega) (Nat.le_of_ble_eq_true rfl) (Nat.zero_le _) (Nat.zero_le _) rfl (fun r19 hp18 n20 hq21 => ?_)
            obtain ⟨hnn20, v_25, c1_26, s1_27, h_28, ht23, hrr19, hhq210, hhq211, hhq212, hhq213⟩ := hq21
            subst n20 r19
            have hhq210 : -4 ≤ h_28 ∧ h_28 ≤ 119 ∧ 0 ≤ c1_26 ∧ c1_26 ≤ 120 ∧ -2147483648 ≤ v_25 ∧ v_25 ≤ 2147483647 := hhq210
            have hhq211 : (cn = 120 ∧ h_28 = -4 ∧ v_25 = -4 ∧ c1_26 = cn) ∨ (cn < 120 ∧ h_28 = cn ∧ v_25 = v_8 ∧ c1_26 = cn + 1) := hhq211
            have hhq212 : cn = 120 → s1_27 = so := hhq212
            have hhq213 : cn < 120 → s1_27 = fup so (Int.toNat cn) 3 := hhq213
            change Rn _ _ _ 49 _ [.int (iv h_28)] _ _ _ _ _
            refine r_istore (pc := 49) (lv' := [(4, .int (iv h_28)), (0, .ref y), (1, .int (iv x1)), (2, .int (iv x2)), (3, .int (iv x3))]) dX12_ways_49 (by decide) rfl ?_
            refine r_iload (pc := 51) dX12_ways_51 rfl ?_
            refine t_if_ge (pc := 53) (tgt := 59) dX12_ways_53 (by decide) (by omega) (fun c53 => ?_) (fun c53 => ?_)
            · have ek : cn < 120 ∧ h_28 = cn ∧ v_25 = v_8 ∧ c1_26 = cn + 1 := by omega
              have es : s1_27 = fup so (Int.toNat cn) 3 := hhq213 (by omega)
              rw [ek.2.2.1, ek.2.2.2, es] at ht23
              have hRso : Rfx 121 0 4 (fup so (Int.toNat cn) 3) := Rfx_up (by assumption) (by omega)
              refine r_aload_n (pc := 59) dX12_ways_59 (i := 0) rfl rfl ?_
              refine t_getE (pc := 60) (.ref (y + 2)) ht23 (rd_of RG_y) fX12_13 dX12_ways_60 rfl ?_
              refine r_iload_n (pc := 63) dX12_ways_63 (i := 1) rfl rfl ?_
              refine t_ialdX (pc := 64) (t0 := 0) ht23 (rd_of RG_sizes) dX12_ways_64 rfl (by decide) (by omega) (fun b29 => ?_)
              have rb29 := (show Rfx 121 0 16 sz by assumption) (Int.toNat x1) (by omega)
              refine r_istore (pc := 65) (lv' := [(5, .int (iv (sz (Int.toNat x1)))), (4, .int (iv h_28)), (0, .ref y), (1, .int (iv x1)), (2, .int (iv x2)), (3, .int (iv x3))]) dX12_ways_65 (by decide) rfl ?_
              refine r_aload_n (pc := 67) dX12_ways_67 (i := 0) rfl rfl ?_
              refine t_getE (pc := 68) (.ref (y + 2)) ht23 (rd_of RG_y) fX12_13 dX12_ways_68 rfl ?_
              refine r_iload (pc := 71) dX12_ways_71 rfl ?_
              refine r_iload (pc := 73) dX12_ways_73 rfl ?_
              refine t_iastX (pc := 75) (t0 := 0) ht23 RG_sizes dX12_ways_75 rfl (by decide) (by omega) (by omega) (fun hp30 ht31 => ?_)
              have ht32 := RGw_sz ht31
              have hqht32 : Rfx 121 0 16 (fup sz (Int.toNat h_28) (sz (Int.toNat x1))) := Rfx_up (by assumption) (by omega)
              have hz9 : fup sz (Int.toNat h_28) (sz (Int.toNat x1)) (Int.toNat x1) = sz (Int.toNat x1) := fup_o _ _ (by omega)
              have hEn : enP fr tt mn (fup sz (Int.toNat h_28) (sz (Int.toNat x1))) x1 := (enA_eq hen hz9 rfl (fun _ _ _ => ⟨rfl, rfl⟩)).2
              refine r_iconst (pc := 76) (v := iv 0) dX12_ways_76 (by decide) ?_
              refine r_istore (pc := 77) (lv' := [(6, .int (iv 0)), (5, .int (iv (sz (Int.toNat x1)))), (4, .int (iv h_28)), (0, .ref y), (1, .int (iv x1)), (2, .int (iv x2)), (3, .int (iv x3))]) dX12_ways_77 (by decide) rfl ?_
              have B79 : ∀ k : Nat, ∀ hp79 : MH, Tw (RG Γ cI cJ cZ y v_8 (cn + 1) nm (fup so (Int.toNat cn) 3) (fup sz (Int.toNat h_28) (sz (Int.toNat x1))) dr mn fr tt wt co nu qi qc nf nt nw nc) hp79 → ∀  (v79_6 : Int), 0 ≤ v79_6 ∧ v79_6 ≤ 16 → 16 - v79_6 ≤ (k : Int) → Rn (gG D cI cJ cZ cT lo b L xs) mX12_ways d 79 [(0, .ref y), (1, .int (iv x1)), (2, .int (iv x2)), (3, .int (iv x3)), (4, .int (iv h_28)), (5, .int (iv (sz (Int.toNat x1)))), (6, .int (iv v79_6))] [] hp79 n 0 0 (q_X12_ways Γ cI cJ cZ y n rf cn nm so sz dr mn fr tt wt co nu qi qc nf nt nw nc x1 x2 x3) := by
                refine lpS _ ?_
                intro k79 ih79 hp79 ht79 v79_6 hf79 hm79
                refine r_iload (pc := 79) dX12_ways_79 rfl ?_
                refine r_iload (pc := 81) dX12_ways_81 rfl ?_
                refine t_icmp_ge (pc := 83) (tgt := 124) dX12_ways_83 (by decide) (by omega) (by omega) (fun c83 => ?_) (fun c83 => ?_)
                · refine r_iload (pc := 124) dX12_ways_124 rfl ?_
                  exact r_iret (pc := 126) dX12_ways_126 rfl ⟨rfl, v_8, (cn + 1), nm, (fup so (Int.toNat cn) 3), (fup sz (Int.toNat h_28) (sz (Int.toNat x1))), dr, mn, fr, tt, wt, co, nu, qi, qc, nf, nt, nw, nc, h_28, ht79, rfl, (by (exact (RK_way (x1 := sz (Int.toNat x1)) (h := h_28) (v := v_8) (c1 := cn + 1) (u1 := nu) (RK_set (rf1 := v_8) (nm1 := nm) (nu1 := nu) (nf1 := nf) (nt1 := nt) (nw1 := nw) (nc1 := nc) hk (by omega) (by omega)) (by omega) (by omega) (fun h9 => by omega) (by omega) (fun _ => ⟨rfl, by rw [show h_28 = cn by omega]⟩)).1)), (by (exact ⟨fup_o _ _ (by omega), rfl, rfl, fun _ _ => ⟨rfl, rfl, rfl, rfl⟩⟩)), (by omega)⟩
                · refine r_iload_n (pc := 86) dX12_ways_86 (i := 2) rfl rfl ?_
                  refine r_iconst (pc := 87) (v := iv 2) dX12_ways_87 (by decide) ?_
                  have B103 : ∀ hp103 : MH, Tw (RG Γ cI cJ cZ y v_8 (cn + 1) nm (fup so (Int.toNat cn) 3) (fup sz (Int.toNat h_28) (sz (Int.toNat x1))) dr mn fr tt wt co nu qi qc nf nt nw nc) hp103 → ∀  (x103_0 : Int64), True → Rn (gG D cI cJ cZ cT lo b L xs) mX12_ways d 103 [(0, .ref y), (1, .int (iv x1)), (2, .int (iv x2)), (3, .int (iv x3)), (4, .int (iv h_28)), (5, .int (iv (sz (Int.toNat x1)))), (6, .int (iv v79_6))] [.long x103_0] hp103 n 0 0 (q_X12_ways Γ cI cJ cZ y n rf cn nm so sz dr mn fr tt wt co nu qi qc nf nt nw nc x1 x2 x3) := by
                    intro hp103 ht103 x103_0 hf103
                    refine r_lstore (pc := 103) (lv' := [(7, .long x103_0), (0, .ref y), (1, .int (iv x1)), (2, .int (iv x2)), (3, .int (iv x3)), (4, .int (iv h_28)), (5, .int (iv (sz (Int.toNat x1)))), (6, .int (iv v79_6))]) dX12_ways_103 (by decide) rfl ?_
                    refine r_aload_n (pc := 105) dX12_ways_105 (i := 0) rfl rfl ?_
                    refine r_iload (pc := 106) dX12_ways_106 rfl ?_
                    refine r_iload_n (pc := 108) dX12_ways_108 (i := 1) rfl rfl ?_
                    refine r_iload_n (pc := 109) dX12_ways_109 (i := 2) rfl rfl ?_
                    refine r_iload_n (pc := 110) dX12_ways_110 (i := 3) rfl rfl ?_
                    refine r_iload (pc := 111) dX12_ways_111 rfl ?_
                    refine r_lload (pc := 113) dX12_ways_113 rfl ?_
                    refine t_callVV (pc := 115) (as := [.int (iv h_28), .int (iv x1), .int (iv x2), .int (iv x3), .int (iv v79_6), .long x103_0]) (st := []) ht103 (rd_of RG_y) kX12_264 rfl dX12_ways_115 (t_X12_fillx (d := d - 1) (x1 := h_28) (x2 := x1) (x3 := x2) (x4 := x3) (x5 := v79_6) (j6 := x103_0) (by omega) (rd_of RG_y) (rd_of RG_from) (show Rfx 7260 0 15 fr by assumption) (rd_of RG_to) (show Rfx 7260 0 15 tt by assumption) (rd_of RG_directs) (show Rfx 121 0 1 dr by assumption) (rd_of RG_weight) (show Rfx 7260 (-1000) 1000 wt by assumption) (rd_of RG_many) (show Rfx 121 0 60 mn by assumption) (rd_of RG_sizes) (show Rfx 121 0 16 (fup sz (Int.toNat h_28) (sz (Int.toNat x1))) by assumption) RG_state RG_worth RG_long1 RG_howMany RG_rows RG_best RG_ways1 RG_round RG_round2 ht103 (by omega) (by omega) (by omega) (by omega) (by omega) hEn (by omega) (by omega)) rfl (by omega) (Nat.le_of_ble_eq_true rfl) rfl (fun hp33 ht34 => ?_)
                    refine r_iinc (pc := 118) (v := iv (v79_6 + 1)) (lv' := [(6, .int (iv (v79_6 + 1))), (7, .long x103_0), (0, .ref y), (1, .int (iv x1)), (2, .int (iv x2)), (3, .int (iv x3)), (4, .int (iv h_28)), (5, .int (iv (sz (Int.toNat x1))))]) dX12_ways_118 rfl (iv_add _ _) (by decide) rfl ?_
                    refine r_goto (pc := 121) (tgt := 79) dX12_ways_121 (by decide) ?_
                    refine Rn.pick (lv' := [(0, .ref y), (1, .int (iv x1)), (2, .int (iv x2)), (3, .int (iv x3)), (4, .int (iv h_28)), (5, .int (iv (sz (Int.toNat x1)))), (6, .int (iv (v79_6 + 1)))]) [2, 3, 4, 5, 6, 7, 0] rfl ?_
                    exact ih79 (Int.toNat (16 - (v79_6 + 1))) (by omega) _ ht34 (v79_6 + 1) ⟨by omega, by omega⟩ (by omega)
                  refine t_icmp_ne (pc := 88) (tgt := 102) dX12_ways_88 (by decide) (by omega) (by omega) (fun c88 => ?_) (fun c88 => ?_)
                  · refine r_lconst (pc := 102) (v := 0) dX12_ways_102 (by decide) ?_
                    refine Rn.pick (lv' := [(0, .ref y), (1, .int (iv x1)), (2, .int (iv x2)), (3, .int (iv x3)), (4, .int (iv h_28)), (5, .int (iv (sz (Int.toNat x1)))), (6, .int (iv v79_6))]) [0, 1, 2, 3, 4, 5, 6] rfl ?_
                    exact B103 _ ht79 (0 : Int64) trivial
                  · refine r_aload_n (pc := 91) dX12_ways_91 (i := 0) rfl rfl ?_
                    refine r_iload_n (pc := 92) dX12_ways_92 (i := 1) rfl rfl ?_
                    refine r_iload_n (pc := 93) dX12_ways_93 (i := 3) rfl rfl ?_
                    refine r_iload (pc := 94) dX12_ways_94 rfl ?_
                    refine t_callVJ (pc := 96) (as := [.int (iv x1), .int (iv x3), .int (iv v79_6)]) (st := []) ht79 (rd_of RG_y) kX12_260 rfl dX12_ways_96 (t_X12_widest (d := d - 1) (x1 := x1) (x2 := x3) (x3 := v79_6) (by omega) (rd_of RG_y) (rd_xr (rd_of RG_directs) (show Rfx 121 0 1 dr by assumption)) (rd_xr (rd_of RG_many) (show Rfx 121 0 60 mn by assumption)) (rd_xr (rd_of RG_from) (show Rfx 7260 0 15 fr by assumption)) (rd_xr (rd_of RG_to) (show Rfx 7260 0 15 tt by assumption)) (rd_xr (rd_of RG_weight) (show Rfx 7260 (-1000) 1000 wt by assumption)) ht79 (by omega) (by omega) (by omega)) rfl (by omega) (Nat.le_of_ble_eq_true rfl) rfl (fun hp36 y38 ht37 _ => ?_)
                    refine r_goto (pc := 99) (tgt := 103) dX12_ways_99 (by decide) ?_
                    refine Rn.pick (lv' := [(0, .ref y), (1, .int (iv x1)), (2, .int (iv x2)), (3, .int (iv x3)), (4, .int (iv h_28)), (5, .int (iv (sz (Int.toNat x1)))), (6, .int (iv v79_6))]) [0, 1, 2, 3, 4, 5, 6] rfl ?_
                    exact B103 _ ht37 y38 trivial
              refine Rn.pick (lv' := [(0, .ref y), (1, .int (iv x1)), (2, .int (iv x2)), (3, .int (iv x3)), (4, .int (iv h_28)), (5, .int (iv (sz (Int.toNat x1)))), (6, .int (iv 0))]) [3, 4, 5, 6, 2, 1, 0] rfl ?_
              exact B79 (Int.toNat (16 - 0)) _ ht32 0 ⟨by omega, by omega⟩ (by omega)
            · have ek : cn = 120 ∧ h_28 = -4 ∧ v_25 = -4 ∧ c1_26 = cn := by omega
              have es : s1_27 = so := hhq212 (by omega)
              rw [ek.2.2.1, ek.2.2.2, es] at ht23
              refine r_iload (pc := 56) dX12_ways_56 rfl ?_
              exact r_iret (pc := 58) dX12_ways_58 rfl ⟨rfl, (-4), cn, nm, so, sz, dr, mn, fr, tt, wt, co, nu, qi, qc, nf, nt, nw, nc, h_28, ht23, rfl, (by (exact RK_set hk (by omega) (by omega))), (by (exact df_r _ _ _ _ _ _ _)), (by omega)⟩
          · refine Rn.pick (lv' := [(0, .ref y)]) [0] rfl ?_
            exact B37 _ ht6 trivial
  · refine r_aload_n (pc := 9) dX12_ways_9 (i := 0) rfl rfl ?_
    refine t_getE (pc := 10) (.int (iv v_8)) ht6 (rd_of RG_y) fX12_142 dX12_ways_10 rfl ?_
    exact r_iret (pc := 13) dX12_ways_13 rfl ⟨rfl, v_8, cn, nm, so, sz, dr, mn, fr, tt, wt, co, nu, qi, qc, nf, nt, nw, nc, v_8, ht6, rfl, (by (exact RK_set hk (by omega) (by omega))), (by (exact df_r _ _ _ _ _ _ _)), (by omega)⟩
def q_X12_parts (Γ : TG) (cI cJ cZ : ClassId) (y n : Nat) (rf cn nm : Int) (so sz dr mn fr tt wt co : Nat → Int) (nu : Nat → Int64) (qi qc nf nt nw nc : Nat → Int) (x1 x2 x3 : Int) : Option Value → MH → Nat → Prop := fun r hp1 n1 => n1 = n ∧ ∃ (rf' : Int) (cn' : Int) (nm' : Int) (so' : Nat → Int) (sz' : Nat → Int) (dr' : Nat → Int) (mn' : Nat → Int) (fr' : Nat → Int) (tt' : Nat → Int) (wt' : Nat → Int) (co' : Nat → Int) (nu' : Nat → Int64) (qi' : Nat → Int) (qc' : Nat → Int) (nf' : Nat → Int) (nt' : Nat → Int) (nw' : Nat → Int) (nc' : Nat → Int) (v' : Int), Tw (RG Γ cI cJ cZ y rf' cn' nm' so' sz' dr' mn' fr' tt' wt' co' nu' qi' qc' nf' nt' nw' nc') hp1 ∧ r = some (.int (iv v')) ∧ (RK rf' cn' nm' so' sz' dr' mn' fr' tt' wt' co' nu' qi' qc' nf' nt' nw' nc') ∧ (dfE sz dr mn fr tt wt co sz' dr' mn' fr' tt' wt' co') ∧ (-2147483648 ≤ v' ∧ v' ≤ 2147483647)
set_option maxHeartbeats 4000000 in
set_option maxRecDepth 100000 in
theorem s_X12_parts {D : va_G} {cI cJ cZ cT : ClassId} {lo b L : Nat} {xs : Nat → Int32} {hp : MH} {n d : Nat} {Γ : TG} {y : Nat} {rf cn nm : Int} {so sz dr mn fr tt wt co : Nat → Int} {nu : Nat → Int64} {qi qc nf nt nw nc : Nat → Int} {x1 x2 x3 : Int} (hd0 : 3 ≤ d) (hk : RK rf cn nm so sz dr mn fr tt wt co nu qi qc nf nt nw nc) (ht : Tw (RG Γ cI cJ cZ y rf cn nm so sz dr mn fr tt wt co nu qi qc nf nt nw nc) hp) (hx1 : (-2147483648) ≤ x1 ∧ x1 ≤ 2147483647) (hx2 : (-2147483648) ≤ x2 ∧ x2 ≤ 2147483647) (hx3 : (-2147483648) ≤ x3 ∧ x3 ≤ 2147483647) : Mt (gG D cI cJ cZ cT lo b L xs) mX12_parts d 0 0 [.ref y, .int (iv x1), .int (iv x2), .int (iv x3)] hp n (q_X12_parts Γ cI cJ cZ y n rf cn nm so sz dr mn fr tt wt co nu qi qc nf nt nw nc x1 x2 x3) := by
  refine Mt.of rfl (Nat.le_of_ble_eq_true rfl) ?_
  refine Rn.pick (lv' := [(0, .ref y), (1, .int (iv x1)), (2, .int (iv x2)), (3, .int (iv x3))]) [0, 1, 2, 3] rfl ?_
  obtain ⟨hR_sorts, hR_sizes, hR_directs, hR_many, hR_from, hR_to, hR_weight, hR_cost, hR_inPart, hR_partCount, hcn, hrf, hnm, hdf, hgr, hpa, hsz⟩ := id hk
  refine r_iload_n (pc := 0) dX12_parts_0 (i := 2) rfl rfl ?_
  refine r_iconst (pc := 1) (v := iv 4) dX12_parts_1 (by decide) ?_
  have B10 : ∀ hp10 : MH, Tw (RG Γ cI cJ cZ y rf cn nm so sz dr mn fr tt wt co nu qi qc nf nt nw nc) hp10 → ∀  (u10_0 : Int), 0 ≤ u10_0 ∧ u10_0 ≤ 1 ∧ ((x2 = 4 ∧ u10_0 = 1) ∨ (x2 ≠ 4 ∧ u10_0 = 0)) → Rn (gG D cI cJ cZ cT lo b L xs) mX12_parts d 10 [(0, .ref y), (1, .int (iv x1)), (2, .int (iv x2)), (3, .int (iv x3))] [.int (iv u10_0)] hp10 n 0 0 (q_X12_parts Γ cI cJ cZ y n rf cn nm so sz dr mn fr tt wt co nu qi qc nf nt nw nc x1 x2 x3) := by
    intro hp10 ht10 u10_0 hf10
    refine r_istore (pc := 10) (lv' := [(4, .int (iv u10_0)), (0, .ref y), (1, .int (iv x1)), (2, .int (iv x2)), (3, .int (iv x3))]) dX12_parts_10 (by decide) rfl ?_
    refine r_iload (pc := 12) dX12_parts_12 rfl ?_
    have B45 : ∀ rf45 : Int, ∀ hp45 : MH, Tw (RG Γ cI cJ cZ y rf45 cn nm so sz dr mn fr tt wt co nu qi qc nf nt nw nc) hp45 → 0 ≤ x1 ∧ x1 ≤ 119 ∧ -2147483648 ≤ rf45 ∧ rf45 ≤ 2147483647 ∧ x1 < cn ∧ so (Int.toNat x1) = 1 ∧ (u10_0 = 1 → 0 ≤ x3 ∧ x3 < cn) → Rn (gG D cI cJ cZ cT lo b L xs) mX12_parts d 45 [(0, .ref y), (1, .int (iv x1)), (2, .int (iv x2)), (3, .int (iv x3)), (4, .int (iv u10_0))] [] hp45 n 0 0 (q_X12_parts Γ cI cJ cZ y n rf cn nm so sz dr mn fr tt wt co nu qi qc nf nt nw nc x1 x2 x3) := by
      intro rf45 hp45 ht45 hf45
      refine r_iload_n (pc := 45) dX12_parts_45 (i := 2) rfl rfl ?_
      have rsz45 := hR_sizes (Int.toNat x1) (by omega)
      have rsy45 := hsz x1 (by omega) (by omega)
      have hen := hgr x1 (by omega) (by omega) (by omega)
      have B74 : ∀ hp74 : MH, Tw (RG Γ cI cJ cZ y rf45 cn nm so sz dr mn fr tt wt co nu qi qc nf nt nw nc) hp74 → True → Rn (gG D cI cJ cZ cT lo b L xs) mX12_parts d 74 [(0, .ref y)] [] hp74 n 0 0 (q_X12_parts Γ cI cJ cZ y n rf cn nm so sz dr mn fr tt wt co nu qi qc nf nt nw nc x1 x2 x3) := by
        intro hp74 ht74 hf74
        refine r_aload_n (pc := 74) dX12_parts_74 (i := 0) rfl rfl ?_
        refine r_bipush (pc := 75) (v := iv (-3)) dX12_parts_75 (by decide) ?_
        obtain ⟨fs5, hfs5⟩ := t_obj ht74 (rd_of RG_y)
        refine r_callV (pc := 77) (as := [.int (iv (-3))]) (st := []) kX12_153 rfl dX12_parts_77 hfs5 (s_X12_refuse (d := d - 1) (x1 := (-3)) (by omega) ht74 (by omega)) rfl (by omega) (Nat.le_of_ble_eq_true rfl) (Nat.zero_le _) (Nat.zero_le _) rfl (fun r2 hp1 n3 hq4 => ?_)
        obtain ⟨hnn3, ht6, hrr2⟩ := hq4
        subst n3 r2
        change Rn _ _ _ 80 _ [.int (iv (-3))] _ _ _ _ _
        exact r_iret (pc := 80) dX12_parts_80 rfl ⟨rfl, (-3), cn, nm, so, sz, dr, mn, fr, tt, wt, co, nu, qi, qc, nf, nt, nw, nc, (-3), ht6, rfl, (by (first | assumption | exact RK_set hk (by omega) (by omega))), (by (first | assumption | exact df_r _ _ _ _ _ _ _)), (by omega)⟩
      refine t_if_lt (pc := 46) (tgt := 74) dX12_parts_46 (by decide) (by omega) (fun c46 => ?_) (fun c46 => ?_)
      · refine Rn.pick (lv' := [(0, .ref y)]) [0] rfl ?_
        exact B74 _ ht45 trivial
      · refine r_iload_n (pc := 49) dX12_parts_49 (i := 2) rfl rfl ?_
        refine r_iconst (pc := 50) (v := iv 4) dX12_parts_50 (by decide) ?_
        refine t_icmp_gt (pc := 51) (tgt := 74) dX12_parts_51 (by decide) (by omega) (by omega) (fun c51 => ?_) (fun c51 => ?_)
        · refine Rn.pick (lv' := [(0, .ref y)]) [0] rfl ?_
          exact B74 _ ht45 trivial
        · refine r_iload (pc := 54) dX12_parts_54 rfl ?_
          have B81 : ∀ hp81 : MH, Tw (RG Γ cI cJ cZ y rf45 cn nm so sz dr mn fr tt wt co nu qi qc nf nt nw nc) hp81 → (u10_0 = 1 → sz (Int.toNat x3) = sz (Int.toNat x1)) → Rn (gG D cI cJ cZ cT lo b L xs) mX12_parts d 81 [(0, .ref y), (1, .int (iv x1)), (2, .int (iv x2)), (3, .int (iv x3)), (4, .int (iv u10_0))] [] hp81 n 0 0 (q_X12_parts Γ cI cJ cZ y n rf cn nm so sz dr mn fr tt wt co nu qi qc nf nt nw nc x1 x2 x3) := by
            intro hp81 ht81 hf81
            refine r_aload_n (pc := 81) dX12_parts_81 (i := 0) rfl rfl ?_
            refine t_getE (pc := 82) (.ref (y + 2)) ht81 (rd_of RG_y) fX12_13 dX12_parts_82 rfl ?_
            refine r_iload_n (pc := 85) dX12_parts_85 (i := 1) rfl rfl ?_
            refine t_ialdX (pc := 86) (t0 := 0) ht81 (rd_of RG_sizes) dX12_parts_86 rfl (by decide) (by omega) (fun b8 => ?_)
            have rb8 := (show Rfx 121 0 16 sz by assumption) (Int.toNat x1) (by omega)
            refine r_istore (pc := 87) (lv' := [(5, .int (iv (sz (Int.toNat x1)))), (0, .ref y), (1, .int (iv x1)), (2, .int (iv x2)), (3, .int (iv x3)), (4, .int (iv u10_0))]) dX12_parts_87 (by decide) rfl ?_
            refine r_iload (pc := 89) dX12_parts_89 rfl ?_
            have B341 : ∀ hp341 : MH, Tw (RG Γ cI cJ cZ y rf45 cn nm so sz dr mn fr tt wt co nu qi qc nf nt nw nc) hp341 → True → Rn (gG D cI cJ cZ cT lo b L xs) mX12_parts d 341 [(0, .ref y), (5, .int (iv (sz (Int.toNat x1))))] [] hp341 n 0 0 (q_X12_parts Γ cI cJ cZ y n rf cn nm so sz dr mn fr tt wt co nu qi qc nf nt nw nc x1 x2 x3) := by
              intro hp341 ht341 hf341
              refine r_aload_n (pc := 341) dX12_parts_341 (i := 0) rfl rfl ?_
              refine r_iload (pc := 342) dX12_parts_342 rfl ?_
              obtain ⟨fs13, hfs13⟩ := t_obj ht341 (rd_of RG_y)
              refine r_callV (pc := 344) (as := [.int (iv (sz (Int.toNat x1)))]) (st := []) kX12_301 rfl dX12_parts_344 hfs13 (s_X12_madeParts (d := d - 1) (x1 := sz (Int.toNat x1)) (by omega) (by omega) (by assumption) (by omega) (by assumption) (by assumption) (by assumption) ht341 (by omega)) rfl (by omega) (Nat.le_of_ble_eq_true rfl) (Nat.zero_le _) (Nat.zero_le _) rfl (fun r10 hp9 n11 hq12 => ?_)
              obtain ⟨hnn11, h_16, v_17, c1_18, s1_19, z1_20, i1_21, p1_22, ht14, hrr10, hhq120, hhq121, hhq122, hhq123, hhq124, hhq125, hhq126⟩ := hq12
              subst n11 r10
              have hhq120 : cn = 120 → h_16 = -4 ∧ v_17 = -4 ∧ c1_18 = cn := hhq120
              have hhq121 : cn = 120 → s1_19 = so ∧ z1_20 = sz ∧ i1_21 = qi ∧ p1_22 = qc := hhq121
              have hhq122 : cn < 120 → h_16 = cn ∧ v_17 = rf45 ∧ c1_18 = cn + 1 := hhq122
              have hhq123 : cn < 120 → s1_19 = fup so (Int.toNat cn) 4 ∧ z1_20 = fup sz (Int.toNat cn) (sz (Int.toNat x1)) := hhq123
              have hhq124 : Rfx 1936 0 15 i1_21 := hhq124
              have hhq125 : Rfx 121 0 16 p1_22 := hhq125
              have hhq126 : cn < 120 → fqP i1_21 qi cn ∧ pqP i1_21 cn (sz (Int.toNat x1)) (p1_22 (Int.toNat cn)) ∧ ∀ g : Nat, g ≠ Int.toNat cn → p1_22 g = qc g := hhq126
              change Rn _ _ _ 347 _ [.int (iv h_16)] _ _ _ _ _
              obtain ⟨hRKm, hDFm, hhm⟩ := RK_prt (x1 := sz (Int.toNat x1)) (RK_set hk (by omega) (by omega)) (by omega) hhq120 hhq121 hhq122 hhq123 hhq124 hhq125 hhq126
              exact r_iret (pc := 347) dX12_parts_347 rfl ⟨rfl, v_17, c1_18, nm, s1_19, z1_20, dr, mn, fr, tt, wt, co, nu, i1_21, p1_22, nf, nt, nw, nc, h_16, ht14, rfl, (by (first | assumption | exact RK_set hk (by omega) (by omega))), (by (first | assumption | exact df_r _ _ _ _ _ _ _)), (by omega)⟩
            refine t_if_eq (pc := 91) (tgt := 186) dX12_parts_91 (by decide) (by omega) (fun c91 => ?_) (fun c91 => ?_)
            · refine r_iload_n (pc := 186) dX12_parts_186 (i := 2) rfl rfl ?_
              refine t_if_ne (pc := 187) (tgt := 290) dX12_parts_187 (by decide) (by omega) (fun c187 => ?_) (fun c187 => ?_)
              · refine r_iload_n (pc := 290) dX12_parts_290 (i := 2) rfl rfl ?_
                refine r_iconst (pc := 291) (v := iv 3) dX12_parts_291 (by decide) ?_
                refine t_icmp_ne (pc := 292) (tgt := 303) dX12_parts_292 (by decide) (by omega) (by omega) (fun c292 => ?_) (fun c292 => ?_)
                · refine r_iload_n (pc := 303) dX12_parts_303 (i := 2) rfl rfl ?_
                  refine r_iconst (pc := 304) (v := iv 2) dX12_parts_304 (by decide) ?_
                  have B317 : ∀ hp317 : MH, Tw (RG Γ cI cJ cZ y rf45 cn nm so sz dr mn fr tt wt co nu qi qc nf nt nw nc) hp317 → ∀  (u317_0 : Int), 0 ≤ u317_0 ∧ u317_0 ≤ 60 → Rn (gG D cI cJ cZ cT lo b L xs) mX12_parts d 317 [(0, .ref y), (1, .int (iv x1)), (5, .int (iv (sz (Int.toNat x1))))] [.int (iv u317_0)] hp317 n 0 0 (q_X12_parts Γ cI cJ cZ y n rf cn nm so sz dr mn fr tt wt co nu qi qc nf nt nw nc x1 x2 x3) := by
                    intro hp317 ht317 u317_0 hf317
                    refine r_istore (pc := 317) (lv' := [(6, .int (iv u317_0)), (0, .ref y), (1, .int (iv x1)), (5, .int (iv (sz (Int.toNat x1))))]) dX12_parts_317 (by decide) rfl ?_
                    refine r_aload_n (pc := 319) dX12_parts_319 (i := 0) rfl rfl ?_
                    refine r_iload_n (pc := 320) dX12_parts_320 (i := 1) rfl rfl ?_
                    refine r_iconst (pc := 321) (v := iv (-1)) dX12_parts_321 (by decide) ?_
                    refine t_callVV (pc := 322) (as := [.int (iv x1), .int (iv (-1))]) (st := []) ht317 (rd_of RG_y) kX12_234 rfl dX12_parts_322 (t_X12_joinsOf (d := d - 1) (x1 := x1) (x2 := (-1)) (by omega) (rd_of RG_y) (rd_xr (rd_of RG_many) (show Rfx 121 0 60 mn by assumption)) (rd_xr (rd_of RG_from) (show Rfx 7260 0 15 fr by assumption)) (rd_xr (rd_of RG_to) (show Rfx 7260 0 15 tt by assumption)) RG_beside ht317 (by omega) (by omega)) rfl (by omega) (Nat.le_of_ble_eq_true rfl) rfl (fun hp23 ht24 => ?_)
                    refine r_iload (pc := 325) dX12_parts_325 rfl ?_
                    have B335 : ∀ hp335 : MH, Tw (RG Γ cI cJ cZ y rf45 cn nm so sz dr mn fr tt wt co nu qi qc nf nt nw nc) hp335 → True → Rn (gG D cI cJ cZ cT lo b L xs) mX12_parts d 335 [(0, .ref y), (5, .int (iv (sz (Int.toNat x1))))] [] hp335 n 0 0 (q_X12_parts Γ cI cJ cZ y n rf cn nm so sz dr mn fr tt wt co nu qi qc nf nt nw nc x1 x2 x3) := by
                      intro hp335 ht335 hf335
                      refine r_aload_n (pc := 335) dX12_parts_335 (i := 0) rfl rfl ?_
                      refine r_iload (pc := 336) dX12_parts_336 rfl ?_
                      refine t_callVV (pc := 338) (as := [.int (iv (sz (Int.toNat x1)))]) (st := []) ht335 (rd_of RG_y) kX12_298 rfl dX12_parts_338 (t_X12_weakLabels (d := d - 1) (x1 := sz (Int.toNat x1)) (by omega) (rd_of RG_y) (rd_of RG_beside) RG_label ht335 (by omega)) rfl (by omega) (Nat.le_of_ble_eq_true rfl) rfl (fun hp26 ht27 => ?_)
                      refine Rn.pick (lv' := [(0, .ref y), (5, .int (iv (sz (Int.toNat x1))))]) [0, 1] rfl ?_
                      exact B341 _ ht27 trivial
                    refine t_if_le (pc := 327) (tgt := 335) dX12_parts_327 (by decide) (by omega) (fun c327 => ?_) (fun c327 => ?_)
                    · refine Rn.pick (lv' := [(0, .ref y), (5, .int (iv (sz (Int.toNat x1))))]) [1, 3] rfl ?_
                      exact B335 _ ht24 trivial
                    · refine r_aload_n (pc := 330) dX12_parts_330 (i := 0) rfl rfl ?_
                      refine r_iload_n (pc := 331) dX12_parts_331 (i := 1) rfl rfl ?_
                      refine t_callVV (pc := 332) (as := [.int (iv x1)]) (st := []) ht24 (rd_of RG_y) kX12_295 rfl dX12_parts_332 (t_X12_withoutBridges (d := d - 1) (x1 := x1) (by omega) (rd_of RG_y) (rd_xr (rd_of RG_many) (show Rfx 121 0 60 mn by assumption)) (rd_xr (rd_of RG_from) (show Rfx 7260 0 15 fr by assumption)) (rd_xr (rd_of RG_to) (show Rfx 7260 0 15 tt by assumption)) RG_beside (rd_of RG_bridge) ht24 (by omega)) rfl (by omega) (Nat.le_of_ble_eq_true rfl) rfl (fun hp29 ht30 => ?_)
                      refine Rn.pick (lv' := [(0, .ref y), (5, .int (iv (sz (Int.toNat x1))))]) [1, 3] rfl ?_
                      exact B335 _ ht30 trivial
                  refine t_icmp_ne (pc := 305) (tgt := 316) dX12_parts_305 (by decide) (by omega) (by omega) (fun c305 => ?_) (fun c305 => ?_)
                  · refine r_iconst (pc := 316) (v := iv 0) dX12_parts_316 (by decide) ?_
                    refine Rn.pick (lv' := [(0, .ref y), (1, .int (iv x1)), (5, .int (iv (sz (Int.toNat x1))))]) [1, 2, 0] rfl ?_
                    exact B317 _ ht81 0 ⟨by omega, by omega⟩
                  · refine r_aload_n (pc := 308) dX12_parts_308 (i := 0) rfl rfl ?_
                    refine r_iload_n (pc := 309) dX12_parts_309 (i := 1) rfl rfl ?_
                    refine t_callVR (pc := 310) (as := [.int (iv x1)]) (st := []) ht81 (rd_of RG_y) kX12_292 rfl dX12_parts_310 (t_X12_bridgesOf (d := d - 1) (x1 := x1) (by omega) (rd_of RG_y) (rd_xr (rd_of RG_sizes) (show Rfx 121 0 16 sz by assumption)) (rd_xr (rd_of RG_many) (show Rfx 121 0 60 mn by assumption)) (rd_xr (rd_of RG_from) (show Rfx 7260 0 15 fr by assumption)) (rd_xr (rd_of RG_to) (show Rfx 7260 0 15 tt by assumption)) RG_beside RG_bridge ht81 (by omega)) rfl (by omega) (Nat.le_of_ble_eq_true rfl) rfl (fun hp32 y34 ht33 by34 => ?_)
                    refine r_goto (pc := 313) (tgt := 317) dX12_parts_313 (by decide) ?_
                    refine Rn.pick (lv' := [(0, .ref y), (1, .int (iv x1)), (5, .int (iv (sz (Int.toNat x1))))]) [1, 2, 0] rfl ?_
                    exact B317 _ ht33 y34 ⟨by omega, by omega⟩
                · refine r_aload_n (pc := 295) dX12_parts_295 (i := 0) rfl rfl ?_
                  refine r_iload_n (pc := 296) dX12_parts_296 (i := 1) rfl rfl ?_
                  refine t_callVV (pc := 297) (as := [.int (iv x1)]) (st := []) ht81 (rd_of RG_y) kX12_289 rfl dX12_parts_297 (t_X12_same (d := d - 1) (x1 := x1) (by omega) (rd_of RG_y) (rd_xr (rd_of RG_sizes) (show Rfx 121 0 16 sz by assumption)) (rd_xr (rd_of RG_directs) (show Rfx 121 0 1 dr by assumption)) (rd_xr (rd_of RG_many) (show Rfx 121 0 60 mn by assumption)) (rd_xr (rd_of RG_from) (show Rfx 7260 0 15 fr by assumption)) (rd_xr (rd_of RG_to) (show Rfx 7260 0 15 tt by assumption)) RG_label RG_outs RG_ins ht81 (by omega)) rfl (by omega) (Nat.le_of_ble_eq_true rfl) rfl (fun hp35 ht36 => ?_)
                  refine r_goto (pc := 300) (tgt := 341) dX12_parts_300 (by decide) ?_
                  refine Rn.pick (lv' := [(0, .ref y), (5, .int (iv (sz (Int.toNat x1))))]) [1, 0] rfl ?_
                  exact B341 _ ht36 trivial
              · refine r_iconst (pc := 190) (v := iv 0) dX12_parts_190 (by decide) ?_
                refine r_istore (pc := 191) (lv' := [(6, .int (iv 0)), (5, .int (iv (sz (Int.toNat x1)))), (0, .ref y), (1, .int (iv x1)), (2, .int (iv x2)), (3, .int (iv x3)), (4, .int (iv u10_0))]) dX12_parts_191 (by decide) rfl ?_
                have B193 : ∀ k : Nat, ∀ hp193 : MH, Tw (RG Γ cI cJ cZ y rf45 cn nm so sz dr mn fr tt wt co nu qi qc nf nt nw nc) hp193 → ∀  (v193_6 : Int), 0 ≤ v193_6 ∧ v193_6 ≤ 16 → 16 - v193_6 ≤ (k : Int) → Rn (gG D cI cJ cZ cT lo b L xs) mX12_parts d 193 [(0, .ref y), (1, .int (iv x1)), (5, .int (iv (sz (Int.toNat x1)))), (6, .int (iv v193_6))] [] hp193 n 0 0 (q_X12_parts Γ cI cJ cZ y n rf cn nm so sz dr mn fr tt wt co nu qi qc nf nt nw nc x1 x2 x3) := by
                  refine lpS _ ?_
                  intro k193 ih193 hp193 ht193 v193_6 hf193 hm193
                  refine r_iload (pc := 193) dX12_parts_193 rfl ?_
                  refine r_iload (pc := 195) dX12_parts_195 rfl ?_
                  refine t_icmp_ge (pc := 197) (tgt := 287) dX12_parts_197 (by decide) (by omega) (by omega) (fun c197 => ?_) (fun c197 => ?_)
                  · refine r_goto (pc := 287) (tgt := 341) dX12_parts_287 (by decide) ?_
                    refine Rn.pick (lv' := [(0, .ref y), (5, .int (iv (sz (Int.toNat x1))))]) [0, 2] rfl ?_
                    exact B341 _ ht193 trivial
                  · refine r_aload_n (pc := 200) dX12_parts_200 (i := 0) rfl rfl ?_
                    refine r_iload_n (pc := 201) dX12_parts_201 (i := 1) rfl rfl ?_
                    refine r_iconst (pc := 202) (v := iv 1) dX12_parts_202 (by decide) ?_
                    refine r_iload (pc := 203) dX12_parts_203 rfl ?_
                    obtain ⟨z38, hz38, bz38⟩ := shl_1 0 15 v193_6 (by omega) (by omega) (by decide)
                    refine r_ishl (pc := 205) (v := iv z38) dX12_parts_205 hz38 ?_
                    refine t_callVR (pc := 206) (as := [.int (iv x1), .int (iv z38)]) (st := []) ht193 (rd_of RG_y) kX12_283 rfl dX12_parts_206 (t_X12_reachAll (d := d - 1) (x1 := x1) (x2 := z38) (by omega) (rd_of RG_y) (rd_xr (rd_of RG_directs) (show Rfx 121 0 1 dr by assumption)) (rd_xr (rd_of RG_many) (show Rfx 121 0 60 mn by assumption)) (rd_xr (rd_of RG_from) (show Rfx 7260 0 15 fr by assumption)) (rd_xr (rd_of RG_to) (show Rfx 7260 0 15 tt by assumption)) ht193 (by omega) (by omega)) rfl (by omega) (Nat.le_of_ble_eq_true rfl) rfl (fun hp39 y41 ht40 by41 => ?_)
                    refine r_istore (pc := 209) (lv' := [(7, .int (iv y41)), (0, .ref y), (1, .int (iv x1)), (5, .int (iv (sz (Int.toNat x1)))), (6, .int (iv v193_6))]) dX12_parts_209 (by decide) rfl ?_
                    refine r_iconst (pc := 211) (v := iv 0) dX12_parts_211 (by decide) ?_
                    refine r_istore (pc := 212) (lv' := [(8, .int (iv 0)), (7, .int (iv y41)), (0, .ref y), (1, .int (iv x1)), (5, .int (iv (sz (Int.toNat x1)))), (6, .int (iv v193_6))]) dX12_parts_212 (by decide) rfl ?_
                    refine r_iconst (pc := 214) (v := iv 0) dX12_parts_214 (by decide) ?_
                    refine r_istore (pc := 215) (lv' := [(9, .int (iv 0)), (8, .int (iv 0)), (7, .int (iv y41)), (0, .ref y), (1, .int (iv x1)), (5, .int (iv (sz (Int.toNat x1)))), (6, .int (iv v193_6))]) dX12_parts_215 (by decide) rfl ?_
                    have B217 : ∀ k : Nat, ∀ hp217 : MH, Tw (RG Γ cI cJ cZ y rf45 cn nm so sz dr mn fr tt wt co nu qi qc nf nt nw nc) hp217 → ∀  (v217_8 : Int) (v217_9 : Int), 0 ≤ v217_8 ∧ v217_8 ≤ 65535 ∧ 0 ≤ v217_9 ∧ v217_9 ≤ 16 → 16 - v217_9 ≤ (k : Int) → Rn (gG D cI cJ cZ cT lo b L xs) mX12_parts d 217 [(0, .ref y), (1, .int (iv x1)), (5, .int (iv (sz (Int.toNat x1)))), (6, .int (iv v193_6)), (7, .int (iv y41)), (8, .int (iv v217_8)), (9, .int (iv v217_9))] [] hp217 n 0 0 (q_X12_parts Γ cI cJ cZ y n rf cn nm so sz dr mn fr tt wt co nu qi qc nf nt nw nc x1 x2 x3) := by
                      refine lpS _ ?_
                      intro k217 ih217 hp217 ht217 v217_8 v217_9 hf217 hm217
                      refine r_iload (pc := 217) dX12_parts_217 rfl ?_
                      refine r_iload (pc := 219) dX12_parts_219 rfl ?_
                      refine t_icmp_ge (pc := 221) (tgt := 272) dX12_parts_221 (by decide) (by omega) (by omega) (fun c221 => ?_) (fun c221 => ?_)
                      · refine r_aload_n (pc := 272) dX12_parts_272 (i := 0) rfl rfl ?_
                        refine t_getE (pc := 273) (.ref (y + 31)) ht217 (rd_of RG_y) fX12_103 dX12_parts_273 rfl ?_
                        refine r_iload (pc := 276) dX12_parts_276 rfl ?_
                        refine r_iload (pc := 278) dX12_parts_278 rfl ?_
                        refine t_iastR (pc := 280) (t0 := 0) ht217 RG_label dX12_parts_280 rfl (by decide) (by decide) (by omega) (by omega) (fun hp42 ht43 => ?_)
                        refine r_iinc (pc := 281) (v := iv (v193_6 + 1)) (lv' := [(6, .int (iv (v193_6 + 1))), (0, .ref y), (1, .int (iv x1)), (5, .int (iv (sz (Int.toNat x1)))), (7, .int (iv y41)), (8, .int (iv v217_8)), (9, .int (iv v217_9))]) dX12_parts_281 rfl (iv_add _ _) (by decide) rfl ?_
                        refine r_goto (pc := 284) (tgt := 193) dX12_parts_284 (by decide) ?_
                        refine Rn.pick (lv' := [(0, .ref y), (1, .int (iv x1)), (5, .int (iv (sz (Int.toNat x1)))), (6, .int (iv (v193_6 + 1)))]) [1, 2, 3, 0] rfl ?_
                        exact ih193 (Int.toNat (16 - (v193_6 + 1))) (by omega) _ ht43 (v193_6 + 1) ⟨by omega, by omega⟩ (by omega)
                      · refine r_iload (pc := 224) dX12_parts_224 rfl ?_
                        refine r_iload (pc := 226) dX12_parts_226 rfl ?_
                        refine r_iload (pc := 228) dX12_parts_228 rfl ?_
                        obtain ⟨z44, hz44, bz44⟩ := shr_x y41 v217_9 (by omega) (by omega)
                        refine r_ishr (pc := 230) (v := iv z44) dX12_parts_230 hz44 ?_
                        refine r_iconst (pc := 231) (v := iv 1) dX12_parts_231 (by decide) ?_
                        obtain ⟨z45, hz45, bz45⟩ := and_2 z44 1 (by omega) (by omega)
                        refine r_iand (pc := 232) (v := iv z45) dX12_parts_232 hz45 ?_
                        refine r_iconst (pc := 233) (v := iv 1) dX12_parts_233 (by decide) ?_
                        have B263 : ∀ hp263 : MH, Tw (RG Γ cI cJ cZ y rf45 cn nm so sz dr mn fr tt wt co nu qi qc nf nt nw nc) hp263 → ∀  (u263_1 : Int), 0 ≤ u263_1 ∧ u263_1 ≤ 32768 → Rn (gG D cI cJ cZ cT lo b L xs) mX12_parts d 263 [(0, .ref y), (1, .int (iv x1)), (5, .int (iv (sz (Int.toNat x1)))), (6, .int (iv v193_6)), (7, .int (iv y41)), (9, .int (iv v217_9))] [.int (iv u263_1), .int (iv v217_8)] hp263 n 0 0 (q_X12_parts Γ cI cJ cZ y n rf cn nm so sz dr mn fr tt wt co nu qi qc nf nt nw nc x1 x2 x3) := by
                          intro hp263 ht263 u263_1 hf263
                          obtain ⟨z46, hz46, bz46⟩ := or_2 16 v217_8 u263_1 (by omega) (by omega) (by decide)
                          refine r_ior (pc := 263) (v := iv z46) dX12_parts_263 hz46 ?_
                          refine r_istore (pc := 264) (lv' := [(8, .int (iv z46)), (0, .ref y), (1, .int (iv x1)), (5, .int (iv (sz (Int.toNat x1)))), (6, .int (iv v193_6)), (7, .int (iv y41)), (9, .int (iv v217_9))]) dX12_parts_264 (by decide) rfl ?_
                          refine r_iinc (pc := 266) (v := iv (v217_9 + 1)) (lv' := [(9, .int (iv (v217_9 + 1))), (8, .int (iv z46)), (0, .ref y), (1, .int (iv x1)), (5, .int (iv (sz (Int.toNat x1)))), (6, .int (iv v193_6)), (7, .int (iv y41))]) dX12_parts_266 rfl (iv_add _ _) (by decide) rfl ?_
                          refine r_goto (pc := 269) (tgt := 217) dX12_parts_269 (by decide) ?_
                          refine Rn.pick (lv' := [(0, .ref y), (1, .int (iv x1)), (5, .int (iv (sz (Int.toNat x1)))), (6, .int (iv v193_6)), (7, .int (iv y41)), (8, .int (iv z46)), (9, .int (iv (v217_9 + 1)))]) [2, 3, 4, 5, 6, 1, 0] rfl ?_
                          exact ih217 (Int.toNat (16 - (v217_9 + 1))) (by omega) _ ht263 z46 (v217_9 + 1) ⟨by omega, by omega, by omega, by omega⟩ (by omega)
                        have B262 : ∀ hp262 : MH, Tw (RG Γ cI cJ cZ y rf45 cn nm so sz dr mn fr tt wt co nu qi qc nf nt nw nc) hp262 → True → Rn (gG D cI cJ cZ cT lo b L xs) mX12_parts d 262 [(0, .ref y), (1, .int (iv x1)), (5, .int (iv (sz (Int.toNat x1)))), (6, .int (iv v193_6)), (7, .int (iv y41)), (9, .int (iv v217_9))] [.int (iv v217_8)] hp262 n 0 0 (q_X12_parts Γ cI cJ cZ y n rf cn nm so sz dr mn fr tt wt co nu qi qc nf nt nw nc x1 x2 x3) := by
                          intro hp262 ht262 hf262
                          refine r_iconst (pc := 262) (v := iv 0) dX12_parts_262 (by decide) ?_
                          refine Rn.pick (lv' := [(0, .ref y), (1, .int (iv x1)), (5, .int (iv (sz (Int.toNat x1)))), (6, .int (iv v193_6)), (7, .int (iv y41)), (9, .int (iv v217_9))]) [0, 1, 2, 3, 4, 5] rfl ?_
                          exact B263 _ ht262 0 ⟨by omega, by omega⟩
                        refine t_icmp_ne (pc := 234) (tgt := 262) dX12_parts_234 (by decide) (by omega) (by omega) (fun c234 => ?_) (fun c234 => ?_)
                        · refine Rn.pick (lv' := [(0, .ref y), (1, .int (iv x1)), (5, .int (iv (sz (Int.toNat x1)))), (6, .int (iv v193_6)), (7, .int (iv y41)), (9, .int (iv v217_9))]) [0, 1, 2, 3, 4, 6] rfl ?_
                          exact B262 _ ht217 trivial
                        · refine r_aload_n (pc := 237) dX12_parts_237 (i := 0) rfl rfl ?_
                          refine r_iload_n (pc := 238) dX12_parts_238 (i := 1) rfl rfl ?_
                          refine r_iconst (pc := 239) (v := iv 1) dX12_parts_239 (by decide) ?_
                          refine r_iload (pc := 240) dX12_parts_240 rfl ?_
                          obtain ⟨z47, hz47, bz47⟩ := shl_1 0 15 v217_9 (by omega) (by omega) (by decide)
                          refine r_ishl (pc := 242) (v := iv z47) dX12_parts_242 hz47 ?_
                          refine t_callVR (pc := 243) (as := [.int (iv x1), .int (iv z47)]) (st := [.int (iv v217_8)]) ht217 (rd_of RG_y) kX12_283 rfl dX12_parts_243 (t_X12_reachAll (d := d - 1) (x1 := x1) (x2 := z47) (by omega) (rd_of RG_y) (rd_xr (rd_of RG_directs) (show Rfx 121 0 1 dr by assumption)) (rd_xr (rd_of RG_many) (show Rfx 121 0 60 mn by assumption)) (rd_xr (rd_of RG_from) (show Rfx 7260 0 15 fr by assumption)) (rd_xr (rd_of RG_to) (show Rfx 7260 0 15 tt by assumption)) ht217 (by omega) (by omega)) rfl (by omega) (Nat.le_of_ble_eq_true rfl) rfl (fun hp48 y50 ht49 by50 => ?_)
                          refine r_iload (pc := 246) dX12_parts_246 rfl ?_
                          obtain ⟨z51, hz51, bz51⟩ := shr_x y50 v193_6 (by omega) (by omega)
                          refine r_ishr (pc := 248) (v := iv z51) dX12_parts_248 hz51 ?_
                          refine r_iconst (pc := 249) (v := iv 1) dX12_parts_249 (by decide) ?_
                          obtain ⟨z52, hz52, bz52⟩ := and_2 z51 1 (by omega) (by omega)
                          refine r_iand (pc := 250) (v := iv z52) dX12_parts_250 hz52 ?_
                          refine r_iconst (pc := 251) (v := iv 1) dX12_parts_251 (by decide) ?_
                          refine t_icmp_ne (pc := 252) (tgt := 262) dX12_parts_252 (by decide) (by omega) (by omega) (fun c252 => ?_) (fun c252 => ?_)
                          · refine Rn.pick (lv' := [(0, .ref y), (1, .int (iv x1)), (5, .int (iv (sz (Int.toNat x1)))), (6, .int (iv v193_6)), (7, .int (iv y41)), (9, .int (iv v217_9))]) [0, 1, 2, 3, 4, 6] rfl ?_
                            exact B262 _ ht49 trivial
                          · refine r_iconst (pc := 255) (v := iv 1) dX12_parts_255 (by decide) ?_
                            refine r_iload (pc := 256) dX12_parts_256 rfl ?_
                            obtain ⟨z53, hz53, bz53⟩ := shl_1 0 15 v217_9 (by omega) (by omega) (by decide)
                            refine r_ishl (pc := 258) (v := iv z53) dX12_parts_258 hz53 ?_
                            refine r_goto (pc := 259) (tgt := 263) dX12_parts_259 (by decide) ?_
                            refine Rn.pick (lv' := [(0, .ref y), (1, .int (iv x1)), (5, .int (iv (sz (Int.toNat x1)))), (6, .int (iv v193_6)), (7, .int (iv y41)), (9, .int (iv v217_9))]) [0, 1, 2, 3, 4, 6] rfl ?_
                            exact B263 _ ht49 z53 ⟨by omega, by omega⟩
                    refine Rn.pick (lv' := [(0, .ref y), (1, .int (iv x1)), (5, .int (iv (sz (Int.toNat x1)))), (6, .int (iv v193_6)), (7, .int (iv y41)), (8, .int (iv 0)), (9, .int (iv 0))]) [3, 4, 5, 6, 2, 1, 0] rfl ?_
                    exact B217 (Int.toNat (16 - 0)) _ ht40 0 0 ⟨by omega, by omega, by omega, by omega⟩ (by omega)
                refine Rn.pick (lv' := [(0, .ref y), (1, .int (iv x1)), (5, .int (iv (sz (Int.toNat x1)))), (6, .int (iv 0))]) [2, 3, 1, 0] rfl ?_
                exact B193 (Int.toNat (16 - 0)) _ ht81 0 ⟨by omega, by omega⟩ (by omega)
            · have rsw := hR_sizes (Int.toNat x3) (by omega)
              refine r_iconst (pc := 94) (v := iv 0) dX12_parts_94 (by decide) ?_
              refine r_istore (pc := 95) (lv' := [(6, .int (iv 0)), (5, .int (iv (sz (Int.toNat x1)))), (0, .ref y), (1, .int (iv x1)), (2, .int (iv x2)), (3, .int (iv x3)), (4, .int (iv u10_0))]) dX12_parts_95 (by decide) rfl ?_
              have B97 : ∀ k : Nat, ∀ hp97 : MH, Tw (RG Γ cI cJ cZ y rf45 cn nm so sz dr mn fr tt wt co nu qi qc nf nt nw nc) hp97 → ∀  (v97_6 : Int), 0 ≤ v97_6 ∧ v97_6 ≤ 16 → 16 - v97_6 ≤ (k : Int) → Rn (gG D cI cJ cZ cT lo b L xs) mX12_parts d 97 [(0, .ref y), (3, .int (iv x3)), (5, .int (iv (sz (Int.toNat x1)))), (6, .int (iv v97_6))] [] hp97 n 0 0 (q_X12_parts Γ cI cJ cZ y n rf cn nm so sz dr mn fr tt wt co nu qi qc nf nt nw nc x1 x2 x3) := by
                refine lpS _ ?_
                intro k97 ih97 hp97 ht97 v97_6 hf97 hm97
                refine r_iload (pc := 97) dX12_parts_97 rfl ?_
                refine r_iload (pc := 99) dX12_parts_99 rfl ?_
                refine t_icmp_ge (pc := 101) (tgt := 183) dX12_parts_101 (by decide) (by omega) (by omega) (fun c101 => ?_) (fun c101 => ?_)
                · refine r_goto (pc := 183) (tgt := 341) dX12_parts_183 (by decide) ?_
                  refine Rn.pick (lv' := [(0, .ref y), (5, .int (iv (sz (Int.toNat x1))))]) [0, 2] rfl ?_
                  exact B341 _ ht97 trivial
                · refine r_aload_n (pc := 104) dX12_parts_104 (i := 0) rfl rfl ?_
                  refine t_getE (pc := 105) (.ref (y + 31)) ht97 (rd_of RG_y) fX12_103 dX12_parts_105 rfl ?_
                  refine r_iload (pc := 108) dX12_parts_108 rfl ?_
                  refine r_iload (pc := 110) dX12_parts_110 rfl ?_
                  refine t_iastR (pc := 112) (t0 := 0) ht97 RG_label dX12_parts_112 rfl (by decide) (by decide) (by omega) (by omega) (fun hp54 ht55 => ?_)
                  refine r_iload (pc := 113) dX12_parts_113 rfl ?_
                  refine r_iconst (pc := 115) (v := iv 1) dX12_parts_115 (by decide) ?_
                  refine r_isub (pc := 116) (v := iv (v97_6 - 1)) dX12_parts_116 (iv_sub _ _) ?_
                  refine r_istore (pc := 117) (lv' := [(7, .int (iv (v97_6 - 1))), (0, .ref y), (3, .int (iv x3)), (5, .int (iv (sz (Int.toNat x1)))), (6, .int (iv v97_6))]) dX12_parts_117 (by decide) rfl ?_
                  have B119 : ∀ k : Nat, ∀ hp119 : MH, Tw (RG Γ cI cJ cZ y rf45 cn nm so sz dr mn fr tt wt co nu qi qc nf nt nw nc) hp119 → ∀  (v119_7 : Int), (-1) ≤ v119_7 ∧ v119_7 ≤ 14 ∧ v119_7 ≤ v97_6 - 1 → v119_7 - (-1) ≤ (k : Int) → Rn (gG D cI cJ cZ cT lo b L xs) mX12_parts d 119 [(0, .ref y), (3, .int (iv x3)), (5, .int (iv (sz (Int.toNat x1)))), (6, .int (iv v97_6)), (7, .int (iv v119_7))] [] hp119 n 0 0 (q_X12_parts Γ cI cJ cZ y n rf cn nm so sz dr mn fr tt wt co nu qi qc nf nt nw nc x1 x2 x3) := by
                    refine lpS _ ?_
                    intro k119 ih119 hp119 ht119 v119_7 hf119 hm119
                    refine r_iload (pc := 119) dX12_parts_119 rfl ?_
                    refine t_if_lt (pc := 121) (tgt := 177) dX12_parts_121 (by decide) (by omega) (fun c121 => ?_) (fun c121 => ?_)
                    · refine r_iinc (pc := 177) (v := iv (v97_6 + 1)) (lv' := [(6, .int (iv (v97_6 + 1))), (0, .ref y), (3, .int (iv x3)), (5, .int (iv (sz (Int.toNat x1)))), (7, .int (iv v119_7))]) dX12_parts_177 rfl (iv_add _ _) (by decide) rfl ?_
                      refine r_goto (pc := 180) (tgt := 97) dX12_parts_180 (by decide) ?_
                      refine Rn.pick (lv' := [(0, .ref y), (3, .int (iv x3)), (5, .int (iv (sz (Int.toNat x1)))), (6, .int (iv (v97_6 + 1)))]) [1, 2, 3, 0] rfl ?_
                      exact ih97 (Int.toNat (16 - (v97_6 + 1))) (by omega) _ ht119 (v97_6 + 1) ⟨by omega, by omega⟩ (by omega)
                    · refine r_aload_n (pc := 124) dX12_parts_124 (i := 0) rfl rfl ?_
                      refine t_getE (pc := 125) (.ref (y + 31)) ht119 (rd_of RG_y) fX12_103 dX12_parts_125 rfl ?_
                      refine r_iload (pc := 128) dX12_parts_128 rfl ?_
                      refine r_aload_n (pc := 130) dX12_parts_130 (i := 0) rfl rfl ?_
                      refine t_getE (pc := 131) (.ref (y + 9)) ht119 (rd_of RG_y) fX12_35 dX12_parts_131 rfl ?_
                      refine r_bipush (pc := 134) (v := iv 16) dX12_parts_134 (by decide) ?_
                      refine r_iload_n (pc := 136) dX12_parts_136 (i := 3) rfl rfl ?_
                      refine r_imul (pc := 137) (v := iv (16 * x3)) dX12_parts_137 (iv_mul _ _) ?_
                      refine r_iload (pc := 138) dX12_parts_138 rfl ?_
                      refine r_iadd (pc := 140) (v := iv ((16 * x3) + v119_7)) dX12_parts_140 (iv_add _ _) ?_
                      refine t_laldX (pc := 141) (t0 := 1) ht119 (rd_of RG_numbers) dX12_parts_141 rfl (by decide) (by omega) ?_
                      refine r_aload_n (pc := 142) dX12_parts_142 (i := 0) rfl rfl ?_
                      refine t_getE (pc := 143) (.ref (y + 9)) ht119 (rd_of RG_y) fX12_35 dX12_parts_143 rfl ?_
                      refine r_bipush (pc := 146) (v := iv 16) dX12_parts_146 (by decide) ?_
                      refine r_iload_n (pc := 148) dX12_parts_148 (i := 3) rfl rfl ?_
                      refine r_imul (pc := 149) (v := iv (16 * x3)) dX12_parts_149 (iv_mul _ _) ?_
                      refine r_iload (pc := 150) dX12_parts_150 rfl ?_
                      refine r_iadd (pc := 152) (v := iv ((16 * x3) + v97_6)) dX12_parts_152 (iv_add _ _) ?_
                      refine t_laldX (pc := 153) (t0 := 1) ht119 (rd_of RG_numbers) dX12_parts_153 rfl (by decide) (by omega) ?_
                      refine r_lcmp (pc := 154) dX12_parts_154 ?_
                      have B170 : ∀ hp170 : MH, Tw (RG Γ cI cJ cZ y rf45 cn nm so sz dr mn fr tt wt co nu qi qc nf nt nw nc) hp170 → ∀  (u170_2 : Int), 0 ≤ u170_2 ∧ u170_2 ≤ 65535 → Rn (gG D cI cJ cZ cT lo b L xs) mX12_parts d 170 [(0, .ref y), (3, .int (iv x3)), (5, .int (iv (sz (Int.toNat x1)))), (6, .int (iv v97_6)), (7, .int (iv v119_7))] [.int (iv u170_2), .int (iv v97_6), .ref (y + 31)] hp170 n 0 0 (q_X12_parts Γ cI cJ cZ y n rf cn nm so sz dr mn fr tt wt co nu qi qc nf nt nw nc x1 x2 x3) := by
                        intro hp170 ht170 u170_2 hf170
                        refine t_iastR (pc := 170) (t0 := 0) ht170 RG_label dX12_parts_170 rfl (by decide) (by decide) (by omega) (by omega) (fun hp56 ht57 => ?_)
                        refine r_iinc (pc := 171) (v := iv (v119_7 - 1)) (lv' := [(7, .int (iv (v119_7 - 1))), (0, .ref y), (3, .int (iv x3)), (5, .int (iv (sz (Int.toNat x1)))), (6, .int (iv v97_6))]) dX12_parts_171 rfl ((iv_add _ _).trans (congrArg iv (show v119_7 + (-1) = v119_7 - 1 by omega))) (by decide) rfl ?_
                        refine r_goto (pc := 174) (tgt := 119) dX12_parts_174 (by decide) ?_
                        refine Rn.pick (lv' := [(0, .ref y), (3, .int (iv x3)), (5, .int (iv (sz (Int.toNat x1)))), (6, .int (iv v97_6)), (7, .int (iv (v119_7 - 1)))]) [1, 2, 3, 4, 0] rfl ?_
                        exact ih119 (Int.toNat ((v119_7 - 1) - (-1))) (by omega) _ ht57 (v119_7 - 1) ⟨by omega, by omega, by omega⟩ (by omega)
                      refine r_if_ne (pc := 155) (tgt := 163) dX12_parts_155 (by decide) (fun c155 => ?_) (fun c155 => ?_)
                      · refine r_aload_n (pc := 163) dX12_parts_163 (i := 0) rfl rfl ?_
                        refine t_getE (pc := 164) (.ref (y + 31)) ht119 (rd_of RG_y) fX12_103 dX12_parts_164 rfl ?_
                        refine r_iload (pc := 167) dX12_parts_167 rfl ?_
                        refine t_ialdR (pc := 169) (t0 := 0) ht119 (rd_of RG_label) dX12_parts_169 rfl (by decide) (by omega) (fun y58 by58 => ?_)
                        refine Rn.pick (lv' := [(0, .ref y), (3, .int (iv x3)), (5, .int (iv (sz (Int.toNat x1)))), (6, .int (iv v97_6)), (7, .int (iv v119_7))]) [0, 1, 2, 3, 4] rfl ?_
                        exact B170 _ ht119 y58 ⟨by omega, by omega⟩
                      · refine r_iload (pc := 158) dX12_parts_158 rfl ?_
                        refine r_goto (pc := 160) (tgt := 170) dX12_parts_160 (by decide) ?_
                        refine Rn.pick (lv' := [(0, .ref y), (3, .int (iv x3)), (5, .int (iv (sz (Int.toNat x1)))), (6, .int (iv v97_6)), (7, .int (iv v119_7))]) [0, 1, 2, 3, 4] rfl ?_
                        exact B170 _ ht119 v119_7 ⟨by omega, by omega⟩
                  refine Rn.pick (lv' := [(0, .ref y), (3, .int (iv x3)), (5, .int (iv (sz (Int.toNat x1)))), (6, .int (iv v97_6)), (7, .int (iv (v97_6 - 1)))]) [1, 2, 3, 4, 0] rfl ?_
                  exact B119 (Int.toNat ((v97_6 - 1) - (-1))) _ ht55 (v97_6 - 1) ⟨by omega, by omega, by omega⟩ (by omega)
              refine Rn.pick (lv' := [(0, .ref y), (3, .int (iv x3)), (5, .int (iv (sz (Int.toNat x1)))), (6, .int (iv 0))]) [2, 5, 1, 0] rfl ?_
              exact B97 (Int.toNat (16 - 0)) _ ht81 0 ⟨by omega, by omega⟩ (by omega)
          refine t_if_eq (pc := 56) (tgt := 81) dX12_parts_56 (by decide) (by omega) (fun c56 => ?_) (fun c56 => ?_)
          · refine Rn.pick (lv' := [(0, .ref y), (1, .int (iv x1)), (2, .int (iv x2)), (3, .int (iv x3)), (4, .int (iv u10_0))]) [0, 1, 2, 3, 4] rfl ?_
            exact B81 _ ht45 (by omega)
          · refine r_aload_n (pc := 59) dX12_parts_59 (i := 0) rfl rfl ?_
            refine t_getE (pc := 60) (.ref (y + 2)) ht45 (rd_of RG_y) fX12_13 dX12_parts_60 rfl ?_
            refine r_iload_n (pc := 63) dX12_parts_63 (i := 3) rfl rfl ?_
            refine t_ialdX (pc := 64) (t0 := 0) ht45 (rd_of RG_sizes) dX12_parts_64 rfl (by decide) (by omega) (fun b59 => ?_)
            have rb59 := (show Rfx 121 0 16 sz by assumption) (Int.toNat x3) (by omega)
            refine r_aload_n (pc := 65) dX12_parts_65 (i := 0) rfl rfl ?_
            refine t_getE (pc := 66) (.ref (y + 2)) ht45 (rd_of RG_y) fX12_13 dX12_parts_66 rfl ?_
            refine r_iload_n (pc := 69) dX12_parts_69 (i := 1) rfl rfl ?_
            refine t_ialdX (pc := 70) (t0 := 0) ht45 (rd_of RG_sizes) dX12_parts_70 rfl (by decide) (by omega) (fun b60 => ?_)
            have rb60 := (show Rfx 121 0 16 sz by assumption) (Int.toNat x1) (by omega)
            refine t_icmp_eq (pc := 71) (tgt := 81) dX12_parts_71 (by decide) (by omega) (by omega) (fun c71 => ?_) (fun c71 => ?_)
            · refine Rn.pick (lv' := [(0, .ref y), (1, .int (iv x1)), (2, .int (iv x2)), (3, .int (iv x3)), (4, .int (iv u10_0))]) [0, 1, 2, 3, 4] rfl ?_
              exact B81 _ ht45 (by omega)
            · refine Rn.pick (lv' := [(0, .ref y)]) [0] rfl ?_
              exact B74 _ ht45 trivial
    have B40 : ∀ rf40 : Int, ∀ hp40 : MH, Tw (RG Γ cI cJ cZ y rf40 cn nm so sz dr mn fr tt wt co nu qi qc nf nt nw nc) hp40 → -2147483648 ≤ rf40 ∧ rf40 ≤ 2147483647 → Rn (gG D cI cJ cZ cT lo b L xs) mX12_parts d 40 [(0, .ref y)] [] hp40 n 0 0 (q_X12_parts Γ cI cJ cZ y n rf cn nm so sz dr mn fr tt wt co nu qi qc nf nt nw nc x1 x2 x3) := by
      intro rf40 hp40 ht40 hf40
      refine r_aload_n (pc := 40) dX12_parts_40 (i := 0) rfl rfl ?_
      refine t_getE (pc := 41) (.int (iv rf40)) ht40 (rd_of RG_y) fX12_142 dX12_parts_41 rfl ?_
      exact r_iret (pc := 44) dX12_parts_44 rfl ⟨rfl, rf40, cn, nm, so, sz, dr, mn, fr, tt, wt, co, nu, qi, qc, nf, nt, nw, nc, rf40, ht40, rfl, (by (first | assumption | exact RK_set hk (by omega) (by omega))), (by (first | assumption | exact df_r _ _ _ _ _ _ _)), (by omega)⟩
    refine t_if_eq (pc := 14) (tgt := 31) dX12_parts_14 (by decide) (by omega) (fun c14 => ?_) (fun c14 => ?_)
    · refine r_aload_n (pc := 31) dX12_parts_31 (i := 0) rfl rfl ?_
      refine r_iload_n (pc := 32) dX12_parts_32 (i := 1) rfl rfl ?_
      refine r_iconst (pc := 33) (v := iv 1) dX12_parts_33 (by decide) ?_
      obtain ⟨fs65, hfs65⟩ := t_obj ht10 (rd_of RG_y)
      refine r_callV (pc := 34) (as := [.int (iv x1), .int (iv 1)]) (st := []) kX12_183 rfl dX12_parts_34 hfs65 (s_X12_has (d := d - 1) (x1 := x1) (x2 := 1) (by omega) (by omega) (by assumption) ht10 (by omega) (by omega)) rfl (by omega) (Nat.le_of_ble_eq_true rfl) (Nat.zero_le _) (Nat.zero_le _) rfl (fun r62 hp61 n63 hq64 => ?_)
      obtain ⟨hnn63, v_68, b_69, ht66, hrr62, hhq640, hhq641⟩ := hq64
      subst n63 r62
      have hhq640 : -2 ≤ v_68 ∧ v_68 ≤ 0 ∧ (b_69 = 0 ∨ b_69 = 1) := hhq640
      have hhq641 : (b_69 = 1 ∧ v_68 = 0 ∧ 0 ≤ x1 ∧ x1 < cn ∧ so (Int.toNat x1) = 1) ∨ (b_69 = 0 ∧ v_68 = -1 ∧ ¬ (0 ≤ x1 ∧ x1 < cn)) ∨ (b_69 = 0 ∧ v_68 = -2 ∧ 0 ≤ x1 ∧ x1 < cn ∧ so (Int.toNat x1) ≠ 1) := hhq641
      change Rn _ _ _ 37 _ [.int (iv b_69)] _ _ _ _ _
      refine t_if_ne (pc := 37) (tgt := 45) dX12_parts_37 (by decide) (by omega) (fun c37 => ?_) (fun c37 => ?_)
      · have rsz37 := hR_sizes (Int.toNat x1) (by omega)
        have rsy37 := hsz x1 (by omega) (by omega)
        have hen := hgr x1 (by omega) (by omega) (by omega)
        have rmn37 := hR_many (Int.toNat x1) (by omega)
        refine Rn.pick (lv' := [(0, .ref y), (1, .int (iv x1)), (2, .int (iv x2)), (3, .int (iv x3)), (4, .int (iv u10_0))]) [1, 2, 3, 4, 0] rfl ?_
        exact B45 v_68 _ ht66 ⟨by omega, by omega, by omega, by omega, by omega, by omega, by omega⟩
      · refine Rn.pick (lv' := [(0, .ref y)]) [1] rfl ?_
        exact B40 v_68 _ ht66 ⟨by omega, by omega⟩
    · refine r_aload_n (pc := 17) dX12_parts_17 (i := 0) rfl rfl ?_
      refine r_iload_n (pc := 18) dX12_parts_18 (i := 1) rfl rfl ?_
      refine r_iconst (pc := 19) (v := iv 1) dX12_parts_19 (by decide) ?_
      refine r_iload_n (pc := 20) dX12_parts_20 (i := 3) rfl rfl ?_
      refine r_iconst (pc := 21) (v := iv 2) dX12_parts_21 (by decide) ?_
      obtain ⟨fs74, hfs74⟩ := t_obj ht10 (rd_of RG_y)
      refine r_callV (pc := 22) (as := [.int (iv x1), .int (iv 1), .int (iv x3), .int (iv 2)]) (st := []) kX12_209 rfl dX12_parts_22 hfs74 (s_X12_haveTwo (d := d - 1) (x1 := x1) (x2 := 1) (x3 := x3) (x4 := 2) (by omega) (by omega) (by assumption) ht10 (by omega) (by omega) (by omega) (by omega)) rfl (by omega) (Nat.le_of_ble_eq_true rfl) (Nat.zero_le _) (Nat.zero_le _) rfl (fun r71 hp70 n72 hq73 => ?_)
      obtain ⟨hnn72, v_77, b_78, ht75, hrr71, hhq730, hhq731⟩ := hq73
      subst n72 r71
      have hhq730 : -2 ≤ v_77 ∧ v_77 ≤ 0 ∧ (b_78 = 0 ∨ b_78 = 1) := hhq730
      have hhq731 : (b_78 = 1 ∧ v_77 = 0 ∧ 0 ≤ x1 ∧ x1 < cn ∧ 0 ≤ x3 ∧ x3 < cn ∧ so (Int.toNat x1) = 1 ∧ so (Int.toNat x3) = 2) ∨ (b_78 = 0 ∧ v_77 = -1 ∧ ¬ (0 ≤ x1 ∧ x1 < cn ∧ 0 ≤ x3 ∧ x3 < cn)) ∨ (b_78 = 0 ∧ v_77 = -2 ∧ 0 ≤ x1 ∧ x1 < cn ∧ 0 ≤ x3 ∧ x3 < cn ∧ ¬ (so (Int.toNat x1) = 1 ∧ so (Int.toNat x3) = 2)) := hhq731
      change Rn _ _ _ 25 _ [.int (iv b_78)] _ _ _ _ _
      refine t_if_ne (pc := 25) (tgt := 45) dX12_parts_25 (by decide) (by omega) (fun c25 => ?_) (fun c25 => ?_)
      · have rsz25 := hR_sizes (Int.toNat x1) (by omega)
        have rsy25 := hsz x1 (by omega) (by omega)
        have hen := hgr x1 (by omega) (by omega) (by omega)
        have rmn25 := hR_many (Int.toNat x1) (by omega)
        have rsw25 := hR_sizes (Int.toNat x3) (by omega)
        have rsx25 := hsz x3 (by omega) (by omega)
        refine Rn.pick (lv' := [(0, .ref y), (1, .int (iv x1)), (2, .int (iv x2)), (3, .int (iv x3)), (4, .int (iv u10_0))]) [1, 2, 3, 4, 0] rfl ?_
        exact B45 v_77 _ ht75 ⟨by omega, by omega, by omega, by omega, by omega, by omega, by omega⟩
      · refine r_goto (pc := 28) (tgt := 40) dX12_parts_28 (by decide) ?_
        refine Rn.pick (lv' := [(0, .ref y)]) [1] rfl ?_
        exact B40 v_77 _ ht75 ⟨by omega, by omega⟩
  refine t_icmp_ne (pc := 2) (tgt := 9) dX12_parts_2 (by decide) (by omega) (by omega) (fun c2 => ?_) (fun c2 => ?_)
  · refine r_iconst (pc := 9) (v := iv 0) dX12_parts_9 (by decide) ?_
    refine Rn.pick (lv' := [(0, .ref y), (1, .int (iv x1)), (2, .int (iv x2)), (3, .int (iv x3))]) [0, 1, 2, 3] rfl ?_
    exact B10 _ ht 0 ⟨by omega, by omega, by omega⟩
  · refine r_iconst (pc := 5) (v := iv 1) dX12_parts_5 (by decide) ?_
    refine r_goto (pc := 6) (tgt := 10) dX12_parts_6 (by decide) ?_
    refine Rn.pick (lv' := [(0, .ref y), (1, .int (iv x1)), (2, .int (iv x2)), (3, .int (iv x3))]) [0, 1, 2, 3] rfl ?_
    exact B10 _ ht 1 ⟨by omega, by omega, by omega⟩
def q_X12_ask (Γ : TG) (cI cJ cZ : ClassId) (y n : Nat) (rf cn nm : Int) (so sz dr mn fr tt wt co : Nat → Int) (nu : Nat → Int64) (qi qc nf nt nw nc : Nat → Int) (x1 x2 x3 x4 : Int) : Option Value → MH → Nat → Prop := fun r hp1 n1 => n1 = n ∧ ∃ (rf' : Int) (cn' : Int) (nm' : Int) (so' : Nat → Int) (sz' : Nat → Int) (dr' : Nat → Int) (mn' : Nat → Int) (fr' : Nat → Int) (tt' : Nat → Int) (wt' : Nat → Int) (co' : Nat → Int) (nu' : Nat → Int64) (qi' : Nat → Int) (qc' : Nat → Int) (nf' : Nat → Int) (nt' : Nat → Int) (nw' : Nat → Int) (nc' : Nat → Int) (v' : Int64), Tw (RG Γ cI cJ cZ y rf' cn' nm' so' sz' dr' mn' fr' tt' wt' co' nu' qi' qc' nf' nt' nw' nc') hp1 ∧ r = some (.long v') ∧ (RK rf' cn' nm' so' sz' dr' mn' fr' tt' wt' co' nu' qi' qc' nf' nt' nw' nc') ∧ (dfE sz dr mn fr tt wt co sz' dr' mn' fr' tt' wt' co')
set_option maxHeartbeats 4000000 in
set_option maxRecDepth 100000 in
theorem s_X12_ask {D : va_G} {cI cJ cZ cT : ClassId} {lo b L : Nat} {xs : Nat → Int32} {hp : MH} {n d : Nat} {Γ : TG} {y : Nat} {rf cn nm : Int} {so sz dr mn fr tt wt co : Nat → Int} {nu : Nat → Int64} {qi qc nf nt nw nc : Nat → Int} {x1 x2 x3 x4 : Int} (hd0 : 5 ≤ d) (hk : RK rf cn nm so sz dr mn fr tt wt co nu qi qc nf nt nw nc) (ht : Tw (RG Γ cI cJ cZ y rf cn nm so sz dr mn fr tt wt co nu qi qc nf nt nw nc) hp) (hx1 : (-2147483648) ≤ x1 ∧ x1 ≤ 2147483647) (hx2 : (-2147483648) ≤ x2 ∧ x2 ≤ 2147483647) (hx3 : (-2147483648) ≤ x3 ∧ x3 ≤ 2147483647) (hx4 : (-2147483648) ≤ x4 ∧ x4 ≤ 2147483647) : Mt (gG D cI cJ cZ cT lo b L xs) mX12_ask d 0 0 [.ref y, .int (iv x1), .int (iv x2), .int (iv x3), .int (iv x4)] hp n (q_X12_ask Γ cI cJ cZ y n rf cn nm so sz dr mn fr tt wt co nu qi qc nf nt nw nc x1 x2 x3 x4) := by
  refine Mt.of rfl (Nat.le_of_ble_eq_true rfl) ?_
  refine Rn.pick (lv' := [(0, .ref y), (1, .int (iv x1)), (2, .int (iv x2)), (3, .int (iv x3)), (4, .int (iv x4))]) [0, 1, 2, 3, 4] rfl ?_
  obtain ⟨hR_sorts, hR_sizes, hR_directs, hR_many, hR_from, hR_to, hR_weight, hR_cost, hR_inPart, hR_partCount, hcn, hrf, hnm, hdf, hgr, hpa, hsz⟩ := id hk
  refine r_iload_n (pc := 0) dX12_ask_0 (i := 2) rfl rfl ?_
  refine r_bipush (pc := 1) (v := iv 16) dX12_ask_1 (by decide) ?_
  have B17 : ∀ hp17 : MH, Tw (RG Γ cI cJ cZ y rf cn nm so sz dr mn fr tt wt co nu qi qc nf nt nw nc) hp17 → ∀  (u17_0 : Int), 0 ≤ u17_0 ∧ u17_0 ≤ 1 ∧ ((u17_0 = 1 ∧ (x2 = 16 ∨ x2 = 17)) ∨ (u17_0 = 0 ∧ ¬ (x2 = 16 ∨ x2 = 17))) → Rn (gG D cI cJ cZ cT lo b L xs) mX12_ask d 17 [(0, .ref y), (1, .int (iv x1)), (2, .int (iv x2)), (3, .int (iv x3)), (4, .int (iv x4))] [.int (iv u17_0)] hp17 n 0 0 (q_X12_ask Γ cI cJ cZ y n rf cn nm so sz dr mn fr tt wt co nu qi qc nf nt nw nc x1 x2 x3 x4) := by
    intro hp17 ht17 u17_0 hf17
    refine r_istore (pc := 17) (lv' := [(5, .int (iv u17_0)), (0, .ref y), (1, .int (iv x1)), (2, .int (iv x2)), (3, .int (iv x3)), (4, .int (iv x4))]) dX12_ask_17 (by decide) rfl ?_
    refine r_iload (pc := 19) dX12_ask_19 rfl ?_
    have B50 : ∀ rf50 : Int, ∀ hp50 : MH, Tw (RG Γ cI cJ cZ y rf50 cn nm so sz dr mn fr tt wt co nu qi qc nf nt nw nc) hp50 → 0 ≤ x1 ∧ x1 ≤ 119 ∧ -2147483648 ≤ rf50 ∧ rf50 ≤ 2147483647 ∧ x1 < cn ∧ so (Int.toNat x1) = 1 ∧ ((x2 = 16 ∨ x2 = 17) → 0 ≤ x4 ∧ x4 < cn) → Rn (gG D cI cJ cZ cT lo b L xs) mX12_ask d 50 [(0, .ref y), (1, .int (iv x1)), (2, .int (iv x2)), (3, .int (iv x3)), (4, .int (iv x4))] [] hp50 n 0 0 (q_X12_ask Γ cI cJ cZ y n rf cn nm so sz dr mn fr tt wt co nu qi qc nf nt nw nc x1 x2 x3 x4) := by
      intro rf50 hp50 ht50 hf50
      refine r_aload_n (pc := 50) dX12_ask_50 (i := 0) rfl rfl ?_
      have rsz45 := hR_sizes (Int.toNat x1) (by omega)
      have rsy45 := hsz x1 (by omega) (by omega)
      have hen := hgr x1 (by omega) (by omega) (by omega)
      have hEn : enP fr tt mn sz x1 := hen.2
      have rmn45 := hR_many (Int.toNat x1) (by omega)
      refine t_getE (pc := 51) (.ref (y + 2)) ht50 (rd_of RG_y) fX12_13 dX12_ask_51 rfl ?_
      refine r_iload_n (pc := 54) dX12_ask_54 (i := 1) rfl rfl ?_
      refine t_ialdX (pc := 55) (t0 := 0) ht50 (rd_of RG_sizes) dX12_ask_55 rfl (by decide) (by omega) (fun b1 => ?_)
      have rb1 := (show Rfx 121 0 16 sz by assumption) (Int.toNat x1) (by omega)
      refine r_istore (pc := 56) (lv' := [(6, .int (iv (sz (Int.toNat x1)))), (0, .ref y), (1, .int (iv x1)), (2, .int (iv x2)), (3, .int (iv x3)), (4, .int (iv x4))]) dX12_ask_56 (by decide) rfl ?_
      refine r_iload_n (pc := 58) dX12_ask_58 (i := 2) rfl rfl ?_
      refine r_bipush (pc := 59) (v := iv 12) dX12_ask_59 (by decide) ?_
      have B75 : ∀ hp75 : MH, Tw (RG Γ cI cJ cZ y rf50 cn nm so sz dr mn fr tt wt co nu qi qc nf nt nw nc) hp75 → ∀  (u75_0 : Int), 0 ≤ u75_0 ∧ u75_0 ≤ 1 ∧ ((u75_0 = 1 ∧ 12 ≤ x2 ∧ x2 ≤ 15) ∨ (u75_0 = 0 ∧ ¬ (12 ≤ x2 ∧ x2 ≤ 15))) → Rn (gG D cI cJ cZ cT lo b L xs) mX12_ask d 75 [(0, .ref y), (1, .int (iv x1)), (2, .int (iv x2)), (3, .int (iv x3)), (4, .int (iv x4)), (6, .int (iv (sz (Int.toNat x1))))] [.int (iv u75_0)] hp75 n 0 0 (q_X12_ask Γ cI cJ cZ y n rf cn nm so sz dr mn fr tt wt co nu qi qc nf nt nw nc x1 x2 x3 x4) := by
        intro hp75 ht75 u75_0 hf75
        refine r_istore (pc := 75) (lv' := [(7, .int (iv u75_0)), (0, .ref y), (1, .int (iv x1)), (2, .int (iv x2)), (3, .int (iv x3)), (4, .int (iv x4)), (6, .int (iv (sz (Int.toNat x1))))]) dX12_ask_75 (by decide) rfl ?_
        refine r_iload_n (pc := 77) dX12_ask_77 (i := 2) rfl rfl ?_
        have B102 : ∀ hp102 : MH, Tw (RG Γ cI cJ cZ y rf50 cn nm so sz dr mn fr tt wt co nu qi qc nf nt nw nc) hp102 → ∀  (u102_0 : Int), 0 ≤ u102_0 ∧ u102_0 ≤ 1 ∧ ((u102_0 = 1 ∧ (x2 = 0 ∨ x2 = 2 ∨ (12 ≤ x2 ∧ x2 ≤ 15) ∨ x2 = 17)) ∨ (u102_0 = 0 ∧ ¬ (x2 = 0 ∨ x2 = 2 ∨ (12 ≤ x2 ∧ x2 ≤ 15) ∨ x2 = 17))) → Rn (gG D cI cJ cZ cT lo b L xs) mX12_ask d 102 [(0, .ref y), (1, .int (iv x1)), (2, .int (iv x2)), (3, .int (iv x3)), (4, .int (iv x4)), (6, .int (iv (sz (Int.toNat x1)))), (7, .int (iv u75_0))] [.int (iv u102_0)] hp102 n 0 0 (q_X12_ask Γ cI cJ cZ y n rf cn nm so sz dr mn fr tt wt co nu qi qc nf nt nw nc x1 x2 x3 x4) := by
          intro hp102 ht102 u102_0 hf102
          refine r_istore (pc := 102) (lv' := [(8, .int (iv u102_0)), (0, .ref y), (1, .int (iv x1)), (2, .int (iv x2)), (3, .int (iv x3)), (4, .int (iv x4)), (6, .int (iv (sz (Int.toNat x1)))), (7, .int (iv u75_0))]) dX12_ask_102 (by decide) rfl ?_
          refine r_iload_n (pc := 104) dX12_ask_104 (i := 2) rfl rfl ?_
          have B172 : ∀ hp172 : MH, Tw (RG Γ cI cJ cZ y rf50 cn nm so sz dr mn fr tt wt co nu qi qc nf nt nw nc) hp172 → True → Rn (gG D cI cJ cZ cT lo b L xs) mX12_ask d 172 [(0, .ref y)] [] hp172 n 0 0 (q_X12_ask Γ cI cJ cZ y n rf cn nm so sz dr mn fr tt wt co nu qi qc nf nt nw nc x1 x2 x3 x4) := by
            intro hp172 ht172 hf172
            refine r_aload_n (pc := 172) dX12_ask_172 (i := 0) rfl rfl ?_
            refine r_bipush (pc := 173) (v := iv (-3)) dX12_ask_173 (by decide) ?_
            obtain ⟨fs6, hfs6⟩ := t_obj ht172 (rd_of RG_y)
            refine r_callV (pc := 175) (as := [.int (iv (-3))]) (st := []) kX12_153 rfl dX12_ask_175 hfs6 (s_X12_refuse (d := d - 1) (x1 := (-3)) (by omega) ht172 (by omega)) rfl (by omega) (Nat.le_of_ble_eq_true rfl) (Nat.zero_le _) (Nat.zero_le _) rfl (fun r3 hp2 n4 hq5 => ?_)
            obtain ⟨hnn4, ht7, hrr3⟩ := hq5
            subst n4 r3
            change Rn _ _ _ 178 _ [.int (iv (-3))] _ _ _ _ _
            refine r_pop (pc := 178) dX12_ask_178 rfl ?_
            refine r_lconst (pc := 179) (v := 0) dX12_ask_179 (by decide) ?_
            exact r_lret (pc := 180) dX12_ask_180 rfl ⟨rfl, (-3), cn, nm, so, sz, dr, mn, fr, tt, wt, co, nu, qi, qc, nf, nt, nw, nc, (0 : Int64), ht7, rfl, (by (first | assumption | exact RK_set hk (by omega) (by omega))), (by (first | assumption | exact df_r _ _ _ _ _ _ _))⟩
          refine t_if_lt (pc := 105) (tgt := 172) dX12_ask_105 (by decide) (by omega) (fun c105 => ?_) (fun c105 => ?_)
          · refine Rn.pick (lv' := [(0, .ref y)]) [1] rfl ?_
            exact B172 _ ht102 trivial
          · refine r_iload_n (pc := 108) dX12_ask_108 (i := 2) rfl rfl ?_
            refine r_bipush (pc := 109) (v := iv 17) dX12_ask_109 (by decide) ?_
            refine t_icmp_gt (pc := 111) (tgt := 172) dX12_ask_111 (by decide) (by omega) (by omega) (fun c111 => ?_) (fun c111 => ?_)
            · refine Rn.pick (lv' := [(0, .ref y)]) [1] rfl ?_
              exact B172 _ ht102 trivial
            · refine r_iload (pc := 114) dX12_ask_114 rfl ?_
              have B129 : ∀ hp129 : MH, Tw (RG Γ cI cJ cZ y rf50 cn nm so sz dr mn fr tt wt co nu qi qc nf nt nw nc) hp129 → ((x2 = 0 ∨ x2 = 2 ∨ (12 ≤ x2 ∧ x2 ≤ 15) ∨ x2 = 17) → 0 ≤ x3 ∧ x3 < (sz (Int.toNat x1))) → Rn (gG D cI cJ cZ cT lo b L xs) mX12_ask d 129 [(0, .ref y), (1, .int (iv x1)), (2, .int (iv x2)), (3, .int (iv x3)), (4, .int (iv x4)), (6, .int (iv (sz (Int.toNat x1)))), (7, .int (iv u75_0))] [] hp129 n 0 0 (q_X12_ask Γ cI cJ cZ y n rf cn nm so sz dr mn fr tt wt co nu qi qc nf nt nw nc x1 x2 x3 x4) := by
                intro hp129 ht129 hf129
                refine r_iload (pc := 129) dX12_ask_129 rfl ?_
                have B152 : ∀ hp152 : MH, Tw (RG Γ cI cJ cZ y rf50 cn nm so sz dr mn fr tt wt co nu qi qc nf nt nw nc) hp152 → ((x2 = 0 ∨ x2 = 2 ∨ (12 ≤ x2 ∧ x2 ≤ 15) ∨ x2 = 17) → 0 ≤ x3 ∧ x3 < (sz (Int.toNat x1))) ∧ ((12 ≤ x2 ∧ x2 ≤ 15) → 0 ≤ x4 ∧ x4 < (sz (Int.toNat x1)) ∧ x3 ≠ x4) → Rn (gG D cI cJ cZ cT lo b L xs) mX12_ask d 152 [(0, .ref y), (1, .int (iv x1)), (2, .int (iv x2)), (3, .int (iv x3)), (4, .int (iv x4)), (6, .int (iv (sz (Int.toNat x1))))] [] hp152 n 0 0 (q_X12_ask Γ cI cJ cZ y n rf cn nm so sz dr mn fr tt wt co nu qi qc nf nt nw nc x1 x2 x3 x4) := by
                  intro hp152 ht152 hf152
                  refine r_iload_n (pc := 152) dX12_ask_152 (i := 2) rfl rfl ?_
                  refine r_bipush (pc := 153) (v := iv 11) dX12_ask_153 (by decide) ?_
                  have B181 : ∀ hp181 : MH, Tw (RG Γ cI cJ cZ y rf50 cn nm so sz dr mn fr tt wt co nu qi qc nf nt nw nc) hp181 → ((x2 = 0 ∨ x2 = 2 ∨ (12 ≤ x2 ∧ x2 ≤ 15) ∨ x2 = 17) → 0 ≤ x3 ∧ x3 < (sz (Int.toNat x1))) ∧ ((12 ≤ x2 ∧ x2 ≤ 15) → 0 ≤ x4 ∧ x4 < (sz (Int.toNat x1)) ∧ x3 ≠ x4) ∧ (x2 = 11 → 0 ≤ x3 ∧ x3 < (mn (Int.toNat x1))) → Rn (gG D cI cJ cZ cT lo b L xs) mX12_ask d 181 [(0, .ref y), (1, .int (iv x1)), (2, .int (iv x2)), (3, .int (iv x3)), (4, .int (iv x4)), (6, .int (iv (sz (Int.toNat x1))))] [] hp181 n 0 0 (q_X12_ask Γ cI cJ cZ y n rf cn nm so sz dr mn fr tt wt co nu qi qc nf nt nw nc x1 x2 x3 x4) := by
                    intro hp181 ht181 hf181
                    refine r_aload_n (pc := 181) dX12_ask_181 (i := 0) rfl rfl ?_
                    refine r_iload_n (pc := 182) dX12_ask_182 (i := 1) rfl rfl ?_
                    refine r_iconst (pc := 183) (v := iv (-1)) dX12_ask_183 (by decide) ?_
                    refine t_callVV (pc := 184) (as := [.int (iv x1), .int (iv (-1))]) (st := []) ht181 (rd_of RG_y) kX12_234 rfl dX12_ask_184 (t_X12_joinsOf (d := d - 1) (x1 := x1) (x2 := (-1)) (by omega) (rd_of RG_y) (rd_xr (rd_of RG_many) (show Rfx 121 0 60 mn by assumption)) (rd_xr (rd_of RG_from) (show Rfx 7260 0 15 fr by assumption)) (rd_xr (rd_of RG_to) (show Rfx 7260 0 15 tt by assumption)) RG_beside ht181 (by omega) (by omega)) rfl (by omega) (Nat.le_of_ble_eq_true rfl) rfl (fun hp9 ht10 => ?_)
                    refine r_iload_n (pc := 187) dX12_ask_187 (i := 2) rfl rfl ?_
                    by_cases c12 : x2 = 0
                    · refine r_tableIn (pc := 188) (off := 80) (tgt := 268) dX12_ask_188 (by rw [iv_toInt (by omega) (by omega)]; omega) (by rw [iv_toInt (by omega) (by omega)]; omega) (by rw [iv_toInt (by omega) (by omega), c12]; decide) (by decide) ?_
                      refine r_aload_n (pc := 268) dX12_ask_268 (i := 0) rfl rfl ?_
                      refine r_iload_n (pc := 269) dX12_ask_269 (i := 1) rfl rfl ?_
                      refine r_iload_n (pc := 270) dX12_ask_270 (i := 3) rfl rfl ?_
                      refine t_callVJ (pc := 271) (as := [.int (iv x1), .int (iv x3)]) (st := []) ht10 (rd_of RG_y) kX12_310 rfl dX12_ask_271 (t_X12_order (d := d - 1) (x1 := x1) (x2 := x3) (by omega) (rd_of RG_y) (rd_xr (rd_of RG_sizes) (show Rfx 121 0 16 sz by assumption)) (rd_xr (rd_of RG_directs) (show Rfx 121 0 1 dr by assumption)) (rd_xr (rd_of RG_many) (show Rfx 121 0 60 mn by assumption)) (rd_xr (rd_of RG_from) (show Rfx 7260 0 15 fr by assumption)) (rd_xr (rd_of RG_to) (show Rfx 7260 0 15 tt by assumption)) ht10 (by omega) (by omega)) rfl (by omega) (Nat.le_of_ble_eq_true rfl) rfl (fun hp13 y15 ht14 _ => ?_)
                      exact r_lret (pc := 274) dX12_ask_274 rfl ⟨rfl, rf50, cn, nm, so, sz, dr, mn, fr, tt, wt, co, nu, qi, qc, nf, nt, nw, nc, y15, ht14, rfl, (by (first | assumption | exact RK_set hk (by omega) (by omega))), (by (first | assumption | exact df_r _ _ _ _ _ _ _))⟩
                    by_cases c16 : x2 = 1
                    · refine r_tableIn (pc := 188) (off := 87) (tgt := 275) dX12_ask_188 (by rw [iv_toInt (by omega) (by omega)]; omega) (by rw [iv_toInt (by omega) (by omega)]; omega) (by rw [iv_toInt (by omega) (by omega), c16]; decide) (by decide) ?_
                      refine r_aload_n (pc := 275) dX12_ask_275 (i := 0) rfl rfl ?_
                      refine r_iload_n (pc := 276) dX12_ask_276 (i := 1) rfl rfl ?_
                      refine t_callVJ (pc := 277) (as := [.int (iv x1)]) (st := []) ht10 (rd_of RG_y) kX12_314 rfl dX12_ask_277 (t_X12_ring (d := d - 1) (x1 := x1) (by omega) (rd_of RG_y) (rd_xr (rd_of RG_directs) (show Rfx 121 0 1 dr by assumption)) (rd_xr (rd_of RG_many) (show Rfx 121 0 60 mn by assumption)) (rd_xr (rd_of RG_from) (show Rfx 7260 0 15 fr by assumption)) (rd_xr (rd_of RG_to) (show Rfx 7260 0 15 tt by assumption)) ht10 (by omega)) rfl (by omega) (Nat.le_of_ble_eq_true rfl) rfl (fun hp17 y19 ht18 _ => ?_)
                      exact r_lret (pc := 280) dX12_ask_280 rfl ⟨rfl, rf50, cn, nm, so, sz, dr, mn, fr, tt, wt, co, nu, qi, qc, nf, nt, nw, nc, y19, ht18, rfl, (by (first | assumption | exact RK_set hk (by omega) (by omega))), (by (first | assumption | exact df_r _ _ _ _ _ _ _))⟩
                    by_cases c20 : x2 = 2
                    · refine r_tableIn (pc := 188) (off := 93) (tgt := 281) dX12_ask_188 (by rw [iv_toInt (by omega) (by omega)]; omega) (by rw [iv_toInt (by omega) (by omega)]; omega) (by rw [iv_toInt (by omega) (by omega), c20]; decide) (by decide) ?_
                      refine r_aload_n (pc := 281) dX12_ask_281 (i := 0) rfl rfl ?_
                      refine r_iload_n (pc := 282) dX12_ask_282 (i := 1) rfl rfl ?_
                      refine r_iload_n (pc := 283) dX12_ask_283 (i := 3) rfl rfl ?_
                      refine t_callVJ (pc := 284) (as := [.int (iv x1), .int (iv x3)]) (st := []) ht10 (rd_of RG_y) kX12_318 rfl dX12_ask_284 (t_X12_side (d := d - 1) (x1 := x1) (x2 := x3) (by omega) (rd_of RG_y) (rd_xr (rd_of RG_sizes) (show Rfx 121 0 16 sz by assumption)) (rd_xr (rd_of RG_many) (show Rfx 121 0 60 mn by assumption)) (rd_xr (rd_of RG_from) (show Rfx 7260 0 15 fr by assumption)) (rd_xr (rd_of RG_to) (show Rfx 7260 0 15 tt by assumption)) (rd_of RG_beside) ht10 (by omega) (by omega)) rfl (by omega) (Nat.le_of_ble_eq_true rfl) rfl (fun hp21 y23 ht22 _ => ?_)
                      exact r_lret (pc := 287) dX12_ask_287 rfl ⟨rfl, rf50, cn, nm, so, sz, dr, mn, fr, tt, wt, co, nu, qi, qc, nf, nt, nw, nc, y23, ht22, rfl, (by (first | assumption | exact RK_set hk (by omega) (by omega))), (by (first | assumption | exact df_r _ _ _ _ _ _ _))⟩
                    by_cases c24 : x2 = 3
                    · refine r_tableIn (pc := 188) (off := 100) (tgt := 288) dX12_ask_188 (by rw [iv_toInt (by omega) (by omega)]; omega) (by rw [iv_toInt (by omega) (by omega)]; omega) (by rw [iv_toInt (by omega) (by omega), c24]; decide) (by decide) ?_
                      refine r_aload_n (pc := 288) dX12_ask_288 (i := 0) rfl rfl ?_
                      refine r_iload (pc := 289) dX12_ask_289 rfl ?_
                      refine r_iconst (pc := 291) (v := iv 1) dX12_ask_291 (by decide) ?_
                      refine t_callVJ (pc := 292) (as := [.int (iv (sz (Int.toNat x1))), .int (iv 1)]) (st := []) ht10 (rd_of RG_y) kX12_321 rfl dX12_ask_292 (t_X12_clique (d := d - 1) (x1 := sz (Int.toNat x1)) (x2 := 1) (by omega) (rd_of RG_y) (rd_of RG_beside) ht10 (by omega) (by omega)) rfl (by omega) (Nat.le_of_ble_eq_true rfl) rfl (fun hp25 y27 ht26 _ => ?_)
                      exact r_lret (pc := 295) dX12_ask_295 rfl ⟨rfl, rf50, cn, nm, so, sz, dr, mn, fr, tt, wt, co, nu, qi, qc, nf, nt, nw, nc, y27, ht26, rfl, (by (first | assumption | exact RK_set hk (by omega) (by omega))), (by (first | assumption | exact df_r _ _ _ _ _ _ _))⟩
                    by_cases c28 : x2 = 4
                    · refine r_tableIn (pc := 188) (off := 108) (tgt := 296) dX12_ask_188 (by rw [iv_toInt (by omega) (by omega)]; omega) (by rw [iv_toInt (by omega) (by omega)]; omega) (by rw [iv_toInt (by omega) (by omega), c28]; decide) (by decide) ?_
                      refine r_aload_n (pc := 296) dX12_ask_296 (i := 0) rfl rfl ?_
                      refine r_iload (pc := 297) dX12_ask_297 rfl ?_
                      refine r_iconst (pc := 299) (v := iv 0) dX12_ask_299 (by decide) ?_
                      refine t_callVJ (pc := 300) (as := [.int (iv (sz (Int.toNat x1))), .int (iv 0)]) (st := []) ht10 (rd_of RG_y) kX12_321 rfl dX12_ask_300 (t_X12_clique (d := d - 1) (x1 := sz (Int.toNat x1)) (x2 := 0) (by omega) (rd_of RG_y) (rd_of RG_beside) ht10 (by omega) (by omega)) rfl (by omega) (Nat.le_of_ble_eq_true rfl) rfl (fun hp29 y31 ht30 _ => ?_)
                      exact r_lret (pc := 303) dX12_ask_303 rfl ⟨rfl, rf50, cn, nm, so, sz, dr, mn, fr, tt, wt, co, nu, qi, qc, nf, nt, nw, nc, y31, ht30, rfl, (by (first | assumption | exact RK_set hk (by omega) (by omega))), (by (first | assumption | exact df_r _ _ _ _ _ _ _))⟩
                    by_cases c32 : x2 = 5
                    · refine r_tableIn (pc := 188) (off := 116) (tgt := 304) dX12_ask_188 (by rw [iv_toInt (by omega) (by omega)]; omega) (by rw [iv_toInt (by omega) (by omega)]; omega) (by rw [iv_toInt (by omega) (by omega), c32]; decide) (by decide) ?_
                      refine r_aload_n (pc := 304) dX12_ask_304 (i := 0) rfl rfl ?_
                      refine r_iload (pc := 305) dX12_ask_305 rfl ?_
                      refine t_callVJ (pc := 307) (as := [.int (iv (sz (Int.toNat x1)))]) (st := []) ht10 (rd_of RG_y) kX12_325 rfl dX12_ask_307 (t_X12_colours (d := d - 1) (x1 := sz (Int.toNat x1)) (by omega) (rd_of RG_y) (rd_of RG_beside) RG_solid RG_least ht10 (by omega)) rfl (by omega) (Nat.le_of_ble_eq_true rfl) rfl (fun hp33 y35 ht34 _ => ?_)
                      exact r_lret (pc := 310) dX12_ask_310 rfl ⟨rfl, rf50, cn, nm, so, sz, dr, mn, fr, tt, wt, co, nu, qi, qc, nf, nt, nw, nc, y35, ht34, rfl, (by (first | assumption | exact RK_set hk (by omega) (by omega))), (by (first | assumption | exact df_r _ _ _ _ _ _ _))⟩
                    by_cases c36 : x2 = 6
                    · refine r_tableIn (pc := 188) (off := 123) (tgt := 311) dX12_ask_188 (by rw [iv_toInt (by omega) (by omega)]; omega) (by rw [iv_toInt (by omega) (by omega)]; omega) (by rw [iv_toInt (by omega) (by omega), c36]; decide) (by decide) ?_
                      refine r_aload_n (pc := 311) dX12_ask_311 (i := 0) rfl rfl ?_
                      refine r_iload (pc := 312) dX12_ask_312 rfl ?_
                      refine t_callVJ (pc := 314) (as := [.int (iv (sz (Int.toNat x1)))]) (st := []) ht10 (rd_of RG_y) kX12_328 rfl dX12_ask_314 (t_X12_width (d := d - 1) (x1 := sz (Int.toNat x1)) (by omega) (rd_of RG_y) (rd_of RG_beside) RG_least ht10 (by omega)) rfl (by omega) (Nat.le_of_ble_eq_true rfl) rfl (fun hp37 y39 ht38 _ => ?_)
                      exact r_lret (pc := 317) dX12_ask_317 rfl ⟨rfl, rf50, cn, nm, so, sz, dr, mn, fr, tt, wt, co, nu, qi, qc, nf, nt, nw, nc, y39, ht38, rfl, (by (first | assumption | exact RK_set hk (by omega) (by omega))), (by (first | assumption | exact df_r _ _ _ _ _ _ _))⟩
                    by_cases c40 : x2 = 7
                    · refine r_tableIn (pc := 188) (off := 130) (tgt := 318) dX12_ask_188 (by rw [iv_toInt (by omega) (by omega)]; omega) (by rw [iv_toInt (by omega) (by omega)]; omega) (by rw [iv_toInt (by omega) (by omega), c40]; decide) (by decide) ?_
                      refine r_aload_n (pc := 318) dX12_ask_318 (i := 0) rfl rfl ?_
                      refine r_iconst (pc := 319) (v := iv 1) dX12_ask_319 (by decide) ?_
                      refine r_iload (pc := 320) dX12_ask_320 rfl ?_
                      obtain ⟨z41, hz41, bz41⟩ := shl_1 0 16 (sz (Int.toNat x1)) (by omega) (by omega) (by decide)
                      refine r_ishl (pc := 322) (v := iv z41) dX12_ask_322 hz41 ?_
                      refine r_iconst (pc := 323) (v := iv 1) dX12_ask_323 (by decide) ?_
                      refine r_isub (pc := 324) (v := iv (z41 - 1)) dX12_ask_324 (iv_sub _ _) ?_
                      refine r_iload (pc := 325) dX12_ask_325 rfl ?_
                      refine t_callVJ (pc := 327) (as := [.int (iv (z41 - 1)), .int (iv (sz (Int.toNat x1)))]) (st := []) ht10 (rd_of RG_y) kX12_331 rfl dX12_ask_327 (t_X12_pairs (d := d - 1) (x1 := z41 - 1) (x2 := sz (Int.toNat x1)) (by omega) (rd_of RG_y) (rd_of RG_beside) RG_least ht10 (by omega) (by omega)) rfl (by omega) (Nat.le_of_ble_eq_true rfl) rfl (fun hp42 y44 ht43 _ => ?_)
                      exact r_lret (pc := 330) dX12_ask_330 rfl ⟨rfl, rf50, cn, nm, so, sz, dr, mn, fr, tt, wt, co, nu, qi, qc, nf, nt, nw, nc, y44, ht43, rfl, (by (first | assumption | exact RK_set hk (by omega) (by omega))), (by (first | assumption | exact df_r _ _ _ _ _ _ _))⟩
                    by_cases c45 : x2 = 8
                    · refine r_tableIn (pc := 188) (off := 143) (tgt := 331) dX12_ask_188 (by rw [iv_toInt (by omega) (by omega)]; omega) (by rw [iv_toInt (by omega) (by omega)]; omega) (by rw [iv_toInt (by omega) (by omega), c45]; decide) (by decide) ?_
                      refine r_aload_n (pc := 331) dX12_ask_331 (i := 0) rfl rfl ?_
                      refine r_iload (pc := 332) dX12_ask_332 rfl ?_
                      refine t_callVJ (pc := 334) (as := [.int (iv (sz (Int.toNat x1)))]) (st := []) ht10 (rd_of RG_y) kX12_334 rfl dX12_ask_334 (t_X12_missed (d := d - 1) (x1 := sz (Int.toNat x1)) (by omega) (rd_of RG_y) (rd_of RG_beside) RG_least ht10 (by omega)) rfl (by omega) (Nat.le_of_ble_eq_true rfl) rfl (fun hp46 y48 ht47 _ => ?_)
                      exact r_lret (pc := 337) dX12_ask_337 rfl ⟨rfl, rf50, cn, nm, so, sz, dr, mn, fr, tt, wt, co, nu, qi, qc, nf, nt, nw, nc, y48, ht47, rfl, (by (first | assumption | exact RK_set hk (by omega) (by omega))), (by (first | assumption | exact df_r _ _ _ _ _ _ _))⟩
                    by_cases c49 : x2 = 9
                    · refine r_tableIn (pc := 188) (off := 150) (tgt := 338) dX12_ask_188 (by rw [iv_toInt (by omega) (by omega)]; omega) (by rw [iv_toInt (by omega) (by omega)]; omega) (by rw [iv_toInt (by omega) (by omega), c49]; decide) (by decide) ?_
                      refine r_aload_n (pc := 338) dX12_ask_338 (i := 0) rfl rfl ?_
                      refine r_iload_n (pc := 339) dX12_ask_339 (i := 1) rfl rfl ?_
                      refine t_callVJ (pc := 340) (as := [.int (iv x1)]) (st := []) ht10 (rd_of RG_y) kX12_337 rfl dX12_ask_340 (t_X12_trees (d := d - 1) (x1 := x1) (by omega) (rd_of RG_y) (rd_xr (rd_of RG_sizes) (show Rfx 121 0 16 sz by assumption)) (rd_xr (rd_of RG_many) (show Rfx 121 0 60 mn by assumption)) (rd_xr (rd_of RG_from) (show Rfx 7260 0 15 fr by assumption)) (rd_xr (rd_of RG_to) (show Rfx 7260 0 15 tt by assumption)) RG_spans ht10 (by omega)) rfl (by omega) (Nat.le_of_ble_eq_true rfl) rfl (fun hp50 y52 ht51 _ => ?_)
                      exact r_lret (pc := 343) dX12_ask_343 rfl ⟨rfl, rf50, cn, nm, so, sz, dr, mn, fr, tt, wt, co, nu, qi, qc, nf, nt, nw, nc, y52, ht51, rfl, (by (first | assumption | exact RK_set hk (by omega) (by omega))), (by (first | assumption | exact df_r _ _ _ _ _ _ _))⟩
                    by_cases c53 : x2 = 10
                    · refine r_tableIn (pc := 188) (off := 156) (tgt := 344) dX12_ask_188 (by rw [iv_toInt (by omega) (by omega)]; omega) (by rw [iv_toInt (by omega) (by omega)]; omega) (by rw [iv_toInt (by omega) (by omega), c53]; decide) (by decide) ?_
                      refine r_aload_n (pc := 344) dX12_ask_344 (i := 0) rfl rfl ?_
                      refine r_iload_n (pc := 345) dX12_ask_345 (i := 1) rfl rfl ?_
                      refine r_iconst (pc := 346) (v := iv (-1)) dX12_ask_346 (by decide) ?_
                      refine t_callVJ (pc := 347) (as := [.int (iv x1), .int (iv (-1))]) (st := []) ht10 (rd_of RG_y) kX12_340 rfl dX12_ask_347 (t_X12_light (d := d - 1) (x1 := x1) (x2 := (-1)) (by omega) (rd_of RG_y) (rd_xr (rd_of RG_sizes) (show Rfx 121 0 16 sz by assumption)) (rd_xr (rd_of RG_many) (show Rfx 121 0 60 mn by assumption)) (rd_xr (rd_of RG_from) (show Rfx 7260 0 15 fr by assumption)) (rd_xr (rd_of RG_to) (show Rfx 7260 0 15 tt by assumption)) (rd_xr (rd_of RG_weight) (show Rfx 7260 (-1000) 1000 wt by assumption)) RG_joinedWith ht10 (by omega) (by omega)) rfl (by omega) (Nat.le_of_ble_eq_true rfl) rfl (fun hp54 y56 ht55 _ => ?_)
                      exact r_lret (pc := 350) dX12_ask_350 rfl ⟨rfl, rf50, cn, nm, so, sz, dr, mn, fr, tt, wt, co, nu, qi, qc, nf, nt, nw, nc, y56, ht55, rfl, (by (first | assumption | exact RK_set hk (by omega) (by omega))), (by (first | assumption | exact df_r _ _ _ _ _ _ _))⟩
                    by_cases c57 : x2 = 11
                    · refine r_tableIn (pc := 188) (off := 163) (tgt := 351) dX12_ask_188 (by rw [iv_toInt (by omega) (by omega)]; omega) (by rw [iv_toInt (by omega) (by omega)]; omega) (by rw [iv_toInt (by omega) (by omega), c57]; decide) (by decide) ?_
                      refine r_aload_n (pc := 351) dX12_ask_351 (i := 0) rfl rfl ?_
                      refine r_iload_n (pc := 352) dX12_ask_352 (i := 1) rfl rfl ?_
                      refine r_iload_n (pc := 353) dX12_ask_353 (i := 3) rfl rfl ?_
                      refine t_callVJ (pc := 354) (as := [.int (iv x1), .int (iv x3)]) (st := []) ht10 (rd_of RG_y) kX12_340 rfl dX12_ask_354 (t_X12_light (d := d - 1) (x1 := x1) (x2 := x3) (by omega) (rd_of RG_y) (rd_xr (rd_of RG_sizes) (show Rfx 121 0 16 sz by assumption)) (rd_xr (rd_of RG_many) (show Rfx 121 0 60 mn by assumption)) (rd_xr (rd_of RG_from) (show Rfx 7260 0 15 fr by assumption)) (rd_xr (rd_of RG_to) (show Rfx 7260 0 15 tt by assumption)) (rd_xr (rd_of RG_weight) (show Rfx 7260 (-1000) 1000 wt by assumption)) RG_joinedWith ht10 (by omega) (by omega)) rfl (by omega) (Nat.le_of_ble_eq_true rfl) rfl (fun hp58 y60 ht59 _ => ?_)
                      exact r_lret (pc := 357) dX12_ask_357 rfl ⟨rfl, rf50, cn, nm, so, sz, dr, mn, fr, tt, wt, co, nu, qi, qc, nf, nt, nw, nc, y60, ht59, rfl, (by (first | assumption | exact RK_set hk (by omega) (by omega))), (by (first | assumption | exact df_r _ _ _ _ _ _ _))⟩
                    by_cases c61 : x2 = 12
                    · refine r_tableIn (pc := 188) (off := 170) (tgt := 358) dX12_ask_188 (by rw [iv_toInt (by omega) (by omega)]; omega) (by rw [iv_toInt (by omega) (by omega)]; omega) (by rw [iv_toInt (by omega) (by omega), c61]; decide) (by decide) ?_
                      refine r_aload_n (pc := 358) dX12_ask_358 (i := 0) rfl rfl ?_
                      refine r_iload_n (pc := 359) dX12_ask_359 (i := 1) rfl rfl ?_
                      refine r_iload_n (pc := 360) dX12_ask_360 (i := 3) rfl rfl ?_
                      refine r_iload (pc := 361) dX12_ask_361 rfl ?_
                      refine r_iconst (pc := 363) (v := iv 0) dX12_ask_363 (by decide) ?_
                      refine t_callVJ (pc := 364) (as := [.int (iv x1), .int (iv x3), .int (iv x4), .int (iv 0)]) (st := []) ht10 (rd_of RG_y) kX12_343 rfl dX12_ask_364 (t_X12_cut (d := d - 1) (x1 := x1) (x2 := x3) (x3 := x4) (x4 := 0) (by omega) (rd_of RG_y) (rd_xr (rd_of RG_sizes) (show Rfx 121 0 16 sz by assumption)) (rd_xr (rd_of RG_directs) (show Rfx 121 0 1 dr by assumption)) (rd_xr (rd_of RG_many) (show Rfx 121 0 60 mn by assumption)) (rd_xr (rd_of RG_from) (show Rfx 7260 0 15 fr by assumption)) (rd_xr (rd_of RG_to) (show Rfx 7260 0 15 tt by assumption)) (rd_xr (rd_of RG_weight) (show Rfx 7260 (-1000) 1000 wt by assumption)) ht10 (by omega) (by omega) (by omega) (by omega)) rfl (by omega) (Nat.le_of_ble_eq_true rfl) rfl (fun hp62 y64 ht63 _ => ?_)
                      exact r_lret (pc := 367) dX12_ask_367 rfl ⟨rfl, rf50, cn, nm, so, sz, dr, mn, fr, tt, wt, co, nu, qi, qc, nf, nt, nw, nc, y64, ht63, rfl, (by (first | assumption | exact RK_set hk (by omega) (by omega))), (by (first | assumption | exact df_r _ _ _ _ _ _ _))⟩
                    by_cases c65 : x2 = 13
                    · refine r_tableIn (pc := 188) (off := 180) (tgt := 368) dX12_ask_188 (by rw [iv_toInt (by omega) (by omega)]; omega) (by rw [iv_toInt (by omega) (by omega)]; omega) (by rw [iv_toInt (by omega) (by omega), c65]; decide) (by decide) ?_
                      refine r_aload_n (pc := 368) dX12_ask_368 (i := 0) rfl rfl ?_
                      refine r_iload_n (pc := 369) dX12_ask_369 (i := 1) rfl rfl ?_
                      refine r_iload_n (pc := 370) dX12_ask_370 (i := 3) rfl rfl ?_
                      refine r_iload (pc := 371) dX12_ask_371 rfl ?_
                      refine t_callVJ (pc := 373) (as := [.int (iv x1), .int (iv x3), .int (iv x4)]) (st := []) ht10 (rd_of RG_y) kX12_347 rfl dX12_ask_373 (t_X12_cutSet (d := d - 1) (x1 := x1) (x2 := x3) (x3 := x4) (by omega) (rd_of RG_y) (rd_xr (rd_of RG_sizes) (show Rfx 121 0 16 sz by assumption)) (rd_xr (rd_of RG_directs) (show Rfx 121 0 1 dr by assumption)) (rd_xr (rd_of RG_many) (show Rfx 121 0 60 mn by assumption)) (rd_xr (rd_of RG_from) (show Rfx 7260 0 15 fr by assumption)) (rd_xr (rd_of RG_to) (show Rfx 7260 0 15 tt by assumption)) (rd_xr (rd_of RG_weight) (show Rfx 7260 (-1000) 1000 wt by assumption)) ht10 (by omega) (by omega) (by omega)) rfl (by omega) (Nat.le_of_ble_eq_true rfl) rfl (fun hp66 y68 ht67 _ => ?_)
                      exact r_lret (pc := 376) dX12_ask_376 rfl ⟨rfl, rf50, cn, nm, so, sz, dr, mn, fr, tt, wt, co, nu, qi, qc, nf, nt, nw, nc, y68, ht67, rfl, (by (first | assumption | exact RK_set hk (by omega) (by omega))), (by (first | assumption | exact df_r _ _ _ _ _ _ _))⟩
                    by_cases c69 : x2 = 14
                    · refine r_tableIn (pc := 188) (off := 189) (tgt := 377) dX12_ask_188 (by rw [iv_toInt (by omega) (by omega)]; omega) (by rw [iv_toInt (by omega) (by omega)]; omega) (by rw [iv_toInt (by omega) (by omega), c69]; decide) (by decide) ?_
                      refine r_aload_n (pc := 377) dX12_ask_377 (i := 0) rfl rfl ?_
                      refine r_iload_n (pc := 378) dX12_ask_378 (i := 1) rfl rfl ?_
                      refine r_iload_n (pc := 379) dX12_ask_379 (i := 3) rfl rfl ?_
                      refine r_iload (pc := 380) dX12_ask_380 rfl ?_
                      refine t_callVJ (pc := 382) (as := [.int (iv x1), .int (iv x3), .int (iv x4)]) (st := []) ht10 (rd_of RG_y) kX12_350 rfl dX12_ask_382 (t_X12_pricex (d := d - 1) (x1 := x1) (x2 := x3) (x3 := x4) (by omega) (rd_of RG_y) (rd_of RG_from) (show Rfx 7260 0 15 fr by assumption) (rd_of RG_to) (show Rfx 7260 0 15 tt by assumption) (rd_of RG_weight) (show Rfx 7260 (-1000) 1000 wt by assumption) (rd_of RG_cost) (show Rfx 7260 (-1000) 1000 co by assumption) (rd_of RG_directs) (show Rfx 121 0 1 dr by assumption) (rd_of RG_many) (show Rfx 121 0 60 mn by assumption) (rd_of RG_sizes) (show Rfx 121 0 16 sz by assumption) RG_gone RG_dear RG_by RG_ahead ht10 (by omega) (by omega) (by omega) (by assumption) (by omega) (by omega) (by omega)) rfl (by omega) (Nat.le_of_ble_eq_true rfl) rfl (fun hp70 y72 ht71 _ => ?_)
                      exact r_lret (pc := 385) dX12_ask_385 rfl ⟨rfl, rf50, cn, nm, so, sz, dr, mn, fr, tt, wt, co, nu, qi, qc, nf, nt, nw, nc, y72, ht71, rfl, (by (first | assumption | exact RK_set hk (by omega) (by omega))), (by (first | assumption | exact df_r _ _ _ _ _ _ _))⟩
                    by_cases c73 : x2 = 15
                    · refine r_tableIn (pc := 188) (off := 198) (tgt := 386) dX12_ask_188 (by rw [iv_toInt (by omega) (by omega)]; omega) (by rw [iv_toInt (by omega) (by omega)]; omega) (by rw [iv_toInt (by omega) (by omega), c73]; decide) (by decide) ?_
                      refine r_aload_n (pc := 386) dX12_ask_386 (i := 0) rfl rfl ?_
                      refine r_iload_n (pc := 387) dX12_ask_387 (i := 1) rfl rfl ?_
                      refine r_iload_n (pc := 388) dX12_ask_388 (i := 3) rfl rfl ?_
                      refine r_iload (pc := 389) dX12_ask_389 rfl ?_
                      refine r_iconst (pc := 391) (v := iv 1) dX12_ask_391 (by decide) ?_
                      refine t_callVJ (pc := 392) (as := [.int (iv x1), .int (iv x3), .int (iv x4), .int (iv 1)]) (st := []) ht10 (rd_of RG_y) kX12_343 rfl dX12_ask_392 (t_X12_cut (d := d - 1) (x1 := x1) (x2 := x3) (x3 := x4) (x4 := 1) (by omega) (rd_of RG_y) (rd_xr (rd_of RG_sizes) (show Rfx 121 0 16 sz by assumption)) (rd_xr (rd_of RG_directs) (show Rfx 121 0 1 dr by assumption)) (rd_xr (rd_of RG_many) (show Rfx 121 0 60 mn by assumption)) (rd_xr (rd_of RG_from) (show Rfx 7260 0 15 fr by assumption)) (rd_xr (rd_of RG_to) (show Rfx 7260 0 15 tt by assumption)) (rd_xr (rd_of RG_weight) (show Rfx 7260 (-1000) 1000 wt by assumption)) ht10 (by omega) (by omega) (by omega) (by omega)) rfl (by omega) (Nat.le_of_ble_eq_true rfl) rfl (fun hp74 y76 ht75 _ => ?_)
                      exact r_lret (pc := 395) dX12_ask_395 rfl ⟨rfl, rf50, cn, nm, so, sz, dr, mn, fr, tt, wt, co, nu, qi, qc, nf, nt, nw, nc, y76, ht75, rfl, (by (first | assumption | exact RK_set hk (by omega) (by omega))), (by (first | assumption | exact df_r _ _ _ _ _ _ _))⟩
                    refine r_tableOut (pc := 188) (tgt := 396) dX12_ask_188 (by rw [iv_toInt (by omega) (by omega)]; omega) (by decide) ?_
                    refine r_aload_n (pc := 396) dX12_ask_396 (i := 0) rfl rfl ?_
                    refine r_iload_n (pc := 397) dX12_ask_397 (i := 1) rfl rfl ?_
                    refine r_iload (pc := 398) dX12_ask_398 rfl ?_
                    refine r_iload_n (pc := 400) dX12_ask_400 (i := 2) rfl rfl ?_
                    refine r_bipush (pc := 401) (v := iv 16) dX12_ask_401 (by decide) ?_
                    have B411 : ∀ hp411 : MH, Tw (RG Γ cI cJ cZ y rf50 cn nm so sz dr mn fr tt wt co nu qi qc nf nt nw nc) hp411 → ∀  (u411_3 : Int), 0 ≤ u411_3 ∧ u411_3 ≤ 1 ∧ ((u411_3 = 1 ∧ x2 = 16) ∨ (u411_3 = 0 ∧ x2 = 17)) → Rn (gG D cI cJ cZ cT lo b L xs) mX12_ask d 411 [(3, .int (iv x3))] [.int (iv u411_3), .int (iv x4), .int (iv x1), .ref y] hp411 n 0 0 (q_X12_ask Γ cI cJ cZ y n rf cn nm so sz dr mn fr tt wt co nu qi qc nf nt nw nc x1 x2 x3 x4) := by
                      intro hp411 ht411 u411_3 hf411
                      refine r_iload_n (pc := 411) dX12_ask_411 (i := 3) rfl rfl ?_
                      refine t_callVJ (pc := 412) (as := [.int (iv x1), .int (iv x4), .int (iv u411_3), .int (iv x3)]) (st := []) ht411 (rd_of RG_y) kX12_353 rfl dX12_ask_412 (t_X12_alikex (d := d - 1) (x1 := x1) (x2 := x4) (x3 := u411_3) (x4 := x3) (by omega) (rd_of RG_y) (rd_xr (rd_of RG_sizes) (show Rfx 121 0 16 sz by assumption)) (rd_xr (rd_of RG_directs) (show Rfx 121 0 1 dr by assumption)) (rd_xr (rd_of RG_many) (show Rfx 121 0 60 mn by assumption)) (rd_xr (rd_of RG_from) (show Rfx 7260 0 15 fr by assumption)) (rd_xr (rd_of RG_to) (show Rfx 7260 0 15 tt by assumption)) (rd_xr (rd_of RG_weight) (show Rfx 7260 (-1000) 1000 wt by assumption)) (rd_xr (rd_of RG_cost) (show Rfx 7260 (-1000) 1000 co by assumption)) RG_image ht411 (by omega) (by omega) (by omega) (by omega) (by omega)) rfl (by omega) (Nat.le_of_ble_eq_true rfl) rfl (fun hp77 y79 ht78 _ => ?_)
                      exact r_lret (pc := 415) dX12_ask_415 rfl ⟨rfl, rf50, cn, nm, so, sz, dr, mn, fr, tt, wt, co, nu, qi, qc, nf, nt, nw, nc, y79, ht78, rfl, (by (first | assumption | exact RK_set hk (by omega) (by omega))), (by (first | assumption | exact df_r _ _ _ _ _ _ _))⟩
                    refine t_icmp_ne (pc := 403) (tgt := 410) dX12_ask_403 (by decide) (by omega) (by omega) (fun c403 => ?_) (fun c403 => ?_)
                    · refine r_iconst (pc := 410) (v := iv 0) dX12_ask_410 (by decide) ?_
                      refine Rn.pick (lv' := [(3, .int (iv x3))]) [3] rfl ?_
                      exact B411 _ ht10 0 ⟨by omega, by omega, by omega⟩
                    · refine r_iconst (pc := 406) (v := iv 1) dX12_ask_406 (by decide) ?_
                      refine r_goto (pc := 407) (tgt := 411) dX12_ask_407 (by decide) ?_
                      refine Rn.pick (lv' := [(3, .int (iv x3))]) [3] rfl ?_
                      exact B411 _ ht10 1 ⟨by omega, by omega, by omega⟩
                  refine t_icmp_ne (pc := 155) (tgt := 181) dX12_ask_155 (by decide) (by omega) (by omega) (fun c155 => ?_) (fun c155 => ?_)
                  · refine Rn.pick (lv' := [(0, .ref y), (1, .int (iv x1)), (2, .int (iv x2)), (3, .int (iv x3)), (4, .int (iv x4)), (6, .int (iv (sz (Int.toNat x1))))]) [0, 1, 2, 3, 4, 5] rfl ?_
                    exact B181 _ ht152 ⟨by omega, by omega, by omega⟩
                  · refine r_iload_n (pc := 158) dX12_ask_158 (i := 3) rfl rfl ?_
                    refine t_if_lt (pc := 159) (tgt := 172) dX12_ask_159 (by decide) (by omega) (fun c159 => ?_) (fun c159 => ?_)
                    · refine Rn.pick (lv' := [(0, .ref y)]) [0] rfl ?_
                      exact B172 _ ht152 trivial
                    · refine r_iload_n (pc := 162) dX12_ask_162 (i := 3) rfl rfl ?_
                      refine r_aload_n (pc := 163) dX12_ask_163 (i := 0) rfl rfl ?_
                      refine t_getE (pc := 164) (.ref (y + 4)) ht152 (rd_of RG_y) fX12_20 dX12_ask_164 rfl ?_
                      refine r_iload_n (pc := 167) dX12_ask_167 (i := 1) rfl rfl ?_
                      refine t_ialdX (pc := 168) (t0 := 0) ht152 (rd_of RG_many) dX12_ask_168 rfl (by decide) (by omega) (fun b80 => ?_)
                      have rb80 := (show Rfx 121 0 60 mn by assumption) (Int.toNat x1) (by omega)
                      refine t_icmp_lt (pc := 169) (tgt := 181) dX12_ask_169 (by decide) (by omega) (by omega) (fun c169 => ?_) (fun c169 => ?_)
                      · refine Rn.pick (lv' := [(0, .ref y), (1, .int (iv x1)), (2, .int (iv x2)), (3, .int (iv x3)), (4, .int (iv x4)), (6, .int (iv (sz (Int.toNat x1))))]) [0, 1, 2, 3, 4, 5] rfl ?_
                        exact B181 _ ht152 ⟨by omega, by omega, by omega⟩
                      · refine Rn.pick (lv' := [(0, .ref y)]) [0] rfl ?_
                        exact B172 _ ht152 trivial
                refine t_if_eq (pc := 131) (tgt := 152) dX12_ask_131 (by decide) (by omega) (fun c131 => ?_) (fun c131 => ?_)
                · refine Rn.pick (lv' := [(0, .ref y), (1, .int (iv x1)), (2, .int (iv x2)), (3, .int (iv x3)), (4, .int (iv x4)), (6, .int (iv (sz (Int.toNat x1))))]) [0, 1, 2, 3, 4, 5] rfl ?_
                  exact B152 _ ht129 ⟨by omega, by omega⟩
                · refine r_iload (pc := 134) dX12_ask_134 rfl ?_
                  refine t_if_lt (pc := 136) (tgt := 172) dX12_ask_136 (by decide) (by omega) (fun c136 => ?_) (fun c136 => ?_)
                  · refine Rn.pick (lv' := [(0, .ref y)]) [0] rfl ?_
                    exact B172 _ ht129 trivial
                  · refine r_iload (pc := 139) dX12_ask_139 rfl ?_
                    refine r_iload (pc := 141) dX12_ask_141 rfl ?_
                    refine t_icmp_ge (pc := 143) (tgt := 172) dX12_ask_143 (by decide) (by omega) (by omega) (fun c143 => ?_) (fun c143 => ?_)
                    · refine Rn.pick (lv' := [(0, .ref y)]) [0] rfl ?_
                      exact B172 _ ht129 trivial
                    · refine r_iload_n (pc := 146) dX12_ask_146 (i := 3) rfl rfl ?_
                      refine r_iload (pc := 147) dX12_ask_147 rfl ?_
                      refine t_icmp_eq (pc := 149) (tgt := 172) dX12_ask_149 (by decide) (by omega) (by omega) (fun c149 => ?_) (fun c149 => ?_)
                      · refine Rn.pick (lv' := [(0, .ref y)]) [0] rfl ?_
                        exact B172 _ ht129 trivial
                      · refine Rn.pick (lv' := [(0, .ref y), (1, .int (iv x1)), (2, .int (iv x2)), (3, .int (iv x3)), (4, .int (iv x4)), (6, .int (iv (sz (Int.toNat x1))))]) [0, 1, 2, 3, 4, 5] rfl ?_
                        exact B152 _ ht129 ⟨by omega, by omega⟩
              refine t_if_eq (pc := 116) (tgt := 129) dX12_ask_116 (by decide) (by omega) (fun c116 => ?_) (fun c116 => ?_)
              · refine Rn.pick (lv' := [(0, .ref y), (1, .int (iv x1)), (2, .int (iv x2)), (3, .int (iv x3)), (4, .int (iv x4)), (6, .int (iv (sz (Int.toNat x1)))), (7, .int (iv u75_0))]) [1, 2, 3, 4, 5, 6, 7] rfl ?_
                exact B129 _ ht102 (by omega)
              · refine r_iload_n (pc := 119) dX12_ask_119 (i := 3) rfl rfl ?_
                refine t_if_lt (pc := 120) (tgt := 172) dX12_ask_120 (by decide) (by omega) (fun c120 => ?_) (fun c120 => ?_)
                · refine Rn.pick (lv' := [(0, .ref y)]) [1] rfl ?_
                  exact B172 _ ht102 trivial
                · refine r_iload_n (pc := 123) dX12_ask_123 (i := 3) rfl rfl ?_
                  refine r_iload (pc := 124) dX12_ask_124 rfl ?_
                  refine t_icmp_ge (pc := 126) (tgt := 172) dX12_ask_126 (by decide) (by omega) (by omega) (fun c126 => ?_) (fun c126 => ?_)
                  · refine Rn.pick (lv' := [(0, .ref y)]) [1] rfl ?_
                    exact B172 _ ht102 trivial
                  · refine Rn.pick (lv' := [(0, .ref y), (1, .int (iv x1)), (2, .int (iv x2)), (3, .int (iv x3)), (4, .int (iv x4)), (6, .int (iv (sz (Int.toNat x1)))), (7, .int (iv u75_0))]) [1, 2, 3, 4, 5, 6, 7] rfl ?_
                    exact B129 _ ht102 (by omega)
        have B97 : ∀ hp97 : MH, Tw (RG Γ cI cJ cZ y rf50 cn nm so sz dr mn fr tt wt co nu qi qc nf nt nw nc) hp97 → (x2 = 0 ∨ x2 = 2 ∨ (12 ≤ x2 ∧ x2 ≤ 15) ∨ x2 = 17) → Rn (gG D cI cJ cZ cT lo b L xs) mX12_ask d 97 [(0, .ref y), (1, .int (iv x1)), (2, .int (iv x2)), (3, .int (iv x3)), (4, .int (iv x4)), (6, .int (iv (sz (Int.toNat x1)))), (7, .int (iv u75_0))] [] hp97 n 0 0 (q_X12_ask Γ cI cJ cZ y n rf cn nm so sz dr mn fr tt wt co nu qi qc nf nt nw nc x1 x2 x3 x4) := by
          intro hp97 ht97 hf97
          refine r_iconst (pc := 97) (v := iv 1) dX12_ask_97 (by decide) ?_
          refine r_goto (pc := 98) (tgt := 102) dX12_ask_98 (by decide) ?_
          refine Rn.pick (lv' := [(0, .ref y), (1, .int (iv x1)), (2, .int (iv x2)), (3, .int (iv x3)), (4, .int (iv x4)), (6, .int (iv (sz (Int.toNat x1)))), (7, .int (iv u75_0))]) [0, 1, 2, 3, 4, 5, 6] rfl ?_
          exact B102 _ ht97 1 ⟨by omega, by omega, by omega⟩
        refine t_if_eq (pc := 78) (tgt := 97) dX12_ask_78 (by decide) (by omega) (fun c78 => ?_) (fun c78 => ?_)
        · refine Rn.pick (lv' := [(0, .ref y), (1, .int (iv x1)), (2, .int (iv x2)), (3, .int (iv x3)), (4, .int (iv x4)), (6, .int (iv (sz (Int.toNat x1)))), (7, .int (iv u75_0))]) [1, 2, 3, 4, 5, 6, 0] rfl ?_
          exact B97 _ ht75 (by omega)
        · refine r_iload_n (pc := 81) dX12_ask_81 (i := 2) rfl rfl ?_
          refine r_iconst (pc := 82) (v := iv 2) dX12_ask_82 (by decide) ?_
          refine t_icmp_eq (pc := 83) (tgt := 97) dX12_ask_83 (by decide) (by omega) (by omega) (fun c83 => ?_) (fun c83 => ?_)
          · refine Rn.pick (lv' := [(0, .ref y), (1, .int (iv x1)), (2, .int (iv x2)), (3, .int (iv x3)), (4, .int (iv x4)), (6, .int (iv (sz (Int.toNat x1)))), (7, .int (iv u75_0))]) [1, 2, 3, 4, 5, 6, 0] rfl ?_
            exact B97 _ ht75 (by omega)
          · refine r_iload (pc := 86) dX12_ask_86 rfl ?_
            refine t_if_ne (pc := 88) (tgt := 97) dX12_ask_88 (by decide) (by omega) (fun c88 => ?_) (fun c88 => ?_)
            · refine Rn.pick (lv' := [(0, .ref y), (1, .int (iv x1)), (2, .int (iv x2)), (3, .int (iv x3)), (4, .int (iv x4)), (6, .int (iv (sz (Int.toNat x1)))), (7, .int (iv u75_0))]) [1, 2, 3, 4, 5, 6, 0] rfl ?_
              exact B97 _ ht75 (by omega)
            · refine r_iload_n (pc := 91) dX12_ask_91 (i := 2) rfl rfl ?_
              refine r_bipush (pc := 92) (v := iv 17) dX12_ask_92 (by decide) ?_
              refine t_icmp_ne (pc := 94) (tgt := 101) dX12_ask_94 (by decide) (by omega) (by omega) (fun c94 => ?_) (fun c94 => ?_)
              · refine r_iconst (pc := 101) (v := iv 0) dX12_ask_101 (by decide) ?_
                refine Rn.pick (lv' := [(0, .ref y), (1, .int (iv x1)), (2, .int (iv x2)), (3, .int (iv x3)), (4, .int (iv x4)), (6, .int (iv (sz (Int.toNat x1)))), (7, .int (iv u75_0))]) [1, 2, 3, 4, 5, 6, 0] rfl ?_
                exact B102 _ ht75 0 ⟨by omega, by omega, by omega⟩
              · refine Rn.pick (lv' := [(0, .ref y), (1, .int (iv x1)), (2, .int (iv x2)), (3, .int (iv x3)), (4, .int (iv x4)), (6, .int (iv (sz (Int.toNat x1)))), (7, .int (iv u75_0))]) [1, 2, 3, 4, 5, 6, 0] rfl ?_
                exact B97 _ ht75 (by omega)
      have B74 : ∀ hp74 : MH, Tw (RG Γ cI cJ cZ y rf50 cn nm so sz dr mn fr tt wt co nu qi qc nf nt nw nc) hp74 → ¬ (12 ≤ x2 ∧ x2 ≤ 15) → Rn (gG D cI cJ cZ cT lo b L xs) mX12_ask d 74 [(0, .ref y), (1, .int (iv x1)), (2, .int (iv x2)), (3, .int (iv x3)), (4, .int (iv x4)), (6, .int (iv (sz (Int.toNat x1))))] [] hp74 n 0 0 (q_X12_ask Γ cI cJ cZ y n rf cn nm so sz dr mn fr tt wt co nu qi qc nf nt nw nc x1 x2 x3 x4) := by
        intro hp74 ht74 hf74
        refine r_iconst (pc := 74) (v := iv 0) dX12_ask_74 (by decide) ?_
        refine Rn.pick (lv' := [(0, .ref y), (1, .int (iv x1)), (2, .int (iv x2)), (3, .int (iv x3)), (4, .int (iv x4)), (6, .int (iv (sz (Int.toNat x1))))]) [0, 1, 2, 3, 4, 5] rfl ?_
        exact B75 _ ht74 0 ⟨by omega, by omega, by omega⟩
      refine t_icmp_lt (pc := 61) (tgt := 74) dX12_ask_61 (by decide) (by omega) (by omega) (fun c61 => ?_) (fun c61 => ?_)
      · refine Rn.pick (lv' := [(0, .ref y), (1, .int (iv x1)), (2, .int (iv x2)), (3, .int (iv x3)), (4, .int (iv x4)), (6, .int (iv (sz (Int.toNat x1))))]) [1, 2, 3, 4, 5, 0] rfl ?_
        exact B74 _ ht50 (by omega)
      · refine r_iload_n (pc := 64) dX12_ask_64 (i := 2) rfl rfl ?_
        refine r_bipush (pc := 65) (v := iv 15) dX12_ask_65 (by decide) ?_
        refine t_icmp_gt (pc := 67) (tgt := 74) dX12_ask_67 (by decide) (by omega) (by omega) (fun c67 => ?_) (fun c67 => ?_)
        · refine Rn.pick (lv' := [(0, .ref y), (1, .int (iv x1)), (2, .int (iv x2)), (3, .int (iv x3)), (4, .int (iv x4)), (6, .int (iv (sz (Int.toNat x1))))]) [1, 2, 3, 4, 5, 0] rfl ?_
          exact B74 _ ht50 (by omega)
        · refine r_iconst (pc := 70) (v := iv 1) dX12_ask_70 (by decide) ?_
          refine r_goto (pc := 71) (tgt := 75) dX12_ask_71 (by decide) ?_
          refine Rn.pick (lv' := [(0, .ref y), (1, .int (iv x1)), (2, .int (iv x2)), (3, .int (iv x3)), (4, .int (iv x4)), (6, .int (iv (sz (Int.toNat x1))))]) [1, 2, 3, 4, 5, 0] rfl ?_
          exact B75 _ ht50 1 ⟨by omega, by omega, by omega⟩
    have B48 : ∀ rf48 : Int, ∀ hp48 : MH, Tw (RG Γ cI cJ cZ y rf48 cn nm so sz dr mn fr tt wt co nu qi qc nf nt nw nc) hp48 → -2147483648 ≤ rf48 ∧ rf48 ≤ 2147483647 → Rn (gG D cI cJ cZ cT lo b L xs) mX12_ask d 48 [] [] hp48 n 0 0 (q_X12_ask Γ cI cJ cZ y n rf cn nm so sz dr mn fr tt wt co nu qi qc nf nt nw nc x1 x2 x3 x4) := by
      intro rf48 hp48 ht48 hf48
      refine r_lconst (pc := 48) (v := 0) dX12_ask_48 (by decide) ?_
      exact r_lret (pc := 49) dX12_ask_49 rfl ⟨rfl, rf48, cn, nm, so, sz, dr, mn, fr, tt, wt, co, nu, qi, qc, nf, nt, nw, nc, (0 : Int64), ht48, rfl, (by (first | assumption | exact RK_set hk (by omega) (by omega))), (by (first | assumption | exact df_r _ _ _ _ _ _ _))⟩
    refine t_if_eq (pc := 21) (tgt := 39) dX12_ask_21 (by decide) (by omega) (fun c21 => ?_) (fun c21 => ?_)
    · refine r_aload_n (pc := 39) dX12_ask_39 (i := 0) rfl rfl ?_
      refine r_iload_n (pc := 40) dX12_ask_40 (i := 1) rfl rfl ?_
      refine r_iconst (pc := 41) (v := iv 1) dX12_ask_41 (by decide) ?_
      obtain ⟨fs85, hfs85⟩ := t_obj ht17 (rd_of RG_y)
      refine r_callV (pc := 42) (as := [.int (iv x1), .int (iv 1)]) (st := []) kX12_183 rfl dX12_ask_42 hfs85 (s_X12_has (d := d - 1) (x1 := x1) (x2 := 1) (by omega) (by omega) (by assumption) ht17 (by omega) (by omega)) rfl (by omega) (Nat.le_of_ble_eq_true rfl) (Nat.zero_le _) (Nat.zero_le _) rfl (fun r82 hp81 n83 hq84 => ?_)
      obtain ⟨hnn83, v_88, b_89, ht86, hrr82, hhq840, hhq841⟩ := hq84
      subst n83 r82
      have hhq840 : -2 ≤ v_88 ∧ v_88 ≤ 0 ∧ (b_89 = 0 ∨ b_89 = 1) := hhq840
      have hhq841 : (b_89 = 1 ∧ v_88 = 0 ∧ 0 ≤ x1 ∧ x1 < cn ∧ so (Int.toNat x1) = 1) ∨ (b_89 = 0 ∧ v_88 = -1 ∧ ¬ (0 ≤ x1 ∧ x1 < cn)) ∨ (b_89 = 0 ∧ v_88 = -2 ∧ 0 ≤ x1 ∧ x1 < cn ∧ so (Int.toNat x1) ≠ 1) := hhq841
      change Rn _ _ _ 45 _ [.int (iv b_89)] _ _ _ _ _
      refine t_if_ne (pc := 45) (tgt := 50) dX12_ask_45 (by decide) (by omega) (fun c45 => ?_) (fun c45 => ?_)
      · have rsz45 := hR_sizes (Int.toNat x1) (by omega)
        have rsy45 := hsz x1 (by omega) (by omega)
        have hen := hgr x1 (by omega) (by omega) (by omega)
        have rmn45 := hR_many (Int.toNat x1) (by omega)
        refine Rn.pick (lv' := [(0, .ref y), (1, .int (iv x1)), (2, .int (iv x2)), (3, .int (iv x3)), (4, .int (iv x4))]) [1, 2, 3, 4, 5] rfl ?_
        exact B50 v_88 _ ht86 ⟨by omega, by omega, by omega, by omega, by omega, by omega, by omega⟩
      · refine Rn.pick (lv' := []) [] rfl ?_
        exact B48 v_88 _ ht86 ⟨by omega, by omega⟩
    · refine r_aload_n (pc := 24) dX12_ask_24 (i := 0) rfl rfl ?_
      refine r_iload_n (pc := 25) dX12_ask_25 (i := 1) rfl rfl ?_
      refine r_iconst (pc := 26) (v := iv 1) dX12_ask_26 (by decide) ?_
      refine r_iload (pc := 27) dX12_ask_27 rfl ?_
      refine r_iconst (pc := 29) (v := iv 1) dX12_ask_29 (by decide) ?_
      obtain ⟨fs94, hfs94⟩ := t_obj ht17 (rd_of RG_y)
      refine r_callV (pc := 30) (as := [.int (iv x1), .int (iv 1), .int (iv x4), .int (iv 1)]) (st := []) kX12_209 rfl dX12_ask_30 hfs94 (s_X12_haveTwo (d := d - 1) (x1 := x1) (x2 := 1) (x3 := x4) (x4 := 1) (by omega) (by omega) (by assumption) ht17 (by omega) (by omega) (by omega) (by omega)) rfl (by omega) (Nat.le_of_ble_eq_true rfl) (Nat.zero_le _) (Nat.zero_le _) rfl (fun r91 hp90 n92 hq93 => ?_)
      obtain ⟨hnn92, v_97, b_98, ht95, hrr91, hhq930, hhq931⟩ := hq93
      subst n92 r91
      have hhq930 : -2 ≤ v_97 ∧ v_97 ≤ 0 ∧ (b_98 = 0 ∨ b_98 = 1) := hhq930
      have hhq931 : (b_98 = 1 ∧ v_97 = 0 ∧ 0 ≤ x1 ∧ x1 < cn ∧ 0 ≤ x4 ∧ x4 < cn ∧ so (Int.toNat x1) = 1 ∧ so (Int.toNat x4) = 1) ∨ (b_98 = 0 ∧ v_97 = -1 ∧ ¬ (0 ≤ x1 ∧ x1 < cn ∧ 0 ≤ x4 ∧ x4 < cn)) ∨ (b_98 = 0 ∧ v_97 = -2 ∧ 0 ≤ x1 ∧ x1 < cn ∧ 0 ≤ x4 ∧ x4 < cn ∧ ¬ (so (Int.toNat x1) = 1 ∧ so (Int.toNat x4) = 1)) := hhq931
      change Rn _ _ _ 33 _ [.int (iv b_98)] _ _ _ _ _
      refine t_if_ne (pc := 33) (tgt := 50) dX12_ask_33 (by decide) (by omega) (fun c33 => ?_) (fun c33 => ?_)
      · have rsz33 := hR_sizes (Int.toNat x1) (by omega)
        have rsy33 := hsz x1 (by omega) (by omega)
        have hen := hgr x1 (by omega) (by omega) (by omega)
        have rmn33 := hR_many (Int.toNat x1) (by omega)
        have rsw33 := hR_sizes (Int.toNat x4) (by omega)
        have rsx33 := hsz x4 (by omega) (by omega)
        refine Rn.pick (lv' := [(0, .ref y), (1, .int (iv x1)), (2, .int (iv x2)), (3, .int (iv x3)), (4, .int (iv x4))]) [1, 2, 3, 4, 5] rfl ?_
        exact B50 v_97 _ ht95 ⟨by omega, by omega, by omega, by omega, by omega, by omega, by omega⟩
      · refine r_goto (pc := 36) (tgt := 48) dX12_ask_36 (by decide) ?_
        refine Rn.pick (lv' := []) [] rfl ?_
        exact B48 v_97 _ ht95 ⟨by omega, by omega⟩
  have B12 : ∀ hp12 : MH, Tw (RG Γ cI cJ cZ y rf cn nm so sz dr mn fr tt wt co nu qi qc nf nt nw nc) hp12 → 16 ≤ x2 ∧ x2 ≤ 17 → Rn (gG D cI cJ cZ cT lo b L xs) mX12_ask d 12 [(0, .ref y), (1, .int (iv x1)), (2, .int (iv x2)), (3, .int (iv x3)), (4, .int (iv x4))] [] hp12 n 0 0 (q_X12_ask Γ cI cJ cZ y n rf cn nm so sz dr mn fr tt wt co nu qi qc nf nt nw nc x1 x2 x3 x4) := by
    intro hp12 ht12 hf12
    refine r_iconst (pc := 12) (v := iv 1) dX12_ask_12 (by decide) ?_
    refine r_goto (pc := 13) (tgt := 17) dX12_ask_13 (by decide) ?_
    refine Rn.pick (lv' := [(0, .ref y), (1, .int (iv x1)), (2, .int (iv x2)), (3, .int (iv x3)), (4, .int (iv x4))]) [0, 1, 2, 3, 4] rfl ?_
    exact B17 _ ht12 1 ⟨by omega, by omega, by omega⟩
  refine t_icmp_eq (pc := 3) (tgt := 12) dX12_ask_3 (by decide) (by omega) (by omega) (fun c3 => ?_) (fun c3 => ?_)
  · refine Rn.pick (lv' := [(0, .ref y), (1, .int (iv x1)), (2, .int (iv x2)), (3, .int (iv x3)), (4, .int (iv x4))]) [0, 1, 2, 3, 4] rfl ?_
    exact B12 _ ht ⟨by omega, by omega⟩
  · refine r_iload_n (pc := 6) dX12_ask_6 (i := 2) rfl rfl ?_
    refine r_bipush (pc := 7) (v := iv 17) dX12_ask_7 (by decide) ?_
    refine t_icmp_ne (pc := 9) (tgt := 16) dX12_ask_9 (by decide) (by omega) (by omega) (fun c9 => ?_) (fun c9 => ?_)
    · refine r_iconst (pc := 16) (v := iv 0) dX12_ask_16 (by decide) ?_
      refine Rn.pick (lv' := [(0, .ref y), (1, .int (iv x1)), (2, .int (iv x2)), (3, .int (iv x3)), (4, .int (iv x4))]) [0, 1, 2, 3, 4] rfl ?_
      exact B17 _ ht 0 ⟨by omega, by omega, by omega⟩
    · refine Rn.pick (lv' := [(0, .ref y), (1, .int (iv x1)), (2, .int (iv x2)), (3, .int (iv x3)), (4, .int (iv x4))]) [0, 1, 2, 3, 4] rfl ?_
      exact B12 _ ht ⟨by omega, by omega⟩
def q_X12_drop (Γ : TG) (cI cJ cZ : ClassId) (y n : Nat) (rf cn nm : Int) (so sz dr mn fr tt wt co : Nat → Int) (nu : Nat → Int64) (qi qc nf nt nw nc : Nat → Int) : Option Value → MH → Nat → Prop := fun r hp1 n1 => n1 = n ∧ ∃ (rf' : Int) (cn' : Int) (nm' : Int) (so' : Nat → Int) (sz' : Nat → Int) (dr' : Nat → Int) (mn' : Nat → Int) (fr' : Nat → Int) (tt' : Nat → Int) (wt' : Nat → Int) (co' : Nat → Int) (nu' : Nat → Int64) (qi' : Nat → Int) (qc' : Nat → Int) (nf' : Nat → Int) (nt' : Nat → Int) (nw' : Nat → Int) (nc' : Nat → Int) (v' : Int), Tw (RG Γ cI cJ cZ y rf' cn' nm' so' sz' dr' mn' fr' tt' wt' co' nu' qi' qc' nf' nt' nw' nc') hp1 ∧ r = some (.int (iv v')) ∧ (RK rf' cn' nm' so' sz' dr' mn' fr' tt' wt' co' nu' qi' qc' nf' nt' nw' nc') ∧ (dfE sz dr mn fr tt wt co sz' dr' mn' fr' tt' wt' co') ∧ (-2147483648 ≤ v' ∧ v' ≤ 2147483647)
set_option maxHeartbeats 4000000 in
set_option maxRecDepth 100000 in
theorem s_X12_drop {D : va_G} {cI cJ cZ cT : ClassId} {lo b L : Nat} {xs : Nat → Int32} {hp : MH} {n d : Nat} {Γ : TG} {y : Nat} {rf cn nm : Int} {so sz dr mn fr tt wt co : Nat → Int} {nu : Nat → Int64} {qi qc nf nt nw nc : Nat → Int} (hd0 : 1 ≤ d) (hk : RK rf cn nm so sz dr mn fr tt wt co nu qi qc nf nt nw nc) (ht : Tw (RG Γ cI cJ cZ y rf cn nm so sz dr mn fr tt wt co nu qi qc nf nt nw nc) hp)  : Mt (gG D cI cJ cZ cT lo b L xs) mX12_drop d 0 0 [.ref y] hp n (q_X12_drop Γ cI cJ cZ y n rf cn nm so sz dr mn fr tt wt co nu qi qc nf nt nw nc) := by
  refine Mt.of rfl (Nat.le_of_ble_eq_true rfl) ?_
  refine Rn.pick (lv' := [(0, .ref y)]) [0] rfl ?_
  obtain ⟨hR_sorts, hR_sizes, hR_directs, hR_many, hR_from, hR_to, hR_weight, hR_cost, hR_inPart, hR_partCount, hcn, hrf, hnm, hdf, hgr, hpa, hsz⟩ := id hk
  refine r_aload_n (pc := 0) dX12_drop_0 (i := 0) rfl rfl ?_
  refine r_iconst (pc := 1) (v := iv 0) dX12_drop_1 (by decide) ?_
  refine t_putX (pc := 2) (ty := .int) ht RG_y fX12_142 tyX12 tyX12_ok nmX12 (by decide +kernel) (Or.inl rfl) dX12_drop_2 (Nat.le_of_ble_eq_true rfl) rfl rfl rfl (fun hp1 ht2 => ?_)
  have ht3 := RGw_rf ht2
  refine r_aload_n (pc := 5) dX12_drop_5 (i := 0) rfl rfl ?_
  refine t_getE (pc := 6) (.int (iv cn)) ht3 (rd_of RG_y) fX12_146 dX12_drop_6 rfl ?_
  refine t_if_ne (pc := 9) (tgt := 18) dX12_drop_9 (by decide) (by omega) (fun c9 => ?_) (fun c9 => ?_)
  · refine r_aload_n (pc := 18) dX12_drop_18 (i := 0) rfl rfl ?_
    refine r_dup (pc := 19) dX12_drop_19 rfl ?_
    refine t_getE (pc := 20) (.int (iv cn)) ht3 (rd_of RG_y) fX12_146 dX12_drop_20 rfl ?_
    refine r_iconst (pc := 23) (v := iv 1) dX12_drop_23 (by decide) ?_
    refine r_isub (pc := 24) (v := iv (cn - 1)) dX12_drop_24 (iv_sub _ _) ?_
    refine t_putX (pc := 25) (ty := .int) ht3 RG_y fX12_146 tyX12 tyX12_ok nmX12 (by decide +kernel) (Or.inl rfl) dX12_drop_25 (Nat.le_of_ble_eq_true rfl) rfl rfl rfl (fun hp4 ht5 => ?_)
    have ht6 := RGw_cn ht5
    refine r_aload_n (pc := 28) dX12_drop_28 (i := 0) rfl rfl ?_
    refine t_getE (pc := 29) (.int (iv (cn - 1))) ht6 (rd_of RG_y) fX12_146 dX12_drop_29 rfl ?_
    exact r_iret (pc := 32) dX12_drop_32 rfl ⟨rfl, 0, (cn - 1), nm, so, sz, dr, mn, fr, tt, wt, co, nu, qi, qc, nf, nt, nw, nc, (cn - 1), ht6, rfl, (by (exact RK_drop hk (by omega) (by omega) (by omega))), (by (first | assumption | exact df_r _ _ _ _ _ _ _)), (by omega)⟩
  · refine r_aload_n (pc := 12) dX12_drop_12 (i := 0) rfl rfl ?_
    refine r_iconst (pc := 13) (v := iv (-1)) dX12_drop_13 (by decide) ?_
    obtain ⟨fs11, hfs11⟩ := t_obj ht3 (rd_of RG_y)
    refine r_callV (pc := 14) (as := [.int (iv (-1))]) (st := []) kX12_153 rfl dX12_drop_14 hfs11 (s_X12_refuse (d := d - 1) (x1 := (-1)) (by omega) ht3 (by omega)) rfl (by omega) (Nat.le_of_ble_eq_true rfl) (Nat.zero_le _) (Nat.zero_le _) rfl (fun r8 hp7 n9 hq10 => ?_)
    obtain ⟨hnn9, ht12, hrr8⟩ := hq10
    subst n9 r8
    change Rn _ _ _ 17 _ [.int (iv (-1))] _ _ _ _ _
    exact r_iret (pc := 17) dX12_drop_17 rfl ⟨rfl, (-1), cn, nm, so, sz, dr, mn, fr, tt, wt, co, nu, qi, qc, nf, nt, nw, nc, (-1), ht12, rfl, (by (exact RK_drop hk (by omega) (by omega) (by omega))), (by (first | assumption | exact df_r _ _ _ _ _ _ _)), (by omega)⟩
def q_X12_refused (Γ : TG) (cI cJ cZ : ClassId) (y n : Nat) (rf cn nm : Int) (so sz dr mn fr tt wt co : Nat → Int) (nu : Nat → Int64) (qi qc nf nt nw nc : Nat → Int) : Option Value → MH → Nat → Prop := fun r hp1 n1 => n1 = n ∧ ∃ (rf' : Int) (cn' : Int) (nm' : Int) (so' : Nat → Int) (sz' : Nat → Int) (dr' : Nat → Int) (mn' : Nat → Int) (fr' : Nat → Int) (tt' : Nat → Int) (wt' : Nat → Int) (co' : Nat → Int) (nu' : Nat → Int64) (qi' : Nat → Int) (qc' : Nat → Int) (nf' : Nat → Int) (nt' : Nat → Int) (nw' : Nat → Int) (nc' : Nat → Int) (v' : Int), Tw (RG Γ cI cJ cZ y rf' cn' nm' so' sz' dr' mn' fr' tt' wt' co' nu' qi' qc' nf' nt' nw' nc') hp1 ∧ r = some (.int (iv v')) ∧ (RK rf' cn' nm' so' sz' dr' mn' fr' tt' wt' co' nu' qi' qc' nf' nt' nw' nc') ∧ (dfE sz dr mn fr tt wt co sz' dr' mn' fr' tt' wt' co') ∧ (-2147483648 ≤ v' ∧ v' ≤ 2147483647)
set_option maxHeartbeats 4000000 in
set_option maxRecDepth 100000 in
theorem s_X12_refused {D : va_G} {cI cJ cZ cT : ClassId} {lo b L : Nat} {xs : Nat → Int32} {hp : MH} {n d : Nat} {Γ : TG} {y : Nat} {rf cn nm : Int} {so sz dr mn fr tt wt co : Nat → Int} {nu : Nat → Int64} {qi qc nf nt nw nc : Nat → Int} (hd0 : 0 ≤ d) (hk : RK rf cn nm so sz dr mn fr tt wt co nu qi qc nf nt nw nc) (ht : Tw (RG Γ cI cJ cZ y rf cn nm so sz dr mn fr tt wt co nu qi qc nf nt nw nc) hp)  : Mt (gG D cI cJ cZ cT lo b L xs) mX12_refused d 0 0 [.ref y] hp n (q_X12_refused Γ cI cJ cZ y n rf cn nm so sz dr mn fr tt wt co nu qi qc nf nt nw nc) := by
  refine Mt.of rfl (Nat.le_of_ble_eq_true rfl) ?_
  refine Rn.pick (lv' := [(0, .ref y)]) [0] rfl ?_
  obtain ⟨hR_sorts, hR_sizes, hR_directs, hR_many, hR_from, hR_to, hR_weight, hR_cost, hR_inPart, hR_partCount, hcn, hrf, hnm, hdf, hgr, hpa, hsz⟩ := id hk
  refine r_aload_n (pc := 0) dX12_refused_0 (i := 0) rfl rfl ?_
  refine t_getE (pc := 1) (.int (iv rf)) ht (rd_of RG_y) fX12_142 dX12_refused_1 rfl ?_
  exact r_iret (pc := 4) dX12_refused_4 rfl ⟨rfl, rf, cn, nm, so, sz, dr, mn, fr, tt, wt, co, nu, qi, qc, nf, nt, nw, nc, rf, ht, rfl, (by (first | assumption | exact RK_set hk (by omega) (by omega))), (by (first | assumption | exact df_r _ _ _ _ _ _ _)), (by omega)⟩
def q_X12_handles (Γ : TG) (cI cJ cZ : ClassId) (y n : Nat) (rf cn nm : Int) (so sz dr mn fr tt wt co : Nat → Int) (nu : Nat → Int64) (qi qc nf nt nw nc : Nat → Int) : Option Value → MH → Nat → Prop := fun r hp1 n1 => n1 = n ∧ ∃ (rf' : Int) (cn' : Int) (nm' : Int) (so' : Nat → Int) (sz' : Nat → Int) (dr' : Nat → Int) (mn' : Nat → Int) (fr' : Nat → Int) (tt' : Nat → Int) (wt' : Nat → Int) (co' : Nat → Int) (nu' : Nat → Int64) (qi' : Nat → Int) (qc' : Nat → Int) (nf' : Nat → Int) (nt' : Nat → Int) (nw' : Nat → Int) (nc' : Nat → Int) (v' : Int), Tw (RG Γ cI cJ cZ y rf' cn' nm' so' sz' dr' mn' fr' tt' wt' co' nu' qi' qc' nf' nt' nw' nc') hp1 ∧ r = some (.int (iv v')) ∧ (RK rf' cn' nm' so' sz' dr' mn' fr' tt' wt' co' nu' qi' qc' nf' nt' nw' nc') ∧ (dfE sz dr mn fr tt wt co sz' dr' mn' fr' tt' wt' co') ∧ (-2147483648 ≤ v' ∧ v' ≤ 2147483647)
set_option maxHeartbeats 4000000 in
set_option maxRecDepth 100000 in
theorem s_X12_handles {D : va_G} {cI cJ cZ cT : ClassId} {lo b L : Nat} {xs : Nat → Int32} {hp : MH} {n d : Nat} {Γ : TG} {y : Nat} {rf cn nm : Int} {so sz dr mn fr tt wt co : Nat → Int} {nu : Nat → Int64} {qi qc nf nt nw nc : Nat → Int} (hd0 : 0 ≤ d) (hk : RK rf cn nm so sz dr mn fr tt wt co nu qi qc nf nt nw nc) (ht : Tw (RG Γ cI cJ cZ y rf cn nm so sz dr mn fr tt wt co nu qi qc nf nt nw nc) hp)  : Mt (gG D cI cJ cZ cT lo b L xs) mX12_handles d 0 0 [.ref y] hp n (q_X12_handles Γ cI cJ cZ y n rf cn nm so sz dr mn fr tt wt co nu qi qc nf nt nw nc) := by
  refine Mt.of rfl (Nat.le_of_ble_eq_true rfl) ?_
  refine Rn.pick (lv' := [(0, .ref y)]) [0] rfl ?_
  obtain ⟨hR_sorts, hR_sizes, hR_directs, hR_many, hR_from, hR_to, hR_weight, hR_cost, hR_inPart, hR_partCount, hcn, hrf, hnm, hdf, hgr, hpa, hsz⟩ := id hk
  refine r_aload_n (pc := 0) dX12_handles_0 (i := 0) rfl rfl ?_
  refine r_iconst (pc := 1) (v := iv 0) dX12_handles_1 (by decide) ?_
  refine t_putX (pc := 2) (ty := .int) ht RG_y fX12_142 tyX12 tyX12_ok nmX12 (by decide +kernel) (Or.inl rfl) dX12_handles_2 (Nat.le_of_ble_eq_true rfl) rfl rfl rfl (fun hp1 ht2 => ?_)
  have ht3 := RGw_rf ht2
  refine r_aload_n (pc := 5) dX12_handles_5 (i := 0) rfl rfl ?_
  refine t_getE (pc := 6) (.int (iv cn)) ht3 (rd_of RG_y) fX12_146 dX12_handles_6 rfl ?_
  exact r_iret (pc := 9) dX12_handles_9 rfl ⟨rfl, 0, cn, nm, so, sz, dr, mn, fr, tt, wt, co, nu, qi, qc, nf, nt, nw, nc, cn, ht3, rfl, (by (first | assumption | exact RK_set hk (by omega) (by omega))), (by (first | assumption | exact df_r _ _ _ _ _ _ _)), (by omega)⟩
def q_X12_sort (Γ : TG) (cI cJ cZ : ClassId) (y n : Nat) (rf cn nm : Int) (so sz dr mn fr tt wt co : Nat → Int) (nu : Nat → Int64) (qi qc nf nt nw nc : Nat → Int) (x1 : Int) : Option Value → MH → Nat → Prop := fun r hp1 n1 => n1 = n ∧ ∃ (rf' : Int) (cn' : Int) (nm' : Int) (so' : Nat → Int) (sz' : Nat → Int) (dr' : Nat → Int) (mn' : Nat → Int) (fr' : Nat → Int) (tt' : Nat → Int) (wt' : Nat → Int) (co' : Nat → Int) (nu' : Nat → Int64) (qi' : Nat → Int) (qc' : Nat → Int) (nf' : Nat → Int) (nt' : Nat → Int) (nw' : Nat → Int) (nc' : Nat → Int) (v' : Int), Tw (RG Γ cI cJ cZ y rf' cn' nm' so' sz' dr' mn' fr' tt' wt' co' nu' qi' qc' nf' nt' nw' nc') hp1 ∧ r = some (.int (iv v')) ∧ (RK rf' cn' nm' so' sz' dr' mn' fr' tt' wt' co' nu' qi' qc' nf' nt' nw' nc') ∧ (dfE sz dr mn fr tt wt co sz' dr' mn' fr' tt' wt' co') ∧ (-2147483648 ≤ v' ∧ v' ≤ 2147483647)
set_option maxHeartbeats 4000000 in
set_option maxRecDepth 100000 in
theorem s_X12_sort {D : va_G} {cI cJ cZ cT : ClassId} {lo b L : Nat} {xs : Nat → Int32} {hp : MH} {n d : Nat} {Γ : TG} {y : Nat} {rf cn nm : Int} {so sz dr mn fr tt wt co : Nat → Int} {nu : Nat → Int64} {qi qc nf nt nw nc : Nat → Int} {x1 : Int} (hd0 : 1 ≤ d) (hk : RK rf cn nm so sz dr mn fr tt wt co nu qi qc nf nt nw nc) (ht : Tw (RG Γ cI cJ cZ y rf cn nm so sz dr mn fr tt wt co nu qi qc nf nt nw nc) hp) (hx1 : (-2147483648) ≤ x1 ∧ x1 ≤ 2147483647) : Mt (gG D cI cJ cZ cT lo b L xs) mX12_sort d 0 0 [.ref y, .int (iv x1)] hp n (q_X12_sort Γ cI cJ cZ y n rf cn nm so sz dr mn fr tt wt co nu qi qc nf nt nw nc x1) := by
  refine Mt.of rfl (Nat.le_of_ble_eq_true rfl) ?_
  refine Rn.pick (lv' := [(0, .ref y), (1, .int (iv x1))]) [0, 1] rfl ?_
  obtain ⟨hR_sorts, hR_sizes, hR_directs, hR_many, hR_from, hR_to, hR_weight, hR_cost, hR_inPart, hR_partCount, hcn, hrf, hnm, hdf, hgr, hpa, hsz⟩ := id hk
  refine r_aload_n (pc := 0) dX12_sort_0 (i := 0) rfl rfl ?_
  refine r_aload_n (pc := 1) dX12_sort_1 (i := 0) rfl rfl ?_
  refine r_iload_n (pc := 2) dX12_sort_2 (i := 1) rfl rfl ?_
  obtain ⟨fs5, hfs5⟩ := t_obj ht (rd_of RG_y)
  refine r_callV (pc := 3) (as := [.int (iv x1)]) (st := [.ref y]) kX12_149 rfl dX12_sort_3 hfs5 (s_X12_isThere (d := d - 1) (x1 := x1) (by omega) (by omega) ht (by omega)) rfl (by omega) (Nat.le_of_ble_eq_true rfl) (Nat.zero_le _) (Nat.zero_le _) rfl (fun r2 hp1 n3 hq4 => ?_)
  obtain ⟨hnn3, b_8, ht6, hrr2, hhq40⟩ := hq4
  subst n3 r2
  have hhq40 : (b_8 = 1 ∧ 0 ≤ x1 ∧ x1 < cn) ∨ (b_8 = 0 ∧ ¬ (0 ≤ x1 ∧ x1 < cn)) := hhq40
  change Rn _ _ _ 6 _ [.int (iv b_8), .ref y] _ _ _ _ _
  refine t_if_eq (pc := 6) (tgt := 13) dX12_sort_6 (by decide) (by omega) (fun c6 => ?_) (fun c6 => ?_)
  · refine r_iconst (pc := 13) (v := iv (-1)) dX12_sort_13 (by decide) ?_
    refine t_putX (pc := 14) (ty := .int) ht6 RG_y fX12_142 tyX12 tyX12_ok nmX12 (by decide +kernel) (Or.inl rfl) dX12_sort_14 (Nat.le_of_ble_eq_true rfl) rfl rfl rfl (fun hp9 ht10 => ?_)
    have ht11 := RGw_rf ht10
    refine r_aload_n (pc := 17) dX12_sort_17 (i := 0) rfl rfl ?_
    refine t_getE (pc := 18) (.int (iv (-1))) ht11 (rd_of RG_y) fX12_142 dX12_sort_18 rfl ?_
    have B34 : ∀ hp34 : MH, Tw (RG Γ cI cJ cZ y (-1) cn nm so sz dr mn fr tt wt co nu qi qc nf nt nw nc) hp34 → ∀  (u34_0 : Int), 0 ≤ u34_0 ∧ u34_0 ≤ 4 → Rn (gG D cI cJ cZ cT lo b L xs) mX12_sort d 34 [] [.int (iv u34_0)] hp34 n 0 0 (q_X12_sort Γ cI cJ cZ y n rf cn nm so sz dr mn fr tt wt co nu qi qc nf nt nw nc x1) := by
      intro hp34 ht34 u34_0 hf34
      exact r_iret (pc := 34) dX12_sort_34 rfl ⟨rfl, (-1), cn, nm, so, sz, dr, mn, fr, tt, wt, co, nu, qi, qc, nf, nt, nw, nc, u34_0, ht34, rfl, (by (first | assumption | exact RK_set hk (by omega) (by omega))), (by (first | assumption | exact df_r _ _ _ _ _ _ _)), (by omega)⟩
    refine t_if_ne (pc := 21) (tgt := 33) dX12_sort_21 (by decide) (by omega) (fun c21 => ?_) (fun c21 => ?_)
    · refine r_iconst (pc := 33) (v := iv 0) dX12_sort_33 (by decide) ?_
      refine Rn.pick (lv' := []) [] rfl ?_
      exact B34 _ ht11 0 ⟨by omega, by omega⟩
    · refine r_aload_n (pc := 24) dX12_sort_24 (i := 0) rfl rfl ?_
      refine t_getE (pc := 25) (.ref (y + 1)) ht11 (rd_of RG_y) fX12_7 dX12_sort_25 rfl ?_
      refine r_iload_n (pc := 28) dX12_sort_28 (i := 1) rfl rfl ?_
      refine t_ialdX (pc := 29) (t0 := 0) ht11 (rd_of RG_sorts) dX12_sort_29 rfl (by decide) (by omega) (fun b12 => ?_)
      have rb12 := (show Rfx 121 0 4 so by assumption) (Int.toNat x1) (by omega)
      refine r_goto (pc := 30) (tgt := 34) dX12_sort_30 (by decide) ?_
      refine Rn.pick (lv' := []) [] rfl ?_
      exact B34 _ ht11 (so (Int.toNat x1)) ⟨by omega, by omega⟩
  · refine r_iconst (pc := 9) (v := iv 0) dX12_sort_9 (by decide) ?_
    refine r_goto (pc := 10) (tgt := 14) dX12_sort_10 (by decide) ?_
    refine t_putX (pc := 14) (ty := .int) ht6 RG_y fX12_142 tyX12 tyX12_ok nmX12 (by decide +kernel) (Or.inl rfl) dX12_sort_14 (Nat.le_of_ble_eq_true rfl) rfl rfl rfl (fun hp13 ht14 => ?_)
    have ht15 := RGw_rf ht14
    refine r_aload_n (pc := 17) dX12_sort_17 (i := 0) rfl rfl ?_
    refine t_getE (pc := 18) (.int (iv 0)) ht15 (rd_of RG_y) fX12_142 dX12_sort_18 rfl ?_
    have B34 : ∀ hp34 : MH, Tw (RG Γ cI cJ cZ y 0 cn nm so sz dr mn fr tt wt co nu qi qc nf nt nw nc) hp34 → ∀  (u34_0 : Int), 0 ≤ u34_0 ∧ u34_0 ≤ 4 → Rn (gG D cI cJ cZ cT lo b L xs) mX12_sort d 34 [] [.int (iv u34_0)] hp34 n 0 0 (q_X12_sort Γ cI cJ cZ y n rf cn nm so sz dr mn fr tt wt co nu qi qc nf nt nw nc x1) := by
      intro hp34 ht34 u34_0 hf34
      exact r_iret (pc := 34) dX12_sort_34 rfl ⟨rfl, 0, cn, nm, so, sz, dr, mn, fr, tt, wt, co, nu, qi, qc, nf, nt, nw, nc, u34_0, ht34, rfl, (by (first | assumption | exact RK_set hk (by omega) (by omega))), (by (first | assumption | exact df_r _ _ _ _ _ _ _)), (by omega)⟩
    refine t_if_ne (pc := 21) (tgt := 33) dX12_sort_21 (by decide) (by omega) (fun c21 => ?_) (fun c21 => ?_)
    · refine r_iconst (pc := 33) (v := iv 0) dX12_sort_33 (by decide) ?_
      refine Rn.pick (lv' := []) [] rfl ?_
      exact B34 _ ht15 0 ⟨by omega, by omega⟩
    · refine r_aload_n (pc := 24) dX12_sort_24 (i := 0) rfl rfl ?_
      refine t_getE (pc := 25) (.ref (y + 1)) ht15 (rd_of RG_y) fX12_7 dX12_sort_25 rfl ?_
      refine r_iload_n (pc := 28) dX12_sort_28 (i := 1) rfl rfl ?_
      refine t_ialdX (pc := 29) (t0 := 0) ht15 (rd_of RG_sorts) dX12_sort_29 rfl (by decide) (by omega) (fun b16 => ?_)
      have rb16 := (show Rfx 121 0 4 so by assumption) (Int.toNat x1) (by omega)
      refine r_goto (pc := 30) (tgt := 34) dX12_sort_30 (by decide) ?_
      refine Rn.pick (lv' := []) [] rfl ?_
      exact B34 _ ht15 (so (Int.toNat x1)) ⟨by omega, by omega⟩
def q_X12_of (Γ : TG) (cI cJ cZ : ClassId) (y n : Nat) (rf cn nm : Int) (so sz dr mn fr tt wt co : Nat → Int) (nu : Nat → Int64) (qi qc nf nt nw nc : Nat → Int) (x1 x2 x3 : Int) : Option Value → MH → Nat → Prop := fun r hp1 n1 => n1 = n ∧ ∃ (rf' : Int) (cn' : Int) (nm' : Int) (so' : Nat → Int) (sz' : Nat → Int) (dr' : Nat → Int) (mn' : Nat → Int) (fr' : Nat → Int) (tt' : Nat → Int) (wt' : Nat → Int) (co' : Nat → Int) (nu' : Nat → Int64) (qi' : Nat → Int) (qc' : Nat → Int) (nf' : Nat → Int) (nt' : Nat → Int) (nw' : Nat → Int) (nc' : Nat → Int) (v' : Int), Tw (RG Γ cI cJ cZ y rf' cn' nm' so' sz' dr' mn' fr' tt' wt' co' nu' qi' qc' nf' nt' nw' nc') hp1 ∧ r = some (.int (iv v')) ∧ (RK rf' cn' nm' so' sz' dr' mn' fr' tt' wt' co' nu' qi' qc' nf' nt' nw' nc') ∧ (dfE sz dr mn fr tt wt co sz' dr' mn' fr' tt' wt' co') ∧ (-2147483648 ≤ v' ∧ v' ≤ 2147483647)
set_option maxHeartbeats 4000000 in
set_option maxRecDepth 100000 in
theorem s_X12_of {D : va_G} {cI cJ cZ cT : ClassId} {lo b L : Nat} {xs : Nat → Int32} {hp : MH} {n d : Nat} {Γ : TG} {y : Nat} {rf cn nm : Int} {so sz dr mn fr tt wt co : Nat → Int} {nu : Nat → Int64} {qi qc nf nt nw nc : Nat → Int} {x1 x2 x3 : Int} (hd0 : 2 ≤ d) (hk : RK rf cn nm so sz dr mn fr tt wt co nu qi qc nf nt nw nc) (ht : Tw (RG Γ cI cJ cZ y rf cn nm so sz dr mn fr tt wt co nu qi qc nf nt nw nc) hp) (hx1 : (-2147483648) ≤ x1 ∧ x1 ≤ 2147483647) (hx2 : (-2147483648) ≤ x2 ∧ x2 ≤ 2147483647) (hx3 : (-2147483648) ≤ x3 ∧ x3 ≤ 2147483647) : Mt (gG D cI cJ cZ cT lo b L xs) mX12_of d 0 0 [.ref y, .int (iv x1), .int (iv x2), .int (iv x3)] hp n (q_X12_of Γ cI cJ cZ y n rf cn nm so sz dr mn fr tt wt co nu qi qc nf nt nw nc x1 x2 x3) := by
  refine Mt.of rfl (Nat.le_of_ble_eq_true rfl) ?_
  refine Rn.pick (lv' := [(0, .ref y), (1, .int (iv x1)), (2, .int (iv x2)), (3, .int (iv x3))]) [0, 1, 2, 3] rfl ?_
  obtain ⟨hR_sorts, hR_sizes, hR_directs, hR_many, hR_from, hR_to, hR_weight, hR_cost, hR_inPart, hR_partCount, hcn, hrf, hnm, hdf, hgr, hpa, hsz⟩ := id hk
  refine r_aload_n (pc := 0) dX12_of_0 (i := 0) rfl rfl ?_
  refine r_iload_n (pc := 1) dX12_of_1 (i := 1) rfl rfl ?_
  refine r_iconst (pc := 2) (v := iv 1) dX12_of_2 (by decide) ?_
  obtain ⟨fs5, hfs5⟩ := t_obj ht (rd_of RG_y)
  refine r_callV (pc := 3) (as := [.int (iv x1), .int (iv 1)]) (st := []) kX12_183 rfl dX12_of_3 hfs5 (s_X12_has (d := d - 1) (x1 := x1) (x2 := 1) (by omega) (by omega) (by assumption) ht (by omega) (by omega)) rfl (by omega) (Nat.le_of_ble_eq_true rfl) (Nat.zero_le _) (Nat.zero_le _) rfl (fun r2 hp1 n3 hq4 => ?_)
  obtain ⟨hnn3, v_8, b_9, ht6, hrr2, hhq40, hhq41⟩ := hq4
  subst n3 r2
  have hhq40 : -2 ≤ v_8 ∧ v_8 ≤ 0 ∧ (b_9 = 0 ∨ b_9 = 1) := hhq40
  have hhq41 : (b_9 = 1 ∧ v_8 = 0 ∧ 0 ≤ x1 ∧ x1 < cn ∧ so (Int.toNat x1) = 1) ∨ (b_9 = 0 ∧ v_8 = -1 ∧ ¬ (0 ≤ x1 ∧ x1 < cn)) ∨ (b_9 = 0 ∧ v_8 = -2 ∧ 0 ≤ x1 ∧ x1 < cn ∧ so (Int.toNat x1) ≠ 1) := hhq41
  change Rn _ _ _ 6 _ [.int (iv b_9)] _ _ _ _ _
  refine t_if_ne (pc := 6) (tgt := 11) dX12_of_6 (by decide) (by omega) (fun c6 => ?_) (fun c6 => ?_)
  · have rsz6 := hR_sizes (Int.toNat x1) (by omega)
    have rsy6 := hsz x1 (by omega) (by omega)
    have hen := hgr x1 (by omega) (by omega) (by omega)
    have rmn6 := hR_many (Int.toNat x1) (by omega)
    refine r_iload_n (pc := 11) dX12_of_11 (i := 2) rfl rfl ?_
    have B40 : ∀ hp40 : MH, Tw (RG Γ cI cJ cZ y v_8 cn nm so sz dr mn fr tt wt co nu qi qc nf nt nw nc) hp40 → True → Rn (gG D cI cJ cZ cT lo b L xs) mX12_of d 40 [(0, .ref y)] [] hp40 n 0 0 (q_X12_of Γ cI cJ cZ y n rf cn nm so sz dr mn fr tt wt co nu qi qc nf nt nw nc x1 x2 x3) := by
      intro hp40 ht40 hf40
      refine r_aload_n (pc := 40) dX12_of_40 (i := 0) rfl rfl ?_
      refine r_bipush (pc := 41) (v := iv (-3)) dX12_of_41 (by decide) ?_
      obtain ⟨fs14, hfs14⟩ := t_obj ht40 (rd_of RG_y)
      refine r_callV (pc := 43) (as := [.int (iv (-3))]) (st := []) kX12_153 rfl dX12_of_43 hfs14 (s_X12_refuse (d := d - 1) (x1 := (-3)) (by omega) ht40 (by omega)) rfl (by omega) (Nat.le_of_ble_eq_true rfl) (Nat.zero_le _) (Nat.zero_le _) rfl (fun r11 hp10 n12 hq13 => ?_)
      obtain ⟨hnn12, ht15, hrr11⟩ := hq13
      subst n12 r11
      change Rn _ _ _ 46 _ [.int (iv (-3))] _ _ _ _ _
      refine r_pop (pc := 46) dX12_of_46 rfl ?_
      refine r_iconst (pc := 47) (v := iv 0) dX12_of_47 (by decide) ?_
      exact r_iret (pc := 48) dX12_of_48 rfl ⟨rfl, (-3), cn, nm, so, sz, dr, mn, fr, tt, wt, co, nu, qi, qc, nf, nt, nw, nc, 0, ht15, rfl, (by (first | assumption | exact RK_set hk (by omega) (by omega))), (by (first | assumption | exact df_r _ _ _ _ _ _ _)), (by omega)⟩
    refine t_if_lt (pc := 12) (tgt := 40) dX12_of_12 (by decide) (by omega) (fun c12 => ?_) (fun c12 => ?_)
    · refine Rn.pick (lv' := [(0, .ref y)]) [0] rfl ?_
      exact B40 _ ht6 trivial
    · refine r_iload_n (pc := 15) dX12_of_15 (i := 2) rfl rfl ?_
      refine r_bipush (pc := 16) (v := iv 6) dX12_of_16 (by decide) ?_
      refine t_icmp_gt (pc := 18) (tgt := 40) dX12_of_18 (by decide) (by omega) (by omega) (fun c18 => ?_) (fun c18 => ?_)
      · refine Rn.pick (lv' := [(0, .ref y)]) [0] rfl ?_
        exact B40 _ ht6 trivial
      · refine r_iload_n (pc := 21) dX12_of_21 (i := 2) rfl rfl ?_
        refine r_iconst (pc := 22) (v := iv 2) dX12_of_22 (by decide) ?_
        have B49 : ∀ hp49 : MH, Tw (RG Γ cI cJ cZ y v_8 cn nm so sz dr mn fr tt wt co nu qi qc nf nt nw nc) hp49 → (2 < x2 → 0 ≤ x3 ∧ x3 < (mn (Int.toNat x1))) → Rn (gG D cI cJ cZ cT lo b L xs) mX12_of d 49 [(0, .ref y), (1, .int (iv x1)), (2, .int (iv x2)), (3, .int (iv x3))] [] hp49 n 0 0 (q_X12_of Γ cI cJ cZ y n rf cn nm so sz dr mn fr tt wt co nu qi qc nf nt nw nc x1 x2 x3) := by
          intro hp49 ht49 hf49
          refine r_iload_n (pc := 49) dX12_of_49 (i := 2) rfl rfl ?_
          refine r_iconst (pc := 50) (v := iv 2) dX12_of_50 (by decide) ?_
          have B63 : ∀ hp63 : MH, Tw (RG Γ cI cJ cZ y v_8 cn nm so sz dr mn fr tt wt co nu qi qc nf nt nw nc) hp63 → ∀  (u63_0 : Int), 0 ≤ u63_0 ∧ u63_0 ≤ 7259 → Rn (gG D cI cJ cZ cT lo b L xs) mX12_of d 63 [(0, .ref y), (1, .int (iv x1)), (2, .int (iv x2))] [.int (iv u63_0)] hp63 n 0 0 (q_X12_of Γ cI cJ cZ y n rf cn nm so sz dr mn fr tt wt co nu qi qc nf nt nw nc x1 x2 x3) := by
            intro hp63 ht63 u63_0 hf63
            refine r_istore (pc := 63) (lv' := [(4, .int (iv u63_0)), (0, .ref y), (1, .int (iv x1)), (2, .int (iv x2))]) dX12_of_63 (by decide) rfl ?_
            refine r_iload_n (pc := 65) dX12_of_65 (i := 2) rfl rfl ?_
            have B166 : ∀ hp166 : MH, Tw (RG Γ cI cJ cZ y v_8 cn nm so sz dr mn fr tt wt co nu qi qc nf nt nw nc) hp166 → ∀  (u166_0 : Int), (-1000) ≤ u166_0 ∧ u166_0 ≤ 1000 → Rn (gG D cI cJ cZ cT lo b L xs) mX12_of d 166 [] [.int (iv u166_0)] hp166 n 0 0 (q_X12_of Γ cI cJ cZ y n rf cn nm so sz dr mn fr tt wt co nu qi qc nf nt nw nc x1 x2 x3) := by
              intro hp166 ht166 u166_0 hf166
              exact r_iret (pc := 166) dX12_of_166 rfl ⟨rfl, v_8, cn, nm, so, sz, dr, mn, fr, tt, wt, co, nu, qi, qc, nf, nt, nw, nc, u166_0, ht166, rfl, (by (first | assumption | exact RK_set hk (by omega) (by omega))), (by (first | assumption | exact df_r _ _ _ _ _ _ _)), (by omega)⟩
            refine t_if_ne (pc := 66) (tgt := 78) dX12_of_66 (by decide) (by omega) (fun c66 => ?_) (fun c66 => ?_)
            · refine r_iload_n (pc := 78) dX12_of_78 (i := 2) rfl rfl ?_
              refine r_iconst (pc := 79) (v := iv 1) dX12_of_79 (by decide) ?_
              refine t_icmp_ne (pc := 80) (tgt := 92) dX12_of_80 (by decide) (by omega) (by omega) (fun c80 => ?_) (fun c80 => ?_)
              · refine r_iload_n (pc := 92) dX12_of_92 (i := 2) rfl rfl ?_
                refine r_iconst (pc := 93) (v := iv 2) dX12_of_93 (by decide) ?_
                refine t_icmp_ne (pc := 94) (tgt := 114) dX12_of_94 (by decide) (by omega) (by omega) (fun c94 => ?_) (fun c94 => ?_)
                · refine r_iload_n (pc := 114) dX12_of_114 (i := 2) rfl rfl ?_
                  refine r_iconst (pc := 115) (v := iv 3) dX12_of_115 (by decide) ?_
                  refine t_icmp_ne (pc := 116) (tgt := 129) dX12_of_116 (by decide) (by omega) (by omega) (fun c116 => ?_) (fun c116 => ?_)
                  · refine r_iload_n (pc := 129) dX12_of_129 (i := 2) rfl rfl ?_
                    refine r_iconst (pc := 130) (v := iv 4) dX12_of_130 (by decide) ?_
                    refine t_icmp_ne (pc := 131) (tgt := 144) dX12_of_131 (by decide) (by omega) (by omega) (fun c131 => ?_) (fun c131 => ?_)
                    · refine r_iload_n (pc := 144) dX12_of_144 (i := 2) rfl rfl ?_
                      refine r_iconst (pc := 145) (v := iv 5) dX12_of_145 (by decide) ?_
                      refine t_icmp_ne (pc := 146) (tgt := 159) dX12_of_146 (by decide) (by omega) (by omega) (fun c146 => ?_) (fun c146 => ?_)
                      · refine r_aload_n (pc := 159) dX12_of_159 (i := 0) rfl rfl ?_
                        refine t_getE (pc := 160) (.ref (y + 8)) ht63 (rd_of RG_y) fX12_32 dX12_of_160 rfl ?_
                        refine r_iload (pc := 163) dX12_of_163 rfl ?_
                        refine t_ialdX (pc := 165) (t0 := 0) ht63 (rd_of RG_cost) dX12_of_165 rfl (by decide) (by omega) (fun b17 => ?_)
                        have rb17 := (show Rfx 7260 (-1000) 1000 co by assumption) (Int.toNat u63_0) (by omega)
                        refine Rn.pick (lv' := []) [] rfl ?_
                        exact B166 _ ht63 (co (Int.toNat u63_0)) ⟨by omega, by omega⟩
                      · refine r_aload_n (pc := 149) dX12_of_149 (i := 0) rfl rfl ?_
                        refine t_getE (pc := 150) (.ref (y + 7)) ht63 (rd_of RG_y) fX12_29 dX12_of_150 rfl ?_
                        refine r_iload (pc := 153) dX12_of_153 rfl ?_
                        refine t_ialdX (pc := 155) (t0 := 0) ht63 (rd_of RG_weight) dX12_of_155 rfl (by decide) (by omega) (fun b18 => ?_)
                        have rb18 := (show Rfx 7260 (-1000) 1000 wt by assumption) (Int.toNat u63_0) (by omega)
                        refine r_goto (pc := 156) (tgt := 166) dX12_of_156 (by decide) ?_
                        refine Rn.pick (lv' := []) [] rfl ?_
                        exact B166 _ ht63 (wt (Int.toNat u63_0)) ⟨by omega, by omega⟩
                    · refine r_aload_n (pc := 134) dX12_of_134 (i := 0) rfl rfl ?_
                      refine t_getE (pc := 135) (.ref (y + 6)) ht63 (rd_of RG_y) fX12_26 dX12_of_135 rfl ?_
                      refine r_iload (pc := 138) dX12_of_138 rfl ?_
                      refine t_ialdX (pc := 140) (t0 := 0) ht63 (rd_of RG_to) dX12_of_140 rfl (by decide) (by omega) (fun b19 => ?_)
                      have rb19 := (show Rfx 7260 0 15 tt by assumption) (Int.toNat u63_0) (by omega)
                      refine r_goto (pc := 141) (tgt := 166) dX12_of_141 (by decide) ?_
                      refine Rn.pick (lv' := []) [] rfl ?_
                      exact B166 _ ht63 (tt (Int.toNat u63_0)) ⟨by omega, by omega⟩
                  · refine r_aload_n (pc := 119) dX12_of_119 (i := 0) rfl rfl ?_
                    refine t_getE (pc := 120) (.ref (y + 5)) ht63 (rd_of RG_y) fX12_23 dX12_of_120 rfl ?_
                    refine r_iload (pc := 123) dX12_of_123 rfl ?_
                    refine t_ialdX (pc := 125) (t0 := 0) ht63 (rd_of RG_from) dX12_of_125 rfl (by decide) (by omega) (fun b20 => ?_)
                    have rb20 := (show Rfx 7260 0 15 fr by assumption) (Int.toNat u63_0) (by omega)
                    refine r_goto (pc := 126) (tgt := 166) dX12_of_126 (by decide) ?_
                    refine Rn.pick (lv' := []) [] rfl ?_
                    exact B166 _ ht63 (fr (Int.toNat u63_0)) ⟨by omega, by omega⟩
                · refine r_aload_n (pc := 97) dX12_of_97 (i := 0) rfl rfl ?_
                  refine t_getE (pc := 98) (.ref (y + 3)) ht63 (rd_of RG_y) fX12_16 dX12_of_98 rfl ?_
                  refine r_iload_n (pc := 101) dX12_of_101 (i := 1) rfl rfl ?_
                  refine t_zaldX (pc := 102) (t0 := 2) ht63 (rd_of RG_directs) dX12_of_102 rfl (by decide) (by omega) (fun b21 => ?_)
                  have rb21 := (show Rfx 121 0 1 dr by assumption) (Int.toNat x1) (by omega)
                  refine t_if_eq (pc := 103) (tgt := 110) dX12_of_103 (by decide) (by omega) (fun c103 => ?_) (fun c103 => ?_)
                  · refine r_iconst (pc := 110) (v := iv 0) dX12_of_110 (by decide) ?_
                    refine r_goto (pc := 111) (tgt := 166) dX12_of_111 (by decide) ?_
                    refine Rn.pick (lv' := []) [] rfl ?_
                    exact B166 _ ht63 0 ⟨by omega, by omega⟩
                  · refine r_iconst (pc := 106) (v := iv 1) dX12_of_106 (by decide) ?_
                    refine r_goto (pc := 107) (tgt := 166) dX12_of_107 (by decide) ?_
                    refine Rn.pick (lv' := []) [] rfl ?_
                    exact B166 _ ht63 1 ⟨by omega, by omega⟩
              · refine r_aload_n (pc := 83) dX12_of_83 (i := 0) rfl rfl ?_
                refine t_getE (pc := 84) (.ref (y + 4)) ht63 (rd_of RG_y) fX12_20 dX12_of_84 rfl ?_
                refine r_iload_n (pc := 87) dX12_of_87 (i := 1) rfl rfl ?_
                refine t_ialdX (pc := 88) (t0 := 0) ht63 (rd_of RG_many) dX12_of_88 rfl (by decide) (by omega) (fun b22 => ?_)
                have rb22 := (show Rfx 121 0 60 mn by assumption) (Int.toNat x1) (by omega)
                refine r_goto (pc := 89) (tgt := 166) dX12_of_89 (by decide) ?_
                refine Rn.pick (lv' := []) [] rfl ?_
                exact B166 _ ht63 (mn (Int.toNat x1)) ⟨by omega, by omega⟩
            · refine r_aload_n (pc := 69) dX12_of_69 (i := 0) rfl rfl ?_
              refine t_getE (pc := 70) (.ref (y + 2)) ht63 (rd_of RG_y) fX12_13 dX12_of_70 rfl ?_
              refine r_iload_n (pc := 73) dX12_of_73 (i := 1) rfl rfl ?_
              refine t_ialdX (pc := 74) (t0 := 0) ht63 (rd_of RG_sizes) dX12_of_74 rfl (by decide) (by omega) (fun b23 => ?_)
              have rb23 := (show Rfx 121 0 16 sz by assumption) (Int.toNat x1) (by omega)
              refine r_goto (pc := 75) (tgt := 166) dX12_of_75 (by decide) ?_
              refine Rn.pick (lv' := []) [] rfl ?_
              exact B166 _ ht63 (sz (Int.toNat x1)) ⟨by omega, by omega⟩
          refine t_icmp_le (pc := 51) (tgt := 62) dX12_of_51 (by decide) (by omega) (by omega) (fun c51 => ?_) (fun c51 => ?_)
          · refine r_iconst (pc := 62) (v := iv 0) dX12_of_62 (by decide) ?_
            refine Rn.pick (lv' := [(0, .ref y), (1, .int (iv x1)), (2, .int (iv x2))]) [0, 1, 2] rfl ?_
            exact B63 _ ht49 0 ⟨by omega, by omega⟩
          · refine r_iload_n (pc := 54) dX12_of_54 (i := 1) rfl rfl ?_
            refine r_iload_n (pc := 55) dX12_of_55 (i := 3) rfl rfl ?_
            refine t_callSI (pc := 56) (as := [.int (iv x1), .int (iv x3)]) (st := []) kX12_157 dX12_of_56 (t_X12_at1x (d := d - 1) (x1 := x1) (x2 := x3) (by omega)  ht49 (by omega) (by omega)) rfl (by omega) (Nat.le_of_ble_eq_true rfl) rfl (fun hp24 y26 ht25 by26 => ?_)
            have ey26 : y26 = 60 * x1 + x3 := by26
            subst ey26
            refine r_goto (pc := 59) (tgt := 63) dX12_of_59 (by decide) ?_
            refine Rn.pick (lv' := [(0, .ref y), (1, .int (iv x1)), (2, .int (iv x2))]) [0, 1, 2] rfl ?_
            exact B63 _ ht25 (60 * x1 + x3) ⟨by omega, by omega⟩
        refine t_icmp_le (pc := 23) (tgt := 49) dX12_of_23 (by decide) (by omega) (by omega) (fun c23 => ?_) (fun c23 => ?_)
        · refine Rn.pick (lv' := [(0, .ref y), (1, .int (iv x1)), (2, .int (iv x2)), (3, .int (iv x3))]) [0, 1, 2, 3] rfl ?_
          exact B49 _ ht6 (by omega)
        · refine r_iload_n (pc := 26) dX12_of_26 (i := 3) rfl rfl ?_
          refine t_if_lt (pc := 27) (tgt := 40) dX12_of_27 (by decide) (by omega) (fun c27 => ?_) (fun c27 => ?_)
          · refine Rn.pick (lv' := [(0, .ref y)]) [0] rfl ?_
            exact B40 _ ht6 trivial
          · refine r_iload_n (pc := 30) dX12_of_30 (i := 3) rfl rfl ?_
            refine r_aload_n (pc := 31) dX12_of_31 (i := 0) rfl rfl ?_
            refine t_getE (pc := 32) (.ref (y + 4)) ht6 (rd_of RG_y) fX12_20 dX12_of_32 rfl ?_
            refine r_iload_n (pc := 35) dX12_of_35 (i := 1) rfl rfl ?_
            refine t_ialdX (pc := 36) (t0 := 0) ht6 (rd_of RG_many) dX12_of_36 rfl (by decide) (by omega) (fun b27 => ?_)
            have rb27 := (show Rfx 121 0 60 mn by assumption) (Int.toNat x1) (by omega)
            refine t_icmp_lt (pc := 37) (tgt := 49) dX12_of_37 (by decide) (by omega) (by omega) (fun c37 => ?_) (fun c37 => ?_)
            · refine Rn.pick (lv' := [(0, .ref y), (1, .int (iv x1)), (2, .int (iv x2)), (3, .int (iv x3))]) [0, 1, 2, 3] rfl ?_
              exact B49 _ ht6 (by omega)
            · refine Rn.pick (lv' := [(0, .ref y)]) [0] rfl ?_
              exact B40 _ ht6 trivial
  · refine r_iconst (pc := 9) (v := iv 0) dX12_of_9 (by decide) ?_
    exact r_iret (pc := 10) dX12_of_10 rfl ⟨rfl, v_8, cn, nm, so, sz, dr, mn, fr, tt, wt, co, nu, qi, qc, nf, nt, nw, nc, 0, ht6, rfl, (by (first | assumption | exact RK_set hk (by omega) (by omega))), (by (first | assumption | exact df_r _ _ _ _ _ _ _)), (by omega)⟩
def q_X12_at (Γ : TG) (cI cJ cZ : ClassId) (y n : Nat) (rf cn nm : Int) (so sz dr mn fr tt wt co : Nat → Int) (nu : Nat → Int64) (qi qc nf nt nw nc : Nat → Int) (x1 x2 : Int) : Option Value → MH → Nat → Prop := fun r hp1 n1 => n1 = n ∧ ∃ (rf' : Int) (cn' : Int) (nm' : Int) (so' : Nat → Int) (sz' : Nat → Int) (dr' : Nat → Int) (mn' : Nat → Int) (fr' : Nat → Int) (tt' : Nat → Int) (wt' : Nat → Int) (co' : Nat → Int) (nu' : Nat → Int64) (qi' : Nat → Int) (qc' : Nat → Int) (nf' : Nat → Int) (nt' : Nat → Int) (nw' : Nat → Int) (nc' : Nat → Int) (v' : Int64), Tw (RG Γ cI cJ cZ y rf' cn' nm' so' sz' dr' mn' fr' tt' wt' co' nu' qi' qc' nf' nt' nw' nc') hp1 ∧ r = some (.long v') ∧ (RK rf' cn' nm' so' sz' dr' mn' fr' tt' wt' co' nu' qi' qc' nf' nt' nw' nc') ∧ (dfE sz dr mn fr tt wt co sz' dr' mn' fr' tt' wt' co')
set_option maxHeartbeats 4000000 in
set_option maxRecDepth 100000 in
theorem s_X12_at {D : va_G} {cI cJ cZ cT : ClassId} {lo b L : Nat} {xs : Nat → Int32} {hp : MH} {n d : Nat} {Γ : TG} {y : Nat} {rf cn nm : Int} {so sz dr mn fr tt wt co : Nat → Int} {nu : Nat → Int64} {qi qc nf nt nw nc : Nat → Int} {x1 x2 : Int} (hd0 : 2 ≤ d) (hk : RK rf cn nm so sz dr mn fr tt wt co nu qi qc nf nt nw nc) (ht : Tw (RG Γ cI cJ cZ y rf cn nm so sz dr mn fr tt wt co nu qi qc nf nt nw nc) hp) (hx1 : (-2147483648) ≤ x1 ∧ x1 ≤ 2147483647) (hx2 : (-2147483648) ≤ x2 ∧ x2 ≤ 2147483647) : Mt (gG D cI cJ cZ cT lo b L xs) mX12_at d 0 0 [.ref y, .int (iv x1), .int (iv x2)] hp n (q_X12_at Γ cI cJ cZ y n rf cn nm so sz dr mn fr tt wt co nu qi qc nf nt nw nc x1 x2) := by
  refine Mt.of rfl (Nat.le_of_ble_eq_true rfl) ?_
  refine Rn.pick (lv' := [(0, .ref y), (1, .int (iv x1)), (2, .int (iv x2))]) [0, 1, 2] rfl ?_
  obtain ⟨hR_sorts, hR_sizes, hR_directs, hR_many, hR_from, hR_to, hR_weight, hR_cost, hR_inPart, hR_partCount, hcn, hrf, hnm, hdf, hgr, hpa, hsz⟩ := id hk
  refine r_aload_n (pc := 0) dX12_at_0 (i := 0) rfl rfl ?_
  refine r_iload_n (pc := 1) dX12_at_1 (i := 1) rfl rfl ?_
  refine r_iconst (pc := 2) (v := iv 2) dX12_at_2 (by decide) ?_
  obtain ⟨fs5, hfs5⟩ := t_obj ht (rd_of RG_y)
  refine r_callV (pc := 3) (as := [.int (iv x1), .int (iv 2)]) (st := []) kX12_183 rfl dX12_at_3 hfs5 (s_X12_has (d := d - 1) (x1 := x1) (x2 := 2) (by omega) (by omega) (by assumption) ht (by omega) (by omega)) rfl (by omega) (Nat.le_of_ble_eq_true rfl) (Nat.zero_le _) (Nat.zero_le _) rfl (fun r2 hp1 n3 hq4 => ?_)
  obtain ⟨hnn3, v_8, b_9, ht6, hrr2, hhq40, hhq41⟩ := hq4
  subst n3 r2
  have hhq40 : -2 ≤ v_8 ∧ v_8 ≤ 0 ∧ (b_9 = 0 ∨ b_9 = 1) := hhq40
  have hhq41 : (b_9 = 1 ∧ v_8 = 0 ∧ 0 ≤ x1 ∧ x1 < cn ∧ so (Int.toNat x1) = 2) ∨ (b_9 = 0 ∧ v_8 = -1 ∧ ¬ (0 ≤ x1 ∧ x1 < cn)) ∨ (b_9 = 0 ∧ v_8 = -2 ∧ 0 ≤ x1 ∧ x1 < cn ∧ so (Int.toNat x1) ≠ 2) := hhq41
  change Rn _ _ _ 6 _ [.int (iv b_9)] _ _ _ _ _
  refine t_if_ne (pc := 6) (tgt := 11) dX12_at_6 (by decide) (by omega) (fun c6 => ?_) (fun c6 => ?_)
  · have rsz6 := hR_sizes (Int.toNat x1) (by omega)
    have rsy6 := hsz x1 (by omega) (by omega)
    refine r_iload_n (pc := 11) dX12_at_11 (i := 2) rfl rfl ?_
    refine r_iconst (pc := 12) (v := iv (-1)) dX12_at_12 (by decide) ?_
    refine t_icmp_ne (pc := 13) (tgt := 55) dX12_at_13 (by decide) (by omega) (by omega) (fun c13 => ?_) (fun c13 => ?_)
    · refine r_aload_n (pc := 55) dX12_at_55 (i := 0) rfl rfl ?_
      refine r_iload_n (pc := 56) dX12_at_56 (i := 1) rfl rfl ?_
      refine r_iload_n (pc := 57) dX12_at_57 (i := 2) rfl rfl ?_
      obtain ⟨fs14, hfs14⟩ := t_obj ht6 (rd_of RG_y)
      refine r_callV (pc := 58) (as := [.int (iv x1), .int (iv x2)]) (st := []) kX12_307 rfl dX12_at_58 hfs14 (s_X12_isNode (d := d - 1) (x1 := x1) (x2 := x2) (by omega) (by assumption) (by omega) ht6 (by omega) (by omega)) rfl (by omega) (Nat.le_of_ble_eq_true rfl) (Nat.zero_le _) (Nat.zero_le _) rfl (fun r11 hp10 n12 hq13 => ?_)
      obtain ⟨hnn12, v_17, b_18, ht15, hrr11, hhq130⟩ := hq13
      subst n12 r11
      have hhq130 : (b_18 = 1 ∧ v_17 = v_8 ∧ 0 ≤ x2 ∧ x2 < sz (Int.toNat x1)) ∨ (b_18 = 0 ∧ v_17 = -3 ∧ ¬ (0 ≤ x2 ∧ x2 < sz (Int.toNat x1))) := hhq130
      change Rn _ _ _ 61 _ [.int (iv b_18)] _ _ _ _ _
      have B79 : ∀ hp79 : MH, Tw (RG Γ cI cJ cZ y v_17 cn nm so sz dr mn fr tt wt co nu qi qc nf nt nw nc) hp79 → ∀  (x79_0 : Int64), True → Rn (gG D cI cJ cZ cT lo b L xs) mX12_at d 79 [] [.long x79_0] hp79 n 0 0 (q_X12_at Γ cI cJ cZ y n rf cn nm so sz dr mn fr tt wt co nu qi qc nf nt nw nc x1 x2) := by
        intro hp79 ht79 x79_0 hf79
        exact r_lret (pc := 79) dX12_at_79 rfl ⟨rfl, v_17, cn, nm, so, sz, dr, mn, fr, tt, wt, co, nu, qi, qc, nf, nt, nw, nc, x79_0, ht79, rfl, (by (first | assumption | exact RK_set hk (by omega) (by omega))), (by (first | assumption | exact df_r _ _ _ _ _ _ _))⟩
      refine t_if_eq (pc := 61) (tgt := 78) dX12_at_61 (by decide) (by omega) (fun c61 => ?_) (fun c61 => ?_)
      · refine r_lconst (pc := 78) (v := 0) dX12_at_78 (by decide) ?_
        refine Rn.pick (lv' := []) [] rfl ?_
        exact B79 _ ht15 (0 : Int64) trivial
      · refine r_aload_n (pc := 64) dX12_at_64 (i := 0) rfl rfl ?_
        refine t_getE (pc := 65) (.ref (y + 9)) ht15 (rd_of RG_y) fX12_35 dX12_at_65 rfl ?_
        refine r_bipush (pc := 68) (v := iv 16) dX12_at_68 (by decide) ?_
        refine r_iload_n (pc := 70) dX12_at_70 (i := 1) rfl rfl ?_
        refine r_imul (pc := 71) (v := iv (16 * x1)) dX12_at_71 (iv_mul _ _) ?_
        refine r_iload_n (pc := 72) dX12_at_72 (i := 2) rfl rfl ?_
        refine r_iadd (pc := 73) (v := iv ((16 * x1) + x2)) dX12_at_73 (iv_add _ _) ?_
        refine t_laldX (pc := 74) (t0 := 1) ht15 (rd_of RG_numbers) dX12_at_74 rfl (by decide) (by omega) ?_
        refine r_goto (pc := 75) (tgt := 79) dX12_at_75 (by decide) ?_
        refine Rn.pick (lv' := []) [] rfl ?_
        exact B79 _ ht15 (nu (Int.toNat ((16 * x1) + x2))) trivial
    · refine r_lconst (pc := 16) (v := 0) dX12_at_16 (by decide) ?_
      refine r_lstore_n (pc := 17) (lv' := [(3, .long (0 : Int64)), (0, .ref y), (1, .int (iv x1)), (2, .int (iv x2))]) dX12_at_17 (i := 3) rfl (by decide) rfl ?_
      refine r_iconst (pc := 18) (v := iv 0) dX12_at_18 (by decide) ?_
      refine r_istore (pc := 19) (lv' := [(5, .int (iv 0)), (3, .long (0 : Int64)), (0, .ref y), (1, .int (iv x1)), (2, .int (iv x2))]) dX12_at_19 (by decide) rfl ?_
      have B21 : ∀ k : Nat, ∀ hp21 : MH, Tw (RG Γ cI cJ cZ y v_8 cn nm so sz dr mn fr tt wt co nu qi qc nf nt nw nc) hp21 → ∀  (v21_5 : Int) (w21_3 : Int64), 0 ≤ v21_5 ∧ v21_5 ≤ 16 → 16 - v21_5 ≤ (k : Int) → Rn (gG D cI cJ cZ cT lo b L xs) mX12_at d 21 [(0, .ref y), (1, .int (iv x1)), (3, .long w21_3), (5, .int (iv v21_5))] [] hp21 n 0 0 (q_X12_at Γ cI cJ cZ y n rf cn nm so sz dr mn fr tt wt co nu qi qc nf nt nw nc x1 x2) := by
        refine lpS _ ?_
        intro k21 ih21 hp21 ht21 v21_5 w21_3 hf21 hm21
        refine r_iload (pc := 21) dX12_at_21 rfl ?_
        refine r_aload_n (pc := 23) dX12_at_23 (i := 0) rfl rfl ?_
        refine t_getE (pc := 24) (.ref (y + 2)) ht21 (rd_of RG_y) fX12_13 dX12_at_24 rfl ?_
        refine r_iload_n (pc := 27) dX12_at_27 (i := 1) rfl rfl ?_
        refine t_ialdX (pc := 28) (t0 := 0) ht21 (rd_of RG_sizes) dX12_at_28 rfl (by decide) (by omega) (fun b19 => ?_)
        have rb19 := (show Rfx 121 0 16 sz by assumption) (Int.toNat x1) (by omega)
        refine t_icmp_ge (pc := 29) (tgt := 53) dX12_at_29 (by decide) (by omega) (by omega) (fun c29 => ?_) (fun c29 => ?_)
        · refine r_lload_n (pc := 53) dX12_at_53 (i := 3) rfl rfl ?_
          exact r_lret (pc := 54) dX12_at_54 rfl ⟨rfl, v_8, cn, nm, so, sz, dr, mn, fr, tt, wt, co, nu, qi, qc, nf, nt, nw, nc, w21_3, ht21, rfl, (by (first | assumption | exact RK_set hk (by omega) (by omega))), (by (first | assumption | exact df_r _ _ _ _ _ _ _))⟩
        · refine r_lload_n (pc := 32) dX12_at_32 (i := 3) rfl rfl ?_
          refine r_aload_n (pc := 33) dX12_at_33 (i := 0) rfl rfl ?_
          refine t_getE (pc := 34) (.ref (y + 9)) ht21 (rd_of RG_y) fX12_35 dX12_at_34 rfl ?_
          refine r_bipush (pc := 37) (v := iv 16) dX12_at_37 (by decide) ?_
          refine r_iload_n (pc := 39) dX12_at_39 (i := 1) rfl rfl ?_
          refine r_imul (pc := 40) (v := iv (16 * x1)) dX12_at_40 (iv_mul _ _) ?_
          refine r_iload (pc := 41) dX12_at_41 rfl ?_
          refine r_iadd (pc := 43) (v := iv ((16 * x1) + v21_5)) dX12_at_43 (iv_add _ _) ?_
          refine t_laldX (pc := 44) (t0 := 1) ht21 (rd_of RG_numbers) dX12_at_44 rfl (by decide) (by omega) ?_
          refine r_ladd (pc := 45) (v := w21_3 + (nu (Int.toNat ((16 * x1) + v21_5)))) dX12_at_45 rfl ?_
          refine r_lstore_n (pc := 46) (lv' := [(3, .long (w21_3 + (nu (Int.toNat ((16 * x1) + v21_5))))), (0, .ref y), (1, .int (iv x1)), (5, .int (iv v21_5))]) dX12_at_46 (i := 3) rfl (by decide) rfl ?_
          refine r_iinc (pc := 47) (v := iv (v21_5 + 1)) (lv' := [(5, .int (iv (v21_5 + 1))), (3, .long (w21_3 + (nu (Int.toNat ((16 * x1) + v21_5))))), (0, .ref y), (1, .int (iv x1))]) dX12_at_47 rfl (iv_add _ _) (by decide) rfl ?_
          refine r_goto (pc := 50) (tgt := 21) dX12_at_50 (by decide) ?_
          refine Rn.pick (lv' := [(0, .ref y), (1, .int (iv x1)), (3, .long (w21_3 + (nu (Int.toNat ((16 * x1) + v21_5))))), (5, .int (iv (v21_5 + 1)))]) [2, 3, 1, 0] rfl ?_
          exact ih21 (Int.toNat (16 - (v21_5 + 1))) (by omega) _ ht21 (v21_5 + 1) (w21_3 + (nu (Int.toNat ((16 * x1) + v21_5)))) ⟨by omega, by omega⟩ (by omega)
      refine Rn.pick (lv' := [(0, .ref y), (1, .int (iv x1)), (3, .long (0 : Int64)), (5, .int (iv 0))]) [2, 3, 1, 0] rfl ?_
      exact B21 (Int.toNat (16 - 0)) _ ht6 0 (0 : Int64) ⟨by omega, by omega⟩ (by omega)
  · refine r_lconst (pc := 9) (v := 0) dX12_at_9 (by decide) ?_
    exact r_lret (pc := 10) dX12_at_10 rfl ⟨rfl, v_8, cn, nm, so, sz, dr, mn, fr, tt, wt, co, nu, qi, qc, nf, nt, nw, nc, (0 : Int64), ht6, rfl, (by (first | assumption | exact RK_set hk (by omega) (by omega))), (by (first | assumption | exact df_r _ _ _ _ _ _ _))⟩
def q_X12_way (Γ : TG) (cI cJ cZ : ClassId) (y n : Nat) (rf cn nm : Int) (so sz dr mn fr tt wt co : Nat → Int) (nu : Nat → Int64) (qi qc nf nt nw nc : Nat → Int) (x1 x2 x3 : Int) : Option Value → MH → Nat → Prop := fun r hp1 n1 => n1 = n ∧ ∃ (rf' : Int) (cn' : Int) (nm' : Int) (so' : Nat → Int) (sz' : Nat → Int) (dr' : Nat → Int) (mn' : Nat → Int) (fr' : Nat → Int) (tt' : Nat → Int) (wt' : Nat → Int) (co' : Nat → Int) (nu' : Nat → Int64) (qi' : Nat → Int) (qc' : Nat → Int) (nf' : Nat → Int) (nt' : Nat → Int) (nw' : Nat → Int) (nc' : Nat → Int) (v' : Int64), Tw (RG Γ cI cJ cZ y rf' cn' nm' so' sz' dr' mn' fr' tt' wt' co' nu' qi' qc' nf' nt' nw' nc') hp1 ∧ r = some (.long v') ∧ (RK rf' cn' nm' so' sz' dr' mn' fr' tt' wt' co' nu' qi' qc' nf' nt' nw' nc') ∧ (dfE sz dr mn fr tt wt co sz' dr' mn' fr' tt' wt' co')
set_option maxHeartbeats 4000000 in
set_option maxRecDepth 100000 in
theorem s_X12_way {D : va_G} {cI cJ cZ cT : ClassId} {lo b L : Nat} {xs : Nat → Int32} {hp : MH} {n d : Nat} {Γ : TG} {y : Nat} {rf cn nm : Int} {so sz dr mn fr tt wt co : Nat → Int} {nu : Nat → Int64} {qi qc nf nt nw nc : Nat → Int} {x1 x2 x3 : Int} (hd0 : 2 ≤ d) (hk : RK rf cn nm so sz dr mn fr tt wt co nu qi qc nf nt nw nc) (ht : Tw (RG Γ cI cJ cZ y rf cn nm so sz dr mn fr tt wt co nu qi qc nf nt nw nc) hp) (hx1 : (-2147483648) ≤ x1 ∧ x1 ≤ 2147483647) (hx2 : (-2147483648) ≤ x2 ∧ x2 ≤ 2147483647) (hx3 : (-2147483648) ≤ x3 ∧ x3 ≤ 2147483647) : Mt (gG D cI cJ cZ cT lo b L xs) mX12_way d 0 0 [.ref y, .int (iv x1), .int (iv x2), .int (iv x3)] hp n (q_X12_way Γ cI cJ cZ y n rf cn nm so sz dr mn fr tt wt co nu qi qc nf nt nw nc x1 x2 x3) := by
  refine Mt.of rfl (Nat.le_of_ble_eq_true rfl) ?_
  refine Rn.pick (lv' := [(0, .ref y), (1, .int (iv x1)), (2, .int (iv x2)), (3, .int (iv x3))]) [0, 1, 2, 3] rfl ?_
  obtain ⟨hR_sorts, hR_sizes, hR_directs, hR_many, hR_from, hR_to, hR_weight, hR_cost, hR_inPart, hR_partCount, hcn, hrf, hnm, hdf, hgr, hpa, hsz⟩ := id hk
  refine r_aload_n (pc := 0) dX12_way_0 (i := 0) rfl rfl ?_
  refine r_iload_n (pc := 1) dX12_way_1 (i := 1) rfl rfl ?_
  refine r_iconst (pc := 2) (v := iv 3) dX12_way_2 (by decide) ?_
  obtain ⟨fs5, hfs5⟩ := t_obj ht (rd_of RG_y)
  refine r_callV (pc := 3) (as := [.int (iv x1), .int (iv 3)]) (st := []) kX12_183 rfl dX12_way_3 hfs5 (s_X12_has (d := d - 1) (x1 := x1) (x2 := 3) (by omega) (by omega) (by assumption) ht (by omega) (by omega)) rfl (by omega) (Nat.le_of_ble_eq_true rfl) (Nat.zero_le _) (Nat.zero_le _) rfl (fun r2 hp1 n3 hq4 => ?_)
  obtain ⟨hnn3, v_8, b_9, ht6, hrr2, hhq40, hhq41⟩ := hq4
  subst n3 r2
  have hhq40 : -2 ≤ v_8 ∧ v_8 ≤ 0 ∧ (b_9 = 0 ∨ b_9 = 1) := hhq40
  have hhq41 : (b_9 = 1 ∧ v_8 = 0 ∧ 0 ≤ x1 ∧ x1 < cn ∧ so (Int.toNat x1) = 3) ∨ (b_9 = 0 ∧ v_8 = -1 ∧ ¬ (0 ≤ x1 ∧ x1 < cn)) ∨ (b_9 = 0 ∧ v_8 = -2 ∧ 0 ≤ x1 ∧ x1 < cn ∧ so (Int.toNat x1) ≠ 3) := hhq41
  change Rn _ _ _ 6 _ [.int (iv b_9)] _ _ _ _ _
  refine t_if_ne (pc := 6) (tgt := 11) dX12_way_6 (by decide) (by omega) (fun c6 => ?_) (fun c6 => ?_)
  · have rsz6 := hR_sizes (Int.toNat x1) (by omega)
    have rsy6 := hsz x1 (by omega) (by omega)
    refine r_iload_n (pc := 11) dX12_way_11 (i := 3) rfl rfl ?_
    have B34 : ∀ hp34 : MH, Tw (RG Γ cI cJ cZ y v_8 cn nm so sz dr mn fr tt wt co nu qi qc nf nt nw nc) hp34 → True → Rn (gG D cI cJ cZ cT lo b L xs) mX12_way d 34 [(0, .ref y)] [] hp34 n 0 0 (q_X12_way Γ cI cJ cZ y n rf cn nm so sz dr mn fr tt wt co nu qi qc nf nt nw nc x1 x2 x3) := by
      intro hp34 ht34 hf34
      refine r_aload_n (pc := 34) dX12_way_34 (i := 0) rfl rfl ?_
      refine r_bipush (pc := 35) (v := iv (-3)) dX12_way_35 (by decide) ?_
      obtain ⟨fs14, hfs14⟩ := t_obj ht34 (rd_of RG_y)
      refine r_callV (pc := 37) (as := [.int (iv (-3))]) (st := []) kX12_153 rfl dX12_way_37 hfs14 (s_X12_refuse (d := d - 1) (x1 := (-3)) (by omega) ht34 (by omega)) rfl (by omega) (Nat.le_of_ble_eq_true rfl) (Nat.zero_le _) (Nat.zero_le _) rfl (fun r11 hp10 n12 hq13 => ?_)
      obtain ⟨hnn12, ht15, hrr11⟩ := hq13
      subst n12 r11
      change Rn _ _ _ 40 _ [.int (iv (-3))] _ _ _ _ _
      refine r_pop (pc := 40) dX12_way_40 rfl ?_
      refine r_lconst (pc := 41) (v := 0) dX12_way_41 (by decide) ?_
      exact r_lret (pc := 42) dX12_way_42 rfl ⟨rfl, (-3), cn, nm, so, sz, dr, mn, fr, tt, wt, co, nu, qi, qc, nf, nt, nw, nc, (0 : Int64), ht15, rfl, (by (first | assumption | exact RK_set hk (by omega) (by omega))), (by (first | assumption | exact df_r _ _ _ _ _ _ _))⟩
    refine t_if_lt (pc := 12) (tgt := 34) dX12_way_12 (by decide) (by omega) (fun c12 => ?_) (fun c12 => ?_)
    · refine Rn.pick (lv' := [(0, .ref y)]) [0] rfl ?_
      exact B34 _ ht6 trivial
    · refine r_iload_n (pc := 15) dX12_way_15 (i := 3) rfl rfl ?_
      refine r_iconst (pc := 16) (v := iv 3) dX12_way_16 (by decide) ?_
      refine t_icmp_gt (pc := 17) (tgt := 34) dX12_way_17 (by decide) (by omega) (by omega) (fun c17 => ?_) (fun c17 => ?_)
      · refine Rn.pick (lv' := [(0, .ref y)]) [0] rfl ?_
        exact B34 _ ht6 trivial
      · refine r_iload_n (pc := 20) dX12_way_20 (i := 2) rfl rfl ?_
        refine t_if_lt (pc := 21) (tgt := 34) dX12_way_21 (by decide) (by omega) (fun c21 => ?_) (fun c21 => ?_)
        · refine Rn.pick (lv' := [(0, .ref y)]) [0] rfl ?_
          exact B34 _ ht6 trivial
        · refine r_iload_n (pc := 24) dX12_way_24 (i := 2) rfl rfl ?_
          refine r_aload_n (pc := 25) dX12_way_25 (i := 0) rfl rfl ?_
          refine t_getE (pc := 26) (.ref (y + 2)) ht6 (rd_of RG_y) fX12_13 dX12_way_26 rfl ?_
          refine r_iload_n (pc := 29) dX12_way_29 (i := 1) rfl rfl ?_
          refine t_ialdX (pc := 30) (t0 := 0) ht6 (rd_of RG_sizes) dX12_way_30 rfl (by decide) (by omega) (fun b17 => ?_)
          have rb17 := (show Rfx 121 0 16 sz by assumption) (Int.toNat x1) (by omega)
          refine t_icmp_lt (pc := 31) (tgt := 43) dX12_way_31 (by decide) (by omega) (by omega) (fun c31 => ?_) (fun c31 => ?_)
          · refine r_bipush (pc := 43) (v := iv 16) dX12_way_43 (by decide) ?_
            refine r_iload_n (pc := 45) dX12_way_45 (i := 1) rfl rfl ?_
            refine r_imul (pc := 46) (v := iv (16 * x1)) dX12_way_46 (iv_mul _ _) ?_
            refine r_iload_n (pc := 47) dX12_way_47 (i := 2) rfl rfl ?_
            refine r_iadd (pc := 48) (v := iv ((16 * x1) + x2)) dX12_way_48 (iv_add _ _) ?_
            refine r_istore (pc := 49) (lv' := [(4, .int (iv ((16 * x1) + x2))), (0, .ref y), (1, .int (iv x1)), (2, .int (iv x2)), (3, .int (iv x3))]) dX12_way_49 (by decide) rfl ?_
            refine r_iload_n (pc := 51) dX12_way_51 (i := 3) rfl rfl ?_
            have B104 : ∀ hp104 : MH, Tw (RG Γ cI cJ cZ y v_8 cn nm so sz dr mn fr tt wt co nu qi qc nf nt nw nc) hp104 → ∀  (x104_0 : Int64), True → Rn (gG D cI cJ cZ cT lo b L xs) mX12_way d 104 [] [.long x104_0] hp104 n 0 0 (q_X12_way Γ cI cJ cZ y n rf cn nm so sz dr mn fr tt wt co nu qi qc nf nt nw nc x1 x2 x3) := by
              intro hp104 ht104 x104_0 hf104
              exact r_lret (pc := 104) dX12_way_104 rfl ⟨rfl, v_8, cn, nm, so, sz, dr, mn, fr, tt, wt, co, nu, qi, qc, nf, nt, nw, nc, x104_0, ht104, rfl, (by (first | assumption | exact RK_set hk (by omega) (by omega))), (by (first | assumption | exact df_r _ _ _ _ _ _ _))⟩
            refine t_if_ne (pc := 52) (tgt := 66) dX12_way_52 (by decide) (by omega) (fun c52 => ?_) (fun c52 => ?_)
            · refine r_iload_n (pc := 66) dX12_way_66 (i := 3) rfl rfl ?_
              refine r_iconst (pc := 67) (v := iv 1) dX12_way_67 (by decide) ?_
              refine t_icmp_ne (pc := 68) (tgt := 81) dX12_way_68 (by decide) (by omega) (by omega) (fun c68 => ?_) (fun c68 => ?_)
              · refine r_iload_n (pc := 81) dX12_way_81 (i := 3) rfl rfl ?_
                refine r_iconst (pc := 82) (v := iv 2) dX12_way_82 (by decide) ?_
                refine t_icmp_ne (pc := 83) (tgt := 97) dX12_way_83 (by decide) (by omega) (by omega) (fun c83 => ?_) (fun c83 => ?_)
                · refine r_aload_n (pc := 97) dX12_way_97 (i := 0) rfl rfl ?_
                  refine t_getE (pc := 98) (.ref (y + 13)) ht6 (rd_of RG_y) fX12_48 dX12_way_98 rfl ?_
                  refine r_iload (pc := 101) dX12_way_101 rfl ?_
                  refine t_lald (pc := 103) (t0 := 1) ht6 (rd_of RG_howMany) dX12_way_103 rfl (by decide) (by omega) (fun w18 _ => ?_)
                  refine Rn.pick (lv' := []) [] rfl ?_
                  exact B104 _ ht6 w18 trivial
                · refine r_aload_n (pc := 86) dX12_way_86 (i := 0) rfl rfl ?_
                  refine t_getE (pc := 87) (.ref (y + 12)) ht6 (rd_of RG_y) fX12_45 dX12_way_87 rfl ?_
                  refine r_iload (pc := 90) dX12_way_90 rfl ?_
                  refine t_ialdR (pc := 92) (t0 := 0) ht6 (rd_of RG_long1) dX12_way_92 rfl (by decide) (by omega) (fun y19 by19 => ?_)
                  refine r_i2l (pc := 93) (v := (iv y19).toInt64) dX12_way_93 rfl ?_
                  refine r_goto (pc := 94) (tgt := 104) dX12_way_94 (by decide) ?_
                  refine Rn.pick (lv' := []) [] rfl ?_
                  exact B104 _ ht6 ((iv y19).toInt64) trivial
              · refine r_aload_n (pc := 71) dX12_way_71 (i := 0) rfl rfl ?_
                refine t_getE (pc := 72) (.ref (y + 11)) ht6 (rd_of RG_y) fX12_42 dX12_way_72 rfl ?_
                refine r_iload (pc := 75) dX12_way_75 rfl ?_
                refine t_lald (pc := 77) (t0 := 1) ht6 (rd_of RG_worth) dX12_way_77 rfl (by decide) (by omega) (fun w20 _ => ?_)
                refine r_goto (pc := 78) (tgt := 104) dX12_way_78 (by decide) ?_
                refine Rn.pick (lv' := []) [] rfl ?_
                exact B104 _ ht6 w20 trivial
            · refine r_aload_n (pc := 55) dX12_way_55 (i := 0) rfl rfl ?_
              refine t_getE (pc := 56) (.ref (y + 10)) ht6 (rd_of RG_y) fX12_39 dX12_way_56 rfl ?_
              refine r_iload (pc := 59) dX12_way_59 rfl ?_
              refine t_ialdR (pc := 61) (t0 := 0) ht6 (rd_of RG_state) dX12_way_61 rfl (by decide) (by omega) (fun y21 by21 => ?_)
              refine r_i2l (pc := 62) (v := (iv y21).toInt64) dX12_way_62 rfl ?_
              refine r_goto (pc := 63) (tgt := 104) dX12_way_63 (by decide) ?_
              refine Rn.pick (lv' := []) [] rfl ?_
              exact B104 _ ht6 ((iv y21).toInt64) trivial
          · refine Rn.pick (lv' := [(0, .ref y)]) [0] rfl ?_
            exact B34 _ ht6 trivial
  · refine r_lconst (pc := 9) (v := 0) dX12_way_9 (by decide) ?_
    exact r_lret (pc := 10) dX12_way_10 rfl ⟨rfl, v_8, cn, nm, so, sz, dr, mn, fr, tt, wt, co, nu, qi, qc, nf, nt, nw, nc, (0 : Int64), ht6, rfl, (by (first | assumption | exact RK_set hk (by omega) (by omega))), (by (first | assumption | exact df_r _ _ _ _ _ _ _))⟩
def q_X12_step (Γ : TG) (cI cJ cZ : ClassId) (y n : Nat) (rf cn nm : Int) (so sz dr mn fr tt wt co : Nat → Int) (nu : Nat → Int64) (qi qc nf nt nw nc : Nat → Int) (x1 x2 x3 : Int) : Option Value → MH → Nat → Prop := fun r hp1 n1 => n1 = n ∧ ∃ (rf' : Int) (cn' : Int) (nm' : Int) (so' : Nat → Int) (sz' : Nat → Int) (dr' : Nat → Int) (mn' : Nat → Int) (fr' : Nat → Int) (tt' : Nat → Int) (wt' : Nat → Int) (co' : Nat → Int) (nu' : Nat → Int64) (qi' : Nat → Int) (qc' : Nat → Int) (nf' : Nat → Int) (nt' : Nat → Int) (nw' : Nat → Int) (nc' : Nat → Int) (v' : Int), Tw (RG Γ cI cJ cZ y rf' cn' nm' so' sz' dr' mn' fr' tt' wt' co' nu' qi' qc' nf' nt' nw' nc') hp1 ∧ r = some (.int (iv v')) ∧ (RK rf' cn' nm' so' sz' dr' mn' fr' tt' wt' co' nu' qi' qc' nf' nt' nw' nc') ∧ (dfE sz dr mn fr tt wt co sz' dr' mn' fr' tt' wt' co') ∧ (-2147483648 ≤ v' ∧ v' ≤ 2147483647)
set_option maxHeartbeats 4000000 in
set_option maxRecDepth 100000 in
theorem s_X12_step {D : va_G} {cI cJ cZ cT : ClassId} {lo b L : Nat} {xs : Nat → Int32} {hp : MH} {n d : Nat} {Γ : TG} {y : Nat} {rf cn nm : Int} {so sz dr mn fr tt wt co : Nat → Int} {nu : Nat → Int64} {qi qc nf nt nw nc : Nat → Int} {x1 x2 x3 : Int} (hd0 : 2 ≤ d) (hk : RK rf cn nm so sz dr mn fr tt wt co nu qi qc nf nt nw nc) (ht : Tw (RG Γ cI cJ cZ y rf cn nm so sz dr mn fr tt wt co nu qi qc nf nt nw nc) hp) (hx1 : (-2147483648) ≤ x1 ∧ x1 ≤ 2147483647) (hx2 : (-2147483648) ≤ x2 ∧ x2 ≤ 2147483647) (hx3 : (-2147483648) ≤ x3 ∧ x3 ≤ 2147483647) : Mt (gG D cI cJ cZ cT lo b L xs) mX12_step d 0 0 [.ref y, .int (iv x1), .int (iv x2), .int (iv x3)] hp n (q_X12_step Γ cI cJ cZ y n rf cn nm so sz dr mn fr tt wt co nu qi qc nf nt nw nc x1 x2 x3) := by
  refine Mt.of rfl (Nat.le_of_ble_eq_true rfl) ?_
  refine Rn.pick (lv' := [(0, .ref y), (1, .int (iv x1)), (2, .int (iv x2)), (3, .int (iv x3))]) [0, 1, 2, 3] rfl ?_
  obtain ⟨hR_sorts, hR_sizes, hR_directs, hR_many, hR_from, hR_to, hR_weight, hR_cost, hR_inPart, hR_partCount, hcn, hrf, hnm, hdf, hgr, hpa, hsz⟩ := id hk
  refine r_aload_n (pc := 0) dX12_step_0 (i := 0) rfl rfl ?_
  refine r_iload_n (pc := 1) dX12_step_1 (i := 1) rfl rfl ?_
  refine r_iconst (pc := 2) (v := iv 3) dX12_step_2 (by decide) ?_
  obtain ⟨fs5, hfs5⟩ := t_obj ht (rd_of RG_y)
  refine r_callV (pc := 3) (as := [.int (iv x1), .int (iv 3)]) (st := []) kX12_183 rfl dX12_step_3 hfs5 (s_X12_has (d := d - 1) (x1 := x1) (x2 := 3) (by omega) (by omega) (by assumption) ht (by omega) (by omega)) rfl (by omega) (Nat.le_of_ble_eq_true rfl) (Nat.zero_le _) (Nat.zero_le _) rfl (fun r2 hp1 n3 hq4 => ?_)
  obtain ⟨hnn3, v_8, b_9, ht6, hrr2, hhq40, hhq41⟩ := hq4
  subst n3 r2
  have hhq40 : -2 ≤ v_8 ∧ v_8 ≤ 0 ∧ (b_9 = 0 ∨ b_9 = 1) := hhq40
  have hhq41 : (b_9 = 1 ∧ v_8 = 0 ∧ 0 ≤ x1 ∧ x1 < cn ∧ so (Int.toNat x1) = 3) ∨ (b_9 = 0 ∧ v_8 = -1 ∧ ¬ (0 ≤ x1 ∧ x1 < cn)) ∨ (b_9 = 0 ∧ v_8 = -2 ∧ 0 ≤ x1 ∧ x1 < cn ∧ so (Int.toNat x1) ≠ 3) := hhq41
  change Rn _ _ _ 6 _ [.int (iv b_9)] _ _ _ _ _
  have B18 : ∀ rf18 : Int, ∀ hp18 : MH, Tw (RG Γ cI cJ cZ y rf18 cn nm so sz dr mn fr tt wt co nu qi qc nf nt nw nc) hp18 → -2147483648 ≤ rf18 ∧ rf18 ≤ 2147483647 → Rn (gG D cI cJ cZ cT lo b L xs) mX12_step d 18 [] [] hp18 n 0 0 (q_X12_step Γ cI cJ cZ y n rf cn nm so sz dr mn fr tt wt co nu qi qc nf nt nw nc x1 x2 x3) := by
    intro rf18 hp18 ht18 hf18
    refine r_iconst (pc := 18) (v := iv 0) dX12_step_18 (by decide) ?_
    exact r_iret (pc := 19) dX12_step_19 rfl ⟨rfl, rf18, cn, nm, so, sz, dr, mn, fr, tt, wt, co, nu, qi, qc, nf, nt, nw, nc, 0, ht18, rfl, (by (first | assumption | exact RK_set hk (by omega) (by omega))), (by (first | assumption | exact df_r _ _ _ _ _ _ _)), (by omega)⟩
  refine t_if_eq (pc := 6) (tgt := 18) dX12_step_6 (by decide) (by omega) (fun c6 => ?_) (fun c6 => ?_)
  · refine Rn.pick (lv' := []) [] rfl ?_
    exact B18 v_8 _ ht6 ⟨by omega, by omega⟩
  · have rsz6 := hR_sizes (Int.toNat x1) (by omega)
    have rsy6 := hsz x1 (by omega) (by omega)
    refine r_aload_n (pc := 9) dX12_step_9 (i := 0) rfl rfl ?_
    refine r_iload_n (pc := 10) dX12_step_10 (i := 1) rfl rfl ?_
    refine r_iload_n (pc := 11) dX12_step_11 (i := 2) rfl rfl ?_
    obtain ⟨fs14, hfs14⟩ := t_obj ht6 (rd_of RG_y)
    refine r_callV (pc := 12) (as := [.int (iv x1), .int (iv x2)]) (st := []) kX12_307 rfl dX12_step_12 hfs14 (s_X12_isNode (d := d - 1) (x1 := x1) (x2 := x2) (by omega) (by assumption) (by omega) ht6 (by omega) (by omega)) rfl (by omega) (Nat.le_of_ble_eq_true rfl) (Nat.zero_le _) (Nat.zero_le _) rfl (fun r11 hp10 n12 hq13 => ?_)
    obtain ⟨hnn12, v_17, b_18, ht15, hrr11, hhq130⟩ := hq13
    subst n12 r11
    have hhq130 : (b_18 = 1 ∧ v_17 = v_8 ∧ 0 ≤ x2 ∧ x2 < sz (Int.toNat x1)) ∨ (b_18 = 0 ∧ v_17 = -3 ∧ ¬ (0 ≤ x2 ∧ x2 < sz (Int.toNat x1))) := hhq130
    change Rn _ _ _ 15 _ [.int (iv b_18)] _ _ _ _ _
    refine t_if_ne (pc := 15) (tgt := 20) dX12_step_15 (by decide) (by omega) (fun c15 => ?_) (fun c15 => ?_)
    · refine r_iload_n (pc := 20) dX12_step_20 (i := 3) rfl rfl ?_
      have B60 : ∀ hp60 : MH, Tw (RG Γ cI cJ cZ y v_17 cn nm so sz dr mn fr tt wt co nu qi qc nf nt nw nc) hp60 → ∀  (u60_0 : Int), (-1) ≤ u60_0 ∧ u60_0 ≤ 59 → Rn (gG D cI cJ cZ cT lo b L xs) mX12_step d 60 [] [.int (iv u60_0)] hp60 n 0 0 (q_X12_step Γ cI cJ cZ y n rf cn nm so sz dr mn fr tt wt co nu qi qc nf nt nw nc x1 x2 x3) := by
        intro hp60 ht60 u60_0 hf60
        exact r_iret (pc := 60) dX12_step_60 rfl ⟨rfl, v_17, cn, nm, so, sz, dr, mn, fr, tt, wt, co, nu, qi, qc, nf, nt, nw, nc, u60_0, ht60, rfl, (by (first | assumption | exact RK_set hk (by omega) (by omega))), (by (first | assumption | exact df_r _ _ _ _ _ _ _)), (by omega)⟩
      have B39 : ∀ hp39 : MH, Tw (RG Γ cI cJ cZ y v_17 cn nm so sz dr mn fr tt wt co nu qi qc nf nt nw nc) hp39 → True → Rn (gG D cI cJ cZ cT lo b L xs) mX12_step d 39 [] [] hp39 n 0 0 (q_X12_step Γ cI cJ cZ y n rf cn nm so sz dr mn fr tt wt co nu qi qc nf nt nw nc x1 x2 x3) := by
        intro hp39 ht39 hf39
        refine r_iconst (pc := 39) (v := iv (-1)) dX12_step_39 (by decide) ?_
        refine r_goto (pc := 40) (tgt := 60) dX12_step_40 (by decide) ?_
        refine Rn.pick (lv' := []) [] rfl ?_
        exact B60 _ ht39 (-1) ⟨by omega, by omega⟩
      refine t_if_lt (pc := 21) (tgt := 39) dX12_step_21 (by decide) (by omega) (fun c21 => ?_) (fun c21 => ?_)
      · refine Rn.pick (lv' := []) [] rfl ?_
        exact B39 _ ht15 trivial
      · refine r_iload_n (pc := 24) dX12_step_24 (i := 3) rfl rfl ?_
        refine r_aload_n (pc := 25) dX12_step_25 (i := 0) rfl rfl ?_
        refine t_getE (pc := 26) (.ref (y + 12)) ht15 (rd_of RG_y) fX12_45 dX12_step_26 rfl ?_
        refine r_bipush (pc := 29) (v := iv 16) dX12_step_29 (by decide) ?_
        refine r_iload_n (pc := 31) dX12_step_31 (i := 1) rfl rfl ?_
        refine r_imul (pc := 32) (v := iv (16 * x1)) dX12_step_32 (iv_mul _ _) ?_
        refine r_iload_n (pc := 33) dX12_step_33 (i := 2) rfl rfl ?_
        refine r_iadd (pc := 34) (v := iv ((16 * x1) + x2)) dX12_step_34 (iv_add _ _) ?_
        refine t_ialdR (pc := 35) (t0 := 0) ht15 (rd_of RG_long1) dX12_step_35 rfl (by decide) (by omega) (fun y19 by19 => ?_)
        refine t_icmp_lt (pc := 36) (tgt := 43) dX12_step_36 (by decide) (by omega) (by omega) (fun c36 => ?_) (fun c36 => ?_)
        · refine r_aload_n (pc := 43) dX12_step_43 (i := 0) rfl rfl ?_
          refine t_getE (pc := 44) (.ref (y + 14)) ht15 (rd_of RG_y) fX12_51 dX12_step_44 rfl ?_
          refine r_sipush (pc := 47) (v := iv 256) dX12_step_47 (by decide) ?_
          refine r_iload_n (pc := 50) dX12_step_50 (i := 1) rfl rfl ?_
          refine r_imul (pc := 51) (v := iv (256 * x1)) dX12_step_51 (iv_mul _ _) ?_
          refine r_bipush (pc := 52) (v := iv 16) dX12_step_52 (by decide) ?_
          refine r_iload_n (pc := 54) dX12_step_54 (i := 2) rfl rfl ?_
          refine r_imul (pc := 55) (v := iv (16 * x2)) dX12_step_55 (iv_mul _ _) ?_
          refine r_iadd (pc := 56) (v := iv ((256 * x1) + (16 * x2))) dX12_step_56 (iv_add _ _) ?_
          refine r_iload_n (pc := 57) dX12_step_57 (i := 3) rfl rfl ?_
          refine r_iadd (pc := 58) (v := iv (((256 * x1) + (16 * x2)) + x3)) dX12_step_58 (iv_add _ _) ?_
          refine t_ialdR (pc := 59) (t0 := 0) ht15 (rd_of RG_rows) dX12_step_59 rfl (by decide) (by omega) (fun y20 by20 => ?_)
          refine Rn.pick (lv' := []) [] rfl ?_
          exact B60 _ ht15 y20 ⟨by omega, by omega⟩
        · refine Rn.pick (lv' := []) [] rfl ?_
          exact B39 _ ht15 trivial
    · refine Rn.pick (lv' := []) [] rfl ?_
      exact B18 v_17 _ ht15 ⟨by omega, by omega⟩
def q_X12_part (Γ : TG) (cI cJ cZ : ClassId) (y n : Nat) (rf cn nm : Int) (so sz dr mn fr tt wt co : Nat → Int) (nu : Nat → Int64) (qi qc nf nt nw nc : Nat → Int) (x1 x2 : Int) : Option Value → MH → Nat → Prop := fun r hp1 n1 => n1 = n ∧ ∃ (rf' : Int) (cn' : Int) (nm' : Int) (so' : Nat → Int) (sz' : Nat → Int) (dr' : Nat → Int) (mn' : Nat → Int) (fr' : Nat → Int) (tt' : Nat → Int) (wt' : Nat → Int) (co' : Nat → Int) (nu' : Nat → Int64) (qi' : Nat → Int) (qc' : Nat → Int) (nf' : Nat → Int) (nt' : Nat → Int) (nw' : Nat → Int) (nc' : Nat → Int) (v' : Int), Tw (RG Γ cI cJ cZ y rf' cn' nm' so' sz' dr' mn' fr' tt' wt' co' nu' qi' qc' nf' nt' nw' nc') hp1 ∧ r = some (.int (iv v')) ∧ (RK rf' cn' nm' so' sz' dr' mn' fr' tt' wt' co' nu' qi' qc' nf' nt' nw' nc') ∧ (dfE sz dr mn fr tt wt co sz' dr' mn' fr' tt' wt' co') ∧ (-2147483648 ≤ v' ∧ v' ≤ 2147483647)
set_option maxHeartbeats 4000000 in
set_option maxRecDepth 100000 in
theorem s_X12_part {D : va_G} {cI cJ cZ cT : ClassId} {lo b L : Nat} {xs : Nat → Int32} {hp : MH} {n d : Nat} {Γ : TG} {y : Nat} {rf cn nm : Int} {so sz dr mn fr tt wt co : Nat → Int} {nu : Nat → Int64} {qi qc nf nt nw nc : Nat → Int} {x1 x2 : Int} (hd0 : 2 ≤ d) (hk : RK rf cn nm so sz dr mn fr tt wt co nu qi qc nf nt nw nc) (ht : Tw (RG Γ cI cJ cZ y rf cn nm so sz dr mn fr tt wt co nu qi qc nf nt nw nc) hp) (hx1 : (-2147483648) ≤ x1 ∧ x1 ≤ 2147483647) (hx2 : (-2147483648) ≤ x2 ∧ x2 ≤ 2147483647) : Mt (gG D cI cJ cZ cT lo b L xs) mX12_part d 0 0 [.ref y, .int (iv x1), .int (iv x2)] hp n (q_X12_part Γ cI cJ cZ y n rf cn nm so sz dr mn fr tt wt co nu qi qc nf nt nw nc x1 x2) := by
  refine Mt.of rfl (Nat.le_of_ble_eq_true rfl) ?_
  refine Rn.pick (lv' := [(0, .ref y), (1, .int (iv x1)), (2, .int (iv x2))]) [0, 1, 2] rfl ?_
  obtain ⟨hR_sorts, hR_sizes, hR_directs, hR_many, hR_from, hR_to, hR_weight, hR_cost, hR_inPart, hR_partCount, hcn, hrf, hnm, hdf, hgr, hpa, hsz⟩ := id hk
  refine r_aload_n (pc := 0) dX12_part_0 (i := 0) rfl rfl ?_
  refine r_iload_n (pc := 1) dX12_part_1 (i := 1) rfl rfl ?_
  refine r_iconst (pc := 2) (v := iv 4) dX12_part_2 (by decide) ?_
  obtain ⟨fs5, hfs5⟩ := t_obj ht (rd_of RG_y)
  refine r_callV (pc := 3) (as := [.int (iv x1), .int (iv 4)]) (st := []) kX12_183 rfl dX12_part_3 hfs5 (s_X12_has (d := d - 1) (x1 := x1) (x2 := 4) (by omega) (by omega) (by assumption) ht (by omega) (by omega)) rfl (by omega) (Nat.le_of_ble_eq_true rfl) (Nat.zero_le _) (Nat.zero_le _) rfl (fun r2 hp1 n3 hq4 => ?_)
  obtain ⟨hnn3, v_8, b_9, ht6, hrr2, hhq40, hhq41⟩ := hq4
  subst n3 r2
  have hhq40 : -2 ≤ v_8 ∧ v_8 ≤ 0 ∧ (b_9 = 0 ∨ b_9 = 1) := hhq40
  have hhq41 : (b_9 = 1 ∧ v_8 = 0 ∧ 0 ≤ x1 ∧ x1 < cn ∧ so (Int.toNat x1) = 4) ∨ (b_9 = 0 ∧ v_8 = -1 ∧ ¬ (0 ≤ x1 ∧ x1 < cn)) ∨ (b_9 = 0 ∧ v_8 = -2 ∧ 0 ≤ x1 ∧ x1 < cn ∧ so (Int.toNat x1) ≠ 4) := hhq41
  change Rn _ _ _ 6 _ [.int (iv b_9)] _ _ _ _ _
  refine t_if_ne (pc := 6) (tgt := 11) dX12_part_6 (by decide) (by omega) (fun c6 => ?_) (fun c6 => ?_)
  · have rsz6 := hR_sizes (Int.toNat x1) (by omega)
    have rsy6 := hsz x1 (by omega) (by omega)
    refine r_iload_n (pc := 11) dX12_part_11 (i := 2) rfl rfl ?_
    refine r_iconst (pc := 12) (v := iv (-1)) dX12_part_12 (by decide) ?_
    refine t_icmp_ne (pc := 13) (tgt := 23) dX12_part_13 (by decide) (by omega) (by omega) (fun c13 => ?_) (fun c13 => ?_)
    · refine r_aload_n (pc := 23) dX12_part_23 (i := 0) rfl rfl ?_
      refine r_iload_n (pc := 24) dX12_part_24 (i := 1) rfl rfl ?_
      refine r_iload_n (pc := 25) dX12_part_25 (i := 2) rfl rfl ?_
      obtain ⟨fs14, hfs14⟩ := t_obj ht6 (rd_of RG_y)
      refine r_callV (pc := 26) (as := [.int (iv x1), .int (iv x2)]) (st := []) kX12_307 rfl dX12_part_26 hfs14 (s_X12_isNode (d := d - 1) (x1 := x1) (x2 := x2) (by omega) (by assumption) (by omega) ht6 (by omega) (by omega)) rfl (by omega) (Nat.le_of_ble_eq_true rfl) (Nat.zero_le _) (Nat.zero_le _) rfl (fun r11 hp10 n12 hq13 => ?_)
      obtain ⟨hnn12, v_17, b_18, ht15, hrr11, hhq130⟩ := hq13
      subst n12 r11
      have hhq130 : (b_18 = 1 ∧ v_17 = v_8 ∧ 0 ≤ x2 ∧ x2 < sz (Int.toNat x1)) ∨ (b_18 = 0 ∧ v_17 = -3 ∧ ¬ (0 ≤ x2 ∧ x2 < sz (Int.toNat x1))) := hhq130
      change Rn _ _ _ 29 _ [.int (iv b_18)] _ _ _ _ _
      have B47 : ∀ hp47 : MH, Tw (RG Γ cI cJ cZ y v_17 cn nm so sz dr mn fr tt wt co nu qi qc nf nt nw nc) hp47 → ∀  (u47_0 : Int), 0 ≤ u47_0 ∧ u47_0 ≤ 15 → Rn (gG D cI cJ cZ cT lo b L xs) mX12_part d 47 [] [.int (iv u47_0)] hp47 n 0 0 (q_X12_part Γ cI cJ cZ y n rf cn nm so sz dr mn fr tt wt co nu qi qc nf nt nw nc x1 x2) := by
        intro hp47 ht47 u47_0 hf47
        exact r_iret (pc := 47) dX12_part_47 rfl ⟨rfl, v_17, cn, nm, so, sz, dr, mn, fr, tt, wt, co, nu, qi, qc, nf, nt, nw, nc, u47_0, ht47, rfl, (by (first | assumption | exact RK_set hk (by omega) (by omega))), (by (first | assumption | exact df_r _ _ _ _ _ _ _)), (by omega)⟩
      refine t_if_eq (pc := 29) (tgt := 46) dX12_part_29 (by decide) (by omega) (fun c29 => ?_) (fun c29 => ?_)
      · refine r_iconst (pc := 46) (v := iv 0) dX12_part_46 (by decide) ?_
        refine Rn.pick (lv' := []) [] rfl ?_
        exact B47 _ ht15 0 ⟨by omega, by omega⟩
      · refine r_aload_n (pc := 32) dX12_part_32 (i := 0) rfl rfl ?_
        refine t_getE (pc := 33) (.ref (y + 15)) ht15 (rd_of RG_y) fX12_54 dX12_part_33 rfl ?_
        refine r_bipush (pc := 36) (v := iv 16) dX12_part_36 (by decide) ?_
        refine r_iload_n (pc := 38) dX12_part_38 (i := 1) rfl rfl ?_
        refine r_imul (pc := 39) (v := iv (16 * x1)) dX12_part_39 (iv_mul _ _) ?_
        refine r_iload_n (pc := 40) dX12_part_40 (i := 2) rfl rfl ?_
        refine r_iadd (pc := 41) (v := iv ((16 * x1) + x2)) dX12_part_41 (iv_add _ _) ?_
        refine t_ialdX (pc := 42) (t0 := 0) ht15 (rd_of RG_inPart) dX12_part_42 rfl (by decide) (by omega) (fun b19 => ?_)
        have rb19 := (show Rfx 1936 0 15 qi by assumption) (Int.toNat ((16 * x1) + x2)) (by omega)
        refine r_goto (pc := 43) (tgt := 47) dX12_part_43 (by decide) ?_
        refine Rn.pick (lv' := []) [] rfl ?_
        exact B47 _ ht15 (qi (Int.toNat ((16 * x1) + x2))) ⟨by omega, by omega⟩
    · refine r_aload_n (pc := 16) dX12_part_16 (i := 0) rfl rfl ?_
      refine t_getE (pc := 17) (.ref (y + 16)) ht6 (rd_of RG_y) fX12_57 dX12_part_17 rfl ?_
      refine r_iload_n (pc := 20) dX12_part_20 (i := 1) rfl rfl ?_
      refine t_ialdX (pc := 21) (t0 := 0) ht6 (rd_of RG_partCount) dX12_part_21 rfl (by decide) (by omega) (fun b20 => ?_)
      have rb20 := (show Rfx 121 0 16 qc by assumption) (Int.toNat x1) (by omega)
      exact r_iret (pc := 22) dX12_part_22 rfl ⟨rfl, v_8, cn, nm, so, sz, dr, mn, fr, tt, wt, co, nu, qi, qc, nf, nt, nw, nc, (qc (Int.toNat x1)), ht6, rfl, (by (first | assumption | exact RK_set hk (by omega) (by omega))), (by (first | assumption | exact df_r _ _ _ _ _ _ _)), (by omega)⟩
  · refine r_iconst (pc := 9) (v := iv 0) dX12_part_9 (by decide) ?_
    exact r_iret (pc := 10) dX12_part_10 rfl ⟨rfl, v_8, cn, nm, so, sz, dr, mn, fr, tt, wt, co, nu, qi, qc, nf, nt, nw, nc, 0, ht6, rfl, (by (first | assumption | exact RK_set hk (by omega) (by omega))), (by (first | assumption | exact df_r _ _ _ _ _ _ _)), (by omega)⟩
def q_X12_members (Γ : TG) (cI cJ cZ : ClassId) (y n : Nat) (rf cn nm : Int) (so sz dr mn fr tt wt co : Nat → Int) (nu : Nat → Int64) (qi qc nf nt nw nc : Nat → Int) (x1 x2 : Int) : Option Value → MH → Nat → Prop := fun r hp1 n1 => n1 = n ∧ ∃ (rf' : Int) (cn' : Int) (nm' : Int) (so' : Nat → Int) (sz' : Nat → Int) (dr' : Nat → Int) (mn' : Nat → Int) (fr' : Nat → Int) (tt' : Nat → Int) (wt' : Nat → Int) (co' : Nat → Int) (nu' : Nat → Int64) (qi' : Nat → Int) (qc' : Nat → Int) (nf' : Nat → Int) (nt' : Nat → Int) (nw' : Nat → Int) (nc' : Nat → Int) (v' : Int), Tw (RG Γ cI cJ cZ y rf' cn' nm' so' sz' dr' mn' fr' tt' wt' co' nu' qi' qc' nf' nt' nw' nc') hp1 ∧ r = some (.int (iv v')) ∧ (RK rf' cn' nm' so' sz' dr' mn' fr' tt' wt' co' nu' qi' qc' nf' nt' nw' nc') ∧ (dfE sz dr mn fr tt wt co sz' dr' mn' fr' tt' wt' co') ∧ (-2147483648 ≤ v' ∧ v' ≤ 2147483647)
set_option maxHeartbeats 4000000 in
set_option maxRecDepth 100000 in
theorem s_X12_members {D : va_G} {cI cJ cZ cT : ClassId} {lo b L : Nat} {xs : Nat → Int32} {hp : MH} {n d : Nat} {Γ : TG} {y : Nat} {rf cn nm : Int} {so sz dr mn fr tt wt co : Nat → Int} {nu : Nat → Int64} {qi qc nf nt nw nc : Nat → Int} {x1 x2 : Int} (hd0 : 2 ≤ d) (hk : RK rf cn nm so sz dr mn fr tt wt co nu qi qc nf nt nw nc) (ht : Tw (RG Γ cI cJ cZ y rf cn nm so sz dr mn fr tt wt co nu qi qc nf nt nw nc) hp) (hx1 : (-2147483648) ≤ x1 ∧ x1 ≤ 2147483647) (hx2 : (-2147483648) ≤ x2 ∧ x2 ≤ 2147483647) : Mt (gG D cI cJ cZ cT lo b L xs) mX12_members d 0 0 [.ref y, .int (iv x1), .int (iv x2)] hp n (q_X12_members Γ cI cJ cZ y n rf cn nm so sz dr mn fr tt wt co nu qi qc nf nt nw nc x1 x2) := by
  refine Mt.of rfl (Nat.le_of_ble_eq_true rfl) ?_
  refine Rn.pick (lv' := [(0, .ref y), (1, .int (iv x1)), (2, .int (iv x2))]) [0, 1, 2] rfl ?_
  obtain ⟨hR_sorts, hR_sizes, hR_directs, hR_many, hR_from, hR_to, hR_weight, hR_cost, hR_inPart, hR_partCount, hcn, hrf, hnm, hdf, hgr, hpa, hsz⟩ := id hk
  refine r_aload_n (pc := 0) dX12_members_0 (i := 0) rfl rfl ?_
  refine r_iload_n (pc := 1) dX12_members_1 (i := 1) rfl rfl ?_
  refine r_iconst (pc := 2) (v := iv 4) dX12_members_2 (by decide) ?_
  obtain ⟨fs5, hfs5⟩ := t_obj ht (rd_of RG_y)
  refine r_callV (pc := 3) (as := [.int (iv x1), .int (iv 4)]) (st := []) kX12_183 rfl dX12_members_3 hfs5 (s_X12_has (d := d - 1) (x1 := x1) (x2 := 4) (by omega) (by omega) (by assumption) ht (by omega) (by omega)) rfl (by omega) (Nat.le_of_ble_eq_true rfl) (Nat.zero_le _) (Nat.zero_le _) rfl (fun r2 hp1 n3 hq4 => ?_)
  obtain ⟨hnn3, v_8, b_9, ht6, hrr2, hhq40, hhq41⟩ := hq4
  subst n3 r2
  have hhq40 : -2 ≤ v_8 ∧ v_8 ≤ 0 ∧ (b_9 = 0 ∨ b_9 = 1) := hhq40
  have hhq41 : (b_9 = 1 ∧ v_8 = 0 ∧ 0 ≤ x1 ∧ x1 < cn ∧ so (Int.toNat x1) = 4) ∨ (b_9 = 0 ∧ v_8 = -1 ∧ ¬ (0 ≤ x1 ∧ x1 < cn)) ∨ (b_9 = 0 ∧ v_8 = -2 ∧ 0 ≤ x1 ∧ x1 < cn ∧ so (Int.toNat x1) ≠ 4) := hhq41
  change Rn _ _ _ 6 _ [.int (iv b_9)] _ _ _ _ _
  refine t_if_ne (pc := 6) (tgt := 11) dX12_members_6 (by decide) (by omega) (fun c6 => ?_) (fun c6 => ?_)
  · have rsz6 := hR_sizes (Int.toNat x1) (by omega)
    have rsy6 := hsz x1 (by omega) (by omega)
    refine r_iconst (pc := 11) (v := iv 0) dX12_members_11 (by decide) ?_
    refine r_istore_n (pc := 12) (lv' := [(3, .int (iv 0)), (0, .ref y), (1, .int (iv x1)), (2, .int (iv x2))]) dX12_members_12 (i := 3) rfl (by decide) rfl ?_
    refine r_iconst (pc := 13) (v := iv 0) dX12_members_13 (by decide) ?_
    refine r_istore (pc := 14) (lv' := [(4, .int (iv 0)), (3, .int (iv 0)), (0, .ref y), (1, .int (iv x1)), (2, .int (iv x2))]) dX12_members_14 (by decide) rfl ?_
    have B16 : ∀ k : Nat, ∀ hp16 : MH, Tw (RG Γ cI cJ cZ y v_8 cn nm so sz dr mn fr tt wt co nu qi qc nf nt nw nc) hp16 → ∀  (v16_3 : Int) (v16_4 : Int), 0 ≤ v16_3 ∧ v16_3 ≤ 65535 ∧ 0 ≤ v16_4 ∧ v16_4 ≤ 16 → 16 - v16_4 ≤ (k : Int) → Rn (gG D cI cJ cZ cT lo b L xs) mX12_members d 16 [(0, .ref y), (1, .int (iv x1)), (2, .int (iv x2)), (3, .int (iv v16_3)), (4, .int (iv v16_4))] [] hp16 n 0 0 (q_X12_members Γ cI cJ cZ y n rf cn nm so sz dr mn fr tt wt co nu qi qc nf nt nw nc x1 x2) := by
      refine lpS _ ?_
      intro k16 ih16 hp16 ht16 v16_3 v16_4 hf16 hm16
      refine r_iload (pc := 16) dX12_members_16 rfl ?_
      refine r_aload_n (pc := 18) dX12_members_18 (i := 0) rfl rfl ?_
      refine t_getE (pc := 19) (.ref (y + 2)) ht16 (rd_of RG_y) fX12_13 dX12_members_19 rfl ?_
      refine r_iload_n (pc := 22) dX12_members_22 (i := 1) rfl rfl ?_
      refine t_ialdX (pc := 23) (t0 := 0) ht16 (rd_of RG_sizes) dX12_members_23 rfl (by decide) (by omega) (fun b10 => ?_)
      have rb10 := (show Rfx 121 0 16 sz by assumption) (Int.toNat x1) (by omega)
      refine t_icmp_ge (pc := 24) (tgt := 60) dX12_members_24 (by decide) (by omega) (by omega) (fun c24 => ?_) (fun c24 => ?_)
      · refine r_iload_n (pc := 60) dX12_members_60 (i := 3) rfl rfl ?_
        exact r_iret (pc := 61) dX12_members_61 rfl ⟨rfl, v_8, cn, nm, so, sz, dr, mn, fr, tt, wt, co, nu, qi, qc, nf, nt, nw, nc, v16_3, ht16, rfl, (by (first | assumption | exact RK_set hk (by omega) (by omega))), (by (first | assumption | exact df_r _ _ _ _ _ _ _)), (by omega)⟩
      · refine r_iload_n (pc := 27) dX12_members_27 (i := 3) rfl rfl ?_
        refine r_aload_n (pc := 28) dX12_members_28 (i := 0) rfl rfl ?_
        refine t_getE (pc := 29) (.ref (y + 15)) ht16 (rd_of RG_y) fX12_54 dX12_members_29 rfl ?_
        refine r_bipush (pc := 32) (v := iv 16) dX12_members_32 (by decide) ?_
        refine r_iload_n (pc := 34) dX12_members_34 (i := 1) rfl rfl ?_
        refine r_imul (pc := 35) (v := iv (16 * x1)) dX12_members_35 (iv_mul _ _) ?_
        refine r_iload (pc := 36) dX12_members_36 rfl ?_
        refine r_iadd (pc := 38) (v := iv ((16 * x1) + v16_4)) dX12_members_38 (iv_add _ _) ?_
        refine t_ialdX (pc := 39) (t0 := 0) ht16 (rd_of RG_inPart) dX12_members_39 rfl (by decide) (by omega) (fun b11 => ?_)
        have rb11 := (show Rfx 1936 0 15 qi by assumption) (Int.toNat ((16 * x1) + v16_4)) (by omega)
        refine r_iload_n (pc := 40) dX12_members_40 (i := 2) rfl rfl ?_
        have B52 : ∀ hp52 : MH, Tw (RG Γ cI cJ cZ y v_8 cn nm so sz dr mn fr tt wt co nu qi qc nf nt nw nc) hp52 → ∀  (u52_1 : Int), 0 ≤ u52_1 ∧ u52_1 ≤ 32768 → Rn (gG D cI cJ cZ cT lo b L xs) mX12_members d 52 [(0, .ref y), (1, .int (iv x1)), (2, .int (iv x2)), (4, .int (iv v16_4))] [.int (iv u52_1), .int (iv v16_3)] hp52 n 0 0 (q_X12_members Γ cI cJ cZ y n rf cn nm so sz dr mn fr tt wt co nu qi qc nf nt nw nc x1 x2) := by
          intro hp52 ht52 u52_1 hf52
          obtain ⟨z12, hz12, bz12⟩ := or_2 16 v16_3 u52_1 (by omega) (by omega) (by decide)
          refine r_ior (pc := 52) (v := iv z12) dX12_members_52 hz12 ?_
          refine r_istore_n (pc := 53) (lv' := [(3, .int (iv z12)), (0, .ref y), (1, .int (iv x1)), (2, .int (iv x2)), (4, .int (iv v16_4))]) dX12_members_53 (i := 3) rfl (by decide) rfl ?_
          refine r_iinc (pc := 54) (v := iv (v16_4 + 1)) (lv' := [(4, .int (iv (v16_4 + 1))), (3, .int (iv z12)), (0, .ref y), (1, .int (iv x1)), (2, .int (iv x2))]) dX12_members_54 rfl (iv_add _ _) (by decide) rfl ?_
          refine r_goto (pc := 57) (tgt := 16) dX12_members_57 (by decide) ?_
          refine Rn.pick (lv' := [(0, .ref y), (1, .int (iv x1)), (2, .int (iv x2)), (3, .int (iv z12)), (4, .int (iv (v16_4 + 1)))]) [2, 3, 4, 1, 0] rfl ?_
          exact ih16 (Int.toNat (16 - (v16_4 + 1))) (by omega) _ ht52 z12 (v16_4 + 1) ⟨by omega, by omega, by omega, by omega⟩ (by omega)
        refine t_icmp_ne (pc := 41) (tgt := 51) dX12_members_41 (by decide) (by omega) (by omega) (fun c41 => ?_) (fun c41 => ?_)
        · refine r_iconst (pc := 51) (v := iv 0) dX12_members_51 (by decide) ?_
          refine Rn.pick (lv' := [(0, .ref y), (1, .int (iv x1)), (2, .int (iv x2)), (4, .int (iv v16_4))]) [0, 1, 2, 4] rfl ?_
          exact B52 _ ht16 0 ⟨by omega, by omega⟩
        · refine r_iconst (pc := 44) (v := iv 1) dX12_members_44 (by decide) ?_
          refine r_iload (pc := 45) dX12_members_45 rfl ?_
          obtain ⟨z13, hz13, bz13⟩ := shl_1 0 15 v16_4 (by omega) (by omega) (by decide)
          refine r_ishl (pc := 47) (v := iv z13) dX12_members_47 hz13 ?_
          refine r_goto (pc := 48) (tgt := 52) dX12_members_48 (by decide) ?_
          refine Rn.pick (lv' := [(0, .ref y), (1, .int (iv x1)), (2, .int (iv x2)), (4, .int (iv v16_4))]) [0, 1, 2, 4] rfl ?_
          exact B52 _ ht16 z13 ⟨by omega, by omega⟩
    refine Rn.pick (lv' := [(0, .ref y), (1, .int (iv x1)), (2, .int (iv x2)), (3, .int (iv 0)), (4, .int (iv 0))]) [2, 3, 4, 1, 0] rfl ?_
    exact B16 (Int.toNat (16 - 0)) _ ht6 0 0 ⟨by omega, by omega, by omega, by omega⟩ (by omega)
  · refine r_iconst (pc := 9) (v := iv 0) dX12_members_9 (by decide) ?_
    exact r_iret (pc := 10) dX12_members_10 rfl ⟨rfl, v_8, cn, nm, so, sz, dr, mn, fr, tt, wt, co, nu, qi, qc, nf, nt, nw, nc, 0, ht6, rfl, (by (first | assumption | exact RK_set hk (by omega) (by omega))), (by (first | assumption | exact df_r _ _ _ _ _ _ _)), (by omega)⟩
