theorem mn_up {f f0 : Nat → Int} {i : Nat} {k : Int} (h : f = fup f0 i k) : fup f i (f i + 1) = fup f0 i (k + 1) := by subst h; rw [fup_s, fup_fup]
theorem enA_eq {fr tt mn sz fr1 tt1 mn1 sz1 : Nat → Int} {g : Int} (h : enA fr tt mn sz g) (hz : sz1 g.toNat = sz g.toNat) (hm : mn1 g.toNat = mn g.toNat) (hf : ∀ e : Int, 0 ≤ e → e < mn g.toNat → fr1 (60 * g + e).toNat = fr (60 * g + e).toNat ∧ tt1 (60 * g + e).toNat = tt (60 * g + e).toNat) : enA fr1 tt1 mn1 sz1 g := by
  refine ⟨by rw [hz]; exact h.1, fun e h0 h1 => ?_⟩
  rw [hm] at h1
  have h2 := h.2 e h0 h1
  have h3 := hf e h0 h1
  rw [hz, h3.1, h3.2]; exact h2
theorem df_r (sz dr mn fr tt wt co : Nat → Int) : dfE sz dr mn fr tt wt co sz dr mn fr tt wt co := ⟨rfl, rfl, rfl, fun _ _ => ⟨rfl, rfl, rfl, rfl⟩⟩
theorem RK_set {rf cn nm : Int} {so sz dr mn fr tt wt co : Nat → Int} {nu : Nat → Int64} {qi qc nf nt nw nc : Nat → Int} {rf1 nm1 : Int} {nu1 : Nat → Int64} {nf1 nt1 nw1 nc1 : Nat → Int} (hk : RK rf cn nm so sz dr mn fr tt wt co nu qi qc nf nt nw nc) (h1 : -2147483648 ≤ rf1 ∧ rf1 ≤ 2147483647) (h2 : 0 ≤ nm1 ∧ nm1 ≤ 400) : RK rf1 cn nm1 so sz dr mn fr tt wt co nu1 qi qc nf1 nt1 nw1 nc1 := by
  obtain ⟨hR_sorts, hR_sizes, hR_directs, hR_many, hR_from, hR_to, hR_weight, hR_cost, hR_inPart, hR_partCount, hcn, hrf, hnm, hdf, hgr, hpa, hsz⟩ := hk
  exact ⟨hR_sorts, hR_sizes, hR_directs, hR_many, hR_from, hR_to, hR_weight, hR_cost, hR_inPart, hR_partCount, hcn, h1, h2, hdf, hgr, hpa, hsz⟩
theorem RK_new {rf cn nm : Int} {so sz dr mn fr tt wt co : Nat → Int} {nu : Nat → Int64} {qi qc nf nt nw nc : Nat → Int} {rf1 nm1 : Int} {so1 sz1 dr1 mn1 fr1 tt1 wt1 co1 : Nat → Int} {nu1 : Nat → Int64} {qi1 qc1 nf1 nt1 nw1 nc1 : Nat → Int} {k N : Int} (hk : RK rf cn nm so sz dr mn fr tt wt co nu qi qc nf nt nw nc) (hc : cn < 120) (h1 : -2147483648 ≤ rf1 ∧ rf1 ≤ 2147483647) (h2 : 0 ≤ nm1 ∧ nm1 ≤ 400) (hso : so1 = fup so (Int.toNat cn) k) (hsz1 : sz1 = fup sz (Int.toNat cn) N) (hK : 1 ≤ k ∧ k ≤ 4) (hN : 1 ≤ N ∧ N ≤ 16) (k_dr : Rfx 121 0 1 dr1) (k_mn : Rfx 121 0 60 mn1) (k_fr : Rfx 7260 0 15 fr1) (k_tt : Rfx 7260 0 15 tt1) (k_wt : Rfx 7260 (-1000) 1000 wt1) (k_co : Rfx 7260 (-1000) 1000 co1) (k_qi : Rfx 1936 0 15 qi1) (k_qc : Rfx 121 0 16 qc1) (ha : ∀ g : Nat, g ≠ Int.toNat cn → dr1 g = dr g ∧ mn1 g = mn g ∧ qc1 g = qc g) (hb : ∀ i : Nat, ¬ (60 * cn ≤ (i : Int) ∧ (i : Int) < 60 * cn + 60) → fr1 i = fr i ∧ tt1 i = tt i ∧ wt1 i = wt i ∧ co1 i = co i) (hq : ∀ i : Nat, ¬ (16 * cn ≤ (i : Int) ∧ (i : Int) < 16 * cn + 16) → qi1 i = qi i) (h3 : k = 1 → enA fr1 tt1 mn1 sz1 cn) (h4 : k = 4 → ∀ v : Int, 0 ≤ v → v < N → qi1 (16 * cn + v).toNat < qc1 cn.toNat) : RK rf1 (cn + 1) nm1 so1 sz1 dr1 mn1 fr1 tt1 wt1 co1 nu1 qi1 qc1 nf1 nt1 nw1 nc1 ∧ dfE sz dr mn fr tt wt co sz1 dr1 mn1 fr1 tt1 wt1 co1 := by
  obtain ⟨hR_sorts, hR_sizes, hR_directs, hR_many, hR_from, hR_to, hR_weight, hR_cost, hR_inPart, hR_partCount, hcn, hrf, hnm, hdf, hgr, hpa, hsz⟩ := hk
  have hs : sz1 cn.toNat = N := by rw [hsz1, fup_s]
  have hso' : ∀ g : Int, 0 ≤ g → g ≠ cn → so1 g.toNat = so g.toNat := fun g h0 hg => by rw [hso, fup_o _ _ (by omega)]
  have hsz' : ∀ g : Int, 0 ≤ g → g ≠ cn → sz1 g.toNat = sz g.toNat := fun g h0 hg => by rw [hsz1, fup_o _ _ (by omega)]
  have hen : ∀ g : Int, 0 ≤ g → g ≠ cn → g ≤ 120 → enA fr tt mn sz g → enA fr1 tt1 mn1 sz1 g := fun g h0 hg h9 h => by
    have hm9 := hR_many g.toNat (by omega)
    exact enA_eq h (hsz' g h0 hg) (ha g.toNat (by omega)).2.1 (fun e e0 e1 => by
      have h8 := hb (60 * g + e).toNat (by omega)
      exact ⟨h8.1, h8.2.1⟩)
  refine ⟨⟨?_, ?_, k_dr, k_mn, k_fr, k_tt, k_wt, k_co, k_qi, k_qc, by omega, h1, h2, hen 120 (by omega) (by omega) (by omega) hdf, ?_, ?_, ?_⟩, ?_⟩
  · rw [hso]; exact Rfx_up hR_sorts (by omega)
  · rw [hsz1]; exact Rfx_up hR_sizes (by omega)
  · intro g h0 hg hs1
    by_cases hgc : g = cn
    · subst hgc; rw [hso, fup_s] at hs1; exact h3 hs1
    · rw [hso' g h0 hgc] at hs1; exact hen g h0 hgc (by omega) (hgr g h0 (by omega) hs1)
  · intro g h0 hg hs1 v v0 v1
    by_cases hgc : g = cn
    · subst hgc; rw [hso, fup_s] at hs1; rw [hs] at v1; exact h4 hs1 v v0 v1
    · rw [hso' g h0 hgc] at hs1; rw [hsz' g h0 hgc] at v1
      have h9 := hR_sizes g.toNat (by omega)
      rw [hq _ (by omega), (ha g.toNat (by omega)).2.2]; exact hpa g h0 (by omega) hs1 v v0 v1
  · intro g h0 hg
    by_cases hgc : g = cn
    · subst hgc; rw [hs]; exact hN.1
    · rw [hsz' g h0 hgc]; exact hsz g h0 (by omega)
  · have h9 := ha 120 (by omega)
    refine ⟨by have := hsz' 120 (by omega) (by omega); exact this, h9.1, h9.2.1, fun i hi => hb i (by omega)⟩
theorem RK_made {rf cn nm : Int} {so sz dr mn fr tt wt co : Nat → Int} {nu : Nat → Int64} {qi qc nf nt nw nc : Nat → Int} {x1 x2 h v c1 : Int} {s1 z1 d1 m1 f1 t1 w1 o1 : Nat → Int} (hk : RK rf cn nm so sz dr mn fr tt wt co nu qi qc nf nt nw nc) (hx : 1 ≤ x1 ∧ x1 ≤ 16) (hx2 : 0 ≤ x2 ∧ x2 ≤ 1) (hal : nm ≤ 60 → arP nf nt nw nc nm x1) (q0 : (60 < nm ∨ cn = 120) → h = -4 ∧ v = -4 ∧ c1 = cn) (q1 : (60 < nm ∨ cn = 120) → s1 = so ∧ z1 = sz ∧ d1 = dr ∧ m1 = mn ∧ f1 = fr ∧ t1 = tt ∧ w1 = wt ∧ o1 = co) (q2 : nm ≤ 60 ∧ cn < 120 → h = cn ∧ v = rf ∧ c1 = cn + 1) (q3 : nm ≤ 60 ∧ cn < 120 → s1 = fup so (Int.toNat cn) 1 ∧ z1 = fup sz (Int.toNat cn) x1 ∧ d1 = fup dr (Int.toNat cn) x2 ∧ m1 = fup mn (Int.toNat cn) nm ∧ f1 = kcF nf fr (Int.toNat (60 * cn)) (Int.toNat nm) ∧ t1 = kcF nt tt (Int.toNat (60 * cn)) (Int.toNat nm) ∧ w1 = kcF nw wt (Int.toNat (60 * cn)) (Int.toNat nm) ∧ o1 = kcF nc co (Int.toNat (60 * cn)) (Int.toNat nm)) : RK v c1 nm s1 z1 d1 m1 f1 t1 w1 o1 nu qi qc nf nt nw nc ∧ dfE sz dr mn fr tt wt co z1 d1 m1 f1 t1 w1 o1 ∧ (-4 ≤ h ∧ h ≤ 119) := by
  have hb := hk
  obtain ⟨hR_sorts, hR_sizes, hR_directs, hR_many, hR_from, hR_to, hR_weight, hR_cost, hR_inPart, hR_partCount, hcn, hrf, hnm, hdf, hgr, hpa, hsz⟩ := hb
  by_cases hc : 60 < nm ∨ cn = 120
  · obtain ⟨e1, e2, e3⟩ := q0 hc
    obtain ⟨rfl, rfl, rfl, rfl, rfl, rfl, rfl, rfl⟩ := q1 hc
    rw [e3]
    exact ⟨RK_set hk (by omega) hnm, df_r _ _ _ _ _ _ _, by omega⟩
  · obtain ⟨e1, e2, e3⟩ := q2 (by omega)
    obtain ⟨e4, e5, e6, e7, e8, e9, e10, e11⟩ := q3 (by omega)
    have ha := hal (by omega)
    have hA : ∀ i : Nat, i < nm.toNat → (0 ≤ nf i ∧ nf i < x1) ∧ (0 ≤ nt i ∧ nt i < x1) ∧ (-1000 ≤ nw i ∧ nw i ≤ 1000) ∧ (-1000 ≤ nc i ∧ nc i ≤ 1000) := fun i hi => ha (i : Int) (by omega) (by omega)
    have hn := RK_new (rf1 := v) (nm1 := nm) (so1 := s1) (sz1 := z1) (dr1 := d1) (mn1 := m1) (fr1 := f1) (tt1 := t1) (wt1 := w1) (co1 := o1) (nu1 := nu) (qi1 := qi) (qc1 := qc) (nf1 := nf) (nt1 := nt) (nw1 := nw) (nc1 := nc) (k := 1) (N := x1) hk (by omega) (by omega) hnm e4 e5 (by omega) hx
      (by rw [e6]; exact Rfx_up hR_directs hx2) (by rw [e7]; exact Rfx_up hR_many (by omega))
      (by rw [e8]; exact Rfx_cp hR_from (fun i hi => by have := hA i hi; omega)) (by rw [e9]; exact Rfx_cp hR_to (fun i hi => by have := hA i hi; omega))
      (by rw [e10]; exact Rfx_cp hR_weight (fun i hi => (hA i hi).2.2.1)) (by rw [e11]; exact Rfx_cp hR_cost (fun i hi => (hA i hi).2.2.2)) hR_inPart hR_partCount
      (fun g hg => ⟨by rw [e6, fup_o _ _ hg], by rw [e7, fup_o _ _ hg], rfl⟩)
      (fun i hi => ⟨by rw [e8, kcF_out (by omega)], by rw [e9, kcF_out (by omega)], by rw [e10, kcF_out (by omega)], by rw [e11, kcF_out (by omega)]⟩)
      (fun _ _ => rfl)
      (fun _ => ⟨by rw [e5, fup_s]; exact hx.1, fun e h0 h1 => by
        rw [e7, fup_s] at h1
        rw [e5, fup_s, e8, e9, kcF_in (by omega), kcF_in (by omega)]
        have h9 := hA ((60 * cn + e).toNat - (60 * cn).toNat) (by omega)
        exact ⟨h9.1.2, h9.2.1.2⟩⟩) (fun h9 => by omega)
    rw [e3]
    exact ⟨hn.1, hn.2, by omega⟩
def q_X12_made (Γ : TG) (cI cJ cZ : ClassId) (y n : Nat) (rf cn nm : Int) (so sz dr mn fr tt wt co : Nat → Int) (nu : Nat → Int64) (qi qc nf nt nw nc : Nat → Int) (x1 x2 : Int) : Option Value → MH → Nat → Prop := fun r hp1 n1 => n1 = n ∧ ∃ (h : Int) (v : Int) (c1 : Int) (s1 : Nat → Int) (z1 : Nat → Int) (d1 : Nat → Int) (m1 : Nat → Int) (f1 : Nat → Int) (t1 : Nat → Int) (w1 : Nat → Int) (o1 : Nat → Int), Tw (RG Γ cI cJ cZ y v c1 nm s1 z1 d1 m1 f1 t1 w1 o1 nu qi qc nf nt nw nc) hp1 ∧ r = some (.int (iv h)) ∧ ((60 < nm ∨ cn = 120) → h = -4 ∧ v = -4 ∧ c1 = cn) ∧ ((60 < nm ∨ cn = 120) → s1 = so ∧ z1 = sz ∧ d1 = dr ∧ m1 = mn ∧ f1 = fr ∧ t1 = tt ∧ w1 = wt ∧ o1 = co) ∧ (nm ≤ 60 ∧ cn < 120 → h = cn ∧ v = rf ∧ c1 = cn + 1) ∧ (nm ≤ 60 ∧ cn < 120 → s1 = fup so (Int.toNat cn) 1 ∧ z1 = fup sz (Int.toNat cn) x1 ∧ d1 = fup dr (Int.toNat cn) x2 ∧ m1 = fup mn (Int.toNat cn) nm ∧ f1 = kcF nf fr (Int.toNat (60 * cn)) (Int.toNat nm) ∧ t1 = kcF nt tt (Int.toNat (60 * cn)) (Int.toNat nm) ∧ w1 = kcF nw wt (Int.toNat (60 * cn)) (Int.toNat nm) ∧ o1 = kcF nc co (Int.toNat (60 * cn)) (Int.toNat nm))
set_option maxHeartbeats 4000000 in
set_option maxRecDepth 100000 in
theorem s_X12_made {D : va_G} {cI cJ cZ cT : ClassId} {lo b L : Nat} {xs : Nat → Int32} {hp : MH} {n d : Nat} {Γ : TG} {y : Nat} {rf cn nm : Int} {so sz dr mn fr tt wt co : Nat → Int} {nu : Nat → Int64} {qi qc nf nt nw nc : Nat → Int} {x1 x2 : Int} (hd0 : 2 ≤ d) (hk : RK rf cn nm so sz dr mn fr tt wt co nu qi qc nf nt nw nc) (ht : Tw (RG Γ cI cJ cZ y rf cn nm so sz dr mn fr tt wt co nu qi qc nf nt nw nc) hp) (hx1 : 1 ≤ x1 ∧ x1 ≤ 16) (hx2 : 0 ≤ x2 ∧ x2 ≤ 1) (hal : nm ≤ 60 → arP nf nt nw nc nm x1) : Mt (gG D cI cJ cZ cT lo b L xs) mX12_made d 0 0 [.ref y, .int (iv x1), .int (iv x2)] hp n (q_X12_made Γ cI cJ cZ y n rf cn nm so sz dr mn fr tt wt co nu qi qc nf nt nw nc x1 x2) := by
  refine Mt.of rfl (Nat.le_of_ble_eq_true rfl) ?_
  refine Rn.pick (lv' := [(0, .ref y), (1, .int (iv x1)), (2, .int (iv x2))]) [0, 1, 2] rfl ?_
  obtain ⟨hR_sorts, hR_sizes, hR_directs, hR_many, hR_from, hR_to, hR_weight, hR_cost, hR_inPart, hR_partCount, hcn, hrf, hnm, hdf, hgr, hpa, hsz⟩ := id hk
  refine r_aload_n (pc := 0) dX12_made_0 (i := 0) rfl rfl ?_
  refine t_getE (pc := 1) (.int (iv nm)) ht (rd_of RG_y) fX12_165 dX12_made_1 rfl ?_
  refine r_bipush (pc := 4) (v := iv 60) dX12_made_4 (by decide) ?_
  refine t_icmp_le (pc := 6) (tgt := 16) dX12_made_6 (by decide) (by omega) (by omega) (fun c6 => ?_) (fun c6 => ?_)
  · refine r_aload_n (pc := 16) dX12_made_16 (i := 0) rfl rfl ?_
    refine r_iconst (pc := 17) (v := iv 1) dX12_made_17 (by decide) ?_
    obtain ⟨fs5, hfs5⟩ := t_obj ht (rd_of RG_y)
    refine r_callV (pc := 18) (as := [.int (iv 1)]) (st := []) kX12_168 rfl dX12_made_18 hfs5 (s_X12_keep (d := d - 1) (x1 := 1) (by omega) (by omega) (by assumption) (by omega) ht (by omega)) rfl (by omega) (Nat.le_of_ble_eq_true rfl) (Nat.zero_le _) (Nat.zero_le _) rfl (fun r2 hp1 n3 hq4 => ?_)
    obtain ⟨hnn3, v_8, c1_9, s1_10, h_11, ht6, hrr2, hhq40, hhq41, hhq42, hhq43⟩ := hq4
    subst n3 r2
    have hhq40 : -4 ≤ h_11 ∧ h_11 ≤ 119 ∧ 0 ≤ c1_9 ∧ c1_9 ≤ 120 ∧ -2147483648 ≤ v_8 ∧ v_8 ≤ 2147483647 := hhq40
    have hhq41 : (cn = 120 ∧ h_11 = -4 ∧ v_8 = -4 ∧ c1_9 = cn) ∨ (cn < 120 ∧ h_11 = cn ∧ v_8 = rf ∧ c1_9 = cn + 1) := hhq41
    have hhq42 : cn = 120 → s1_10 = so := hhq42
    have hhq43 : cn < 120 → s1_10 = fup so (Int.toNat cn) 1 := hhq43
    change Rn _ _ _ 21 _ [.int (iv h_11)] _ _ _ _ _
    refine r_istore_n (pc := 21) (lv' := [(3, .int (iv h_11)), (0, .ref y), (1, .int (iv x1)), (2, .int (iv x2))]) dX12_made_21 (i := 3) rfl (by decide) rfl ?_
    refine r_iload_n (pc := 22) dX12_made_22 (i := 3) rfl rfl ?_
    refine t_if_ge (pc := 23) (tgt := 28) dX12_made_23 (by decide) (by omega) (fun c23 => ?_) (fun c23 => ?_)
    · have ek : cn < 120 ∧ h_11 = cn ∧ v_8 = rf ∧ c1_9 = cn + 1 := by omega
      have es : s1_10 = fup so (Int.toNat cn) 1 := hhq43 (by omega)
      rw [ek.2.2.1, ek.2.2.2, es] at ht6
      have hRso : Rfx 121 0 4 (fup so (Int.toNat cn) 1) := Rfx_up (by assumption) (by omega)
      refine r_aload_n (pc := 28) dX12_made_28 (i := 0) rfl rfl ?_
      refine t_getE (pc := 29) (.ref (y + 2)) ht6 (rd_of RG_y) fX12_13 dX12_made_29 rfl ?_
      refine r_iload_n (pc := 32) dX12_made_32 (i := 3) rfl rfl ?_
      refine r_iload_n (pc := 33) dX12_made_33 (i := 1) rfl rfl ?_
      refine t_iastX (pc := 34) (t0 := 0) ht6 RG_sizes dX12_made_34 rfl (by decide) (by omega) (by omega) (fun hp12 ht13 => ?_)
      have ht14 := RGw_sz ht13
      have hqht14 : Rfx 121 0 16 (fup sz (Int.toNat h_11) x1) := Rfx_up (by assumption) (by omega)
      refine r_aload_n (pc := 35) dX12_made_35 (i := 0) rfl rfl ?_
      refine t_getE (pc := 36) (.ref (y + 3)) ht14 (rd_of RG_y) fX12_16 dX12_made_36 rfl ?_
      refine r_iload_n (pc := 39) dX12_made_39 (i := 3) rfl rfl ?_
      refine r_iload_n (pc := 40) dX12_made_40 (i := 2) rfl rfl ?_
      refine t_zastX (pc := 41) (t0 := 2) ht14 RG_directs dX12_made_41 rfl (by decide) (by omega) (by omega) (fun hp15 ht16 => ?_)
      have ht17 := RGw_dr ht16
      have hqht17 : Rfx 121 0 1 (fup dr (Int.toNat h_11) x2) := Rfx_up (by assumption) (by omega)
      refine r_aload_n (pc := 42) dX12_made_42 (i := 0) rfl rfl ?_
      refine t_getE (pc := 43) (.ref (y + 4)) ht17 (rd_of RG_y) fX12_20 dX12_made_43 rfl ?_
      refine r_iload_n (pc := 46) dX12_made_46 (i := 3) rfl rfl ?_
      refine r_iconst (pc := 47) (v := iv 0) dX12_made_47 (by decide) ?_
      refine t_iastX (pc := 48) (t0 := 0) ht17 RG_many dX12_made_48 rfl (by decide) (by omega) (by omega) (fun hp18 ht19 => ?_)
      have ht20 := RGw_mn ht19
      have hqht20 : Rfx 121 0 60 (fup mn (Int.toNat h_11) 0) := Rfx_up (by assumption) (by omega)
      refine r_iconst (pc := 49) (v := iv 0) dX12_made_49 (by decide) ?_
      refine r_istore (pc := 50) (lv' := [(4, .int (iv 0)), (3, .int (iv h_11)), (0, .ref y), (1, .int (iv x1)), (2, .int (iv x2))]) dX12_made_50 (by decide) rfl ?_
      have B52 : ∀ k : Nat, ∀ mn52 : Nat → Int, ∀ fr52 : Nat → Int, ∀ tt52 : Nat → Int, ∀ wt52 : Nat → Int, ∀ co52 : Nat → Int, ∀ hp52 : MH, Tw (RG Γ cI cJ cZ y rf (cn + 1) nm (fup so (Int.toNat cn) 1) (fup sz (Int.toNat h_11) x1) (fup dr (Int.toNat h_11) x2) mn52 fr52 tt52 wt52 co52 nu qi qc nf nt nw nc) hp52 → ∀  (v52_4 : Int), 0 ≤ v52_4 ∧ v52_4 ≤ 60 ∧ Rfx 121 0 60 mn52 ∧ Rfx 7260 0 15 fr52 ∧ Rfx 7260 0 15 tt52 ∧ Rfx 7260 (-1000) 1000 wt52 ∧ Rfx 7260 (-1000) 1000 co52 ∧ v52_4 ≤ nm ∧ mn52 = fup mn (Int.toNat h_11) v52_4 ∧ fr52 = kcF nf fr (Int.toNat (60 * h_11)) (Int.toNat v52_4) ∧ tt52 = kcF nt tt (Int.toNat (60 * h_11)) (Int.toNat v52_4) ∧ wt52 = kcF nw wt (Int.toNat (60 * h_11)) (Int.toNat v52_4) ∧ co52 = kcF nc co (Int.toNat (60 * h_11)) (Int.toNat v52_4) → 60 - v52_4 ≤ (k : Int) → Rn (gG D cI cJ cZ cT lo b L xs) mX12_made d 52 [(0, .ref y), (3, .int (iv h_11)), (4, .int (iv v52_4))] [] hp52 n 0 0 (q_X12_made Γ cI cJ cZ y n rf cn nm so sz dr mn fr tt wt co nu qi qc nf nt nw nc x1 x2) := by
        refine lpS _ ?_
        intro k52 ih52 mn52 fr52 tt52 wt52 co52 hp52 ht52 v52_4 hf52 hm52
        obtain ⟨hf52_0, hf52_1, ha52_2, ha52_3, ha52_4, ha52_5, ha52_6, hf52_7, ha52_8, ha52_9, ha52_10, ha52_11, ha52_12⟩ := hf52
        refine r_iload (pc := 52) dX12_made_52 rfl ?_
        have hmv : mn52 (Int.toNat h_11) = v52_4 := by rw [(show mn52 = fup mn (Int.toNat h_11) v52_4 by assumption), fup_s]
        refine r_aload_n (pc := 54) dX12_made_54 (i := 0) rfl rfl ?_
        refine t_getE (pc := 55) (.int (iv nm)) ht52 (rd_of RG_y) fX12_165 dX12_made_55 rfl ?_
        refine t_icmp_ge (pc := 58) (tgt := 100) dX12_made_58 (by decide) (by omega) (by omega) (fun c58 => ?_) (fun c58 => ?_)
        · refine r_iload_n (pc := 100) dX12_made_100 (i := 3) rfl rfl ?_
          exact r_iret (pc := 101) dX12_made_101 rfl ⟨rfl, h_11, rf, (cn + 1), (fup so (Int.toNat cn) 1), (fup sz (Int.toNat h_11) x1), (fup dr (Int.toNat h_11) x2), mn52, fr52, tt52, wt52, co52, ht52, rfl, (by omega), (by (first | (intro h9; exfalso; omega) | (intro _; exact ⟨rfl, rfl, rfl, rfl, rfl, rfl, rfl, rfl⟩))), (by omega), (by (intro h9; have e1 : h_11 = cn := (by omega); have e2 : v52_4 = nm := (by omega); exact ⟨rfl, by rw [e1], by rw [e1], by rw [(show mn52 = fup mn (Int.toNat h_11) v52_4 by assumption), e1, e2], by rw [(show fr52 = kcF nf fr (Int.toNat (60 * h_11)) (Int.toNat v52_4) by assumption), e1, e2], by rw [(show tt52 = kcF nt tt (Int.toNat (60 * h_11)) (Int.toNat v52_4) by assumption), e1, e2], by rw [(show wt52 = kcF nw wt (Int.toNat (60 * h_11)) (Int.toNat v52_4) by assumption), e1, e2], by rw [(show co52 = kcF nc co (Int.toNat (60 * h_11)) (Int.toNat v52_4) by assumption), e1, e2]⟩))⟩
        · refine r_aload_n (pc := 61) dX12_made_61 (i := 0) rfl rfl ?_
          have har := hal (by omega) v52_4 (by omega) (by omega)
          refine r_iload_n (pc := 62) dX12_made_62 (i := 3) rfl rfl ?_
          refine r_aload_n (pc := 63) dX12_made_63 (i := 0) rfl rfl ?_
          refine t_getE (pc := 64) (.ref (y + 17)) ht52 (rd_of RG_y) fX12_60 dX12_made_64 rfl ?_
          refine r_iload (pc := 67) dX12_made_67 rfl ?_
          refine t_ialdX (pc := 69) (t0 := 0) ht52 (rd_of RG_nf) dX12_made_69 rfl (by decide) (by omega) (fun b21 => ?_)
          refine r_aload_n (pc := 70) dX12_made_70 (i := 0) rfl rfl ?_
          refine t_getE (pc := 71) (.ref (y + 18)) ht52 (rd_of RG_y) fX12_63 dX12_made_71 rfl ?_
          refine r_iload (pc := 74) dX12_made_74 rfl ?_
          refine t_ialdX (pc := 76) (t0 := 0) ht52 (rd_of RG_nt) dX12_made_76 rfl (by decide) (by omega) (fun b22 => ?_)
          refine r_aload_n (pc := 77) dX12_made_77 (i := 0) rfl rfl ?_
          refine t_getE (pc := 78) (.ref (y + 19)) ht52 (rd_of RG_y) fX12_66 dX12_made_78 rfl ?_
          refine r_iload (pc := 81) dX12_made_81 rfl ?_
          refine t_ialdX (pc := 83) (t0 := 0) ht52 (rd_of RG_nw) dX12_made_83 rfl (by decide) (by omega) (fun b23 => ?_)
          refine r_aload_n (pc := 84) dX12_made_84 (i := 0) rfl rfl ?_
          refine t_getE (pc := 85) (.ref (y + 20)) ht52 (rd_of RG_y) fX12_69 dX12_made_85 rfl ?_
          refine r_iload (pc := 88) dX12_made_88 rfl ?_
          refine t_ialdX (pc := 90) (t0 := 0) ht52 (rd_of RG_nc) dX12_made_90 rfl (by decide) (by omega) (fun b24 => ?_)
          obtain ⟨fs29, hfs29⟩ := t_obj ht52 (rd_of RG_y)
          refine r_callV (pc := 91) (as := [.int (iv h_11), .int (iv (nf (Int.toNat v52_4))), .int (iv (nt (Int.toNat v52_4))), .int (iv (nw (Int.toNat v52_4))), .int (iv (nc (Int.toNat v52_4)))]) (st := []) kX12_161 rfl dX12_made_91 hfs29 (s_X12_add (d := d - 1) (x1 := h_11) (x2 := nf (Int.toNat v52_4)) (x3 := nt (Int.toNat v52_4)) (x4 := nw (Int.toNat v52_4)) (x5 := nc (Int.toNat v52_4)) (by omega) (by assumption) (by assumption) (by assumption) (by assumption) (by assumption) ht52 (by omega) (by omega) (by omega) (by omega) (by omega) (by omega)) rfl (by omega) (Nat.le_of_ble_eq_true rfl) (Nat.zero_le _) (Nat.zero_le _) rfl (fun r26 hp25 n27 hq28 => ?_)
          obtain ⟨hnn27, ht30, hrr26⟩ := hq28
          subst n27 r26
          have hqR32 : Rfx 7260 0 15 (fup fr52 (Int.toNat (60 * h_11 + mn52 (Int.toNat h_11))) (nf (Int.toNat v52_4))) := Rfx_up (by assumption) (by omega)
          have hqR33 : Rfx 7260 0 15 (fup tt52 (Int.toNat (60 * h_11 + mn52 (Int.toNat h_11))) (nt (Int.toNat v52_4))) := Rfx_up (by assumption) (by omega)
          have hqR34 : Rfx 7260 (-1000) 1000 (fup wt52 (Int.toNat (60 * h_11 + mn52 (Int.toNat h_11))) (nw (Int.toNat v52_4))) := Rfx_up (by assumption) (by omega)
          have hqR35 : Rfx 7260 (-1000) 1000 (fup co52 (Int.toNat (60 * h_11 + mn52 (Int.toNat h_11))) (nc (Int.toNat v52_4))) := Rfx_up (by assumption) (by omega)
          have hqR36 : Rfx 121 0 60 (fup mn52 (Int.toNat h_11) (mn52 (Int.toNat h_11) + 1)) := Rfx_up (by assumption) (by omega)
          change Rn _ _ _ 94 _ [] _ _ _ _ _
          refine r_iinc (pc := 94) (v := iv (v52_4 + 1)) (lv' := [(4, .int (iv (v52_4 + 1))), (0, .ref y), (3, .int (iv h_11))]) dX12_made_94 rfl (iv_add _ _) (by decide) rfl ?_
          refine r_goto (pc := 97) (tgt := 52) dX12_made_97 (by decide) ?_
          refine Rn.pick (lv' := [(0, .ref y), (3, .int (iv h_11)), (4, .int (iv (v52_4 + 1)))]) [1, 2, 0] rfl ?_
          exact ih52 (Int.toNat (60 - (v52_4 + 1))) (by omega) (fup mn52 (Int.toNat h_11) (mn52 (Int.toNat h_11) + 1)) (fup fr52 (Int.toNat (60 * h_11 + mn52 (Int.toNat h_11))) (nf (Int.toNat v52_4))) (fup tt52 (Int.toNat (60 * h_11 + mn52 (Int.toNat h_11))) (nt (Int.toNat v52_4))) (fup wt52 (Int.toNat (60 * h_11 + mn52 (Int.toNat h_11))) (nw (Int.toNat v52_4))) (fup co52 (Int.toNat (60 * h_11 + mn52 (Int.toNat h_11))) (nc (Int.toNat v52_4))) _ ht30 (v52_4 + 1) ⟨by omega, by omega, by assumption, by assumption, by assumption, by assumption, by assumption, by omega, by (first | rfl | exact mn_up (by assumption)), by (first | exact (kcF_0 _ _ _).symm | exact kcF_up (by assumption) (by omega) (by omega) rfl), by (first | exact (kcF_0 _ _ _).symm | exact kcF_up (by assumption) (by omega) (by omega) rfl), by (first | exact (kcF_0 _ _ _).symm | exact kcF_up (by assumption) (by omega) (by omega) rfl), by (first | exact (kcF_0 _ _ _).symm | exact kcF_up (by assumption) (by omega) (by omega) rfl)⟩ (by omega)
      refine Rn.pick (lv' := [(0, .ref y), (3, .int (iv h_11)), (4, .int (iv 0))]) [2, 1, 0] rfl ?_
      exact B52 (Int.toNat (60 - 0)) (fup mn (Int.toNat h_11) 0) fr tt wt co _ ht20 0 ⟨by omega, by omega, by assumption, by assumption, by assumption, by assumption, by assumption, by omega, by (first | rfl | exact mn_up (by assumption)), by (first | exact (kcF_0 _ _ _).symm | exact kcF_up (by assumption) (by omega) (by omega) rfl), by (first | exact (kcF_0 _ _ _).symm | exact kcF_up (by assumption) (by omega) (by omega) rfl), by (first | exact (kcF_0 _ _ _).symm | exact kcF_up (by assumption) (by omega) (by omega) rfl), by (first | exact (kcF_0 _ _ _).symm | exact kcF_up (by assumption) (by omega) (by omega) rfl)⟩ (by omega)
    · have ek : cn = 120 ∧ h_11 = -4 ∧ v_8 = -4 ∧ c1_9 = cn := by omega
      have es : s1_10 = so := hhq42 (by omega)
      rw [ek.2.2.1, ek.2.2.2, es] at ht6
      refine r_iload_n (pc := 26) dX12_made_26 (i := 3) rfl rfl ?_
      exact r_iret (pc := 27) dX12_made_27 rfl ⟨rfl, h_11, (-4), cn, so, sz, dr, mn, fr, tt, wt, co, ht6, rfl, (by omega), (by (first | (intro h9; exfalso; omega) | (intro _; exact ⟨rfl, rfl, rfl, rfl, rfl, rfl, rfl, rfl⟩))), (by omega), (by (intro h9; exfalso; omega))⟩
  · refine r_aload_n (pc := 9) dX12_made_9 (i := 0) rfl rfl ?_
    refine r_bipush (pc := 10) (v := iv (-4)) dX12_made_10 (by decide) ?_
    obtain ⟨fs41, hfs41⟩ := t_obj ht (rd_of RG_y)
    refine r_callV (pc := 12) (as := [.int (iv (-4))]) (st := []) kX12_153 rfl dX12_made_12 hfs41 (s_X12_refuse (d := d - 1) (x1 := (-4)) (by omega) ht (by omega)) rfl (by omega) (Nat.le_of_ble_eq_true rfl) (Nat.zero_le _) (Nat.zero_le _) rfl (fun r38 hp37 n39 hq40 => ?_)
    obtain ⟨hnn39, ht42, hrr38⟩ := hq40
    subst n39 r38
    change Rn _ _ _ 15 _ [.int (iv (-4))] _ _ _ _ _
    exact r_iret (pc := 15) dX12_made_15 rfl ⟨rfl, (-4), (-4), cn, so, sz, dr, mn, fr, tt, wt, co, ht42, rfl, (by omega), (by (first | (intro h9; exfalso; omega) | (intro _; exact ⟨rfl, rfl, rfl, rfl, rfl, rfl, rfl, rfl⟩))), (by omega), (by (intro h9; exfalso; omega))⟩
