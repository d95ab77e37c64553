def bcI (x : Int) : Nat → Int
  | 0 => 0
  | k + 1 => bcI x k + ((x.toNat >>> k : Nat) : Int) % 2
theorem bc_step (x : Int) {k : Int} (h : 0 ≤ k) : bcI x (k + 1).toNat = bcI x k.toNat + ((x.toNat >>> k.toNat : Nat) : Int) % 2 := by
  rw [show (k + 1).toNat = k.toNat + 1 by omega]; rfl
theorem bc_le (x : Int) : ∀ k : Nat, 0 ≤ bcI x k ∧ bcI x k ≤ (k : Int)
  | 0 => by simp [bcI]
  | k + 1 => by
    have h := bc_le x k
    have e : bcI x (k + 1) = bcI x k + ((x.toNat >>> k : Nat) : Int) % 2 := rfl
    rw [e]; omega
theorem bc_mono (x : Int) {a : Nat} : ∀ {b : Nat}, a ≤ b → bcI x a ≤ bcI x b
  | 0, h => by rw [show a = 0 by omega]; exact Int.le_refl _
  | b + 1, h => by
    rcases Nat.lt_or_ge b a with h1 | h1
    · rw [show a = b + 1 by omega]; exact Int.le_refl _
    · have h2 := bc_mono x (a := a) (b := b) h1
      have e : bcI x (b + 1) = bcI x b + ((x.toNat >>> b : Nat) : Int) % 2 := rfl
      rw [e]; omega
theorem bc_lt {x a : Int} (h : ((x.toNat >>> a.toNat : Nat) : Int) % 2 = 1) (ha : 0 ≤ a ∧ a ≤ 15) : bcI x a.toNat < bcI x 16 := by
  have h1 := bc_mono x (a := a.toNat + 1) (b := 16) (by omega)
  have e : bcI x (a.toNat + 1) = bcI x a.toNat + ((x.toNat >>> a.toNat : Nat) : Int) % 2 := rfl
  rw [e] at h1; omega
theorem bc_pos {x : Int} (h : 1 ≤ x ∧ x ≤ 65535) : 1 ≤ bcI x 16 ∧ bcI x 16 ≤ 16 := by
  obtain ⟨i, hi⟩ := Me_ex (s := x) (by omega)
  have h1 := Me_lt hi h.2
  have h2 : ((x.toNat >>> ((i : Int)).toNat : Nat) : Int) % 2 ≠ 0 := Me_bit.mpr hi
  have h3 := bc_lt (x := x) (a := (i : Int)) (by omega) (by omega)
  have h4 := bc_le x ((i : Int)).toNat
  have h5 := bc_le x 16
  omega
theorem ar_0 (nf nt nw nc : Nat → Int) (N : Int) : arP nf nt nw nc 0 N := fun k h0 h1 => by omega
theorem ar_cp {fr tt wt co mn sz nf nt nw nc nf1 nt1 nw1 nc1 : Nat → Int} {g s nm m1 N : Int} (h : arP nf nt nw nc nm N) (h0 : 0 ≤ nm) (hg : 0 ≤ g ∧ g ≤ 120) (e0 : m1 = nm + mn g.toNat) (e1 : nf1 = kcF (fun i : Nat => fr (Int.toNat (60 * g + (i : Int))) + s) nf (Int.toNat nm) (Int.toNat (mn g.toNat))) (e2 : nt1 = kcF (fun i : Nat => tt (Int.toNat (60 * g + (i : Int))) + s) nt (Int.toNat nm) (Int.toNat (mn g.toNat))) (e3 : nw1 = kcF (fun i : Nat => wt (Int.toNat (60 * g + (i : Int)))) nw (Int.toNat nm) (Int.toNat (mn g.toNat))) (e4 : nc1 = kcF (fun i : Nat => co (Int.toNat (60 * g + (i : Int)))) nc (Int.toNat nm) (Int.toNat (mn g.toNat))) (he : enP fr tt mn sz g) (hm : Rfx 121 0 60 mn) (hf : Rfx 7260 0 15 fr) (ht : Rfx 7260 0 15 tt) (hw : Rfx 7260 (-1000) 1000 wt) (hc : Rfx 7260 (-1000) 1000 co) (hs : 0 ≤ s ∧ sz g.toNat + s ≤ N) : arP nf1 nt1 nw1 nc1 m1 N := by
  have hmn := hm g.toNat (by omega)
  intro k k0 k1
  by_cases hk : k < nm
  · rw [e1, e2, e3, e4, kcF_out (by omega), kcF_out (by omega), kcF_out (by omega), kcF_out (by omega)]; exact h k k0 hk
  · rw [e1, e2, e3, e4, kcF_in (by omega), kcF_in (by omega), kcF_in (by omega), kcF_in (by omega)]
    have h1 := he (k - nm) (by omega) (by omega)
    have e9 : (60 * g + ((k.toNat - nm.toNat : Nat) : Int)).toNat = (60 * g + (k - nm)).toNat := by omega
    have h2 := hf (60 * g + (k - nm)).toNat (by omega)
    have h3 := ht (60 * g + (k - nm)).toNat (by omega)
    have h4 := hw (60 * g + (k - nm)).toNat (by omega)
    have h5 := hc (60 * g + (k - nm)).toNat (by omega)
    simp only [e9]
    exact ⟨by omega, by omega, h4, h5⟩
def pqP (qi : Nat → Int) (h v c : Int) : Prop := ∀ u : Int, 0 ≤ u → u < v → 0 ≤ qi (16 * h + u).toNat ∧ qi (16 * h + u).toNat < c
theorem pq_0 (qi : Nat → Int) (h c : Int) : pqP qi h 0 c := fun u h0 h1 => by omega
theorem pq_up {qi : Nat → Int} {h v c c1 x : Int} (hq : pqP qi h v c) (hh : 0 ≤ h) (hv : 0 ≤ v) (hx : 0 ≤ x ∧ x < c1) (hc : c ≤ c1) : pqP (fup qi (Int.toNat (16 * h + v)) x) h (v + 1) c1 := by
  intro u h0 h1
  by_cases hu : u = v
  · subst hu; rw [fup_s]; exact hx
  · rw [fup_o _ _ (by omega)]
    have h2 := hq u h0 (by omega)
    omega
def fqP (qi q0 : Nat → Int) (h : Int) : Prop := ∀ i : Nat, ¬ (16 * h ≤ (i : Int) ∧ (i : Int) < 16 * h + 16) → qi i = q0 i
theorem fq_up {qi q0 : Nat → Int} {h v x : Int} (hq : fqP qi q0 h) (hh : 0 ≤ h) (hv : 0 ≤ v ∧ v ≤ 15) : fqP (fup qi (Int.toNat (16 * h + v)) x) q0 h := fun i hi => by
  rw [fup_o _ _ (by omega)]; exact hq i hi
theorem RK_col {rf cn nm : Int} {so sz dr mn fr tt wt co : Nat → Int} {nu : Nat → Int64} {qi qc nf nt nw nc : Nat → Int} {x1 h v c1 : Int} {s1 z1 : Nat → Int} {u1 : Nat → Int64} (hk : RK rf cn nm so sz dr mn fr tt wt co nu qi qc nf nt nw nc) (hx : 1 ≤ x1 ∧ x1 ≤ 16) (q0 : cn = 120 → h = -4 ∧ v = -4 ∧ c1 = cn) (q1 : cn = 120 → s1 = so ∧ z1 = sz) (q2 : cn < 120 → h = cn ∧ v = rf ∧ c1 = cn + 1) (q3 : cn < 120 → s1 = fup so (Int.toNat cn) 2 ∧ z1 = fup sz (Int.toNat cn) x1) : RK v c1 nm s1 z1 dr mn fr tt wt co u1 qi qc nf nt nw nc ∧ dfE sz dr mn fr tt wt co z1 dr mn fr tt wt co ∧ (-4 ≤ h ∧ h ≤ 119) := by
  have hb := hk
  obtain ⟨hR_sorts, hR_sizes, hR_directs, hR_many, hR_from, hR_to, hR_weight, hR_cost, hR_inPart, hR_partCount, hcn, hrf, hnm, hdf, hgr, hpa, hsz⟩ := hb
  by_cases hc : cn = 120
  · obtain ⟨e1, e2, e3⟩ := q0 hc
    obtain ⟨rfl, rfl⟩ := q1 hc
    rw [e3]
    exact ⟨RK_set hk (by omega) hnm, df_r _ _ _ _ _ _ _, by omega⟩
  · obtain ⟨e1, e2, e3⟩ := q2 (by omega)
    obtain ⟨e4, e5⟩ := q3 (by omega)
    have hn := RK_new (rf1 := v) (nm1 := nm) (so1 := s1) (sz1 := z1) (dr1 := dr) (mn1 := mn) (fr1 := fr) (tt1 := tt) (wt1 := wt) (co1 := co) (nu1 := u1) (qi1 := qi) (qc1 := qc) (nf1 := nf) (nt1 := nt) (nw1 := nw) (nc1 := nc) (k := 2) (N := x1) hk (by omega) (by omega) hnm e4 e5 (by omega) hx
      hR_directs hR_many hR_from hR_to hR_weight hR_cost hR_inPart hR_partCount
      (fun g hg => ⟨rfl, rfl, rfl⟩) (fun i hi => ⟨rfl, rfl, rfl, rfl⟩) (fun _ _ => rfl)
      (fun h9 => by omega) (fun h9 => by omega)
    rw [e3]
    exact ⟨hn.1, hn.2, by omega⟩
theorem RK_way {rf cn nm : Int} {so sz dr mn fr tt wt co : Nat → Int} {nu : Nat → Int64} {qi qc nf nt nw nc : Nat → Int} {x1 h v c1 : Int} {s1 z1 : Nat → Int} {u1 : Nat → Int64} (hk : RK rf cn nm so sz dr mn fr tt wt co nu qi qc nf nt nw nc) (hx : 1 ≤ x1 ∧ x1 ≤ 16) (q0 : cn = 120 → h = -4 ∧ v = -4 ∧ c1 = cn) (q1 : cn = 120 → s1 = so ∧ z1 = sz) (q2 : cn < 120 → h = cn ∧ v = rf ∧ c1 = cn + 1) (q3 : cn < 120 → s1 = fup so (Int.toNat cn) 3 ∧ z1 = fup sz (Int.toNat cn) x1) : RK v c1 nm s1 z1 dr mn fr tt wt co u1 qi qc nf nt nw nc ∧ dfE sz dr mn fr tt wt co z1 dr mn fr tt wt co ∧ (-4 ≤ h ∧ h ≤ 119) := by
  have hb := hk
  obtain ⟨hR_sorts, hR_sizes, hR_directs, hR_many, hR_from, hR_to, hR_weight, hR_cost, hR_inPart, hR_partCount, hcn, hrf, hnm, hdf, hgr, hpa, hsz⟩ := hb
  by_cases hc : cn = 120
  · obtain ⟨e1, e2, e3⟩ := q0 hc
    obtain ⟨rfl, rfl⟩ := q1 hc
    rw [e3]
    exact ⟨RK_set hk (by omega) hnm, df_r _ _ _ _ _ _ _, by omega⟩
  · obtain ⟨e1, e2, e3⟩ := q2 (by omega)
    obtain ⟨e4, e5⟩ := q3 (by omega)
    have hn := RK_new (rf1 := v) (nm1 := nm) (so1 := s1) (sz1 := z1) (dr1 := dr) (mn1 := mn) (fr1 := fr) (tt1 := tt) (wt1 := wt) (co1 := co) (nu1 := u1) (qi1 := qi) (qc1 := qc) (nf1 := nf) (nt1 := nt) (nw1 := nw) (nc1 := nc) (k := 3) (N := x1) hk (by omega) (by omega) hnm e4 e5 (by omega) hx
      hR_directs hR_many hR_from hR_to hR_weight hR_cost hR_inPart hR_partCount
      (fun g hg => ⟨rfl, rfl, rfl⟩) (fun i hi => ⟨rfl, rfl, rfl, rfl⟩) (fun _ _ => rfl)
      (fun h9 => by omega) (fun h9 => by omega)
    rw [e3]
    exact ⟨hn.1, hn.2, by omega⟩
theorem RK_prt {rf cn nm : Int} {so sz dr mn fr tt wt co : Nat → Int} {nu : Nat → Int64} {qi qc nf nt nw nc : Nat → Int} {x1 h v c1 : Int} {s1 z1 i1 p1 : Nat → Int} (hk : RK rf cn nm so sz dr mn fr tt wt co nu qi qc nf nt nw nc) (hx : 1 ≤ x1 ∧ x1 ≤ 16) (q0 : cn = 120 → h = -4 ∧ v = -4 ∧ c1 = cn) (q1 : cn = 120 → s1 = so ∧ z1 = sz ∧ i1 = qi ∧ p1 = qc) (q2 : cn < 120 → h = cn ∧ v = rf ∧ c1 = cn + 1) (q3 : cn < 120 → s1 = fup so (Int.toNat cn) 4 ∧ z1 = fup sz (Int.toNat cn) x1) (q4 : Rfx 1936 0 15 i1) (q5 : Rfx 121 0 16 p1) (q6 : cn < 120 → fqP i1 qi cn ∧ pqP i1 cn x1 (p1 (Int.toNat cn)) ∧ ∀ g : Nat, g ≠ Int.toNat cn → p1 g = qc g) : RK v c1 nm s1 z1 dr mn fr tt wt co nu i1 p1 nf nt nw nc ∧ dfE sz dr mn fr tt wt co z1 dr mn fr tt wt co ∧ (-4 ≤ h ∧ h ≤ 119) := by
  have hb := hk
  obtain ⟨hR_sorts, hR_sizes, hR_directs, hR_many, hR_from, hR_to, hR_weight, hR_cost, hR_inPart, hR_partCount, hcn, hrf, hnm, hdf, hgr, hpa, hsz⟩ := hb
  by_cases hc : cn = 120
  · obtain ⟨e1, e2, e3⟩ := q0 hc
    obtain ⟨rfl, rfl, rfl, rfl⟩ := q1 hc
    rw [e3]
    exact ⟨RK_set hk (by omega) hnm, df_r _ _ _ _ _ _ _, by omega⟩
  · obtain ⟨e1, e2, e3⟩ := q2 (by omega)
    obtain ⟨e4, e5⟩ := q3 (by omega)
    obtain ⟨e6, e7, e8⟩ := q6 (by omega)
    have hn := RK_new (rf1 := v) (nm1 := nm) (so1 := s1) (sz1 := z1) (dr1 := dr) (mn1 := mn) (fr1 := fr) (tt1 := tt) (wt1 := wt) (co1 := co) (nu1 := nu) (qi1 := i1) (qc1 := p1) (nf1 := nf) (nt1 := nt) (nw1 := nw) (nc1 := nc) (k := 4) (N := x1) hk (by omega) (by omega) hnm e4 e5 (by omega) hx
      hR_directs hR_many hR_from hR_to hR_weight hR_cost q4 q5
      (fun g hg => ⟨rfl, rfl, e8 g hg⟩) (fun i hi => ⟨rfl, rfl, rfl, rfl⟩) e6
      (fun h9 => by omega) (fun _ u u0 u1 => (e7 u u0 u1).2)
    rw [e3]
    exact ⟨hn.1, hn.2, by omega⟩
set_option maxHeartbeats 4000000 in
set_option maxRecDepth 100000 in
theorem t_X12_bitsx {D : va_G} {cI cJ cZ cT : ClassId} {lo b L : Nat} {xs : Nat → Int32} {hp : MH} {n d : Nat} {Γ : TG} {x1 : Int} (hd0 : 0 ≤ d) (ht : Tw Γ hp) (hx1 : 0 ≤ x1 ∧ x1 ≤ 65536) : Mt (gG D cI cJ cZ cT lo b L xs) mX12_bits d 0 0 [.int (iv x1)] hp n (pI Γ n (fun r => r = bcI x1 16)) := by
  refine Mt.of rfl (Nat.le_of_ble_eq_true rfl) ?_
  refine Rn.pick (lv' := [(0, .int (iv x1))]) [0] rfl ?_
  refine r_iconst (pc := 0) (v := iv 0) dX12_bits_0 (by decide) ?_
  refine r_istore_n (pc := 1) (lv' := [(1, .int (iv 0)), (0, .int (iv x1))]) dX12_bits_1 (i := 1) rfl (by decide) rfl ?_
  refine r_iconst (pc := 2) (v := iv 0) dX12_bits_2 (by decide) ?_
  refine r_istore_n (pc := 3) (lv' := [(2, .int (iv 0)), (1, .int (iv 0)), (0, .int (iv x1))]) dX12_bits_3 (i := 2) rfl (by decide) rfl ?_
  have B4 : ∀ k : Nat, ∀ hp4 : MH, Tw Γ hp4 → ∀  (v4_1 : Int) (v4_2 : Int), 0 ≤ v4_1 ∧ v4_1 ≤ 16 ∧ 0 ≤ v4_2 ∧ v4_2 ≤ 16 ∧ v4_1 ≤ v4_2 ∧ v4_1 = bcI x1 (Int.toNat v4_2) → 16 - v4_2 ≤ (k : Int) → Rn (gG D cI cJ cZ cT lo b L xs) mX12_bits d 4 [(0, .int (iv x1)), (1, .int (iv v4_1)), (2, .int (iv v4_2))] [] hp4 n 0 0 (pI Γ n (fun r => r = bcI x1 16)) := by
    refine lpS _ ?_
    intro k4 ih4 hp4 ht4 v4_1 v4_2 hf4 hm4
    obtain ⟨hf4_0, hf4_1, hf4_2, hf4_3, hf4_4, ha4_5⟩ := hf4
    refine r_iload_n (pc := 4) dX12_bits_4 (i := 2) rfl rfl ?_
    refine r_bipush (pc := 5) (v := iv 16) dX12_bits_5 (by decide) ?_
    refine t_icmp_ge (pc := 7) (tgt := 24) dX12_bits_7 (by decide) (by omega) (by omega) (fun c7 => ?_) (fun c7 => ?_)
    · refine r_iload_n (pc := 24) dX12_bits_24 (i := 1) rfl rfl ?_
      exact r_iret (pc := 25) dX12_bits_25 rfl ⟨rfl, ht4, _, rfl, by have e9 : v4_2 = 16 := (by omega); have h9 : v4_1 = bcI x1 (Int.toNat v4_2) := (by assumption); rw [e9] at h9; exact h9⟩
    · refine r_iload_n (pc := 10) dX12_bits_10 (i := 1) rfl rfl ?_
      refine r_iload_n (pc := 11) dX12_bits_11 (i := 0) rfl rfl ?_
      refine r_iload_n (pc := 12) dX12_bits_12 (i := 2) rfl rfl ?_
      have hq13 := shr_le (Int.toNat x1) (Int.toNat v4_2)
      refine r_ishr (pc := 13) (v := iv ((Int.toNat x1 >>> Int.toNat v4_2 : Nat) : Int)) dX12_bits_13 (shr_e (by omega) (by omega)) ?_
      refine r_iconst (pc := 14) (v := iv 1) dX12_bits_14 (by decide) ?_
      refine r_iand (pc := 15) (v := iv (((Int.toNat x1 >>> Int.toNat v4_2 : Nat) : Int) % 2)) dX12_bits_15 (and1_e _ (by omega)) ?_
      refine r_iadd (pc := 16) (v := iv (v4_1 + (((Int.toNat x1 >>> Int.toNat v4_2 : Nat) : Int) % 2))) dX12_bits_16 (iv_add _ _) ?_
      refine r_istore_n (pc := 17) (lv' := [(1, .int (iv (v4_1 + (((Int.toNat x1 >>> Int.toNat v4_2 : Nat) : Int) % 2)))), (0, .int (iv x1)), (2, .int (iv v4_2))]) dX12_bits_17 (i := 1) rfl (by decide) rfl ?_
      refine r_iinc (pc := 18) (v := iv (v4_2 + 1)) (lv' := [(2, .int (iv (v4_2 + 1))), (1, .int (iv (v4_1 + (((Int.toNat x1 >>> Int.toNat v4_2 : Nat) : Int) % 2)))), (0, .int (iv x1))]) dX12_bits_18 rfl (iv_add _ _) (by decide) rfl ?_
      refine r_goto (pc := 21) (tgt := 4) dX12_bits_21 (by decide) ?_
      refine Rn.pick (lv' := [(0, .int (iv x1)), (1, .int (iv (v4_1 + (((Int.toNat x1 >>> Int.toNat v4_2 : Nat) : Int) % 2)))), (2, .int (iv (v4_2 + 1)))]) [2, 1, 0] rfl ?_
      exact ih4 (Int.toNat (16 - (v4_2 + 1))) (by omega) _ ht4 (v4_1 + (((Int.toNat x1 >>> Int.toNat v4_2 : Nat) : Int) % 2)) (v4_2 + 1) ⟨by omega, by omega, by omega, by omega, by omega, by (first | exact rfl | (rw [bc_step _ (by omega)]; omega))⟩ (by omega)
  refine Rn.pick (lv' := [(0, .int (iv x1)), (1, .int (iv 0)), (2, .int (iv 0))]) [2, 1, 0] rfl ?_
  exact B4 (Int.toNat (16 - 0)) _ ht 0 0 ⟨by omega, by omega, by omega, by omega, by omega, by (first | exact rfl | (rw [bc_step _ (by omega)]; omega))⟩ (by omega)
set_option maxHeartbeats 4000000 in
set_option maxRecDepth 100000 in
theorem t_X12_placeInx {D : va_G} {cI cJ cZ cT : ClassId} {lo b L : Nat} {xs : Nat → Int32} {hp : MH} {n d : Nat} {Γ : TG} {x1 x2 : Int} (hd0 : 0 ≤ d) (ht : Tw Γ hp) (hx1 : 0 ≤ x1 ∧ x1 ≤ 65535) (hx2 : 0 ≤ x2 ∧ x2 ≤ 15) : Mt (gG D cI cJ cZ cT lo b L xs) mX12_placeIn d 0 0 [.int (iv x1), .int (iv x2)] hp n (pI Γ n (fun r => r = bcI x1 (Int.toNat x2))) := by
  refine Mt.of rfl (Nat.le_of_ble_eq_true rfl) ?_
  refine Rn.pick (lv' := [(0, .int (iv x1)), (1, .int (iv x2))]) [0, 1] rfl ?_
  refine r_iconst (pc := 0) (v := iv 0) dX12_placeIn_0 (by decide) ?_
  refine r_istore_n (pc := 1) (lv' := [(2, .int (iv 0)), (0, .int (iv x1)), (1, .int (iv x2))]) dX12_placeIn_1 (i := 2) rfl (by decide) rfl ?_
  refine r_iconst (pc := 2) (v := iv 0) dX12_placeIn_2 (by decide) ?_
  refine r_istore_n (pc := 3) (lv' := [(3, .int (iv 0)), (2, .int (iv 0)), (0, .int (iv x1)), (1, .int (iv x2))]) dX12_placeIn_3 (i := 3) rfl (by decide) rfl ?_
  have B4 : ∀ k : Nat, ∀ hp4 : MH, Tw Γ hp4 → ∀  (v4_2 : Int) (v4_3 : Int), 0 ≤ v4_2 ∧ v4_2 ≤ 15 ∧ 0 ≤ v4_3 ∧ v4_3 ≤ 15 ∧ v4_2 ≤ v4_3 ∧ v4_3 ≤ x2 ∧ v4_2 = bcI x1 (Int.toNat v4_3) → 15 - v4_3 ≤ (k : Int) → Rn (gG D cI cJ cZ cT lo b L xs) mX12_placeIn d 4 [(0, .int (iv x1)), (1, .int (iv x2)), (2, .int (iv v4_2)), (3, .int (iv v4_3))] [] hp4 n 0 0 (pI Γ n (fun r => r = bcI x1 (Int.toNat x2))) := by
    refine lpS _ ?_
    intro k4 ih4 hp4 ht4 v4_2 v4_3 hf4 hm4
    obtain ⟨hf4_0, hf4_1, hf4_2, hf4_3, hf4_4, hf4_5, ha4_6⟩ := hf4
    refine r_iload_n (pc := 4) dX12_placeIn_4 (i := 3) rfl rfl ?_
    refine r_iload_n (pc := 5) dX12_placeIn_5 (i := 1) rfl rfl ?_
    refine t_icmp_ge (pc := 6) (tgt := 23) dX12_placeIn_6 (by decide) (by omega) (by omega) (fun c6 => ?_) (fun c6 => ?_)
    · refine r_iload_n (pc := 23) dX12_placeIn_23 (i := 2) rfl rfl ?_
      exact r_iret (pc := 24) dX12_placeIn_24 rfl ⟨rfl, ht4, _, rfl, by have e9 : v4_3 = x2 := (by omega); have h9 : v4_2 = bcI x1 (Int.toNat v4_3) := (by assumption); rw [e9] at h9; exact h9⟩
    · refine r_iload_n (pc := 9) dX12_placeIn_9 (i := 2) rfl rfl ?_
      refine r_iload_n (pc := 10) dX12_placeIn_10 (i := 0) rfl rfl ?_
      refine r_iload_n (pc := 11) dX12_placeIn_11 (i := 3) rfl rfl ?_
      have hq12 := shr_le (Int.toNat x1) (Int.toNat v4_3)
      refine r_ishr (pc := 12) (v := iv ((Int.toNat x1 >>> Int.toNat v4_3 : Nat) : Int)) dX12_placeIn_12 (shr_e (by omega) (by omega)) ?_
      refine r_iconst (pc := 13) (v := iv 1) dX12_placeIn_13 (by decide) ?_
      refine r_iand (pc := 14) (v := iv (((Int.toNat x1 >>> Int.toNat v4_3 : Nat) : Int) % 2)) dX12_placeIn_14 (and1_e _ (by omega)) ?_
      refine r_iadd (pc := 15) (v := iv (v4_2 + (((Int.toNat x1 >>> Int.toNat v4_3 : Nat) : Int) % 2))) dX12_placeIn_15 (iv_add _ _) ?_
      refine r_istore_n (pc := 16) (lv' := [(2, .int (iv (v4_2 + (((Int.toNat x1 >>> Int.toNat v4_3 : Nat) : Int) % 2)))), (0, .int (iv x1)), (1, .int (iv x2)), (3, .int (iv v4_3))]) dX12_placeIn_16 (i := 2) rfl (by decide) rfl ?_
      refine r_iinc (pc := 17) (v := iv (v4_3 + 1)) (lv' := [(3, .int (iv (v4_3 + 1))), (2, .int (iv (v4_2 + (((Int.toNat x1 >>> Int.toNat v4_3 : Nat) : Int) % 2)))), (0, .int (iv x1)), (1, .int (iv x2))]) dX12_placeIn_17 rfl (iv_add _ _) (by decide) rfl ?_
      refine r_goto (pc := 20) (tgt := 4) dX12_placeIn_20 (by decide) ?_
      refine Rn.pick (lv' := [(0, .int (iv x1)), (1, .int (iv x2)), (2, .int (iv (v4_2 + (((Int.toNat x1 >>> Int.toNat v4_3 : Nat) : Int) % 2)))), (3, .int (iv (v4_3 + 1)))]) [2, 3, 1, 0] rfl ?_
      exact ih4 (Int.toNat (15 - (v4_3 + 1))) (by omega) _ ht4 (v4_2 + (((Int.toNat x1 >>> Int.toNat v4_3 : Nat) : Int) % 2)) (v4_3 + 1) ⟨by omega, by omega, by omega, by omega, by omega, by omega, by (first | exact rfl | (rw [bc_step _ (by omega)]; omega))⟩ (by omega)
  refine Rn.pick (lv' := [(0, .int (iv x1)), (1, .int (iv x2)), (2, .int (iv 0)), (3, .int (iv 0))]) [2, 3, 1, 0] rfl ?_
  exact B4 (Int.toNat (15 - 0)) _ ht 0 0 ⟨by omega, by omega, by omega, by omega, by omega, by omega, by (first | exact rfl | (rw [bc_step _ (by omega)]; omega))⟩ (by omega)
set_option maxHeartbeats 4000000 in
set_option maxRecDepth 100000 in
theorem t_X12_alikex {D : va_G} {cI cJ cZ cT : ClassId} {lo b L : Nat} {xs : Nat → Int32} {hp : MH} {n d : Nat} {Γ : TG} {y : Nat} {rf cnt nm : Int32} {x1 x2 x3 x4 : Int} (hd0 : 4 ≤ d) (hO : rd Γ y (tO 11 (mdF y rf cnt nm))) (hA_sizes : rd Γ (y + 2) (tI cI 121 (rg 0 16))) (hA_directs : rd Γ (y + 3) (tI cZ 121 (rg 0 1))) (hA_many : rd Γ (y + 4) (tI cI 121 (rg 0 60))) (hA_from : rd Γ (y + 5) (tI cI 7260 (rg 0 15))) (hA_to : rd Γ (y + 6) (tI cI 7260 (rg 0 15))) (hA_weight : rd Γ (y + 7) (tI cI 7260 (rg (-1000) 1000))) (hA_cost : rd Γ (y + 8) (tI cI 7260 (rg (-1000) 1000))) (hA_image : Γ (y + 42) = some (tI cI 16 (rg (-1) 15))) (ht : Tw Γ hp) (hx1 : 0 ≤ x1 ∧ x1 ≤ 120) (hx2 : 0 ≤ x2 ∧ x2 ≤ 120) (hx3 : 0 ≤ x3 ∧ x3 ≤ 1) (hx4 : (-2147483648) ≤ x4 ∧ x4 ≤ 2147483647) (hx9 : x3 = 0 → 0 ≤ x4 ∧ x4 ≤ 15) : Mt (gG D cI cJ cZ cT lo b L xs) mX12_alike d 0 0 [.ref y, .int (iv x1), .int (iv x2), .int (iv x3), .int (iv x4)] hp n (pJ Γ n yes64) := by
  refine Mt.of rfl (Nat.le_of_ble_eq_true rfl) ?_
  refine Rn.pick (lv' := [(0, .ref y), (1, .int (iv x1)), (2, .int (iv x2)), (3, .int (iv x3)), (4, .int (iv x4))]) [0, 1, 2, 3, 4] rfl ?_
  refine r_aload_n (pc := 0) dX12_alike_0 (i := 0) rfl rfl ?_
  refine t_getE (pc := 1) (.ref (y + 2)) ht hO fX12_13 dX12_alike_1 rfl ?_
  refine r_iload_n (pc := 4) dX12_alike_4 (i := 1) rfl rfl ?_
  refine t_ialdR (pc := 5) (t0 := 0) ht hA_sizes dX12_alike_5 rfl (by decide) (by omega) (fun y1 by1 => ?_)
  refine r_aload_n (pc := 6) dX12_alike_6 (i := 0) rfl rfl ?_
  refine t_getE (pc := 7) (.ref (y + 2)) ht hO fX12_13 dX12_alike_7 rfl ?_
  refine r_iload_n (pc := 10) dX12_alike_10 (i := 2) rfl rfl ?_
  refine t_ialdR (pc := 11) (t0 := 0) ht hA_sizes dX12_alike_11 rfl (by decide) (by omega) (fun y2 by2 => ?_)
  have B59 : ∀ hp59 : MH, Tw Γ hp59 → ∀  (u59_0 : Int), 0 ≤ u59_0 ∧ u59_0 ≤ 1 → Rn (gG D cI cJ cZ cT lo b L xs) mX12_alike d 59 [(0, .ref y), (3, .int (iv x3)), (4, .int (iv x4))] [.int (iv u59_0)] hp59 n 0 0 (pJ Γ n yes64) := by
    intro hp59 ht59 u59_0 hf59
    refine r_istore (pc := 59) (lv' := [(5, .int (iv u59_0)), (0, .ref y), (3, .int (iv x3)), (4, .int (iv x4))]) dX12_alike_59 (by decide) rfl ?_
    refine r_iload_n (pc := 61) dX12_alike_61 (i := 3) rfl rfl ?_
    have B97 : ∀ hp97 : MH, Tw Γ hp97 → ∀  (x97_0 : Int64), True → Rn (gG D cI cJ cZ cT lo b L xs) mX12_alike d 97 [] [.long x97_0] hp97 n 0 0 (pJ Γ n yes64) := by
      intro hp97 ht97 x97_0 hf97
      exact r_lret (pc := 97) dX12_alike_97 rfl ⟨rfl, ht97, _, rfl, trivial⟩
    refine t_if_eq (pc := 62) (tgt := 78) dX12_alike_62 (by decide) (by omega) (fun c62 => ?_) (fun c62 => ?_)
    · refine r_iload (pc := 78) dX12_alike_78 rfl ?_
      refine t_if_eq (pc := 80) (tgt := 94) dX12_alike_80 (by decide) (by omega) (fun c80 => ?_) (fun c80 => ?_)
      · refine r_ldc2 (pc := 94) (v := (-1)) dX12_alike_94 kX12_357 ?_
        refine Rn.pick (lv' := []) [] rfl ?_
        exact B97 _ ht59 ((-1) : Int64) trivial
      · refine r_aload_n (pc := 83) dX12_alike_83 (i := 0) rfl rfl ?_
        refine t_getE (pc := 84) (.ref (y + 42)) ht59 hO fX12_136 dX12_alike_84 rfl ?_
        refine r_iload (pc := 87) dX12_alike_87 rfl ?_
        refine t_ialdR (pc := 89) (t0 := 0) ht59 (rd_of hA_image) dX12_alike_89 rfl (by decide) (by omega) (fun y3 by3 => ?_)
        refine r_i2l (pc := 90) (v := (iv y3).toInt64) dX12_alike_90 rfl ?_
        refine r_goto (pc := 91) (tgt := 97) dX12_alike_91 (by decide) ?_
        refine Rn.pick (lv' := []) [] rfl ?_
        exact B97 _ ht59 ((iv y3).toInt64) trivial
    · refine r_iload (pc := 65) dX12_alike_65 rfl ?_
      refine t_if_eq (pc := 67) (tgt := 74) dX12_alike_67 (by decide) (by omega) (fun c67 => ?_) (fun c67 => ?_)
      · refine r_lconst (pc := 74) (v := 0) dX12_alike_74 (by decide) ?_
        refine r_goto (pc := 75) (tgt := 97) dX12_alike_75 (by decide) ?_
        refine Rn.pick (lv' := []) [] rfl ?_
        exact B97 _ ht59 (0 : Int64) trivial
      · refine r_lconst (pc := 70) (v := 1) dX12_alike_70 (by decide) ?_
        refine r_goto (pc := 71) (tgt := 97) dX12_alike_71 (by decide) ?_
        refine Rn.pick (lv' := []) [] rfl ?_
        exact B97 _ ht59 (1 : Int64) trivial
  have B58 : ∀ hp58 : MH, Tw Γ hp58 → True → Rn (gG D cI cJ cZ cT lo b L xs) mX12_alike d 58 [(0, .ref y), (3, .int (iv x3)), (4, .int (iv x4))] [] hp58 n 0 0 (pJ Γ n yes64) := by
    intro hp58 ht58 hf58
    refine r_iconst (pc := 58) (v := iv 0) dX12_alike_58 (by decide) ?_
    refine Rn.pick (lv' := [(0, .ref y), (3, .int (iv x3)), (4, .int (iv x4))]) [0, 1, 2] rfl ?_
    exact B59 _ ht58 0 ⟨by omega, by omega⟩
  refine t_icmp_ne (pc := 12) (tgt := 58) dX12_alike_12 (by decide) (by omega) (by omega) (fun c12 => ?_) (fun c12 => ?_)
  · refine Rn.pick (lv' := [(0, .ref y), (3, .int (iv x3)), (4, .int (iv x4))]) [0, 3, 4] rfl ?_
    exact B58 _ ht trivial
  · refine r_aload_n (pc := 15) dX12_alike_15 (i := 0) rfl rfl ?_
    refine t_getE (pc := 16) (.ref (y + 3)) ht hO fX12_16 dX12_alike_16 rfl ?_
    refine r_iload_n (pc := 19) dX12_alike_19 (i := 1) rfl rfl ?_
    refine t_zaldR (pc := 20) (t0 := 2) ht hA_directs dX12_alike_20 rfl (by decide) (by omega) (fun y4 by4 => ?_)
    refine r_aload_n (pc := 21) dX12_alike_21 (i := 0) rfl rfl ?_
    refine t_getE (pc := 22) (.ref (y + 3)) ht hO fX12_16 dX12_alike_22 rfl ?_
    refine r_iload_n (pc := 25) dX12_alike_25 (i := 2) rfl rfl ?_
    refine t_zaldR (pc := 26) (t0 := 2) ht hA_directs dX12_alike_26 rfl (by decide) (by omega) (fun y5 by5 => ?_)
    refine t_icmp_ne (pc := 27) (tgt := 58) dX12_alike_27 (by decide) (by omega) (by omega) (fun c27 => ?_) (fun c27 => ?_)
    · refine Rn.pick (lv' := [(0, .ref y), (3, .int (iv x3)), (4, .int (iv x4))]) [0, 3, 4] rfl ?_
      exact B58 _ ht trivial
    · refine r_aload_n (pc := 30) dX12_alike_30 (i := 0) rfl rfl ?_
      refine t_getE (pc := 31) (.ref (y + 4)) ht hO fX12_20 dX12_alike_31 rfl ?_
      refine r_iload_n (pc := 34) dX12_alike_34 (i := 1) rfl rfl ?_
      refine t_ialdR (pc := 35) (t0 := 0) ht hA_many dX12_alike_35 rfl (by decide) (by omega) (fun y6 by6 => ?_)
      refine r_aload_n (pc := 36) dX12_alike_36 (i := 0) rfl rfl ?_
      refine t_getE (pc := 37) (.ref (y + 4)) ht hO fX12_20 dX12_alike_37 rfl ?_
      refine r_iload_n (pc := 40) dX12_alike_40 (i := 2) rfl rfl ?_
      refine t_ialdR (pc := 41) (t0 := 0) ht hA_many dX12_alike_41 rfl (by decide) (by omega) (fun y7 by7 => ?_)
      refine t_icmp_ne (pc := 42) (tgt := 58) dX12_alike_42 (by decide) (by omega) (by omega) (fun c42 => ?_) (fun c42 => ?_)
      · refine Rn.pick (lv' := [(0, .ref y), (3, .int (iv x3)), (4, .int (iv x4))]) [0, 3, 4] rfl ?_
        exact B58 _ ht trivial
      · refine r_aload_n (pc := 45) dX12_alike_45 (i := 0) rfl rfl ?_
        refine r_iload_n (pc := 46) dX12_alike_46 (i := 1) rfl rfl ?_
        refine r_iload_n (pc := 47) dX12_alike_47 (i := 2) rfl rfl ?_
        refine t_callVR (pc := 48) (as := [.int (iv x1), .int (iv x2)]) (st := []) ht hO kX12_388 rfl dX12_alike_48 (t_X12_place (d := d - 1) (x1 := x1) (x2 := x2) (by omega) hO hA_sizes hA_directs hA_many hA_from hA_to hA_weight hA_cost hA_image ht (by omega) (by omega)) rfl (by omega) (Nat.le_of_ble_eq_true rfl) rfl (fun hp8 y10 ht9 by10 => ?_)
        refine t_if_eq (pc := 51) (tgt := 58) dX12_alike_51 (by decide) (by omega) (fun c51 => ?_) (fun c51 => ?_)
        · refine Rn.pick (lv' := [(0, .ref y), (3, .int (iv x3)), (4, .int (iv x4))]) [0, 3, 4] rfl ?_
          exact B58 _ ht9 trivial
        · refine r_iconst (pc := 54) (v := iv 1) dX12_alike_54 (by decide) ?_
          refine r_goto (pc := 55) (tgt := 59) dX12_alike_55 (by decide) ?_
          refine Rn.pick (lv' := [(0, .ref y), (3, .int (iv x3)), (4, .int (iv x4))]) [0, 3, 4] rfl ?_
          exact B59 _ ht9 1 ⟨by omega, by omega⟩
def q_X12_isNode (Γ : TG) (cI cJ cZ : ClassId) (y n : Nat) (rf cn nm : Int) (so sz dr mn fr tt wt co : Nat → Int) (nu : Nat → Int64) (qi qc nf nt nw nc : Nat → Int) (x1 x2 : Int) : Option Value → MH → Nat → Prop := fun r hp1 n1 => n1 = n ∧ ∃ (v : Int) (b : Int), Tw (RG Γ cI cJ cZ y v cn nm so sz dr mn fr tt wt co nu qi qc nf nt nw nc) hp1 ∧ r = some (.int (iv b)) ∧ ((b = 1 ∧ v = rf ∧ 0 ≤ x2 ∧ x2 < sz (Int.toNat x1)) ∨ (b = 0 ∧ v = -3 ∧ ¬ (0 ≤ x2 ∧ x2 < sz (Int.toNat x1))))
set_option maxHeartbeats 4000000 in
set_option maxRecDepth 100000 in
theorem s_X12_isNode {D : va_G} {cI cJ cZ cT : ClassId} {lo b L : Nat} {xs : Nat → Int32} {hp : MH} {n d : Nat} {Γ : TG} {y : Nat} {rf cn nm : Int} {so sz dr mn fr tt wt co : Nat → Int} {nu : Nat → Int64} {qi qc nf nt nw nc : Nat → Int} {x1 x2 : Int} (hd0 : 1 ≤ d) (hR_sizes : Rfx 121 0 16 sz) (hrf : -2147483648 ≤ rf ∧ rf ≤ 2147483647) (ht : Tw (RG Γ cI cJ cZ y rf cn nm so sz dr mn fr tt wt co nu qi qc nf nt nw nc) hp) (hx1 : 0 ≤ x1 ∧ x1 ≤ 120) (hx2 : (-2147483648) ≤ x2 ∧ x2 ≤ 2147483647) : Mt (gG D cI cJ cZ cT lo b L xs) mX12_isNode d 0 0 [.ref y, .int (iv x1), .int (iv x2)] hp n (q_X12_isNode Γ cI cJ cZ y n rf cn nm so sz dr mn fr tt wt co nu qi qc nf nt nw nc x1 x2) := by
  refine Mt.of rfl (Nat.le_of_ble_eq_true rfl) ?_
  refine Rn.pick (lv' := [(0, .ref y), (1, .int (iv x1)), (2, .int (iv x2))]) [0, 1, 2] rfl ?_
  refine r_iload_n (pc := 0) dX12_isNode_0 (i := 2) rfl rfl ?_
  refine t_if_lt (pc := 1) (tgt := 14) dX12_isNode_1 (by decide) (by omega) (fun c1 => ?_) (fun c1 => ?_)
  · refine r_aload_n (pc := 14) dX12_isNode_14 (i := 0) rfl rfl ?_
    refine r_bipush (pc := 15) (v := iv (-3)) dX12_isNode_15 (by decide) ?_
    obtain ⟨fs5, hfs5⟩ := t_obj ht (rd_of RG_y)
    refine r_callV (pc := 17) (as := [.int (iv (-3))]) (st := []) kX12_153 rfl dX12_isNode_17 hfs5 (s_X12_refuse (d := d - 1) (x1 := (-3)) (by omega) ht (by omega)) rfl (by omega) (Nat.le_of_ble_eq_true rfl) (Nat.zero_le _) (Nat.zero_le _) rfl (fun r2 hp1 n3 hq4 => ?_)
    obtain ⟨hnn3, ht6, hrr2⟩ := hq4
    subst n3 r2
    change Rn _ _ _ 20 _ [.int (iv (-3))] _ _ _ _ _
    refine r_pop (pc := 20) dX12_isNode_20 rfl ?_
    refine r_iconst (pc := 21) (v := iv 0) dX12_isNode_21 (by decide) ?_
    exact r_zret (pc := 22) dX12_isNode_22 rfl (iv_nar (by omega)) ⟨rfl, (-3), 0, ht6, rfl, (by omega)⟩
  · refine r_iload_n (pc := 4) dX12_isNode_4 (i := 2) rfl rfl ?_
    refine r_aload_n (pc := 5) dX12_isNode_5 (i := 0) rfl rfl ?_
    refine t_getE (pc := 6) (.ref (y + 2)) ht (rd_of RG_y) fX12_13 dX12_isNode_6 rfl ?_
    refine r_iload_n (pc := 9) dX12_isNode_9 (i := 1) rfl rfl ?_
    refine t_ialdX (pc := 10) (t0 := 0) ht (rd_of RG_sizes) dX12_isNode_10 rfl (by decide) (by omega) (fun b8 => ?_)
    have rb8 := (show Rfx 121 0 16 sz by assumption) (Int.toNat x1) (by omega)
    refine t_icmp_lt (pc := 11) (tgt := 23) dX12_isNode_11 (by decide) (by omega) (by omega) (fun c11 => ?_) (fun c11 => ?_)
    · refine r_iconst (pc := 23) (v := iv 1) dX12_isNode_23 (by decide) ?_
      exact r_zret (pc := 24) dX12_isNode_24 rfl (iv_nar (by omega)) ⟨rfl, rf, 1, ht, rfl, (by omega)⟩
    · refine r_aload_n (pc := 14) dX12_isNode_14 (i := 0) rfl rfl ?_
      refine r_bipush (pc := 15) (v := iv (-3)) dX12_isNode_15 (by decide) ?_
      obtain ⟨fs13, hfs13⟩ := t_obj ht (rd_of RG_y)
      refine r_callV (pc := 17) (as := [.int (iv (-3))]) (st := []) kX12_153 rfl dX12_isNode_17 hfs13 (s_X12_refuse (d := d - 1) (x1 := (-3)) (by omega) ht (by omega)) rfl (by omega) (Nat.le_of_ble_eq_true rfl) (Nat.zero_le _) (Nat.zero_le _) rfl (fun r10 hp9 n11 hq12 => ?_)
      obtain ⟨hnn11, ht14, hrr10⟩ := hq12
      subst n11 r10
      change Rn _ _ _ 20 _ [.int (iv (-3))] _ _ _ _ _
      refine r_pop (pc := 20) dX12_isNode_20 rfl ?_
      refine r_iconst (pc := 21) (v := iv 0) dX12_isNode_21 (by decide) ?_
      exact r_zret (pc := 22) dX12_isNode_22 rfl (iv_nar (by omega)) ⟨rfl, (-3), 0, ht14, rfl, (by omega)⟩
def q_X12_madeColumn (Γ : TG) (cI cJ cZ : ClassId) (y n : Nat) (rf cn nm : Int) (so sz dr mn fr tt wt co : Nat → Int) (nu : Nat → Int64) (qi qc nf nt nw nc : Nat → Int) (x1 : Int) : Option Value → MH → Nat → Prop := fun r hp1 n1 => n1 = n ∧ ∃ (h : Int) (v : Int) (c1 : Int) (s1 : Nat → Int) (z1 : Nat → Int) (u1 : Nat → Int64), Tw (RG Γ cI cJ cZ y v c1 nm s1 z1 dr mn fr tt wt co u1 qi qc nf nt nw nc) hp1 ∧ r = some (.int (iv h)) ∧ (cn = 120 → h = -4 ∧ v = -4 ∧ c1 = cn) ∧ (cn = 120 → s1 = so ∧ z1 = sz) ∧ (cn < 120 → h = cn ∧ v = rf ∧ c1 = cn + 1) ∧ (cn < 120 → s1 = fup so (Int.toNat cn) 2 ∧ z1 = fup sz (Int.toNat cn) x1)
set_option maxHeartbeats 4000000 in
set_option maxRecDepth 100000 in
theorem s_X12_madeColumn {D : va_G} {cI cJ cZ cT : ClassId} {lo b L : Nat} {xs : Nat → Int32} {hp : MH} {n d : Nat} {Γ : TG} {y : Nat} {rf cn nm : Int} {so sz dr mn fr tt wt co : Nat → Int} {nu : Nat → Int64} {qi qc nf nt nw nc : Nat → Int} {x1 : Int} (hd0 : 2 ≤ d) (hcn : 0 ≤ cn ∧ cn ≤ 120) (hR_sorts : Rfx 121 0 4 so) (hrf : -2147483648 ≤ rf ∧ rf ≤ 2147483647) (hR_sizes : Rfx 121 0 16 sz) (ht : Tw (RG Γ cI cJ cZ y rf cn nm so sz dr mn fr tt wt co nu qi qc nf nt nw nc) hp) (hx1 : 1 ≤ x1 ∧ x1 ≤ 16) : Mt (gG D cI cJ cZ cT lo b L xs) mX12_madeColumn d 0 0 [.ref y, .int (iv x1)] hp n (q_X12_madeColumn Γ cI cJ cZ y n rf cn nm so sz dr mn fr tt wt co nu qi qc nf nt nw nc x1) := by
  refine Mt.of rfl (Nat.le_of_ble_eq_true rfl) ?_
  refine Rn.pick (lv' := [(0, .ref y), (1, .int (iv x1))]) [0, 1] rfl ?_
  refine r_aload_n (pc := 0) dX12_madeColumn_0 (i := 0) rfl rfl ?_
  refine r_iconst (pc := 1) (v := iv 2) dX12_madeColumn_1 (by decide) ?_
  obtain ⟨fs5, hfs5⟩ := t_obj ht (rd_of RG_y)
  refine r_callV (pc := 2) (as := [.int (iv 2)]) (st := []) kX12_168 rfl dX12_madeColumn_2 hfs5 (s_X12_keep (d := d - 1) (x1 := 2) (by omega) (by omega) (by assumption) (by omega) ht (by omega)) rfl (by omega) (Nat.le_of_ble_eq_true rfl) (Nat.zero_le _) (Nat.zero_le _) rfl (fun r2 hp1 n3 hq4 => ?_)
  obtain ⟨hnn3, v_8, c1_9, s1_10, h_11, ht6, hrr2, hhq40, hhq41, hhq42, hhq43⟩ := hq4
  subst n3 r2
  have hhq40 : -4 ≤ h_11 ∧ h_11 ≤ 119 ∧ 0 ≤ c1_9 ∧ c1_9 ≤ 120 ∧ -2147483648 ≤ v_8 ∧ v_8 ≤ 2147483647 := hhq40
  have hhq41 : (cn = 120 ∧ h_11 = -4 ∧ v_8 = -4 ∧ c1_9 = cn) ∨ (cn < 120 ∧ h_11 = cn ∧ v_8 = rf ∧ c1_9 = cn + 1) := hhq41
  have hhq42 : cn = 120 → s1_10 = so := hhq42
  have hhq43 : cn < 120 → s1_10 = fup so (Int.toNat cn) 2 := hhq43
  change Rn _ _ _ 5 _ [.int (iv h_11)] _ _ _ _ _
  refine r_istore_n (pc := 5) (lv' := [(2, .int (iv h_11)), (0, .ref y), (1, .int (iv x1))]) dX12_madeColumn_5 (i := 2) rfl (by decide) rfl ?_
  refine r_iload_n (pc := 6) dX12_madeColumn_6 (i := 2) rfl rfl ?_
  refine t_if_lt (pc := 7) (tgt := 47) dX12_madeColumn_7 (by decide) (by omega) (fun c7 => ?_) (fun c7 => ?_)
  · have ek : cn = 120 ∧ h_11 = -4 ∧ v_8 = -4 ∧ c1_9 = cn := by omega
    have es : s1_10 = so := hhq42 (by omega)
    rw [ek.2.2.1, ek.2.2.2, es] at ht6
    refine r_iload_n (pc := 47) dX12_madeColumn_47 (i := 2) rfl rfl ?_
    exact r_iret (pc := 48) dX12_madeColumn_48 rfl ⟨rfl, h_11, (-4), cn, so, sz, nu, ht6, rfl, (by omega), (by (first | (intro h9; exfalso; omega) | (intro _; exact ⟨rfl, rfl⟩))), (by omega), (by (first | (intro h9; exfalso; omega) | (intro h9; have e1 : h_11 = cn := (by omega); exact ⟨rfl, by rw [e1]⟩)))⟩
  · have ek : cn < 120 ∧ h_11 = cn ∧ v_8 = rf ∧ c1_9 = cn + 1 := by omega
    have es : s1_10 = fup so (Int.toNat cn) 2 := hhq43 (by omega)
    rw [ek.2.2.1, ek.2.2.2, es] at ht6
    have hRso : Rfx 121 0 4 (fup so (Int.toNat cn) 2) := Rfx_up (by assumption) (by omega)
    refine r_aload_n (pc := 10) dX12_madeColumn_10 (i := 0) rfl rfl ?_
    refine t_getE (pc := 11) (.ref (y + 2)) ht6 (rd_of RG_y) fX12_13 dX12_madeColumn_11 rfl ?_
    refine r_iload_n (pc := 14) dX12_madeColumn_14 (i := 2) rfl rfl ?_
    refine r_iload_n (pc := 15) dX12_madeColumn_15 (i := 1) rfl rfl ?_
    refine t_iastX (pc := 16) (t0 := 0) ht6 RG_sizes dX12_madeColumn_16 rfl (by decide) (by omega) (by omega) (fun hp12 ht13 => ?_)
    have ht14 := RGw_sz ht13
    have hqht14 : Rfx 121 0 16 (fup sz (Int.toNat h_11) x1) := Rfx_up (by assumption) (by omega)
    refine r_iconst (pc := 17) (v := iv 0) dX12_madeColumn_17 (by decide) ?_
    refine r_istore_n (pc := 18) (lv' := [(3, .int (iv 0)), (2, .int (iv h_11)), (0, .ref y), (1, .int (iv x1))]) dX12_madeColumn_18 (i := 3) rfl (by decide) rfl ?_
    have B19 : ∀ k : Nat, ∀ nu19 : Nat → Int64, ∀ hp19 : MH, Tw (RG Γ cI cJ cZ y rf (cn + 1) nm (fup so (Int.toNat cn) 2) (fup sz (Int.toNat h_11) x1) dr mn fr tt wt co nu19 qi qc nf nt nw nc) hp19 → ∀  (v19_3 : Int), 0 ≤ v19_3 ∧ v19_3 ≤ 16 ∧ v19_3 ≤ x1 → 16 - v19_3 ≤ (k : Int) → Rn (gG D cI cJ cZ cT lo b L xs) mX12_madeColumn d 19 [(0, .ref y), (1, .int (iv x1)), (2, .int (iv h_11)), (3, .int (iv v19_3))] [] hp19 n 0 0 (q_X12_madeColumn Γ cI cJ cZ y n rf cn nm so sz dr mn fr tt wt co nu qi qc nf nt nw nc x1) := by
      refine lpS _ ?_
      intro k19 ih19 nu19 hp19 ht19 v19_3 hf19 hm19
      refine r_iload_n (pc := 19) dX12_madeColumn_19 (i := 3) rfl rfl ?_
      refine r_iload_n (pc := 20) dX12_madeColumn_20 (i := 1) rfl rfl ?_
      refine t_icmp_ge (pc := 21) (tgt := 47) dX12_madeColumn_21 (by decide) (by omega) (by omega) (fun c21 => ?_) (fun c21 => ?_)
      · refine r_iload_n (pc := 47) dX12_madeColumn_47 (i := 2) rfl rfl ?_
        exact r_iret (pc := 48) dX12_madeColumn_48 rfl ⟨rfl, h_11, rf, (cn + 1), (fup so (Int.toNat cn) 2), (fup sz (Int.toNat h_11) x1), nu19, ht19, rfl, (by omega), (by (first | (intro h9; exfalso; omega) | (intro _; exact ⟨rfl, rfl⟩))), (by omega), (by (first | (intro h9; exfalso; omega) | (intro h9; have e1 : h_11 = cn := (by omega); exact ⟨rfl, by rw [e1]⟩)))⟩
      · refine r_aload_n (pc := 24) dX12_madeColumn_24 (i := 0) rfl rfl ?_
        refine t_getE (pc := 25) (.ref (y + 9)) ht19 (rd_of RG_y) fX12_35 dX12_madeColumn_25 rfl ?_
        refine r_bipush (pc := 28) (v := iv 16) dX12_madeColumn_28 (by decide) ?_
        refine r_iload_n (pc := 30) dX12_madeColumn_30 (i := 2) rfl rfl ?_
        refine r_imul (pc := 31) (v := iv (16 * h_11)) dX12_madeColumn_31 (iv_mul _ _) ?_
        refine r_iload_n (pc := 32) dX12_madeColumn_32 (i := 3) rfl rfl ?_
        refine r_iadd (pc := 33) (v := iv ((16 * h_11) + v19_3)) dX12_madeColumn_33 (iv_add _ _) ?_
        refine r_aload_n (pc := 34) dX12_madeColumn_34 (i := 0) rfl rfl ?_
        refine t_getE (pc := 35) (.ref (y + 21)) ht19 (rd_of RG_y) fX12_72 dX12_madeColumn_35 rfl ?_
        refine r_iload_n (pc := 38) dX12_madeColumn_38 (i := 3) rfl rfl ?_
        refine t_lald (pc := 39) (t0 := 1) ht19 (rd_of RG_column) dX12_madeColumn_39 rfl (by decide) (by omega) (fun w15 _ => ?_)
        refine t_lastX (pc := 40) (t0 := 1) ht19 RG_numbers dX12_madeColumn_40 rfl (by decide) (by omega) (fun hp16 ht17 => ?_)
        have ht18 := RGw_nu ht17
        refine r_iinc (pc := 41) (v := iv (v19_3 + 1)) (lv' := [(3, .int (iv (v19_3 + 1))), (0, .ref y), (1, .int (iv x1)), (2, .int (iv h_11))]) dX12_madeColumn_41 rfl (iv_add _ _) (by decide) rfl ?_
        refine r_goto (pc := 44) (tgt := 19) dX12_madeColumn_44 (by decide) ?_
        refine Rn.pick (lv' := [(0, .ref y), (1, .int (iv x1)), (2, .int (iv h_11)), (3, .int (iv (v19_3 + 1)))]) [1, 2, 3, 0] rfl ?_
        exact ih19 (Int.toNat (16 - (v19_3 + 1))) (by omega) (fuj nu19 (Int.toNat ((16 * h_11) + v19_3)) w15) _ ht18 (v19_3 + 1) ⟨by omega, by omega, by omega⟩ (by omega)
    refine Rn.pick (lv' := [(0, .ref y), (1, .int (iv x1)), (2, .int (iv h_11)), (3, .int (iv 0))]) [2, 3, 1, 0] rfl ?_
    exact B19 (Int.toNat (16 - 0)) nu _ ht14 0 ⟨by omega, by omega, by omega⟩ (by omega)
def q_X12_madeParts (Γ : TG) (cI cJ cZ : ClassId) (y n : Nat) (rf cn nm : Int) (so sz dr mn fr tt wt co : Nat → Int) (nu : Nat → Int64) (qi qc nf nt nw nc : Nat → Int) (x1 : Int) : Option Value → MH → Nat → Prop := fun r hp1 n1 => n1 = n ∧ ∃ (h : Int) (v : Int) (c1 : Int) (s1 : Nat → Int) (z1 : Nat → Int) (i1 : Nat → Int) (p1 : Nat → Int), Tw (RG Γ cI cJ cZ y v c1 nm s1 z1 dr mn fr tt wt co nu i1 p1 nf nt nw nc) hp1 ∧ r = some (.int (iv h)) ∧ (cn = 120 → h = -4 ∧ v = -4 ∧ c1 = cn) ∧ (cn = 120 → s1 = so ∧ z1 = sz ∧ i1 = qi ∧ p1 = qc) ∧ (cn < 120 → h = cn ∧ v = rf ∧ c1 = cn + 1) ∧ (cn < 120 → s1 = fup so (Int.toNat cn) 4 ∧ z1 = fup sz (Int.toNat cn) x1) ∧ (Rfx 1936 0 15 i1) ∧ (Rfx 121 0 16 p1) ∧ (cn < 120 → fqP i1 qi cn ∧ pqP i1 cn x1 (p1 (Int.toNat cn)) ∧ ∀ g : Nat, g ≠ Int.toNat cn → p1 g = qc g)
set_option maxHeartbeats 4000000 in
set_option maxRecDepth 100000 in
theorem s_X12_madeParts {D : va_G} {cI cJ cZ cT : ClassId} {lo b L : Nat} {xs : Nat → Int32} {hp : MH} {n d : Nat} {Γ : TG} {y : Nat} {rf cn nm : Int} {so sz dr mn fr tt wt co : Nat → Int} {nu : Nat → Int64} {qi qc nf nt nw nc : Nat → Int} {x1 : Int} (hd0 : 2 ≤ d) (hcn : 0 ≤ cn ∧ cn ≤ 120) (hR_sorts : Rfx 121 0 4 so) (hrf : -2147483648 ≤ rf ∧ rf ≤ 2147483647) (hR_sizes : Rfx 121 0 16 sz) (hR_inPart : Rfx 1936 0 15 qi) (hR_partCount : Rfx 121 0 16 qc) (ht : Tw (RG Γ cI cJ cZ y rf cn nm so sz dr mn fr tt wt co nu qi qc nf nt nw nc) hp) (hx1 : 1 ≤ x1 ∧ x1 ≤ 16) : Mt (gG D cI cJ cZ cT lo b L xs) mX12_madeParts d 0 0 [.ref y, .int (iv x1)] hp n (q_X12_madeParts Γ cI cJ cZ y n rf cn nm so sz dr mn fr tt wt co nu qi qc nf nt nw nc x1) := by
  refine Mt.of rfl (Nat.le_of_ble_eq_true rfl) ?_
  refine Rn.pick (lv' := [(0, .ref y), (1, .int (iv x1))]) [0, 1] rfl ?_
  refine r_aload_n (pc := 0) dX12_madeParts_0 (i := 0) rfl rfl ?_
  refine r_iconst (pc := 1) (v := iv 4) dX12_madeParts_1 (by decide) ?_
  obtain ⟨fs5, hfs5⟩ := t_obj ht (rd_of RG_y)
  refine r_callV (pc := 2) (as := [.int (iv 4)]) (st := []) kX12_168 rfl dX12_madeParts_2 hfs5 (s_X12_keep (d := d - 1) (x1 := 4) (by omega) (by omega) (by assumption) (by omega) ht (by omega)) rfl (by omega) (Nat.le_of_ble_eq_true rfl) (Nat.zero_le _) (Nat.zero_le _) rfl (fun r2 hp1 n3 hq4 => ?_)
  obtain ⟨hnn3, v_8, c1_9, s1_10, h_11, ht6, hrr2, hhq40, hhq41, hhq42, hhq43⟩ := hq4
  subst n3 r2
  have hhq40 : -4 ≤ h_11 ∧ h_11 ≤ 119 ∧ 0 ≤ c1_9 ∧ c1_9 ≤ 120 ∧ -2147483648 ≤ v_8 ∧ v_8 ≤ 2147483647 := hhq40
  have hhq41 : (cn = 120 ∧ h_11 = -4 ∧ v_8 = -4 ∧ c1_9 = cn) ∨ (cn < 120 ∧ h_11 = cn ∧ v_8 = rf ∧ c1_9 = cn + 1) := hhq41
  have hhq42 : cn = 120 → s1_10 = so := hhq42
  have hhq43 : cn < 120 → s1_10 = fup so (Int.toNat cn) 4 := hhq43
  change Rn _ _ _ 5 _ [.int (iv h_11)] _ _ _ _ _
  refine r_istore_n (pc := 5) (lv' := [(2, .int (iv h_11)), (0, .ref y), (1, .int (iv x1))]) dX12_madeParts_5 (i := 2) rfl (by decide) rfl ?_
  refine r_iload_n (pc := 6) dX12_madeParts_6 (i := 2) rfl rfl ?_
  refine t_if_ge (pc := 7) (tgt := 12) dX12_madeParts_7 (by decide) (by omega) (fun c7 => ?_) (fun c7 => ?_)
  · have ek : cn < 120 ∧ h_11 = cn ∧ v_8 = rf ∧ c1_9 = cn + 1 := by omega
    have es : s1_10 = fup so (Int.toNat cn) 4 := hhq43 (by omega)
    rw [ek.2.2.1, ek.2.2.2, es] at ht6
    have hRso : Rfx 121 0 4 (fup so (Int.toNat cn) 4) := Rfx_up (by assumption) (by omega)
    refine r_aload_n (pc := 12) dX12_madeParts_12 (i := 0) rfl rfl ?_
    refine t_getE (pc := 13) (.ref (y + 2)) ht6 (rd_of RG_y) fX12_13 dX12_madeParts_13 rfl ?_
    refine r_iload_n (pc := 16) dX12_madeParts_16 (i := 2) rfl rfl ?_
    refine r_iload_n (pc := 17) dX12_madeParts_17 (i := 1) rfl rfl ?_
    refine t_iastX (pc := 18) (t0 := 0) ht6 RG_sizes dX12_madeParts_18 rfl (by decide) (by omega) (by omega) (fun hp12 ht13 => ?_)
    have ht14 := RGw_sz ht13
    have hqht14 : Rfx 121 0 16 (fup sz (Int.toNat h_11) x1) := Rfx_up (by assumption) (by omega)
    refine r_iconst (pc := 19) (v := iv 0) dX12_madeParts_19 (by decide) ?_
    refine r_istore_n (pc := 20) (lv' := [(3, .int (iv 0)), (2, .int (iv h_11)), (0, .ref y), (1, .int (iv x1))]) dX12_madeParts_20 (i := 3) rfl (by decide) rfl ?_
    refine r_iconst (pc := 21) (v := iv 0) dX12_madeParts_21 (by decide) ?_
    refine r_istore (pc := 22) (lv' := [(4, .int (iv 0)), (3, .int (iv 0)), (2, .int (iv h_11)), (0, .ref y), (1, .int (iv x1))]) dX12_madeParts_22 (by decide) rfl ?_
    have hpq0 := pq_0 qi h_11 0
    have hfq0 : fqP qi qi h_11 := fun _ _ => rfl
    have B24 : ∀ k : Nat, ∀ qi24 : Nat → Int, ∀ hp24 : MH, Tw (RG Γ cI cJ cZ y rf (cn + 1) nm (fup so (Int.toNat cn) 4) (fup sz (Int.toNat h_11) x1) dr mn fr tt wt co nu qi24 qc nf nt nw nc) hp24 → ∀  (v24_3 : Int) (v24_4 : Int), 0 ≤ v24_3 ∧ v24_3 ≤ 16 ∧ 0 ≤ v24_4 ∧ v24_4 ≤ 16 ∧ Rfx 1936 0 15 qi24 ∧ v24_3 ≤ v24_4 ∧ v24_4 ≤ x1 ∧ pqP qi24 h_11 v24_4 v24_3 ∧ fqP qi24 qi h_11 → 16 - v24_4 ≤ (k : Int) → Rn (gG D cI cJ cZ cT lo b L xs) mX12_madeParts d 24 [(0, .ref y), (1, .int (iv x1)), (2, .int (iv h_11)), (3, .int (iv v24_3)), (4, .int (iv v24_4))] [] hp24 n 0 0 (q_X12_madeParts Γ cI cJ cZ y n rf cn nm so sz dr mn fr tt wt co nu qi qc nf nt nw nc x1) := by
      refine lpS _ ?_
      intro k24 ih24 qi24 hp24 ht24 v24_3 v24_4 hf24 hm24
      obtain ⟨hf24_0, hf24_1, hf24_2, hf24_3, ha24_4, hf24_5, hf24_6, ha24_7, ha24_8⟩ := hf24
      refine r_iload (pc := 24) dX12_madeParts_24 rfl ?_
      refine r_iload_n (pc := 26) dX12_madeParts_26 (i := 1) rfl rfl ?_
      refine t_icmp_ge (pc := 27) (tgt := 131) dX12_madeParts_27 (by decide) (by omega) (by omega) (fun c27 => ?_) (fun c27 => ?_)
      · refine r_aload_n (pc := 131) dX12_madeParts_131 (i := 0) rfl rfl ?_
        refine t_getE (pc := 132) (.ref (y + 16)) ht24 (rd_of RG_y) fX12_57 dX12_madeParts_132 rfl ?_
        refine r_iload_n (pc := 135) dX12_madeParts_135 (i := 2) rfl rfl ?_
        refine r_iload_n (pc := 136) dX12_madeParts_136 (i := 3) rfl rfl ?_
        refine t_iastX (pc := 137) (t0 := 0) ht24 RG_partCount dX12_madeParts_137 rfl (by decide) (by omega) (by omega) (fun hp15 ht16 => ?_)
        have ht17 := RGw_qc ht16
        have hqht17 : Rfx 121 0 16 (fup qc (Int.toNat h_11) v24_3) := Rfx_up (by assumption) (by omega)
        refine r_iload_n (pc := 138) dX12_madeParts_138 (i := 2) rfl rfl ?_
        exact r_iret (pc := 139) dX12_madeParts_139 rfl ⟨rfl, h_11, rf, (cn + 1), (fup so (Int.toNat cn) 4), (fup sz (Int.toNat h_11) x1), qi24, (fup qc (Int.toNat h_11) v24_3), ht17, rfl, (by omega), (by (first | (intro h9; exfalso; omega) | (intro _; exact ⟨rfl, rfl, rfl, rfl⟩))), (by omega), (by (first | (intro h9; exfalso; omega) | (intro h9; have e1 : h_11 = cn := (by omega); exact ⟨rfl, by rw [e1]⟩))), (by assumption), (by assumption), (by (intro h9; have e1 : cn = h_11 := (by omega); have e2 : v24_4 = x1 := (by omega); rw [e1, ← e2]; exact ⟨by assumption, by rw [fup_s]; assumption, fun g hg => by rw [fup_o _ _ hg]⟩))⟩
      · refine r_iconst (pc := 30) (v := iv (-1)) dX12_madeParts_30 (by decide) ?_
        refine r_istore (pc := 31) (lv' := [(5, .int (iv (-1))), (0, .ref y), (1, .int (iv x1)), (2, .int (iv h_11)), (3, .int (iv v24_3)), (4, .int (iv v24_4))]) dX12_madeParts_31 (by decide) rfl ?_
        refine r_iconst (pc := 33) (v := iv 0) dX12_madeParts_33 (by decide) ?_
        refine r_istore (pc := 34) (lv' := [(6, .int (iv 0)), (5, .int (iv (-1))), (0, .ref y), (1, .int (iv x1)), (2, .int (iv h_11)), (3, .int (iv v24_3)), (4, .int (iv v24_4))]) dX12_madeParts_34 (by decide) rfl ?_
        have B36 : ∀ k : Nat, ∀ hp36 : MH, Tw (RG Γ cI cJ cZ y rf (cn + 1) nm (fup so (Int.toNat cn) 4) (fup sz (Int.toNat h_11) x1) dr mn fr tt wt co nu qi24 qc nf nt nw nc) hp36 → ∀  (v36_5 : Int) (v36_6 : Int), (-1) ≤ v36_5 ∧ v36_5 ≤ 15 ∧ 0 ≤ v36_6 ∧ v36_6 ≤ 15 ∧ (v36_5 < v24_3 ∨ v36_5 < 0) ∧ v36_6 ≤ v24_4 → 15 - v36_6 ≤ (k : Int) → Rn (gG D cI cJ cZ cT lo b L xs) mX12_madeParts d 36 [(0, .ref y), (1, .int (iv x1)), (2, .int (iv h_11)), (3, .int (iv v24_3)), (4, .int (iv v24_4)), (5, .int (iv v36_5)), (6, .int (iv v36_6))] [] hp36 n 0 0 (q_X12_madeParts Γ cI cJ cZ y n rf cn nm so sz dr mn fr tt wt co nu qi qc nf nt nw nc x1) := by
          refine lpS _ ?_
          intro k36 ih36 hp36 ht36 v36_5 v36_6 hf36 hm36
          refine r_iload (pc := 36) dX12_madeParts_36 rfl ?_
          refine r_iload (pc := 38) dX12_madeParts_38 rfl ?_
          have B89 : ∀ hp89 : MH, Tw (RG Γ cI cJ cZ y rf (cn + 1) nm (fup so (Int.toNat cn) 4) (fup sz (Int.toNat h_11) x1) dr mn fr tt wt co nu qi24 qc nf nt nw nc) hp89 → (v36_5 < v24_3 ∨ v36_5 < 0) → Rn (gG D cI cJ cZ cT lo b L xs) mX12_madeParts d 89 [(0, .ref y), (1, .int (iv x1)), (2, .int (iv h_11)), (3, .int (iv v24_3)), (4, .int (iv v24_4)), (5, .int (iv v36_5))] [] hp89 n 0 0 (q_X12_madeParts Γ cI cJ cZ y n rf cn nm so sz dr mn fr tt wt co nu qi qc nf nt nw nc x1) := by
            intro hp89 ht89 hf89
            refine r_aload_n (pc := 89) dX12_madeParts_89 (i := 0) rfl rfl ?_
            refine t_getE (pc := 90) (.ref (y + 15)) ht89 (rd_of RG_y) fX12_54 dX12_madeParts_90 rfl ?_
            refine r_bipush (pc := 93) (v := iv 16) dX12_madeParts_93 (by decide) ?_
            refine r_iload_n (pc := 95) dX12_madeParts_95 (i := 2) rfl rfl ?_
            refine r_imul (pc := 96) (v := iv (16 * h_11)) dX12_madeParts_96 (iv_mul _ _) ?_
            refine r_iload (pc := 97) dX12_madeParts_97 rfl ?_
            refine r_iadd (pc := 99) (v := iv ((16 * h_11) + v24_4)) dX12_madeParts_99 (iv_add _ _) ?_
            refine r_iload (pc := 100) dX12_madeParts_100 rfl ?_
            have B111 : ∀ hp111 : MH, Tw (RG Γ cI cJ cZ y rf (cn + 1) nm (fup so (Int.toNat cn) 4) (fup sz (Int.toNat h_11) x1) dr mn fr tt wt co nu qi24 qc nf nt nw nc) hp111 → ∀  (u111_2 : Int), 0 ≤ u111_2 ∧ u111_2 ≤ 16 ∧ (v36_5 < 0 → u111_2 = v24_3) ∧ (0 ≤ v36_5 → u111_2 = v36_5) → Rn (gG D cI cJ cZ cT lo b L xs) mX12_madeParts d 111 [(0, .ref y), (1, .int (iv x1)), (2, .int (iv h_11)), (3, .int (iv v24_3)), (4, .int (iv v24_4)), (5, .int (iv v36_5))] [.int (iv u111_2), .int (iv ((16 * h_11) + v24_4)), .ref (y + 15)] hp111 n 0 0 (q_X12_madeParts Γ cI cJ cZ y n rf cn nm so sz dr mn fr tt wt co nu qi qc nf nt nw nc x1) := by
              intro hp111 ht111 u111_2 hf111
              refine t_iastX (pc := 111) (t0 := 0) ht111 RG_inPart dX12_madeParts_111 rfl (by decide) (by omega) (by omega) (fun hp18 ht19 => ?_)
              have ht20 := RGw_qi ht19
              have hqht20 : Rfx 1936 0 15 (fup qi24 (Int.toNat ((16 * h_11) + v24_4)) u111_2) := Rfx_up (by assumption) (by omega)
              refine r_iload_n (pc := 112) dX12_madeParts_112 (i := 3) rfl rfl ?_
              refine r_iload (pc := 113) dX12_madeParts_113 rfl ?_
              have B123 : ∀ hp123 : MH, Tw (RG Γ cI cJ cZ y rf (cn + 1) nm (fup so (Int.toNat cn) 4) (fup sz (Int.toNat h_11) x1) dr mn fr tt wt co nu (fup qi24 (Int.toNat ((16 * h_11) + v24_4)) u111_2) qc nf nt nw nc) hp123 → ∀  (u123_1 : Int), 0 ≤ u123_1 ∧ u123_1 ≤ 1 ∧ (v36_5 < 0 → u123_1 = 1) ∧ (0 ≤ v36_5 → u123_1 = 0) → Rn (gG D cI cJ cZ cT lo b L xs) mX12_madeParts d 123 [(0, .ref y), (1, .int (iv x1)), (2, .int (iv h_11)), (4, .int (iv v24_4))] [.int (iv u123_1), .int (iv v24_3)] hp123 n 0 0 (q_X12_madeParts Γ cI cJ cZ y n rf cn nm so sz dr mn fr tt wt co nu qi qc nf nt nw nc x1) := by
                intro hp123 ht123 u123_1 hf123
                refine r_iadd (pc := 123) (v := iv (v24_3 + u123_1)) dX12_madeParts_123 (iv_add _ _) ?_
                refine r_istore_n (pc := 124) (lv' := [(3, .int (iv (v24_3 + u123_1))), (0, .ref y), (1, .int (iv x1)), (2, .int (iv h_11)), (4, .int (iv v24_4))]) dX12_madeParts_124 (i := 3) rfl (by decide) rfl ?_
                refine r_iinc (pc := 125) (v := iv (v24_4 + 1)) (lv' := [(4, .int (iv (v24_4 + 1))), (3, .int (iv (v24_3 + u123_1))), (0, .ref y), (1, .int (iv x1)), (2, .int (iv h_11))]) dX12_madeParts_125 rfl (iv_add _ _) (by decide) rfl ?_
                have hpq125 : pqP (fup qi24 (Int.toNat ((16 * h_11) + v24_4)) u111_2) h_11 (v24_4 + 1) (v24_3 + u123_1) := pq_up (by assumption) (by omega) (by omega) (by omega) (by omega)
                have hfq125 : fqP (fup qi24 (Int.toNat ((16 * h_11) + v24_4)) u111_2) qi h_11 := fq_up (by assumption) (by omega) (by omega)
                refine r_goto (pc := 128) (tgt := 24) dX12_madeParts_128 (by decide) ?_
                refine Rn.pick (lv' := [(0, .ref y), (1, .int (iv x1)), (2, .int (iv h_11)), (3, .int (iv (v24_3 + u123_1))), (4, .int (iv (v24_4 + 1)))]) [2, 3, 4, 1, 0] rfl ?_
                exact ih24 (Int.toNat (16 - (v24_4 + 1))) (by omega) (fup qi24 (Int.toNat ((16 * h_11) + v24_4)) u111_2) _ ht123 (v24_3 + u123_1) (v24_4 + 1) ⟨by omega, by omega, by omega, by omega, by assumption, by omega, by omega, by assumption, by assumption⟩ (by omega)
              refine t_if_ge (pc := 115) (tgt := 122) dX12_madeParts_115 (by decide) (by omega) (fun c115 => ?_) (fun c115 => ?_)
              · refine r_iconst (pc := 122) (v := iv 0) dX12_madeParts_122 (by decide) ?_
                refine Rn.pick (lv' := [(0, .ref y), (1, .int (iv x1)), (2, .int (iv h_11)), (4, .int (iv v24_4))]) [0, 1, 2, 4] rfl ?_
                exact B123 _ ht20 0 ⟨by omega, by omega, by omega, by omega⟩
              · refine r_iconst (pc := 118) (v := iv 1) dX12_madeParts_118 (by decide) ?_
                refine r_goto (pc := 119) (tgt := 123) dX12_madeParts_119 (by decide) ?_
                refine Rn.pick (lv' := [(0, .ref y), (1, .int (iv x1)), (2, .int (iv h_11)), (4, .int (iv v24_4))]) [0, 1, 2, 4] rfl ?_
                exact B123 _ ht20 1 ⟨by omega, by omega, by omega, by omega⟩
            refine t_if_ge (pc := 102) (tgt := 109) dX12_madeParts_102 (by decide) (by omega) (fun c102 => ?_) (fun c102 => ?_)
            · refine r_iload (pc := 109) dX12_madeParts_109 rfl ?_
              refine Rn.pick (lv' := [(0, .ref y), (1, .int (iv x1)), (2, .int (iv h_11)), (3, .int (iv v24_3)), (4, .int (iv v24_4)), (5, .int (iv v36_5))]) [0, 1, 2, 3, 4, 5] rfl ?_
              exact B111 _ ht89 v36_5 ⟨by omega, by omega, by omega, by omega⟩
            · refine r_iload_n (pc := 105) dX12_madeParts_105 (i := 3) rfl rfl ?_
              refine r_goto (pc := 106) (tgt := 111) dX12_madeParts_106 (by decide) ?_
              refine Rn.pick (lv' := [(0, .ref y), (1, .int (iv x1)), (2, .int (iv h_11)), (3, .int (iv v24_3)), (4, .int (iv v24_4)), (5, .int (iv v36_5))]) [0, 1, 2, 3, 4, 5] rfl ?_
              exact B111 _ ht89 v24_3 ⟨by omega, by omega, by omega, by omega⟩
          refine t_icmp_ge (pc := 40) (tgt := 89) dX12_madeParts_40 (by decide) (by omega) (by omega) (fun c40 => ?_) (fun c40 => ?_)
          · refine Rn.pick (lv' := [(0, .ref y), (1, .int (iv x1)), (2, .int (iv h_11)), (3, .int (iv v24_3)), (4, .int (iv v24_4)), (5, .int (iv v36_5))]) [0, 1, 2, 3, 4, 5] rfl ?_
            exact B89 _ ht36 (by omega)
          · refine r_iload (pc := 43) dX12_madeParts_43 rfl ?_
            refine t_if_ge (pc := 45) (tgt := 89) dX12_madeParts_45 (by decide) (by omega) (fun c45 => ?_) (fun c45 => ?_)
            · refine Rn.pick (lv' := [(0, .ref y), (1, .int (iv x1)), (2, .int (iv h_11)), (3, .int (iv v24_3)), (4, .int (iv v24_4)), (5, .int (iv v36_5))]) [0, 1, 2, 3, 4, 5] rfl ?_
              exact B89 _ ht36 (by omega)
            · refine r_aload_n (pc := 48) dX12_madeParts_48 (i := 0) rfl rfl ?_
              refine t_getE (pc := 49) (.ref (y + 31)) ht36 (rd_of RG_y) fX12_103 dX12_madeParts_49 rfl ?_
              refine r_iload (pc := 52) dX12_madeParts_52 rfl ?_
              refine t_ialdR (pc := 54) (t0 := 0) ht36 (rd_of RG_label) dX12_madeParts_54 rfl (by decide) (by omega) (fun y21 by21 => ?_)
              refine r_aload_n (pc := 55) dX12_madeParts_55 (i := 0) rfl rfl ?_
              refine t_getE (pc := 56) (.ref (y + 31)) ht36 (rd_of RG_y) fX12_103 dX12_madeParts_56 rfl ?_
              refine r_iload (pc := 59) dX12_madeParts_59 rfl ?_
              refine t_ialdR (pc := 61) (t0 := 0) ht36 (rd_of RG_label) dX12_madeParts_61 rfl (by decide) (by omega) (fun y22 by22 => ?_)
              have B81 : ∀ hp81 : MH, Tw (RG Γ cI cJ cZ y rf (cn + 1) nm (fup so (Int.toNat cn) 4) (fup sz (Int.toNat h_11) x1) dr mn fr tt wt co nu qi24 qc nf nt nw nc) hp81 → ∀  (u81_0 : Int), (-1) ≤ u81_0 ∧ u81_0 ≤ 15 ∧ (u81_0 < v24_3 ∨ u81_0 < 0) → Rn (gG D cI cJ cZ cT lo b L xs) mX12_madeParts d 81 [(0, .ref y), (1, .int (iv x1)), (2, .int (iv h_11)), (3, .int (iv v24_3)), (4, .int (iv v24_4)), (6, .int (iv v36_6))] [.int (iv u81_0)] hp81 n 0 0 (q_X12_madeParts Γ cI cJ cZ y n rf cn nm so sz dr mn fr tt wt co nu qi qc nf nt nw nc x1) := by
                intro hp81 ht81 u81_0 hf81
                refine r_istore (pc := 81) (lv' := [(5, .int (iv u81_0)), (0, .ref y), (1, .int (iv x1)), (2, .int (iv h_11)), (3, .int (iv v24_3)), (4, .int (iv v24_4)), (6, .int (iv v36_6))]) dX12_madeParts_81 (by decide) rfl ?_
                refine r_iinc (pc := 83) (v := iv (v36_6 + 1)) (lv' := [(6, .int (iv (v36_6 + 1))), (5, .int (iv u81_0)), (0, .ref y), (1, .int (iv x1)), (2, .int (iv h_11)), (3, .int (iv v24_3)), (4, .int (iv v24_4))]) dX12_madeParts_83 rfl (iv_add _ _) (by decide) rfl ?_
                refine r_goto (pc := 86) (tgt := 36) dX12_madeParts_86 (by decide) ?_
                refine Rn.pick (lv' := [(0, .ref y), (1, .int (iv x1)), (2, .int (iv h_11)), (3, .int (iv v24_3)), (4, .int (iv v24_4)), (5, .int (iv u81_0)), (6, .int (iv (v36_6 + 1)))]) [2, 3, 4, 5, 6, 1, 0] rfl ?_
                exact ih36 (Int.toNat (15 - (v36_6 + 1))) (by omega) _ ht81 u81_0 (v36_6 + 1) ⟨by omega, by omega, by omega, by omega, by omega, by omega⟩ (by omega)
              refine t_icmp_ne (pc := 62) (tgt := 80) dX12_madeParts_62 (by decide) (by omega) (by omega) (fun c62 => ?_) (fun c62 => ?_)
              · refine r_iconst (pc := 80) (v := iv (-1)) dX12_madeParts_80 (by decide) ?_
                refine Rn.pick (lv' := [(0, .ref y), (1, .int (iv x1)), (2, .int (iv h_11)), (3, .int (iv v24_3)), (4, .int (iv v24_4)), (6, .int (iv v36_6))]) [0, 1, 2, 3, 4, 6] rfl ?_
                exact B81 _ ht36 (-1) ⟨by omega, by omega, by omega⟩
              · refine r_aload_n (pc := 65) dX12_madeParts_65 (i := 0) rfl rfl ?_
                refine t_getE (pc := 66) (.ref (y + 15)) ht36 (rd_of RG_y) fX12_54 dX12_madeParts_66 rfl ?_
                refine r_bipush (pc := 69) (v := iv 16) dX12_madeParts_69 (by decide) ?_
                refine r_iload_n (pc := 71) dX12_madeParts_71 (i := 2) rfl rfl ?_
                refine r_imul (pc := 72) (v := iv (16 * h_11)) dX12_madeParts_72 (iv_mul _ _) ?_
                refine r_iload (pc := 73) dX12_madeParts_73 rfl ?_
                refine r_iadd (pc := 75) (v := iv ((16 * h_11) + v36_6)) dX12_madeParts_75 (iv_add _ _) ?_
                refine t_ialdX (pc := 76) (t0 := 0) ht36 (rd_of RG_inPart) dX12_madeParts_76 rfl (by decide) (by omega) (fun b23 => ?_)
                have rb23 := (show Rfx 1936 0 15 qi24 by assumption) (Int.toNat ((16 * h_11) + v36_6)) (by omega)
                have hpq76 := (show pqP qi24 h_11 v24_4 v24_3 by assumption) v36_6 (by omega) (by omega)
                refine r_goto (pc := 77) (tgt := 81) dX12_madeParts_77 (by decide) ?_
                refine Rn.pick (lv' := [(0, .ref y), (1, .int (iv x1)), (2, .int (iv h_11)), (3, .int (iv v24_3)), (4, .int (iv v24_4)), (6, .int (iv v36_6))]) [0, 1, 2, 3, 4, 6] rfl ?_
                exact B81 _ ht36 (qi24 (Int.toNat ((16 * h_11) + v36_6))) ⟨by omega, by omega, by omega⟩
        refine Rn.pick (lv' := [(0, .ref y), (1, .int (iv x1)), (2, .int (iv h_11)), (3, .int (iv v24_3)), (4, .int (iv v24_4)), (5, .int (iv (-1))), (6, .int (iv 0))]) [2, 3, 4, 5, 6, 1, 0] rfl ?_
        exact B36 (Int.toNat (15 - 0)) _ ht24 (-1) 0 ⟨by omega, by omega, by omega, by omega, by omega, by omega⟩ (by omega)
    refine Rn.pick (lv' := [(0, .ref y), (1, .int (iv x1)), (2, .int (iv h_11)), (3, .int (iv 0)), (4, .int (iv 0))]) [3, 4, 2, 1, 0] rfl ?_
    exact B24 (Int.toNat (16 - 0)) qi _ ht14 0 0 ⟨by omega, by omega, by omega, by omega, by assumption, by omega, by omega, by assumption, by assumption⟩ (by omega)
  · have ek : cn = 120 ∧ h_11 = -4 ∧ v_8 = -4 ∧ c1_9 = cn := by omega
    have es : s1_10 = so := hhq42 (by omega)
    rw [ek.2.2.1, ek.2.2.2, es] at ht6
    refine r_iload_n (pc := 10) dX12_madeParts_10 (i := 2) rfl rfl ?_
    exact r_iret (pc := 11) dX12_madeParts_11 rfl ⟨rfl, h_11, (-4), cn, so, sz, qi, qc, ht6, rfl, (by omega), (by (first | (intro h9; exfalso; omega) | (intro _; exact ⟨rfl, rfl, rfl, rfl⟩))), (by omega), (by (first | (intro h9; exfalso; omega) | (intro h9; have e1 : h_11 = cn := (by omega); exact ⟨rfl, by rw [e1]⟩))), (by assumption), (by assumption), (by (intro h9; exfalso; omega))⟩
def q_X12_square (Γ : TG) (cI cJ cZ : ClassId) (y n : Nat) (rf cn nm : Int) (so sz dr mn fr tt wt co : Nat → Int) (nu : Nat → Int64) (qi qc nf nt nw nc : Nat → Int) (x1 : Int) : Option Value → MH → Nat → Prop := fun r hp1 n1 => n1 = n ∧ ∃ (nf1 : Nat → Int) (nt1 : Nat → Int) (nw1 : Nat → Int) (nc1 : Nat → Int) (m1 : Int), Tw (RG Γ cI cJ cZ y rf cn m1 so sz dr mn fr tt wt co nu qi qc nf1 nt1 nw1 nc1) hp1 ∧ r = none ∧ (0 ≤ m1 ∧ m1 ≤ 256) ∧ (arP nf1 nt1 nw1 nc1 m1 (sz (Int.toNat x1)))
set_option maxHeartbeats 4000000 in
set_option maxRecDepth 100000 in
theorem s_X12_square {D : va_G} {cI cJ cZ cT : ClassId} {lo b L : Nat} {xs : Nat → Int32} {hp : MH} {n d : Nat} {Γ : TG} {y : Nat} {rf cn nm : Int} {so sz dr mn fr tt wt co : Nat → Int} {nu : Nat → Int64} {qi qc nf nt nw nc : Nat → Int} {x1 : Int} (hd0 : 2 ≤ d) (hR_sizes : Rfx 121 0 16 sz) (hR_directs : Rfx 121 0 1 dr) (hR_many : Rfx 121 0 60 mn) (hR_from : Rfx 7260 0 15 fr) (hR_to : Rfx 7260 0 15 tt) (hR_weight : Rfx 7260 (-1000) 1000 wt) (ht : Tw (RG Γ cI cJ cZ y rf cn nm so sz dr mn fr tt wt co nu qi qc nf nt nw nc) hp) (hx1 : 0 ≤ x1 ∧ x1 ≤ 120) (hz9 : nm = 0) : Mt (gG D cI cJ cZ cT lo b L xs) mX12_square d 0 0 [.ref y, .int (iv x1)] hp n (q_X12_square Γ cI cJ cZ y n rf cn nm so sz dr mn fr tt wt co nu qi qc nf nt nw nc x1) := by
  refine Mt.of rfl (Nat.le_of_ble_eq_true rfl) ?_
  refine Rn.pick (lv' := [(0, .ref y), (1, .int (iv x1))]) [0, 1] rfl ?_
  have rsz := hR_sizes (Int.toNat x1) (by omega)
  have rmn := hR_many (Int.toNat x1) (by omega)
  have ha0 : arP nf nt nw nc nm (sz (Int.toNat x1)) := by rw [hz9]; exact ar_0 _ _ _ _ _
  refine r_aload_n (pc := 0) dX12_square_0 (i := 0) rfl rfl ?_
  refine t_getE (pc := 1) (.ref (y + 2)) ht (rd_of RG_y) fX12_13 dX12_square_1 rfl ?_
  refine r_iload_n (pc := 4) dX12_square_4 (i := 1) rfl rfl ?_
  refine t_ialdX (pc := 5) (t0 := 0) ht (rd_of RG_sizes) dX12_square_5 rfl (by decide) (by omega) (fun b1 => ?_)
  have rb1 := (show Rfx 121 0 16 sz by assumption) (Int.toNat x1) (by omega)
  refine r_istore_n (pc := 6) (lv' := [(2, .int (iv (sz (Int.toNat x1)))), (0, .ref y), (1, .int (iv x1))]) dX12_square_6 (i := 2) rfl (by decide) rfl ?_
  refine r_iconst (pc := 7) (v := iv 0) dX12_square_7 (by decide) ?_
  refine r_istore_n (pc := 8) (lv' := [(3, .int (iv 0)), (2, .int (iv (sz (Int.toNat x1)))), (0, .ref y), (1, .int (iv x1))]) dX12_square_8 (i := 3) rfl (by decide) rfl ?_
  have B9 : ∀ k : Nat, ∀ nm9 : Int, ∀ nf9 : Nat → Int, ∀ nt9 : Nat → Int, ∀ nw9 : Nat → Int, ∀ nc9 : Nat → Int, ∀ hp9 : MH, Tw (RG Γ cI cJ cZ y rf cn nm9 so sz dr mn fr tt wt co nu qi qc nf9 nt9 nw9 nc9) hp9 → ∀  (v9_3 : Int), 0 ≤ v9_3 ∧ v9_3 ≤ 16 ∧ 0 ≤ nm9 ∧ nm9 ≤ 400 ∧ v9_3 ≤ (sz (Int.toNat x1)) ∧ nm9 ≤ 16 * v9_3 ∧ arP nf9 nt9 nw9 nc9 nm9 (sz (Int.toNat x1)) → 16 - v9_3 ≤ (k : Int) → Rn (gG D cI cJ cZ cT lo b L xs) mX12_square d 9 [(0, .ref y), (1, .int (iv x1)), (2, .int (iv (sz (Int.toNat x1)))), (3, .int (iv v9_3))] [] hp9 n 0 0 (q_X12_square Γ cI cJ cZ y n rf cn nm so sz dr mn fr tt wt co nu qi qc nf nt nw nc x1) := by
    refine lpS _ ?_
    intro k9 ih9 nm9 nf9 nt9 nw9 nc9 hp9 ht9 v9_3 hf9 hm9
    obtain ⟨hf9_0, hf9_1, hf9_2, hf9_3, hf9_4, hf9_5, ha9_6⟩ := hf9
    refine r_iload_n (pc := 9) dX12_square_9 (i := 3) rfl rfl ?_
    refine r_iload_n (pc := 10) dX12_square_10 (i := 2) rfl rfl ?_
    refine t_icmp_ge (pc := 11) (tgt := 207) dX12_square_11 (by decide) (by omega) (by omega) (fun c11 => ?_) (fun c11 => ?_)
    · exact r_vret (pc := 207) dX12_square_207 rfl ⟨rfl, nf9, nt9, nw9, nc9, nm9, ht9, rfl, (by omega), (by assumption)⟩
    · refine r_aload_n (pc := 14) dX12_square_14 (i := 0) rfl rfl ?_
      refine t_getE (pc := 15) (.ref (y + 3)) ht9 (rd_of RG_y) fX12_16 dX12_square_15 rfl ?_
      refine r_iload_n (pc := 18) dX12_square_18 (i := 1) rfl rfl ?_
      refine t_zaldX (pc := 19) (t0 := 2) ht9 (rd_of RG_directs) dX12_square_19 rfl (by decide) (by omega) (fun b2 => ?_)
      have rb2 := (show Rfx 121 0 1 dr by assumption) (Int.toNat x1) (by omega)
      have B28 : ∀ hp28 : MH, Tw (RG Γ cI cJ cZ y rf cn nm9 so sz dr mn fr tt wt co nu qi qc nf9 nt9 nw9 nc9) hp28 → ∀  (u28_0 : Int), 0 ≤ u28_0 ∧ u28_0 ≤ 15 ∧ u28_0 ≤ (sz (Int.toNat x1)) → Rn (gG D cI cJ cZ cT lo b L xs) mX12_square d 28 [(0, .ref y), (1, .int (iv x1)), (2, .int (iv (sz (Int.toNat x1)))), (3, .int (iv v9_3))] [.int (iv u28_0)] hp28 n 0 0 (q_X12_square Γ cI cJ cZ y n rf cn nm so sz dr mn fr tt wt co nu qi qc nf nt nw nc x1) := by
        intro hp28 ht28 u28_0 hf28
        refine r_istore (pc := 28) (lv' := [(4, .int (iv u28_0)), (0, .ref y), (1, .int (iv x1)), (2, .int (iv (sz (Int.toNat x1)))), (3, .int (iv v9_3))]) dX12_square_28 (by decide) rfl ?_
        have B30 : ∀ k : Nat, ∀ nm30 : Int, ∀ nf30 : Nat → Int, ∀ nt30 : Nat → Int, ∀ nw30 : Nat → Int, ∀ nc30 : Nat → Int, ∀ hp30 : MH, Tw (RG Γ cI cJ cZ y rf cn nm30 so sz dr mn fr tt wt co nu qi qc nf30 nt30 nw30 nc30) hp30 → ∀  (v30_4 : Int), 0 ≤ v30_4 ∧ v30_4 ≤ 16 ∧ u28_0 ≤ v30_4 ∧ 0 ≤ nm30 ∧ nm30 ≤ 400 ∧ v30_4 ≤ (sz (Int.toNat x1)) ∧ nm30 ≤ 16 * v9_3 + v30_4 ∧ arP nf30 nt30 nw30 nc30 nm30 (sz (Int.toNat x1)) → 16 - v30_4 ≤ (k : Int) → Rn (gG D cI cJ cZ cT lo b L xs) mX12_square d 30 [(0, .ref y), (1, .int (iv x1)), (2, .int (iv (sz (Int.toNat x1)))), (3, .int (iv v9_3)), (4, .int (iv v30_4))] [] hp30 n 0 0 (q_X12_square Γ cI cJ cZ y n rf cn nm so sz dr mn fr tt wt co nu qi qc nf nt nw nc x1) := by
          refine lpS _ ?_
          intro k30 ih30 nm30 nf30 nt30 nw30 nc30 hp30 ht30 v30_4 hf30 hm30
          obtain ⟨hf30_0, hf30_1, hf30_2, hf30_3, hf30_4, hf30_5, hf30_6, ha30_7⟩ := hf30
          refine r_iload (pc := 30) dX12_square_30 rfl ?_
          refine r_iload_n (pc := 32) dX12_square_32 (i := 2) rfl rfl ?_
          refine t_icmp_ge (pc := 33) (tgt := 201) dX12_square_33 (by decide) (by omega) (by omega) (fun c33 => ?_) (fun c33 => ?_)
          · refine r_iinc (pc := 201) (v := iv (v9_3 + 1)) (lv' := [(3, .int (iv (v9_3 + 1))), (0, .ref y), (1, .int (iv x1)), (2, .int (iv (sz (Int.toNat x1)))), (4, .int (iv v30_4))]) dX12_square_201 rfl (iv_add _ _) (by decide) rfl ?_
            refine r_goto (pc := 204) (tgt := 9) dX12_square_204 (by decide) ?_
            refine Rn.pick (lv' := [(0, .ref y), (1, .int (iv x1)), (2, .int (iv (sz (Int.toNat x1)))), (3, .int (iv (v9_3 + 1)))]) [1, 2, 3, 0] rfl ?_
            exact ih9 (Int.toNat (16 - (v9_3 + 1))) (by omega) nm30 nf30 nt30 nw30 nc30 _ ht30 (v9_3 + 1) ⟨by omega, by omega, by omega, by omega, by omega, by omega, by assumption⟩ (by omega)
          · refine r_ldc (pc := 36) (v := iv 99999) dX12_square_36 kX12_204 ?_
            refine r_istore (pc := 38) (lv' := [(5, .int (iv 99999)), (0, .ref y), (1, .int (iv x1)), (2, .int (iv (sz (Int.toNat x1)))), (3, .int (iv v9_3)), (4, .int (iv v30_4))]) dX12_square_38 (by decide) rfl ?_
            refine r_iconst (pc := 40) (v := iv 0) dX12_square_40 (by decide) ?_
            refine r_istore (pc := 41) (lv' := [(6, .int (iv 0)), (5, .int (iv 99999)), (0, .ref y), (1, .int (iv x1)), (2, .int (iv (sz (Int.toNat x1)))), (3, .int (iv v9_3)), (4, .int (iv v30_4))]) dX12_square_41 (by decide) rfl ?_
            have B43 : ∀ k : Nat, ∀ hp43 : MH, Tw (RG Γ cI cJ cZ y rf cn nm30 so sz dr mn fr tt wt co nu qi qc nf30 nt30 nw30 nc30) hp43 → ∀  (v43_5 : Int) (v43_6 : Int), (-2000) ≤ v43_5 ∧ v43_5 ≤ 99999 ∧ 0 ≤ v43_6 ∧ v43_6 ≤ 60 → 60 - v43_6 ≤ (k : Int) → Rn (gG D cI cJ cZ cT lo b L xs) mX12_square d 43 [(0, .ref y), (1, .int (iv x1)), (2, .int (iv (sz (Int.toNat x1)))), (3, .int (iv v9_3)), (4, .int (iv v30_4)), (5, .int (iv v43_5)), (6, .int (iv v43_6))] [] hp43 n 0 0 (q_X12_square Γ cI cJ cZ y n rf cn nm so sz dr mn fr tt wt co nu qi qc nf nt nw nc x1) := by
              refine lpS _ ?_
              intro k43 ih43 hp43 ht43 v43_5 v43_6 hf43 hm43
              refine r_iload (pc := 43) dX12_square_43 rfl ?_
              refine r_aload_n (pc := 45) dX12_square_45 (i := 0) rfl rfl ?_
              refine t_getE (pc := 46) (.ref (y + 4)) ht43 (rd_of RG_y) fX12_20 dX12_square_46 rfl ?_
              refine r_iload_n (pc := 49) dX12_square_49 (i := 1) rfl rfl ?_
              refine t_ialdX (pc := 50) (t0 := 0) ht43 (rd_of RG_many) dX12_square_50 rfl (by decide) (by omega) (fun b3 => ?_)
              have rb3 := (show Rfx 121 0 60 mn by assumption) (Int.toNat x1) (by omega)
              refine t_icmp_ge (pc := 51) (tgt := 150) dX12_square_51 (by decide) (by omega) (by omega) (fun c51 => ?_) (fun c51 => ?_)
              · refine r_iload (pc := 150) dX12_square_150 rfl ?_
                refine r_ldc (pc := 152) (v := iv 99999) dX12_square_152 kX12_204 ?_
                have B195 : ∀ nm195 : Int, ∀ nf195 : Nat → Int, ∀ nt195 : Nat → Int, ∀ nw195 : Nat → Int, ∀ nc195 : Nat → Int, ∀ hp195 : MH, Tw (RG Γ cI cJ cZ y rf cn nm195 so sz dr mn fr tt wt co nu qi qc nf195 nt195 nw195 nc195) hp195 → 0 ≤ nm195 ∧ nm195 ≤ 400 ∧ nm195 ≤ 16 * v9_3 + v30_4 + 1 ∧ arP nf195 nt195 nw195 nc195 nm195 (sz (Int.toNat x1)) → Rn (gG D cI cJ cZ cT lo b L xs) mX12_square d 195 [(0, .ref y), (1, .int (iv x1)), (2, .int (iv (sz (Int.toNat x1)))), (3, .int (iv v9_3)), (4, .int (iv v30_4))] [] hp195 n 0 0 (q_X12_square Γ cI cJ cZ y n rf cn nm so sz dr mn fr tt wt co nu qi qc nf nt nw nc x1) := by
                  intro nm195 nf195 nt195 nw195 nc195 hp195 ht195 hf195
                  obtain ⟨hf195_0, hf195_1, hf195_2, ha195_3⟩ := hf195
                  refine r_iinc (pc := 195) (v := iv (v30_4 + 1)) (lv' := [(4, .int (iv (v30_4 + 1))), (0, .ref y), (1, .int (iv x1)), (2, .int (iv (sz (Int.toNat x1)))), (3, .int (iv v9_3))]) dX12_square_195 rfl (iv_add _ _) (by decide) rfl ?_
                  refine r_goto (pc := 198) (tgt := 30) dX12_square_198 (by decide) ?_
                  refine Rn.pick (lv' := [(0, .ref y), (1, .int (iv x1)), (2, .int (iv (sz (Int.toNat x1)))), (3, .int (iv v9_3)), (4, .int (iv (v30_4 + 1)))]) [1, 2, 3, 4, 0] rfl ?_
                  exact ih30 (Int.toNat (16 - (v30_4 + 1))) (by omega) nm195 nf195 nt195 nw195 nc195 _ ht195 (v30_4 + 1) ⟨by omega, by omega, by omega, by omega, by omega, by omega, by omega, by assumption⟩ (by omega)
                refine t_icmp_ge (pc := 154) (tgt := 195) dX12_square_154 (by decide) (by omega) (by omega) (fun c154 => ?_) (fun c154 => ?_)
                · refine Rn.pick (lv' := [(0, .ref y), (1, .int (iv x1)), (2, .int (iv (sz (Int.toNat x1)))), (3, .int (iv v9_3)), (4, .int (iv v30_4))]) [0, 1, 2, 3, 4] rfl ?_
                  exact B195 nm30 nf30 nt30 nw30 nc30 _ ht43 ⟨by omega, by omega, by omega, by assumption⟩
                · refine r_aload_n (pc := 157) dX12_square_157 (i := 0) rfl rfl ?_
                  refine r_iload_n (pc := 158) dX12_square_158 (i := 3) rfl rfl ?_
                  refine r_iload (pc := 159) dX12_square_159 rfl ?_
                  refine r_iload (pc := 161) dX12_square_161 rfl ?_
                  refine r_sipush (pc := 163) (v := iv (-1000)) dX12_square_163 (by decide) ?_
                  have B191 : ∀ hp191 : MH, Tw (RG Γ cI cJ cZ y rf cn nm30 so sz dr mn fr tt wt co nu qi qc nf30 nt30 nw30 nc30) hp191 → ∀  (u191_3 : Int), (-1000) ≤ u191_3 ∧ u191_3 ≤ 1000 → Rn (gG D cI cJ cZ cT lo b L xs) mX12_square d 191 [(0, .ref y), (1, .int (iv x1)), (2, .int (iv (sz (Int.toNat x1)))), (3, .int (iv v9_3)), (4, .int (iv v30_4))] [.int (iv u191_3), .int (iv v30_4), .int (iv v9_3), .ref y] hp191 n 0 0 (q_X12_square Γ cI cJ cZ y n rf cn nm so sz dr mn fr tt wt co nu qi qc nf nt nw nc x1) := by
                    intro hp191 ht191 u191_3 hf191
                    refine r_iconst (pc := 191) (v := iv 0) dX12_square_191 (by decide) ?_
                    obtain ⟨fs8, hfs8⟩ := t_obj ht191 (rd_of RG_y)
                    refine r_callV (pc := 192) (as := [.int (iv v9_3), .int (iv v30_4), .int (iv u191_3), .int (iv 0)]) (st := []) kX12_171 rfl dX12_square_192 hfs8 (s_X12_put (d := d - 1) (x1 := v9_3) (x2 := v30_4) (x3 := u191_3) (x4 := 0) (by omega) ht191 (by omega) (by omega) (by omega) (by omega) (by omega)) rfl (by omega) (Nat.le_of_ble_eq_true rfl) (Nat.zero_le _) (Nat.zero_le _) rfl (fun r5 hp4 n6 hq7 => ?_)
                    obtain ⟨hnn6, ht9, hrr5⟩ := hq7
                    subst n6 r5
                    change Rn _ _ _ 195 _ [] _ _ _ _ _
                    have hapq11 : arP (fup nf30 (Int.toNat nm30) v9_3) (fup nt30 (Int.toNat nm30) v30_4) (fup nw30 (Int.toNat nm30) u191_3) (fup nc30 (Int.toNat nm30) 0) (nm30 + 1) (sz (Int.toNat x1)) := ar_up (by assumption) (by omega) (by omega) (by omega) (by omega) (by omega)
                    refine Rn.pick (lv' := [(0, .ref y), (1, .int (iv x1)), (2, .int (iv (sz (Int.toNat x1)))), (3, .int (iv v9_3)), (4, .int (iv v30_4))]) [0, 1, 2, 3, 4] rfl ?_
                    exact B195 (nm30 + 1) (fup nf30 (Int.toNat nm30) v9_3) (fup nt30 (Int.toNat nm30) v30_4) (fup nw30 (Int.toNat nm30) u191_3) (fup nc30 (Int.toNat nm30) 0) _ ht9 ⟨by omega, by omega, by omega, by assumption⟩
                  refine t_icmp_ge (pc := 166) (tgt := 175) dX12_square_166 (by decide) (by omega) (by omega) (fun c166 => ?_) (fun c166 => ?_)
                  · refine r_iload (pc := 175) dX12_square_175 rfl ?_
                    refine r_sipush (pc := 177) (v := iv 1000) dX12_square_177 (by decide) ?_
                    refine t_icmp_le (pc := 180) (tgt := 189) dX12_square_180 (by decide) (by omega) (by omega) (fun c180 => ?_) (fun c180 => ?_)
                    · refine r_iload (pc := 189) dX12_square_189 rfl ?_
                      refine Rn.pick (lv' := [(0, .ref y), (1, .int (iv x1)), (2, .int (iv (sz (Int.toNat x1)))), (3, .int (iv v9_3)), (4, .int (iv v30_4))]) [0, 1, 2, 3, 4] rfl ?_
                      exact B191 _ ht43 v43_5 ⟨by omega, by omega⟩
                    · refine r_sipush (pc := 183) (v := iv 1000) dX12_square_183 (by decide) ?_
                      refine r_goto (pc := 186) (tgt := 191) dX12_square_186 (by decide) ?_
                      refine Rn.pick (lv' := [(0, .ref y), (1, .int (iv x1)), (2, .int (iv (sz (Int.toNat x1)))), (3, .int (iv v9_3)), (4, .int (iv v30_4))]) [0, 1, 2, 3, 4] rfl ?_
                      exact B191 _ ht43 1000 ⟨by omega, by omega⟩
                  · refine r_sipush (pc := 169) (v := iv (-1000)) dX12_square_169 (by decide) ?_
                    refine r_goto (pc := 172) (tgt := 191) dX12_square_172 (by decide) ?_
                    refine Rn.pick (lv' := [(0, .ref y), (1, .int (iv x1)), (2, .int (iv (sz (Int.toNat x1)))), (3, .int (iv v9_3)), (4, .int (iv v30_4))]) [0, 1, 2, 3, 4] rfl ?_
                    exact B191 _ ht43 (-1000) ⟨by omega, by omega⟩
              · refine r_aload_n (pc := 54) dX12_square_54 (i := 0) rfl rfl ?_
                refine r_iload_n (pc := 55) dX12_square_55 (i := 1) rfl rfl ?_
                refine r_iload (pc := 56) dX12_square_56 rfl ?_
                refine r_iload_n (pc := 58) dX12_square_58 (i := 3) rfl rfl ?_
                refine t_callVR (pc := 59) (as := [.int (iv x1), .int (iv v43_6), .int (iv v9_3)]) (st := []) ht43 (rd_of RG_y) kX12_205 rfl dX12_square_59 (t_X12_over (d := d - 1) (x1 := x1) (x2 := v43_6) (x3 := v9_3) (by omega) (rd_of RG_y) (rd_xr (rd_of RG_directs) (show Rfx 121 0 1 dr by assumption)) (rd_xr (rd_of RG_from) (show Rfx 7260 0 15 fr by assumption)) (rd_xr (rd_of RG_to) (show Rfx 7260 0 15 tt by assumption)) ht43 (by omega) (by omega) (by omega)) rfl (by omega) (Nat.le_of_ble_eq_true rfl) rfl (fun hp12 y14 ht13 by14 => ?_)
                refine r_istore (pc := 62) (lv' := [(7, .int (iv y14)), (0, .ref y), (1, .int (iv x1)), (2, .int (iv (sz (Int.toNat x1)))), (3, .int (iv v9_3)), (4, .int (iv v30_4)), (5, .int (iv v43_5)), (6, .int (iv v43_6))]) dX12_square_62 (by decide) rfl ?_
                refine r_iconst (pc := 64) (v := iv 0) dX12_square_64 (by decide) ?_
                refine r_istore (pc := 65) (lv' := [(8, .int (iv 0)), (7, .int (iv y14)), (0, .ref y), (1, .int (iv x1)), (2, .int (iv (sz (Int.toNat x1)))), (3, .int (iv v9_3)), (4, .int (iv v30_4)), (5, .int (iv v43_5)), (6, .int (iv v43_6))]) dX12_square_65 (by decide) rfl ?_
                have B67 : ∀ k : Nat, ∀ hp67 : MH, Tw (RG Γ cI cJ cZ y rf cn nm30 so sz dr mn fr tt wt co nu qi qc nf30 nt30 nw30 nc30) hp67 → ∀  (v67_5 : Int) (v67_8 : Int), (-2000) ≤ v67_5 ∧ v67_5 ≤ 99999 ∧ 0 ≤ v67_8 ∧ v67_8 ≤ 60 → 60 - v67_8 ≤ (k : Int) → Rn (gG D cI cJ cZ cT lo b L xs) mX12_square d 67 [(0, .ref y), (1, .int (iv x1)), (2, .int (iv (sz (Int.toNat x1)))), (3, .int (iv v9_3)), (4, .int (iv v30_4)), (5, .int (iv v67_5)), (6, .int (iv v43_6)), (7, .int (iv y14)), (8, .int (iv v67_8))] [] hp67 n 0 0 (q_X12_square Γ cI cJ cZ y n rf cn nm so sz dr mn fr tt wt co nu qi qc nf nt nw nc x1) := by
                  refine lpS _ ?_
                  intro k67 ih67 hp67 ht67 v67_5 v67_8 hf67 hm67
                  refine r_iload (pc := 67) dX12_square_67 rfl ?_
                  refine r_aload_n (pc := 69) dX12_square_69 (i := 0) rfl rfl ?_
                  refine t_getE (pc := 70) (.ref (y + 4)) ht67 (rd_of RG_y) fX12_20 dX12_square_70 rfl ?_
                  refine r_iload_n (pc := 73) dX12_square_73 (i := 1) rfl rfl ?_
                  refine t_ialdX (pc := 74) (t0 := 0) ht67 (rd_of RG_many) dX12_square_74 rfl (by decide) (by omega) (fun b15 => ?_)
                  have rb15 := (show Rfx 121 0 60 mn by assumption) (Int.toNat x1) (by omega)
                  have B144 : ∀ hp144 : MH, Tw (RG Γ cI cJ cZ y rf cn nm30 so sz dr mn fr tt wt co nu qi qc nf30 nt30 nw30 nc30) hp144 → True → Rn (gG D cI cJ cZ cT lo b L xs) mX12_square d 144 [(0, .ref y), (1, .int (iv x1)), (2, .int (iv (sz (Int.toNat x1)))), (3, .int (iv v9_3)), (4, .int (iv v30_4)), (5, .int (iv v67_5)), (6, .int (iv v43_6))] [] hp144 n 0 0 (q_X12_square Γ cI cJ cZ y n rf cn nm so sz dr mn fr tt wt co nu qi qc nf nt nw nc x1) := by
                    intro hp144 ht144 hf144
                    refine r_iinc (pc := 144) (v := iv (v43_6 + 1)) (lv' := [(6, .int (iv (v43_6 + 1))), (0, .ref y), (1, .int (iv x1)), (2, .int (iv (sz (Int.toNat x1)))), (3, .int (iv v9_3)), (4, .int (iv v30_4)), (5, .int (iv v67_5))]) dX12_square_144 rfl (iv_add _ _) (by decide) rfl ?_
                    refine r_goto (pc := 147) (tgt := 43) dX12_square_147 (by decide) ?_
                    refine Rn.pick (lv' := [(0, .ref y), (1, .int (iv x1)), (2, .int (iv (sz (Int.toNat x1)))), (3, .int (iv v9_3)), (4, .int (iv v30_4)), (5, .int (iv v67_5)), (6, .int (iv (v43_6 + 1)))]) [1, 2, 3, 4, 5, 6, 0] rfl ?_
                    exact ih43 (Int.toNat (60 - (v43_6 + 1))) (by omega) _ ht144 v67_5 (v43_6 + 1) ⟨by omega, by omega, by omega, by omega⟩ (by omega)
                  refine t_icmp_ge (pc := 75) (tgt := 144) dX12_square_75 (by decide) (by omega) (by omega) (fun c75 => ?_) (fun c75 => ?_)
                  · refine Rn.pick (lv' := [(0, .ref y), (1, .int (iv x1)), (2, .int (iv (sz (Int.toNat x1)))), (3, .int (iv v9_3)), (4, .int (iv v30_4)), (5, .int (iv v67_5)), (6, .int (iv v43_6))]) [0, 1, 2, 3, 4, 5, 6] rfl ?_
                    exact B144 _ ht67 trivial
                  · refine r_iload (pc := 78) dX12_square_78 rfl ?_
                    refine t_if_lt (pc := 80) (tgt := 144) dX12_square_80 (by decide) (by omega) (fun c80 => ?_) (fun c80 => ?_)
                    · refine Rn.pick (lv' := [(0, .ref y), (1, .int (iv x1)), (2, .int (iv (sz (Int.toNat x1)))), (3, .int (iv v9_3)), (4, .int (iv v30_4)), (5, .int (iv v67_5)), (6, .int (iv v43_6))]) [0, 1, 2, 3, 4, 5, 6] rfl ?_
                      exact B144 _ ht67 trivial
                    · refine r_aload_n (pc := 83) dX12_square_83 (i := 0) rfl rfl ?_
                      refine t_getE (pc := 84) (.ref (y + 7)) ht67 (rd_of RG_y) fX12_29 dX12_square_84 rfl ?_
                      refine r_iload_n (pc := 87) dX12_square_87 (i := 1) rfl rfl ?_
                      refine r_iload (pc := 88) dX12_square_88 rfl ?_
                      refine t_callSI (pc := 90) (as := [.int (iv x1), .int (iv v43_6)]) (st := [.ref (y + 7)]) kX12_157 dX12_square_90 (t_X12_at1x (d := d - 1) (x1 := x1) (x2 := v43_6) (by omega)  ht67 (by omega) (by omega)) rfl (by omega) (Nat.le_of_ble_eq_true rfl) rfl (fun hp16 y18 ht17 by18 => ?_)
                      have ey18 : y18 = 60 * x1 + v43_6 := by18
                      subst ey18
                      refine t_ialdX (pc := 93) (t0 := 0) ht17 (rd_of RG_weight) dX12_square_93 rfl (by decide) (by omega) (fun b19 => ?_)
                      have rb19 := (show Rfx 7260 (-1000) 1000 wt by assumption) (Int.toNat (60 * x1 + v43_6)) (by omega)
                      refine r_aload_n (pc := 94) dX12_square_94 (i := 0) rfl rfl ?_
                      refine t_getE (pc := 95) (.ref (y + 7)) ht17 (rd_of RG_y) fX12_29 dX12_square_95 rfl ?_
                      refine r_iload_n (pc := 98) dX12_square_98 (i := 1) rfl rfl ?_
                      refine r_iload (pc := 99) dX12_square_99 rfl ?_
                      refine t_callSI (pc := 101) (as := [.int (iv x1), .int (iv v67_8)]) (st := [.ref (y + 7), .int (iv (wt (Int.toNat (60 * x1 + v43_6))))]) kX12_157 dX12_square_101 (t_X12_at1x (d := d - 1) (x1 := x1) (x2 := v67_8) (by omega)  ht17 (by omega) (by omega)) rfl (by omega) (Nat.le_of_ble_eq_true rfl) rfl (fun hp20 y22 ht21 by22 => ?_)
                      have ey22 : y22 = 60 * x1 + v67_8 := by22
                      subst ey22
                      refine t_ialdX (pc := 104) (t0 := 0) ht21 (rd_of RG_weight) dX12_square_104 rfl (by decide) (by omega) (fun b23 => ?_)
                      have rb23 := (show Rfx 7260 (-1000) 1000 wt by assumption) (Int.toNat (60 * x1 + v67_8)) (by omega)
                      refine r_iadd (pc := 105) (v := iv ((wt (Int.toNat (60 * x1 + v43_6))) + (wt (Int.toNat (60 * x1 + v67_8))))) dX12_square_105 (iv_add _ _) ?_
                      refine r_istore (pc := 106) (lv' := [(9, .int (iv ((wt (Int.toNat (60 * x1 + v43_6))) + (wt (Int.toNat (60 * x1 + v67_8)))))), (0, .ref y), (1, .int (iv x1)), (2, .int (iv (sz (Int.toNat x1)))), (3, .int (iv v9_3)), (4, .int (iv v30_4)), (5, .int (iv v67_5)), (6, .int (iv v43_6)), (7, .int (iv y14)), (8, .int (iv v67_8))]) dX12_square_106 (by decide) rfl ?_
                      refine r_aload_n (pc := 108) dX12_square_108 (i := 0) rfl rfl ?_
                      refine r_iload_n (pc := 109) dX12_square_109 (i := 1) rfl rfl ?_
                      refine r_iload (pc := 110) dX12_square_110 rfl ?_
                      refine r_iload (pc := 112) dX12_square_112 rfl ?_
                      refine t_callVR (pc := 114) (as := [.int (iv x1), .int (iv v67_8), .int (iv y14)]) (st := []) ht21 (rd_of RG_y) kX12_205 rfl dX12_square_114 (t_X12_over (d := d - 1) (x1 := x1) (x2 := v67_8) (x3 := y14) (by omega) (rd_of RG_y) (rd_xr (rd_of RG_directs) (show Rfx 121 0 1 dr by assumption)) (rd_xr (rd_of RG_from) (show Rfx 7260 0 15 fr by assumption)) (rd_xr (rd_of RG_to) (show Rfx 7260 0 15 tt by assumption)) ht21 (by omega) (by omega) (by omega)) rfl (by omega) (Nat.le_of_ble_eq_true rfl) rfl (fun hp24 y26 ht25 by26 => ?_)
                      refine r_iload (pc := 117) dX12_square_117 rfl ?_
                      have B136 : ∀ hp136 : MH, Tw (RG Γ cI cJ cZ y rf cn nm30 so sz dr mn fr tt wt co nu qi qc nf30 nt30 nw30 nc30) hp136 → ∀  (u136_0 : Int), (-2000) ≤ u136_0 ∧ u136_0 ≤ 99999 → Rn (gG D cI cJ cZ cT lo b L xs) mX12_square d 136 [(0, .ref y), (1, .int (iv x1)), (2, .int (iv (sz (Int.toNat x1)))), (3, .int (iv v9_3)), (4, .int (iv v30_4)), (6, .int (iv v43_6)), (7, .int (iv y14)), (8, .int (iv v67_8))] [.int (iv u136_0)] hp136 n 0 0 (q_X12_square Γ cI cJ cZ y n rf cn nm so sz dr mn fr tt wt co nu qi qc nf nt nw nc x1) := by
                        intro hp136 ht136 u136_0 hf136
                        refine r_istore (pc := 136) (lv' := [(5, .int (iv u136_0)), (0, .ref y), (1, .int (iv x1)), (2, .int (iv (sz (Int.toNat x1)))), (3, .int (iv v9_3)), (4, .int (iv v30_4)), (6, .int (iv v43_6)), (7, .int (iv y14)), (8, .int (iv v67_8))]) dX12_square_136 (by decide) rfl ?_
                        refine r_iinc (pc := 138) (v := iv (v67_8 + 1)) (lv' := [(8, .int (iv (v67_8 + 1))), (5, .int (iv u136_0)), (0, .ref y), (1, .int (iv x1)), (2, .int (iv (sz (Int.toNat x1)))), (3, .int (iv v9_3)), (4, .int (iv v30_4)), (6, .int (iv v43_6)), (7, .int (iv y14))]) dX12_square_138 rfl (iv_add _ _) (by decide) rfl ?_
                        refine r_goto (pc := 141) (tgt := 67) dX12_square_141 (by decide) ?_
                        refine Rn.pick (lv' := [(0, .ref y), (1, .int (iv x1)), (2, .int (iv (sz (Int.toNat x1)))), (3, .int (iv v9_3)), (4, .int (iv v30_4)), (5, .int (iv u136_0)), (6, .int (iv v43_6)), (7, .int (iv y14)), (8, .int (iv (v67_8 + 1)))]) [2, 3, 4, 5, 6, 1, 7, 8, 0] rfl ?_
                        exact ih67 (Int.toNat (60 - (v67_8 + 1))) (by omega) _ ht136 u136_0 (v67_8 + 1) ⟨by omega, by omega, by omega, by omega⟩ (by omega)
                      have B134 : ∀ hp134 : MH, Tw (RG Γ cI cJ cZ y rf cn nm30 so sz dr mn fr tt wt co nu qi qc nf30 nt30 nw30 nc30) hp134 → True → Rn (gG D cI cJ cZ cT lo b L xs) mX12_square d 134 [(0, .ref y), (1, .int (iv x1)), (2, .int (iv (sz (Int.toNat x1)))), (3, .int (iv v9_3)), (4, .int (iv v30_4)), (5, .int (iv v67_5)), (6, .int (iv v43_6)), (7, .int (iv y14)), (8, .int (iv v67_8))] [] hp134 n 0 0 (q_X12_square Γ cI cJ cZ y n rf cn nm so sz dr mn fr tt wt co nu qi qc nf nt nw nc x1) := by
                        intro hp134 ht134 hf134
                        refine r_iload (pc := 134) dX12_square_134 rfl ?_
                        refine Rn.pick (lv' := [(0, .ref y), (1, .int (iv x1)), (2, .int (iv (sz (Int.toNat x1)))), (3, .int (iv v9_3)), (4, .int (iv v30_4)), (6, .int (iv v43_6)), (7, .int (iv y14)), (8, .int (iv v67_8))]) [0, 1, 2, 3, 4, 6, 7, 8] rfl ?_
                        exact B136 _ ht134 v67_5 ⟨by omega, by omega⟩
                      refine t_icmp_ne (pc := 119) (tgt := 134) dX12_square_119 (by decide) (by omega) (by omega) (fun c119 => ?_) (fun c119 => ?_)
                      · refine Rn.pick (lv' := [(0, .ref y), (1, .int (iv x1)), (2, .int (iv (sz (Int.toNat x1)))), (3, .int (iv v9_3)), (4, .int (iv v30_4)), (5, .int (iv v67_5)), (6, .int (iv v43_6)), (7, .int (iv y14)), (8, .int (iv v67_8))]) [1, 2, 3, 4, 5, 6, 7, 8, 9] rfl ?_
                        exact B134 _ ht25 trivial
                      · refine r_iload (pc := 122) dX12_square_122 rfl ?_
                        refine r_iload (pc := 124) dX12_square_124 rfl ?_
                        refine t_icmp_ge (pc := 126) (tgt := 134) dX12_square_126 (by decide) (by omega) (by omega) (fun c126 => ?_) (fun c126 => ?_)
                        · refine Rn.pick (lv' := [(0, .ref y), (1, .int (iv x1)), (2, .int (iv (sz (Int.toNat x1)))), (3, .int (iv v9_3)), (4, .int (iv v30_4)), (5, .int (iv v67_5)), (6, .int (iv v43_6)), (7, .int (iv y14)), (8, .int (iv v67_8))]) [1, 2, 3, 4, 5, 6, 7, 8, 9] rfl ?_
                          exact B134 _ ht25 trivial
                        · refine r_iload (pc := 129) dX12_square_129 rfl ?_
                          refine r_goto (pc := 131) (tgt := 136) dX12_square_131 (by decide) ?_
                          refine Rn.pick (lv' := [(0, .ref y), (1, .int (iv x1)), (2, .int (iv (sz (Int.toNat x1)))), (3, .int (iv v9_3)), (4, .int (iv v30_4)), (6, .int (iv v43_6)), (7, .int (iv y14)), (8, .int (iv v67_8))]) [1, 2, 3, 4, 5, 7, 8, 9] rfl ?_
                          exact B136 _ ht25 ((wt (Int.toNat (60 * x1 + v43_6))) + (wt (Int.toNat (60 * x1 + v67_8)))) ⟨by omega, by omega⟩
                refine Rn.pick (lv' := [(0, .ref y), (1, .int (iv x1)), (2, .int (iv (sz (Int.toNat x1)))), (3, .int (iv v9_3)), (4, .int (iv v30_4)), (5, .int (iv v43_5)), (6, .int (iv v43_6)), (7, .int (iv y14)), (8, .int (iv 0))]) [2, 3, 4, 5, 6, 7, 8, 1, 0] rfl ?_
                exact B67 (Int.toNat (60 - 0)) _ ht13 v43_5 0 ⟨by omega, by omega, by omega, by omega⟩ (by omega)
            refine Rn.pick (lv' := [(0, .ref y), (1, .int (iv x1)), (2, .int (iv (sz (Int.toNat x1)))), (3, .int (iv v9_3)), (4, .int (iv v30_4)), (5, .int (iv 99999)), (6, .int (iv 0))]) [2, 3, 4, 5, 6, 1, 0] rfl ?_
            exact B43 (Int.toNat (60 - 0)) _ ht30 99999 0 ⟨by omega, by omega, by omega, by omega⟩ (by omega)
        refine Rn.pick (lv' := [(0, .ref y), (1, .int (iv x1)), (2, .int (iv (sz (Int.toNat x1)))), (3, .int (iv v9_3)), (4, .int (iv u28_0))]) [1, 2, 3, 4, 0] rfl ?_
        exact B30 (Int.toNat (16 - u28_0)) nm9 nf9 nt9 nw9 nc9 _ ht28 u28_0 ⟨by omega, by omega, by omega, by omega, by omega, by omega, by omega, by assumption⟩ (by omega)
      refine t_if_eq (pc := 20) (tgt := 27) dX12_square_20 (by decide) (by omega) (fun c20 => ?_) (fun c20 => ?_)
      · refine r_iload_n (pc := 27) dX12_square_27 (i := 3) rfl rfl ?_
        refine Rn.pick (lv' := [(0, .ref y), (1, .int (iv x1)), (2, .int (iv (sz (Int.toNat x1)))), (3, .int (iv v9_3))]) [0, 1, 2, 3] rfl ?_
        exact B28 _ ht9 v9_3 ⟨by omega, by omega, by omega⟩
      · refine r_iconst (pc := 23) (v := iv 0) dX12_square_23 (by decide) ?_
        refine r_goto (pc := 24) (tgt := 28) dX12_square_24 (by decide) ?_
        refine Rn.pick (lv' := [(0, .ref y), (1, .int (iv x1)), (2, .int (iv (sz (Int.toNat x1)))), (3, .int (iv v9_3))]) [0, 1, 2, 3] rfl ?_
        exact B28 _ ht9 0 ⟨by omega, by omega, by omega⟩
  refine Rn.pick (lv' := [(0, .ref y), (1, .int (iv x1)), (2, .int (iv (sz (Int.toNat x1)))), (3, .int (iv 0))]) [2, 3, 1, 0] rfl ?_
  exact B9 (Int.toNat (16 - 0)) nm nf nt nw nc _ ht 0 ⟨by omega, by omega, by omega, by omega, by omega, by omega, by assumption⟩ (by omega)
def q_X12_line (Γ : TG) (cI cJ cZ : ClassId) (y n : Nat) (rf cn nm : Int) (so sz dr mn fr tt wt co : Nat → Int) (nu : Nat → Int64) (qi qc nf nt nw nc : Nat → Int) (x1 : Int) : Option Value → MH → Nat → Prop := fun r hp1 n1 => n1 = n ∧ ∃ (nf1 : Nat → Int) (nt1 : Nat → Int) (nw1 : Nat → Int) (nc1 : Nat → Int) (m1 : Int), Tw (RG Γ cI cJ cZ y rf cn m1 so sz dr mn fr tt wt co nu qi qc nf1 nt1 nw1 nc1) hp1 ∧ r = none ∧ (0 ≤ m1 ∧ m1 ≤ 256) ∧ (arP nf1 nt1 nw1 nc1 m1 (mn (Int.toNat x1)))
set_option maxHeartbeats 4000000 in
set_option maxRecDepth 100000 in
theorem s_X12_line {D : va_G} {cI cJ cZ cT : ClassId} {lo b L : Nat} {xs : Nat → Int32} {hp : MH} {n d : Nat} {Γ : TG} {y : Nat} {rf cn nm : Int} {so sz dr mn fr tt wt co : Nat → Int} {nu : Nat → Int64} {qi qc nf nt nw nc : Nat → Int} {x1 : Int} (hd0 : 1 ≤ d) (hR_directs : Rfx 121 0 1 dr) (hR_many : Rfx 121 0 60 mn) (hR_from : Rfx 7260 0 15 fr) (hR_to : Rfx 7260 0 15 tt) (ht : Tw (RG Γ cI cJ cZ y rf cn nm so sz dr mn fr tt wt co nu qi qc nf nt nw nc) hp) (hx1 : 0 ≤ x1 ∧ x1 ≤ 120) (hz9 : nm = 0) (hm9 : (mn (Int.toNat x1)) ≤ 16) : Mt (gG D cI cJ cZ cT lo b L xs) mX12_line d 0 0 [.ref y, .int (iv x1)] hp n (q_X12_line Γ cI cJ cZ y n rf cn nm so sz dr mn fr tt wt co nu qi qc nf nt nw nc x1) := by
  refine Mt.of rfl (Nat.le_of_ble_eq_true rfl) ?_
  refine Rn.pick (lv' := [(0, .ref y), (1, .int (iv x1))]) [0, 1] rfl ?_
  have rmn := hR_many (Int.toNat x1) (by omega)
  have ha0 : arP nf nt nw nc nm (mn (Int.toNat x1)) := by rw [hz9]; exact ar_0 _ _ _ _ _
  refine r_iconst (pc := 0) (v := iv 0) dX12_line_0 (by decide) ?_
  refine r_istore_n (pc := 1) (lv' := [(2, .int (iv 0)), (0, .ref y), (1, .int (iv x1))]) dX12_line_1 (i := 2) rfl (by decide) rfl ?_
  have B2 : ∀ k : Nat, ∀ nm2 : Int, ∀ nf2 : Nat → Int, ∀ nt2 : Nat → Int, ∀ nw2 : Nat → Int, ∀ nc2 : Nat → Int, ∀ hp2 : MH, Tw (RG Γ cI cJ cZ y rf cn nm2 so sz dr mn fr tt wt co nu qi qc nf2 nt2 nw2 nc2) hp2 → ∀  (v2_2 : Int), 0 ≤ v2_2 ∧ v2_2 ≤ 16 ∧ 0 ≤ nm2 ∧ nm2 ≤ 400 ∧ v2_2 ≤ (mn (Int.toNat x1)) ∧ nm2 ≤ 16 * v2_2 ∧ arP nf2 nt2 nw2 nc2 nm2 (mn (Int.toNat x1)) → 16 - v2_2 ≤ (k : Int) → Rn (gG D cI cJ cZ cT lo b L xs) mX12_line d 2 [(0, .ref y), (1, .int (iv x1)), (2, .int (iv v2_2))] [] hp2 n 0 0 (q_X12_line Γ cI cJ cZ y n rf cn nm so sz dr mn fr tt wt co nu qi qc nf nt nw nc x1) := by
    refine lpS _ ?_
    intro k2 ih2 nm2 nf2 nt2 nw2 nc2 hp2 ht2 v2_2 hf2 hm2
    obtain ⟨hf2_0, hf2_1, hf2_2, hf2_3, hf2_4, hf2_5, ha2_6⟩ := hf2
    refine r_iload_n (pc := 2) dX12_line_2 (i := 2) rfl rfl ?_
    refine r_aload_n (pc := 3) dX12_line_3 (i := 0) rfl rfl ?_
    refine t_getE (pc := 4) (.ref (y + 4)) ht2 (rd_of RG_y) fX12_20 dX12_line_4 rfl ?_
    refine r_iload_n (pc := 7) dX12_line_7 (i := 1) rfl rfl ?_
    refine t_ialdX (pc := 8) (t0 := 0) ht2 (rd_of RG_many) dX12_line_8 rfl (by decide) (by omega) (fun b1 => ?_)
    have rb1 := (show Rfx 121 0 60 mn by assumption) (Int.toNat x1) (by omega)
    refine t_icmp_ge (pc := 9) (tgt := 177) dX12_line_9 (by decide) (by omega) (by omega) (fun c9 => ?_) (fun c9 => ?_)
    · exact r_vret (pc := 177) dX12_line_177 rfl ⟨rfl, nf2, nt2, nw2, nc2, nm2, ht2, rfl, (by omega), (by assumption)⟩
    · refine r_iconst (pc := 12) (v := iv 0) dX12_line_12 (by decide) ?_
      refine r_istore_n (pc := 13) (lv' := [(3, .int (iv 0)), (0, .ref y), (1, .int (iv x1)), (2, .int (iv v2_2))]) dX12_line_13 (i := 3) rfl (by decide) rfl ?_
      have B14 : ∀ k : Nat, ∀ nm14 : Int, ∀ nf14 : Nat → Int, ∀ nt14 : Nat → Int, ∀ nw14 : Nat → Int, ∀ nc14 : Nat → Int, ∀ hp14 : MH, Tw (RG Γ cI cJ cZ y rf cn nm14 so sz dr mn fr tt wt co nu qi qc nf14 nt14 nw14 nc14) hp14 → ∀  (v14_3 : Int), 0 ≤ v14_3 ∧ v14_3 ≤ 16 ∧ 0 ≤ nm14 ∧ nm14 ≤ 400 ∧ v14_3 ≤ (mn (Int.toNat x1)) ∧ nm14 ≤ 16 * v2_2 + v14_3 ∧ arP nf14 nt14 nw14 nc14 nm14 (mn (Int.toNat x1)) → 16 - v14_3 ≤ (k : Int) → Rn (gG D cI cJ cZ cT lo b L xs) mX12_line d 14 [(0, .ref y), (1, .int (iv x1)), (2, .int (iv v2_2)), (3, .int (iv v14_3))] [] hp14 n 0 0 (q_X12_line Γ cI cJ cZ y n rf cn nm so sz dr mn fr tt wt co nu qi qc nf nt nw nc x1) := by
        refine lpS _ ?_
        intro k14 ih14 nm14 nf14 nt14 nw14 nc14 hp14 ht14 v14_3 hf14 hm14
        obtain ⟨hf14_0, hf14_1, hf14_2, hf14_3, hf14_4, hf14_5, ha14_6⟩ := hf14
        refine r_iload_n (pc := 14) dX12_line_14 (i := 3) rfl rfl ?_
        refine r_aload_n (pc := 15) dX12_line_15 (i := 0) rfl rfl ?_
        refine t_getE (pc := 16) (.ref (y + 4)) ht14 (rd_of RG_y) fX12_20 dX12_line_16 rfl ?_
        refine r_iload_n (pc := 19) dX12_line_19 (i := 1) rfl rfl ?_
        refine t_ialdX (pc := 20) (t0 := 0) ht14 (rd_of RG_many) dX12_line_20 rfl (by decide) (by omega) (fun b2 => ?_)
        have rb2 := (show Rfx 121 0 60 mn by assumption) (Int.toNat x1) (by omega)
        refine t_icmp_ge (pc := 21) (tgt := 171) dX12_line_21 (by decide) (by omega) (by omega) (fun c21 => ?_) (fun c21 => ?_)
        · refine r_iinc (pc := 171) (v := iv (v2_2 + 1)) (lv' := [(2, .int (iv (v2_2 + 1))), (0, .ref y), (1, .int (iv x1)), (3, .int (iv v14_3))]) dX12_line_171 rfl (iv_add _ _) (by decide) rfl ?_
          refine r_goto (pc := 174) (tgt := 2) dX12_line_174 (by decide) ?_
          refine Rn.pick (lv' := [(0, .ref y), (1, .int (iv x1)), (2, .int (iv (v2_2 + 1)))]) [1, 2, 0] rfl ?_
          exact ih2 (Int.toNat (16 - (v2_2 + 1))) (by omega) nm14 nf14 nt14 nw14 nc14 _ ht14 (v2_2 + 1) ⟨by omega, by omega, by omega, by omega, by omega, by omega, by assumption⟩ (by omega)
        · refine r_iload_n (pc := 24) dX12_line_24 (i := 1) rfl rfl ?_
          refine r_iload_n (pc := 25) dX12_line_25 (i := 2) rfl rfl ?_
          refine t_callSI (pc := 26) (as := [.int (iv x1), .int (iv v2_2)]) (st := []) kX12_157 dX12_line_26 (t_X12_at1x (d := d - 1) (x1 := x1) (x2 := v2_2) (by omega)  ht14 (by omega) (by omega)) rfl (by omega) (Nat.le_of_ble_eq_true rfl) rfl (fun hp3 y5 ht4 by5 => ?_)
          have ey5 : y5 = 60 * x1 + v2_2 := by5
          subst ey5
          refine r_istore (pc := 29) (lv' := [(4, .int (iv (60 * x1 + v2_2))), (0, .ref y), (1, .int (iv x1)), (2, .int (iv v2_2)), (3, .int (iv v14_3))]) dX12_line_29 (by decide) rfl ?_
          refine r_iload_n (pc := 31) dX12_line_31 (i := 1) rfl rfl ?_
          refine r_iload_n (pc := 32) dX12_line_32 (i := 3) rfl rfl ?_
          refine t_callSI (pc := 33) (as := [.int (iv x1), .int (iv v14_3)]) (st := []) kX12_157 dX12_line_33 (t_X12_at1x (d := d - 1) (x1 := x1) (x2 := v14_3) (by omega)  ht4 (by omega) (by omega)) rfl (by omega) (Nat.le_of_ble_eq_true rfl) rfl (fun hp6 y8 ht7 by8 => ?_)
          have ey8 : y8 = 60 * x1 + v14_3 := by8
          subst ey8
          refine r_istore (pc := 36) (lv' := [(5, .int (iv (60 * x1 + v14_3))), (4, .int (iv (60 * x1 + v2_2))), (0, .ref y), (1, .int (iv x1)), (2, .int (iv v2_2)), (3, .int (iv v14_3))]) dX12_line_36 (by decide) rfl ?_
          refine r_aload_n (pc := 38) dX12_line_38 (i := 0) rfl rfl ?_
          refine t_getE (pc := 39) (.ref (y + 3)) ht7 (rd_of RG_y) fX12_16 dX12_line_39 rfl ?_
          refine r_iload_n (pc := 42) dX12_line_42 (i := 1) rfl rfl ?_
          refine t_zaldX (pc := 43) (t0 := 2) ht7 (rd_of RG_directs) dX12_line_43 rfl (by decide) (by omega) (fun b9 => ?_)
          have rb9 := (show Rfx 121 0 1 dr by assumption) (Int.toNat x1) (by omega)
          have B150 : ∀ hp150 : MH, Tw (RG Γ cI cJ cZ y rf cn nm14 so sz dr mn fr tt wt co nu qi qc nf14 nt14 nw14 nc14) hp150 → ∀  (u150_0 : Int), 0 ≤ u150_0 ∧ u150_0 ≤ 1 → Rn (gG D cI cJ cZ cT lo b L xs) mX12_line d 150 [(0, .ref y), (1, .int (iv x1)), (2, .int (iv v2_2)), (3, .int (iv v14_3))] [.int (iv u150_0)] hp150 n 0 0 (q_X12_line Γ cI cJ cZ y n rf cn nm so sz dr mn fr tt wt co nu qi qc nf nt nw nc x1) := by
            intro hp150 ht150 u150_0 hf150
            refine r_istore (pc := 150) (lv' := [(6, .int (iv u150_0)), (0, .ref y), (1, .int (iv x1)), (2, .int (iv v2_2)), (3, .int (iv v14_3))]) dX12_line_150 (by decide) rfl ?_
            refine r_iload (pc := 152) dX12_line_152 rfl ?_
            have B165 : ∀ nm165 : Int, ∀ nf165 : Nat → Int, ∀ nt165 : Nat → Int, ∀ nw165 : Nat → Int, ∀ nc165 : Nat → Int, ∀ hp165 : MH, Tw (RG Γ cI cJ cZ y rf cn nm165 so sz dr mn fr tt wt co nu qi qc nf165 nt165 nw165 nc165) hp165 → 0 ≤ nm165 ∧ nm165 ≤ 400 ∧ nm165 ≤ 16 * v2_2 + v14_3 + 1 ∧ arP nf165 nt165 nw165 nc165 nm165 (mn (Int.toNat x1)) → Rn (gG D cI cJ cZ cT lo b L xs) mX12_line d 165 [(0, .ref y), (1, .int (iv x1)), (2, .int (iv v2_2)), (3, .int (iv v14_3))] [] hp165 n 0 0 (q_X12_line Γ cI cJ cZ y n rf cn nm so sz dr mn fr tt wt co nu qi qc nf nt nw nc x1) := by
              intro nm165 nf165 nt165 nw165 nc165 hp165 ht165 hf165
              obtain ⟨hf165_0, hf165_1, hf165_2, ha165_3⟩ := hf165
              refine r_iinc (pc := 165) (v := iv (v14_3 + 1)) (lv' := [(3, .int (iv (v14_3 + 1))), (0, .ref y), (1, .int (iv x1)), (2, .int (iv v2_2))]) dX12_line_165 rfl (iv_add _ _) (by decide) rfl ?_
              refine r_goto (pc := 168) (tgt := 14) dX12_line_168 (by decide) ?_
              refine Rn.pick (lv' := [(0, .ref y), (1, .int (iv x1)), (2, .int (iv v2_2)), (3, .int (iv (v14_3 + 1)))]) [1, 2, 3, 0] rfl ?_
              exact ih14 (Int.toNat (16 - (v14_3 + 1))) (by omega) nm165 nf165 nt165 nw165 nc165 _ ht165 (v14_3 + 1) ⟨by omega, by omega, by omega, by omega, by omega, by omega, by assumption⟩ (by omega)
            refine t_if_eq (pc := 154) (tgt := 165) dX12_line_154 (by decide) (by omega) (fun c154 => ?_) (fun c154 => ?_)
            · refine Rn.pick (lv' := [(0, .ref y), (1, .int (iv x1)), (2, .int (iv v2_2)), (3, .int (iv v14_3))]) [1, 2, 3, 4] rfl ?_
              exact B165 nm14 nf14 nt14 nw14 nc14 _ ht150 ⟨by omega, by omega, by omega, by assumption⟩
            · refine r_aload_n (pc := 157) dX12_line_157 (i := 0) rfl rfl ?_
              refine r_iload_n (pc := 158) dX12_line_158 (i := 2) rfl rfl ?_
              refine r_iload_n (pc := 159) dX12_line_159 (i := 3) rfl rfl ?_
              refine r_iconst (pc := 160) (v := iv 0) dX12_line_160 (by decide) ?_
              refine r_iconst (pc := 161) (v := iv 0) dX12_line_161 (by decide) ?_
              obtain ⟨fs14, hfs14⟩ := t_obj ht150 (rd_of RG_y)
              refine r_callV (pc := 162) (as := [.int (iv v2_2), .int (iv v14_3), .int (iv 0), .int (iv 0)]) (st := []) kX12_171 rfl dX12_line_162 hfs14 (s_X12_put (d := d - 1) (x1 := v2_2) (x2 := v14_3) (x3 := 0) (x4 := 0) (by omega) ht150 (by omega) (by omega) (by omega) (by omega) (by omega)) rfl (by omega) (Nat.le_of_ble_eq_true rfl) (Nat.zero_le _) (Nat.zero_le _) rfl (fun r11 hp10 n12 hq13 => ?_)
              obtain ⟨hnn12, ht15, hrr11⟩ := hq13
              subst n12 r11
              change Rn _ _ _ 165 _ [] _ _ _ _ _
              have hapq17 : arP (fup nf14 (Int.toNat nm14) v2_2) (fup nt14 (Int.toNat nm14) v14_3) (fup nw14 (Int.toNat nm14) 0) (fup nc14 (Int.toNat nm14) 0) (nm14 + 1) (mn (Int.toNat x1)) := ar_up (by assumption) (by omega) (by omega) (by omega) (by omega) (by omega)
              refine Rn.pick (lv' := [(0, .ref y), (1, .int (iv x1)), (2, .int (iv v2_2)), (3, .int (iv v14_3))]) [1, 2, 3, 4] rfl ?_
              exact B165 (nm14 + 1) (fup nf14 (Int.toNat nm14) v2_2) (fup nt14 (Int.toNat nm14) v14_3) (fup nw14 (Int.toNat nm14) 0) (fup nc14 (Int.toNat nm14) 0) _ ht15 ⟨by omega, by omega, by omega, by assumption⟩
          refine t_if_eq (pc := 44) (tgt := 72) dX12_line_44 (by decide) (by omega) (fun c44 => ?_) (fun c44 => ?_)
          · refine r_iload_n (pc := 72) dX12_line_72 (i := 2) rfl rfl ?_
            refine r_iload_n (pc := 73) dX12_line_73 (i := 3) rfl rfl ?_
            have B149 : ∀ hp149 : MH, Tw (RG Γ cI cJ cZ y rf cn nm14 so sz dr mn fr tt wt co nu qi qc nf14 nt14 nw14 nc14) hp149 → True → Rn (gG D cI cJ cZ cT lo b L xs) mX12_line d 149 [(0, .ref y), (1, .int (iv x1)), (2, .int (iv v2_2)), (3, .int (iv v14_3))] [] hp149 n 0 0 (q_X12_line Γ cI cJ cZ y n rf cn nm so sz dr mn fr tt wt co nu qi qc nf nt nw nc x1) := by
              intro hp149 ht149 hf149
              refine r_iconst (pc := 149) (v := iv 0) dX12_line_149 (by decide) ?_
              refine Rn.pick (lv' := [(0, .ref y), (1, .int (iv x1)), (2, .int (iv v2_2)), (3, .int (iv v14_3))]) [0, 1, 2, 3] rfl ?_
              exact B150 _ ht149 0 ⟨by omega, by omega⟩
            refine t_icmp_ge (pc := 74) (tgt := 149) dX12_line_74 (by decide) (by omega) (by omega) (fun c74 => ?_) (fun c74 => ?_)
            · refine Rn.pick (lv' := [(0, .ref y), (1, .int (iv x1)), (2, .int (iv v2_2)), (3, .int (iv v14_3))]) [2, 3, 4, 5] rfl ?_
              exact B149 _ ht7 trivial
            · refine r_aload_n (pc := 77) dX12_line_77 (i := 0) rfl rfl ?_
              refine t_getE (pc := 78) (.ref (y + 5)) ht7 (rd_of RG_y) fX12_23 dX12_line_78 rfl ?_
              refine r_iload (pc := 81) dX12_line_81 rfl ?_
              refine t_ialdX (pc := 83) (t0 := 0) ht7 (rd_of RG_from) dX12_line_83 rfl (by decide) (by omega) (fun b18 => ?_)
              have rb18 := (show Rfx 7260 0 15 fr by assumption) (Int.toNat (60 * x1 + v2_2)) (by omega)
              refine r_aload_n (pc := 84) dX12_line_84 (i := 0) rfl rfl ?_
              refine t_getE (pc := 85) (.ref (y + 5)) ht7 (rd_of RG_y) fX12_23 dX12_line_85 rfl ?_
              refine r_iload (pc := 88) dX12_line_88 rfl ?_
              refine t_ialdX (pc := 90) (t0 := 0) ht7 (rd_of RG_from) dX12_line_90 rfl (by decide) (by omega) (fun b19 => ?_)
              have rb19 := (show Rfx 7260 0 15 fr by assumption) (Int.toNat (60 * x1 + v14_3)) (by omega)
              have B145 : ∀ hp145 : MH, Tw (RG Γ cI cJ cZ y rf cn nm14 so sz dr mn fr tt wt co nu qi qc nf14 nt14 nw14 nc14) hp145 → True → Rn (gG D cI cJ cZ cT lo b L xs) mX12_line d 145 [(0, .ref y), (1, .int (iv x1)), (2, .int (iv v2_2)), (3, .int (iv v14_3))] [] hp145 n 0 0 (q_X12_line Γ cI cJ cZ y n rf cn nm so sz dr mn fr tt wt co nu qi qc nf nt nw nc x1) := by
                intro hp145 ht145 hf145
                refine r_iconst (pc := 145) (v := iv 1) dX12_line_145 (by decide) ?_
                refine r_goto (pc := 146) (tgt := 150) dX12_line_146 (by decide) ?_
                refine Rn.pick (lv' := [(0, .ref y), (1, .int (iv x1)), (2, .int (iv v2_2)), (3, .int (iv v14_3))]) [0, 1, 2, 3] rfl ?_
                exact B150 _ ht145 1 ⟨by omega, by omega⟩
              refine t_icmp_eq (pc := 91) (tgt := 145) dX12_line_91 (by decide) (by omega) (by omega) (fun c91 => ?_) (fun c91 => ?_)
              · refine Rn.pick (lv' := [(0, .ref y), (1, .int (iv x1)), (2, .int (iv v2_2)), (3, .int (iv v14_3))]) [2, 3, 4, 5] rfl ?_
                exact B145 _ ht7 trivial
              · refine r_aload_n (pc := 94) dX12_line_94 (i := 0) rfl rfl ?_
                refine t_getE (pc := 95) (.ref (y + 5)) ht7 (rd_of RG_y) fX12_23 dX12_line_95 rfl ?_
                refine r_iload (pc := 98) dX12_line_98 rfl ?_
                refine t_ialdX (pc := 100) (t0 := 0) ht7 (rd_of RG_from) dX12_line_100 rfl (by decide) (by omega) (fun b20 => ?_)
                have rb20 := (show Rfx 7260 0 15 fr by assumption) (Int.toNat (60 * x1 + v2_2)) (by omega)
                refine r_aload_n (pc := 101) dX12_line_101 (i := 0) rfl rfl ?_
                refine t_getE (pc := 102) (.ref (y + 6)) ht7 (rd_of RG_y) fX12_26 dX12_line_102 rfl ?_
                refine r_iload (pc := 105) dX12_line_105 rfl ?_
                refine t_ialdX (pc := 107) (t0 := 0) ht7 (rd_of RG_to) dX12_line_107 rfl (by decide) (by omega) (fun b21 => ?_)
                have rb21 := (show Rfx 7260 0 15 tt by assumption) (Int.toNat (60 * x1 + v14_3)) (by omega)
                refine t_icmp_eq (pc := 108) (tgt := 145) dX12_line_108 (by decide) (by omega) (by omega) (fun c108 => ?_) (fun c108 => ?_)
                · refine Rn.pick (lv' := [(0, .ref y), (1, .int (iv x1)), (2, .int (iv v2_2)), (3, .int (iv v14_3))]) [2, 3, 4, 5] rfl ?_
                  exact B145 _ ht7 trivial
                · refine r_aload_n (pc := 111) dX12_line_111 (i := 0) rfl rfl ?_
                  refine t_getE (pc := 112) (.ref (y + 6)) ht7 (rd_of RG_y) fX12_26 dX12_line_112 rfl ?_
                  refine r_iload (pc := 115) dX12_line_115 rfl ?_
                  refine t_ialdX (pc := 117) (t0 := 0) ht7 (rd_of RG_to) dX12_line_117 rfl (by decide) (by omega) (fun b22 => ?_)
                  have rb22 := (show Rfx 7260 0 15 tt by assumption) (Int.toNat (60 * x1 + v2_2)) (by omega)
                  refine r_aload_n (pc := 118) dX12_line_118 (i := 0) rfl rfl ?_
                  refine t_getE (pc := 119) (.ref (y + 5)) ht7 (rd_of RG_y) fX12_23 dX12_line_119 rfl ?_
                  refine r_iload (pc := 122) dX12_line_122 rfl ?_
                  refine t_ialdX (pc := 124) (t0 := 0) ht7 (rd_of RG_from) dX12_line_124 rfl (by decide) (by omega) (fun b23 => ?_)
                  have rb23 := (show Rfx 7260 0 15 fr by assumption) (Int.toNat (60 * x1 + v14_3)) (by omega)
                  refine t_icmp_eq (pc := 125) (tgt := 145) dX12_line_125 (by decide) (by omega) (by omega) (fun c125 => ?_) (fun c125 => ?_)
                  · refine Rn.pick (lv' := [(0, .ref y), (1, .int (iv x1)), (2, .int (iv v2_2)), (3, .int (iv v14_3))]) [2, 3, 4, 5] rfl ?_
                    exact B145 _ ht7 trivial
                  · refine r_aload_n (pc := 128) dX12_line_128 (i := 0) rfl rfl ?_
                    refine t_getE (pc := 129) (.ref (y + 6)) ht7 (rd_of RG_y) fX12_26 dX12_line_129 rfl ?_
                    refine r_iload (pc := 132) dX12_line_132 rfl ?_
                    refine t_ialdX (pc := 134) (t0 := 0) ht7 (rd_of RG_to) dX12_line_134 rfl (by decide) (by omega) (fun b24 => ?_)
                    have rb24 := (show Rfx 7260 0 15 tt by assumption) (Int.toNat (60 * x1 + v2_2)) (by omega)
                    refine r_aload_n (pc := 135) dX12_line_135 (i := 0) rfl rfl ?_
                    refine t_getE (pc := 136) (.ref (y + 6)) ht7 (rd_of RG_y) fX12_26 dX12_line_136 rfl ?_
                    refine r_iload (pc := 139) dX12_line_139 rfl ?_
                    refine t_ialdX (pc := 141) (t0 := 0) ht7 (rd_of RG_to) dX12_line_141 rfl (by decide) (by omega) (fun b25 => ?_)
                    have rb25 := (show Rfx 7260 0 15 tt by assumption) (Int.toNat (60 * x1 + v14_3)) (by omega)
                    refine t_icmp_ne (pc := 142) (tgt := 149) dX12_line_142 (by decide) (by omega) (by omega) (fun c142 => ?_) (fun c142 => ?_)
                    · refine Rn.pick (lv' := [(0, .ref y), (1, .int (iv x1)), (2, .int (iv v2_2)), (3, .int (iv v14_3))]) [2, 3, 4, 5] rfl ?_
                      exact B149 _ ht7 trivial
                    · refine Rn.pick (lv' := [(0, .ref y), (1, .int (iv x1)), (2, .int (iv v2_2)), (3, .int (iv v14_3))]) [2, 3, 4, 5] rfl ?_
                      exact B145 _ ht7 trivial
          · refine r_aload_n (pc := 47) dX12_line_47 (i := 0) rfl rfl ?_
            refine t_getE (pc := 48) (.ref (y + 6)) ht7 (rd_of RG_y) fX12_26 dX12_line_48 rfl ?_
            refine r_iload (pc := 51) dX12_line_51 rfl ?_
            refine t_ialdX (pc := 53) (t0 := 0) ht7 (rd_of RG_to) dX12_line_53 rfl (by decide) (by omega) (fun b26 => ?_)
            have rb26 := (show Rfx 7260 0 15 tt by assumption) (Int.toNat (60 * x1 + v2_2)) (by omega)
            refine r_aload_n (pc := 54) dX12_line_54 (i := 0) rfl rfl ?_
            refine t_getE (pc := 55) (.ref (y + 5)) ht7 (rd_of RG_y) fX12_23 dX12_line_55 rfl ?_
            refine r_iload (pc := 58) dX12_line_58 rfl ?_
            refine t_ialdX (pc := 60) (t0 := 0) ht7 (rd_of RG_from) dX12_line_60 rfl (by decide) (by omega) (fun b27 => ?_)
            have rb27 := (show Rfx 7260 0 15 fr by assumption) (Int.toNat (60 * x1 + v14_3)) (by omega)
            refine t_icmp_ne (pc := 61) (tgt := 68) dX12_line_61 (by decide) (by omega) (by omega) (fun c61 => ?_) (fun c61 => ?_)
            · refine r_iconst (pc := 68) (v := iv 0) dX12_line_68 (by decide) ?_
              refine r_goto (pc := 69) (tgt := 150) dX12_line_69 (by decide) ?_
              refine Rn.pick (lv' := [(0, .ref y), (1, .int (iv x1)), (2, .int (iv v2_2)), (3, .int (iv v14_3))]) [2, 3, 4, 5] rfl ?_
              exact B150 _ ht7 0 ⟨by omega, by omega⟩
            · refine r_iconst (pc := 64) (v := iv 1) dX12_line_64 (by decide) ?_
              refine r_goto (pc := 65) (tgt := 150) dX12_line_65 (by decide) ?_
              refine Rn.pick (lv' := [(0, .ref y), (1, .int (iv x1)), (2, .int (iv v2_2)), (3, .int (iv v14_3))]) [2, 3, 4, 5] rfl ?_
              exact B150 _ ht7 1 ⟨by omega, by omega⟩
      refine Rn.pick (lv' := [(0, .ref y), (1, .int (iv x1)), (2, .int (iv v2_2)), (3, .int (iv 0))]) [1, 2, 3, 0] rfl ?_
      exact B14 (Int.toNat (16 - 0)) nm2 nf2 nt2 nw2 nc2 _ ht2 0 ⟨by omega, by omega, by omega, by omega, by omega, by omega, by assumption⟩ (by omega)
  refine Rn.pick (lv' := [(0, .ref y), (1, .int (iv x1)), (2, .int (iv 0))]) [1, 2, 0] rfl ?_
  exact B2 (Int.toNat (16 - 0)) nm nf nt nw nc _ ht 0 ⟨by omega, by omega, by omega, by omega, by omega, by omega, by assumption⟩ (by omega)
