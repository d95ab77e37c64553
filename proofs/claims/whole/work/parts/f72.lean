set_option maxHeartbeats 4000000 in
set_option maxRecDepth 100000 in
theorem lk_9 {D : va_G} {cI cJ cZ cT : ClassId} {lo b L : Nat} {xs : Nat → Int32} {hp : MH} {n d kr wr a : Nat} {i : Int} {Po : Option Value → MH → Nat → Prop} (hd : 60 ≤ d) (hL : L ≤ 3584) (hi : 0 ≤ i ∧ i + 7 ≤ (L : Int)) (hP : ∀ (v : Int) (hp : MH) (n : Nat), Po (some (.int (iv v))) hp n) (h : LK cI cJ cZ cT a L i hp n kr wr) (kk : ∀ (hp1 : MH) (n1 kr1 wr1 : Nat), LK cI cJ cZ cT a L (i + 7) hp1 n1 kr1 wr1 → Rn (gG D cI cJ cZ cT lo b L xs) mL_law d 1077 [(0, .ref b), (1, .ref a), (2, .ref (a + 41)), (3, .int (iv i))] [] hp1 n1 kr1 wr1 Po) : Rn (gG D cI cJ cZ cT lo b L xs) mL_law d 645 [(0, .ref b), (1, .ref a), (2, .ref (a + 41)), (3, .int (iv i))] [] hp n kr wr Po := by
  obtain ⟨Γ, rf, cn, nm, so, sz, dr, mn, fr, tt, wt, co, nu, qi, qc, nf, nt, nw, nc, sa, wo, ln, hw, ro, th, dn, dd, da, df, dt, dw, dc, kn, kd, ka, kf, kt, kw, kc, ht, hk, hrk, hdq, hm, hv, hwr9, hna, hkr, hwr⟩ := h
  have hmR := HM.same (fun q hq => (RW_o hq).symm : ∀ q : Nat, (q < a + 41 ∨ a + 41 + 43 ≤ q) → Γ q = (RW Γ cI cJ cZ (a + 41) rf cn nm so sz dr mn fr tt wt co nu qi qc nf nt nw nc sa wo ln hw ro) q) hm
  have hvR := HV.same (fun q hq => (RW_o hq).symm : ∀ q : Nat, (q < a + 41 ∨ a + 41 + 43 ≤ q) → Γ q = (RW Γ cI cJ cZ (a + 41) rf cn nm so sz dr mn fr tt wt co nu qi qc nf nt nw nc sa wo ln hw ro) q) hv
  have hcn9 := hk.1
  have hrv : -2147483648 ≤ rf ∧ rf ≤ 2147483647 := hrk.2.2.2.2.2.2.2.2.2.2.2.1
  refine r_aload_n (pc := 645) dL_law_645 (i := 1) rfl rfl ?_
  refine r_aload_n (pc := 646) dL_law_646 (i := 0) rfl rfl ?_
  refine r_iload_n (pc := 647) dL_law_647 (i := 3) rfl rfl ?_
  refine r_iconst (pc := 648) (v := iv 1) dL_law_648 (by decide) ?_
  refine r_iadd (pc := 649) (v := iv (i + 1)) dL_law_649 (iv_add _ _) ?_
  refine w_sld (pc := 650) (v := iv ((xs (Int.toNat (i + 1))).toInt)) dL_law_650 (iv_in (L := L) (by omega) (by omega)) (by rw [iv_clamp (by omega) (by omega)]; exact (iv_of _).symm) ?_
  have lo650 := iv_lo (xs (Int.toNat (i + 1)))
  have hi650 := iv_hi (xs (Int.toNat (i + 1)))
  refine r_aload_n (pc := 651) dL_law_651 (i := 0) rfl rfl ?_
  refine r_iload_n (pc := 652) dL_law_652 (i := 3) rfl rfl ?_
  refine r_iconst (pc := 653) (v := iv 2) dL_law_653 (by decide) ?_
  refine r_iadd (pc := 654) (v := iv (i + 2)) dL_law_654 (iv_add _ _) ?_
  refine w_sld (pc := 655) (v := iv ((xs (Int.toNat (i + 2))).toInt)) dL_law_655 (iv_in (L := L) (by omega) (by omega)) (by rw [iv_clamp (by omega) (by omega)]; exact (iv_of _).symm) ?_
  have lo655 := iv_lo (xs (Int.toNat (i + 2)))
  have hi655 := iv_hi (xs (Int.toNat (i + 2)))
  refine r_aload_n (pc := 656) dL_law_656 (i := 0) rfl rfl ?_
  refine r_iload_n (pc := 657) dL_law_657 (i := 3) rfl rfl ?_
  refine r_iconst (pc := 658) (v := iv 3) dL_law_658 (by decide) ?_
  refine r_iadd (pc := 659) (v := iv (i + 3)) dL_law_659 (iv_add _ _) ?_
  refine w_sld (pc := 660) (v := iv ((xs (Int.toNat (i + 3))).toInt)) dL_law_660 (iv_in (L := L) (by omega) (by omega)) (by rw [iv_clamp (by omega) (by omega)]; exact (iv_of _).symm) ?_
  have lo660 := iv_lo (xs (Int.toNat (i + 3)))
  have hi660 := iv_hi (xs (Int.toNat (i + 3)))
  obtain ⟨fs7, hfs7⟩ := t_obj ht (rd_of CG_0)
  refine r_callV (pc := 661) (as := [.int (iv ((xs (Int.toNat (i + 1))).toInt)), .int (iv ((xs (Int.toNat (i + 2))).toInt)), .int (iv ((xs (Int.toNat (i + 3))).toInt))]) (st := []) kL_58 rfl dL_law_661 hfs7 (y3_X11_ways (d := d - 1) (x1 := ((xs (Int.toNat (i + 1))).toInt)) (x2 := ((xs (Int.toNat (i + 2))).toInt)) (x3 := ((xs (Int.toNat (i + 3))).toInt)) (sa := sa) (wo := wo) (ln := ln) (hx5 := hw) (ro := ro) (by omega) hk hmR hrv (by omega) ht (by omega) (by omega) (by omega)) rfl (by omega) (Nat.le_of_ble_eq_true rfl) (by omega) (by omega) rfl (fun r1 hp2 n3 hq4 => ?_)
  obtain ⟨hnn3, Γ8, ct8, rv8, th8, kn8, kd8, ka8, kf8, kt8, kw8, kc8, v8, hE8, ht5, hk8, hrr1, hA8, hb8, c1, c2⟩ := hq4
  subst r1
  have ex8 := RW_x hE8
  have ht6 := Tw_eq (Γ1 := (CG (RW Γ8 cI cJ cZ (a + 41) rf cn nm so sz dr mn fr tt wt co nu qi qc nf nt nw nc sa wo ln hw ro) cI cJ cZ cT a ct8 rv8 th8 dn dd da df dt dw dc kn8 kd8 ka8 kf8 kt8 kw8 kc8)) (by rw [ex8]) ht5
  have hk9 := hk8
  rw [← ex8] at hk9
  change Rn _ _ _ 664 _ [.int (iv v8)] _ _ _ _ _
  refine r_aload_n (pc := 664) dL_law_664 (i := 2) rfl rfl ?_
  refine r_aload_n (pc := 665) dL_law_665 (i := 0) rfl rfl ?_
  refine r_iload_n (pc := 666) dL_law_666 (i := 3) rfl rfl ?_
  refine r_iconst (pc := 667) (v := iv 1) dL_law_667 (by decide) ?_
  refine r_iadd (pc := 668) (v := iv (i + 1)) dL_law_668 (iv_add _ _) ?_
  refine w_sld (pc := 669) (v := iv ((xs (Int.toNat (i + 1))).toInt)) dL_law_669 (iv_in (L := L) (by omega) (by omega)) (by rw [iv_clamp (by omega) (by omega)]; exact (iv_of _).symm) ?_
  have lo669 := iv_lo (xs (Int.toNat (i + 1)))
  have hi669 := iv_hi (xs (Int.toNat (i + 1)))
  refine r_aload_n (pc := 670) dL_law_670 (i := 0) rfl rfl ?_
  refine r_iload_n (pc := 671) dL_law_671 (i := 3) rfl rfl ?_
  refine r_iconst (pc := 672) (v := iv 2) dL_law_672 (by decide) ?_
  refine r_iadd (pc := 673) (v := iv (i + 2)) dL_law_673 (iv_add _ _) ?_
  refine w_sld (pc := 674) (v := iv ((xs (Int.toNat (i + 2))).toInt)) dL_law_674 (iv_in (L := L) (by omega) (by omega)) (by rw [iv_clamp (by omega) (by omega)]; exact (iv_of _).symm) ?_
  have lo674 := iv_lo (xs (Int.toNat (i + 2)))
  have hi674 := iv_hi (xs (Int.toNat (i + 2)))
  refine r_aload_n (pc := 675) dL_law_675 (i := 0) rfl rfl ?_
  refine r_iload_n (pc := 676) dL_law_676 (i := 3) rfl rfl ?_
  refine r_iconst (pc := 677) (v := iv 3) dL_law_677 (by decide) ?_
  refine r_iadd (pc := 678) (v := iv (i + 3)) dL_law_678 (iv_add _ _) ?_
  refine w_sld (pc := 679) (v := iv ((xs (Int.toNat (i + 3))).toInt)) dL_law_679 (iv_in (L := L) (by omega) (by omega)) (by rw [iv_clamp (by omega) (by omega)]; exact (iv_of _).symm) ?_
  have lo679 := iv_lo (xs (Int.toNat (i + 3)))
  have hi679 := iv_hi (xs (Int.toNat (i + 3)))
  have ht13 := Tw_eq (Γ1 := RW (CG Γ8 cI cJ cZ cT a ct8 rv8 th8 dn dd da df dt dw dc kn8 kd8 ka8 kf8 kt8 kw8 kc8) cI cJ cZ (a + 41) rf cn nm so sz dr mn fr tt wt co nu qi qc nf nt nw nc sa wo ln hw ro) (CG_RW (by omega)) ht6
  obtain ⟨fs14, hfs14⟩ := t_obj ht13 (rd_of RW_y)
  refine r_callV (pc := 680) (as := [.int (iv ((xs (Int.toNat (i + 1))).toInt)), .int (iv ((xs (Int.toNat (i + 2))).toInt)), .int (iv ((xs (Int.toNat (i + 3))).toInt))]) (st := [.int (iv v8)]) kL_61 rfl dL_law_680 hfs14 (zw_X12_ways (d := d - 1) (x1 := ((xs (Int.toNat (i + 1))).toInt)) (x2 := ((xs (Int.toNat (i + 2))).toInt)) (x3 := ((xs (Int.toNat (i + 3))).toInt)) (by omega) hrk hwr9 ht13 (by omega) (by omega) (by omega) (fun _ _ _ h => h)) rfl (by omega) (Nat.le_of_ble_eq_true rfl) (by omega) (by omega) rfl (fun r8 hp9 n10 hq11 => ?_)
  obtain ⟨hnn10, rf9, cn9, so9, sz9, sa9, wo9, ln9, hw9, ro9, v9, ht12, hrr8, f0, f1, f2, f3, f4, f5, f6, f7, f8, f9⟩ := hq11
  subst n10 r8
  have hcmp : v8 = v9 := hA8.trans f3.symm
  have hv9 := mv_W hvR (by omega) hE8 hcmp c1 c2 f4 f5
  obtain ⟨hm9, hec, her⟩ := mg_W hmR (by omega) hE8 hcmp c1 (fun h9 => ⟨(c2 h9).1, (c2 h9).2.1, (c2 h9).2.2.elim (fun t q => ⟨t, q.1, q.2.wx⟩)⟩) (fun h9 => ⟨(f4 h9).1, (f4 h9).2.1, (f4 h9).2.2.1⟩) (fun h9 => (f5 h9).1) f6
  subst ct8 rv8
  rw [← CG_RW (by omega)] at ht12
  have hv9r : -2147483648 ≤ v9 ∧ v9 ≤ 2147483647 := by omega
  change Rn _ _ _ 683 _ [.int (iv v9), .int (iv v8)] _ _ _ _ _
  refine t_icmp_eq (pc := 683) (tgt := 1077) dL_law_683 (by decide) (by omega) (by omega) (fun c683 => ?_) (fun c683 => ?_)
  · refine Rn.pick (lv' := [(0, .ref b), (1, .ref a), (2, .ref (a + 41)), (3, .int (iv i))]) [0, 1, 2, 3] rfl ?_
    exact kk _ _ _ _ ⟨Γ8, rf9, cn9, nm, so9, sz9, dr, mn, fr, tt, wt, co, nu, qi, qc, nf, nt, nw, nc, sa9, wo9, ln9, hw9, ro9, th8, dn, dd, da, df, dt, dw, dc, kn8, kd8, ka8, kf8, kt8, kw8, kc8, ht12, (EK.swapW hk9), f0, (DQ_r hdq f1), hm9, hv9, ⟨f7, f8, f9⟩, by omega, by omega, by omega⟩
  · exfalso
    omega
