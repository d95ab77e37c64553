set_option maxHeartbeats 4000000 in
set_option maxRecDepth 100000 in
theorem lm_10 {D : va_G} {cI cJ cZ cT : ClassId} {lo b L : Nat} {xs : Nat → Int32} {hp : MH} {n d kr wr a : Nat} {i : Int} {Po : Option Value → MH → Nat → Prop} (hd : 60 ≤ d) (hL : L ≤ 3584) (hi : 0 ≤ i ∧ i + 7 ≤ (L : Int))  (h : LK cI cJ cZ cT a L i hp n kr wr) (kk : ∀ (hp1 : MH) (n1 kr1 wr1 : Nat), LK cI cJ cZ cT a L (i + 7) hp1 n1 kr1 wr1 → Rn (gG D cI cJ cZ cT lo b L xs) mL_law d 1077 [(0, .ref b), (1, .ref a), (2, .ref (a + 41)), (3, .int (iv i))] [] hp1 n1 kr1 wr1 Po) : Rn (gG D cI cJ cZ cT lo b L xs) mL_law d 688 [(0, .ref b), (1, .ref a), (2, .ref (a + 41)), (3, .int (iv i))] [] hp n kr wr Po := by
  obtain ⟨Γ, rf, cn, nm, so, sz, dr, mn, fr, tt, wt, co, nu, qi, qc, nf, nt, nw, nc, sa, wo, ln, hw, ro, th, dn, dd, da, df, dt, dw, dc, kn, kd, ka, kf, kt, kw, kc, ht, hk, hrk, hdq, hm, hv, hwr9, hna, hkr, hwr⟩ := h
  have hmR := HM.same (fun q hq => (RW_o hq).symm : ∀ q : Nat, (q < a + 41 ∨ a + 41 + 43 ≤ q) → Γ q = (RW Γ cI cJ cZ (a + 41) rf cn nm so sz dr mn fr tt wt co nu qi qc nf nt nw nc sa wo ln hw ro) q) hm
  have hvR := HV.same (fun q hq => (RW_o hq).symm : ∀ q : Nat, (q < a + 41 ∨ a + 41 + 43 ≤ q) → Γ q = (RW Γ cI cJ cZ (a + 41) rf cn nm so sz dr mn fr tt wt co nu qi qc nf nt nw nc sa wo ln hw ro) q) hv
  have hcn9 := hk.1
  have hrv : -2147483648 ≤ rf ∧ rf ≤ 2147483647 := hrk.2.2.2.2.2.2.2.2.2.2.2.1
  refine r_aload_n (pc := 688) dL_law_688 (i := 1) rfl rfl ?_
  refine r_aload_n (pc := 689) dL_law_689 (i := 0) rfl rfl ?_
  refine r_iload_n (pc := 690) dL_law_690 (i := 3) rfl rfl ?_
  refine r_iconst (pc := 691) (v := iv 1) dL_law_691 (by decide) ?_
  refine r_iadd (pc := 692) (v := iv (i + 1)) dL_law_692 (iv_add _ _) ?_
  refine w_sld (pc := 693) (v := iv ((xs (Int.toNat (i + 1))).toInt)) dL_law_693 (iv_in (L := L) (by omega) (by omega)) (by rw [iv_clamp (by omega) (by omega)]; exact (iv_of _).symm) ?_
  have lo693 := iv_lo (xs (Int.toNat (i + 1)))
  have hi693 := iv_hi (xs (Int.toNat (i + 1)))
  refine r_aload_n (pc := 694) dL_law_694 (i := 0) rfl rfl ?_
  refine r_iload_n (pc := 695) dL_law_695 (i := 3) rfl rfl ?_
  refine r_iconst (pc := 696) (v := iv 2) dL_law_696 (by decide) ?_
  refine r_iadd (pc := 697) (v := iv (i + 2)) dL_law_697 (iv_add _ _) ?_
  refine w_sld (pc := 698) (v := iv ((xs (Int.toNat (i + 2))).toInt)) dL_law_698 (iv_in (L := L) (by omega) (by omega)) (by rw [iv_clamp (by omega) (by omega)]; exact (iv_of _).symm) ?_
  have lo698 := iv_lo (xs (Int.toNat (i + 2)))
  have hi698 := iv_hi (xs (Int.toNat (i + 2)))
  refine r_aload_n (pc := 699) dL_law_699 (i := 0) rfl rfl ?_
  refine r_iload_n (pc := 700) dL_law_700 (i := 3) rfl rfl ?_
  refine r_iconst (pc := 701) (v := iv 3) dL_law_701 (by decide) ?_
  refine r_iadd (pc := 702) (v := iv (i + 3)) dL_law_702 (iv_add _ _) ?_
  refine w_sld (pc := 703) (v := iv ((xs (Int.toNat (i + 3))).toInt)) dL_law_703 (iv_in (L := L) (by omega) (by omega)) (by rw [iv_clamp (by omega) (by omega)]; exact (iv_of _).symm) ?_
  have lo703 := iv_lo (xs (Int.toNat (i + 3)))
  have hi703 := iv_hi (xs (Int.toNat (i + 3)))
  obtain ⟨fs7, hfs7⟩ := t_obj ht (rd_of CG_0)
  refine r_callV (pc := 704) (as := [.int (iv ((xs (Int.toNat (i + 1))).toInt)), .int (iv ((xs (Int.toNat (i + 2))).toInt)), .int (iv ((xs (Int.toNat (i + 3))).toInt))]) (st := []) kL_62 rfl dL_law_704 hfs7 (y_X11_parts (d := d - 1) (x1 := ((xs (Int.toNat (i + 1))).toInt)) (x2 := ((xs (Int.toNat (i + 2))).toInt)) (x3 := ((xs (Int.toNat (i + 3))).toInt)) (by omega) hk hmR hrv (by omega) ht (by omega) (by omega) (by omega)) rfl (by omega) (Nat.le_of_ble_eq_true rfl) (by omega) (by omega) rfl (fun r1 hp2 n3 hq4 => ?_)
  obtain ⟨hnn3, Γ8, ct8, rv8, th8, kn8, kd8, ka8, kf8, kt8, kw8, kc8, v8, hE8, ht5, hk8, hrr1, hA8, hb8, c1, c2⟩ := hq4
  subst r1
  have ex8 := RW_x hE8
  have ht6 := Tw_eq (Γ1 := (CG (RW Γ8 cI cJ cZ (a + 41) rf cn nm so sz dr mn fr tt wt co nu qi qc nf nt nw nc sa wo ln hw ro) cI cJ cZ cT a ct8 rv8 th8 dn dd da df dt dw dc kn8 kd8 ka8 kf8 kt8 kw8 kc8)) (by rw [ex8]) ht5
  have hk9 := hk8
  rw [← ex8] at hk9
  change Rn _ _ _ 707 _ [.int (iv v8)] _ _ _ _ _
  refine r_aload_n (pc := 707) dL_law_707 (i := 2) rfl rfl ?_
  refine r_aload_n (pc := 708) dL_law_708 (i := 0) rfl rfl ?_
  refine r_iload_n (pc := 709) dL_law_709 (i := 3) rfl rfl ?_
  refine r_iconst (pc := 710) (v := iv 1) dL_law_710 (by decide) ?_
  refine r_iadd (pc := 711) (v := iv (i + 1)) dL_law_711 (iv_add _ _) ?_
  refine w_sld (pc := 712) (v := iv ((xs (Int.toNat (i + 1))).toInt)) dL_law_712 (iv_in (L := L) (by omega) (by omega)) (by rw [iv_clamp (by omega) (by omega)]; exact (iv_of _).symm) ?_
  have lo712 := iv_lo (xs (Int.toNat (i + 1)))
  have hi712 := iv_hi (xs (Int.toNat (i + 1)))
  refine r_aload_n (pc := 713) dL_law_713 (i := 0) rfl rfl ?_
  refine r_iload_n (pc := 714) dL_law_714 (i := 3) rfl rfl ?_
  refine r_iconst (pc := 715) (v := iv 2) dL_law_715 (by decide) ?_
  refine r_iadd (pc := 716) (v := iv (i + 2)) dL_law_716 (iv_add _ _) ?_
  refine w_sld (pc := 717) (v := iv ((xs (Int.toNat (i + 2))).toInt)) dL_law_717 (iv_in (L := L) (by omega) (by omega)) (by rw [iv_clamp (by omega) (by omega)]; exact (iv_of _).symm) ?_
  have lo717 := iv_lo (xs (Int.toNat (i + 2)))
  have hi717 := iv_hi (xs (Int.toNat (i + 2)))
  refine r_aload_n (pc := 718) dL_law_718 (i := 0) rfl rfl ?_
  refine r_iload_n (pc := 719) dL_law_719 (i := 3) rfl rfl ?_
  refine r_iconst (pc := 720) (v := iv 3) dL_law_720 (by decide) ?_
  refine r_iadd (pc := 721) (v := iv (i + 3)) dL_law_721 (iv_add _ _) ?_
  refine w_sld (pc := 722) (v := iv ((xs (Int.toNat (i + 3))).toInt)) dL_law_722 (iv_in (L := L) (by omega) (by omega)) (by rw [iv_clamp (by omega) (by omega)]; exact (iv_of _).symm) ?_
  have lo722 := iv_lo (xs (Int.toNat (i + 3)))
  have hi722 := iv_hi (xs (Int.toNat (i + 3)))
  have ht13 := Tw_eq (Γ1 := RW (CG Γ8 cI cJ cZ cT a ct8 rv8 th8 dn dd da df dt dw dc kn8 kd8 ka8 kf8 kt8 kw8 kc8) cI cJ cZ (a + 41) rf cn nm so sz dr mn fr tt wt co nu qi qc nf nt nw nc sa wo ln hw ro) (CG_RW (by omega)) ht6
  obtain ⟨fs14, hfs14⟩ := t_obj ht13 (rd_of RW_y)
  refine r_callV (pc := 723) (as := [.int (iv ((xs (Int.toNat (i + 1))).toInt)), .int (iv ((xs (Int.toNat (i + 2))).toInt)), .int (iv ((xs (Int.toNat (i + 3))).toInt))]) (st := [.int (iv v8)]) kL_65 rfl dL_law_723 hfs14 (zw_X12_partsj (d := d - 1) (x1 := ((xs (Int.toNat (i + 1))).toInt)) (x2 := ((xs (Int.toNat (i + 2))).toInt)) (x3 := ((xs (Int.toNat (i + 3))).toInt)) (by omega) hrk hwr9 ht13 (by omega) (by omega) (by omega) (fun _ _ _ h => h)) rfl (by omega) (Nat.le_of_ble_eq_true rfl) (by omega) (by omega) rfl (fun r8 hp9 n10 hq11 => ?_)
  obtain ⟨hnn10, rf9, cn9, so9, sz9, qi9, qc9, v9, ht12, hrr8, f0, f1, f2, f3, f4, f5, f6⟩ := hq11
  subst n10 r8
  have hcmp : v8 = v9 := hA8.trans f3.symm
  have hv9 := mv_X hvR (by omega) hE8 hcmp c1 c2 (fun h9 => ⟨(f4 h9).1, (f4 h9).2.1, (f4 h9).2.2.1⟩) (fun h9 => ⟨(f5 h9).1, (f5 h9).2.1, (f5 h9).2.2.1⟩) (by decide)
  obtain ⟨hm9, hec, her⟩ := mg_Q hmR (by omega) hE8 hcmp c1 c2 f4 f5 f6
  subst ct8 rv8
  rw [← CG_RW (by omega)] at ht12
  have hv9r : -2147483648 ≤ v9 ∧ v9 ≤ 2147483647 := by omega
  change Rn _ _ _ 726 _ [.int (iv v9), .int (iv v8)] _ _ _ _ _
  refine t_icmp_eq (pc := 726) (tgt := 1077) dL_law_726 (by decide) (by omega) (by omega) (fun c726 => ?_) (fun c726 => ?_)
  · refine Rn.pick (lv' := [(0, .ref b), (1, .ref a), (2, .ref (a + 41)), (3, .int (iv i))]) [0, 1, 2, 3] rfl ?_
    exact kk _ _ _ _ ⟨Γ8, rf9, cn9, nm, so9, sz9, dr, mn, fr, tt, wt, co, nu, qi9, qc9, nf, nt, nw, nc, sa, wo, ln, hw, ro, th8, dn, dd, da, df, dt, dw, dc, kn8, kd8, ka8, kf8, kt8, kw8, kc8, ht12, (EK.swapW hk9), f0, (DQ_r hdq f1), hm9, hv9, hwr9, by omega, by omega, by omega⟩
  · exfalso
    omega
set_option maxHeartbeats 4000000 in
set_option maxRecDepth 100000 in
theorem lm_11 {D : va_G} {cI cJ cZ cT : ClassId} {lo b L : Nat} {xs : Nat → Int32} {hp : MH} {n d kr wr a : Nat} {i : Int} {Po : Option Value → MH → Nat → Prop} (hd : 60 ≤ d) (hL : L ≤ 3584) (hi : 0 ≤ i ∧ i + 7 ≤ (L : Int))  (h : LK cI cJ cZ cT a L i hp n kr wr) (kk : ∀ (hp1 : MH) (n1 kr1 wr1 : Nat), LK cI cJ cZ cT a L (i + 7) hp1 n1 kr1 wr1 → Rn (gG D cI cJ cZ cT lo b L xs) mL_law d 1077 [(0, .ref b), (1, .ref a), (2, .ref (a + 41)), (3, .int (iv i))] [] hp1 n1 kr1 wr1 Po) : Rn (gG D cI cJ cZ cT lo b L xs) mL_law d 731 [(0, .ref b), (1, .ref a), (2, .ref (a + 41)), (3, .int (iv i))] [] hp n kr wr Po := by
  obtain ⟨Γ, rf, cn, nm, so, sz, dr, mn, fr, tt, wt, co, nu, qi, qc, nf, nt, nw, nc, sa, wo, ln, hw, ro, th, dn, dd, da, df, dt, dw, dc, kn, kd, ka, kf, kt, kw, kc, ht, hk, hrk, hdq, hm, hv, hwr9, hna, hkr, hwr⟩ := h
  have hmR := HM.same (fun q hq => (RW_o hq).symm : ∀ q : Nat, (q < a + 41 ∨ a + 41 + 43 ≤ q) → Γ q = (RW Γ cI cJ cZ (a + 41) rf cn nm so sz dr mn fr tt wt co nu qi qc nf nt nw nc sa wo ln hw ro) q) hm
  have hvR := HV.same (fun q hq => (RW_o hq).symm : ∀ q : Nat, (q < a + 41 ∨ a + 41 + 43 ≤ q) → Γ q = (RW Γ cI cJ cZ (a + 41) rf cn nm so sz dr mn fr tt wt co nu qi qc nf nt nw nc sa wo ln hw ro) q) hv
  have hcn9 := hk.1
  have hrv : -2147483648 ≤ rf ∧ rf ≤ 2147483647 := hrk.2.2.2.2.2.2.2.2.2.2.2.1
  refine r_aload_n (pc := 731) dL_law_731 (i := 1) rfl rfl ?_
  obtain ⟨fs7, hfs7⟩ := t_obj ht (rd_of CG_0)
  refine r_callV (pc := 732) (as := []) (st := []) kL_66 rfl dL_law_732 hfs7 (y_X11_drop (d := d - 1)  (by omega) hk hmR hrv (by omega) ht ) rfl (by omega) (Nat.le_of_ble_eq_true rfl) (by omega) (by omega) rfl (fun r1 hp2 n3 hq4 => ?_)
  obtain ⟨hnn3, ct8, rv8, th8, v8, ht5, hrr1, hB⟩ := hq4
  subst n3 r1
  have hk8 : EK (RW Γ cI cJ cZ (a + 41) rf cn nm so sz dr mn fr tt wt co nu qi qc nf nt nw nc sa wo ln hw ro) cI cJ cZ a ct8 th8 dn dd da df dt dw dc kn kd ka := by
    rcases hB with ⟨h1, e0, e1, e2, e3⟩ | ⟨h1, e0, e1, e2, e3⟩
    · rw [e1, e2]; exact hk
    · rw [e1, e2]; exact EK.drop hk h1
  have bv8 : -1 ≤ v8 ∧ v8 ≤ 119 := by omega
  change Rn _ _ _ 735 _ [.int (iv v8)] _ _ _ _ _
  refine r_aload_n (pc := 735) dL_law_735 (i := 2) rfl rfl ?_
  have ht13 := Tw_eq (Γ1 := RW (CG Γ cI cJ cZ cT a ct8 rv8 th8 dn dd da df dt dw dc kn kd ka kf kt kw kc) cI cJ cZ (a + 41) rf cn nm so sz dr mn fr tt wt co nu qi qc nf nt nw nc sa wo ln hw ro) (CG_RW (by omega)) ht5
  obtain ⟨fs14, hfs14⟩ := t_obj ht13 (rd_of RW_y)
  refine r_callV (pc := 736) (as := []) (st := [.int (iv v8)]) kL_69 rfl dL_law_736 hfs14 (zw_X12_drop (d := d - 1)  (by omega) hrk hwr9 ht13  (fun _ _ _ h => h)) rfl (by omega) (Nat.le_of_ble_eq_true rfl) (by omega) (by omega) rfl (fun r8 hp9 n10 hq11 => ?_)
  obtain ⟨hnn10, rf9, cn9, v9, ht12, hrr8, f0, f1, f2, f3⟩ := hq11
  subst n10 r8
  have hdr9 : HM Γ cI cJ cZ a cn9 th8 so sz dr mn fr tt wt co nu qi qc ∧ v8 = v9 ∧ ct8 = cn9 ∧ rv8 = rf9 := by
    rcases hB with ⟨h1, e0, e1, e2, e3⟩ | ⟨h1, e0, e1, e2, e3⟩
    · obtain ⟨g0, g1, g2⟩ := f3.1 h1
      rw [e2, g1]; exact ⟨hm, by omega, by omega, by omega⟩
    · obtain ⟨g0, g1, g2⟩ := f3.2 h1
      rw [e2, g1]; exact ⟨hm.drop, by omega, by omega, by omega⟩
  have hv9 : HV Γ cI cJ cZ a cn9 th8 so sz sa wo ln hw ro := by
    rcases hB with ⟨h1, e0, e1, e2, e3⟩ | ⟨h1, e0, e1, e2, e3⟩
    · obtain ⟨g0, g1, g2⟩ := f3.1 h1
      rw [e2, g1]; exact hv
    · obtain ⟨g0, g1, g2⟩ := f3.2 h1
      rw [e2, g1]; exact hv.drop
  obtain ⟨hm9, hcmp, hec, her⟩ := hdr9
  subst ct8 rv8
  rw [← CG_RW (by omega)] at ht12
  have hv9r : -2147483648 ≤ v9 ∧ v9 ≤ 2147483647 := by omega
  change Rn _ _ _ 739 _ [.int (iv v9), .int (iv v8)] _ _ _ _ _
  refine t_icmp_eq (pc := 739) (tgt := 1077) dL_law_739 (by decide) (by omega) (by omega) (fun c739 => ?_) (fun c739 => ?_)
  · refine Rn.pick (lv' := [(0, .ref b), (1, .ref a), (2, .ref (a + 41)), (3, .int (iv i))]) [0, 1, 2, 3] rfl ?_
    exact kk _ _ _ _ ⟨Γ, rf9, cn9, nm, so, sz, dr, mn, fr, tt, wt, co, nu, qi, qc, nf, nt, nw, nc, sa, wo, ln, hw, ro, th8, dn, dd, da, df, dt, dw, dc, kn, kd, ka, kf, kt, kw, kc, ht12, (EK.swapW hk8), f0, (DQ_r hdq f1), hm9, hv9, hwr9, by omega, by omega, by omega⟩
  · exfalso
    omega
set_option maxHeartbeats 4000000 in
set_option maxRecDepth 100000 in
theorem lm_12 {D : va_G} {cI cJ cZ cT : ClassId} {lo b L : Nat} {xs : Nat → Int32} {hp : MH} {n d kr wr a : Nat} {i : Int} {Po : Option Value → MH → Nat → Prop} (hd : 60 ≤ d) (hL : L ≤ 3584) (hi : 0 ≤ i ∧ i + 7 ≤ (L : Int))  (h : LK cI cJ cZ cT a L i hp n kr wr) (kk : ∀ (hp1 : MH) (n1 kr1 wr1 : Nat), LK cI cJ cZ cT a L (i + 7) hp1 n1 kr1 wr1 → Rn (gG D cI cJ cZ cT lo b L xs) mL_law d 1077 [(0, .ref b), (1, .ref a), (2, .ref (a + 41)), (3, .int (iv i))] [] hp1 n1 kr1 wr1 Po) : Rn (gG D cI cJ cZ cT lo b L xs) mL_law d 744 [(0, .ref b), (1, .ref a), (2, .ref (a + 41)), (3, .int (iv i))] [] hp n kr wr Po := by
  obtain ⟨Γ, rf, cn, nm, so, sz, dr, mn, fr, tt, wt, co, nu, qi, qc, nf, nt, nw, nc, sa, wo, ln, hw, ro, th, dn, dd, da, df, dt, dw, dc, kn, kd, ka, kf, kt, kw, kc, ht, hk, hrk, hdq, hm, hv, hwr9, hna, hkr, hwr⟩ := h
  have hmR := HM.same (fun q hq => (RW_o hq).symm : ∀ q : Nat, (q < a + 41 ∨ a + 41 + 43 ≤ q) → Γ q = (RW Γ cI cJ cZ (a + 41) rf cn nm so sz dr mn fr tt wt co nu qi qc nf nt nw nc sa wo ln hw ro) q) hm
  have hvR := HV.same (fun q hq => (RW_o hq).symm : ∀ q : Nat, (q < a + 41 ∨ a + 41 + 43 ≤ q) → Γ q = (RW Γ cI cJ cZ (a + 41) rf cn nm so sz dr mn fr tt wt co nu qi qc nf nt nw nc sa wo ln hw ro) q) hv
  have hcn9 := hk.1
  have hrv : -2147483648 ≤ rf ∧ rf ≤ 2147483647 := hrk.2.2.2.2.2.2.2.2.2.2.2.1
  refine r_aload_n (pc := 744) dL_law_744 (i := 1) rfl rfl ?_
  obtain ⟨fs7, hfs7⟩ := t_obj ht (rd_of CG_0)
  refine r_callV (pc := 745) (as := []) (st := []) kL_70 rfl dL_law_745 hfs7 (y_X11_refused (d := d - 1)  (by omega) hk hmR hrv (by omega) ht ) rfl (by omega) (Nat.le_of_ble_eq_true rfl) (by omega) (by omega) rfl (fun r1 hp2 n3 hq4 => ?_)
  obtain ⟨hnn3, Γ8, rv8, kn8, kd8, ka8, kf8, kt8, kw8, kc8, hE8, ht5, hk8, hrv8, v8, hrr1, hA8, hw8⟩ := hq4
  subst r1
  have ex8 := RW_x hE8
  have ht6 := Tw_eq (Γ1 := (CG (RW Γ8 cI cJ cZ (a + 41) rf cn nm so sz dr mn fr tt wt co nu qi qc nf nt nw nc sa wo ln hw ro) cI cJ cZ cT a cn rv8 th dn dd da df dt dw dc kn8 kd8 ka8 kf8 kt8 kw8 kc8)) (by rw [ex8]) ht5
  have hk9 := hk8
  rw [← ex8] at hk9
  change Rn _ _ _ 748 _ [.int (iv v8)] _ _ _ _ _
  refine r_aload_n (pc := 748) dL_law_748 (i := 2) rfl rfl ?_
  have ht13 := Tw_eq (Γ1 := RW (CG Γ8 cI cJ cZ cT a cn rv8 th dn dd da df dt dw dc kn8 kd8 ka8 kf8 kt8 kw8 kc8) cI cJ cZ (a + 41) rf cn nm so sz dr mn fr tt wt co nu qi qc nf nt nw nc sa wo ln hw ro) (CG_RW (by omega)) ht6
  obtain ⟨fs14, hfs14⟩ := t_obj ht13 (rd_of RW_y)
  refine r_callV (pc := 749) (as := []) (st := [.int (iv v8)]) kL_73 rfl dL_law_749 hfs14 (zw_X12_refused (d := d - 1)  (by omega) hrk hwr9 ht13  (fun _ _ _ h => h)) rfl (by omega) (Nat.le_of_ble_eq_true rfl) (by omega) (by omega) rfl (fun r8 hp9 n10 hq11 => ?_)
  obtain ⟨hnn10, v9, ht12, hrr8, f0, f1, f2, f3⟩ := hq11
  subst n10 r8
  have hm9 := HM.ext hE8 hmR
  have hv9 := HV.ext hE8 hvR
  have hcmp : v8 = v9 := by omega
  have her : rv8 = rf := hw8
  have her2 := her.symm
  subst her2
  rw [← CG_RW (by omega)] at ht12
  have hv9r : -2147483648 ≤ v9 ∧ v9 ≤ 2147483647 := by omega
  change Rn _ _ _ 752 _ [.int (iv v9), .int (iv v8)] _ _ _ _ _
  refine t_icmp_eq (pc := 752) (tgt := 1077) dL_law_752 (by decide) (by omega) (by omega) (fun c752 => ?_) (fun c752 => ?_)
  · refine Rn.pick (lv' := [(0, .ref b), (1, .ref a), (2, .ref (a + 41)), (3, .int (iv i))]) [0, 1, 2, 3] rfl ?_
    exact kk _ _ _ _ ⟨Γ8, rf, cn, nm, so, sz, dr, mn, fr, tt, wt, co, nu, qi, qc, nf, nt, nw, nc, sa, wo, ln, hw, ro, th, dn, dd, da, df, dt, dw, dc, kn8, kd8, ka8, kf8, kt8, kw8, kc8, ht12, (EK.swapW hk9), f0, (DQ_r hdq f1), hm9, hv9, hwr9, by omega, by omega, by omega⟩
  · exfalso
    omega
set_option maxHeartbeats 4000000 in
set_option maxRecDepth 100000 in
theorem lm_13 {D : va_G} {cI cJ cZ cT : ClassId} {lo b L : Nat} {xs : Nat → Int32} {hp : MH} {n d kr wr a : Nat} {i : Int} {Po : Option Value → MH → Nat → Prop} (hd : 60 ≤ d) (hL : L ≤ 3584) (hi : 0 ≤ i ∧ i + 7 ≤ (L : Int))  (h : LK cI cJ cZ cT a L i hp n kr wr) (kk : ∀ (hp1 : MH) (n1 kr1 wr1 : Nat), LK cI cJ cZ cT a L (i + 7) hp1 n1 kr1 wr1 → Rn (gG D cI cJ cZ cT lo b L xs) mL_law d 1077 [(0, .ref b), (1, .ref a), (2, .ref (a + 41)), (3, .int (iv i))] [] hp1 n1 kr1 wr1 Po) : Rn (gG D cI cJ cZ cT lo b L xs) mL_law d 757 [(0, .ref b), (1, .ref a), (2, .ref (a + 41)), (3, .int (iv i))] [] hp n kr wr Po := by
  obtain ⟨Γ, rf, cn, nm, so, sz, dr, mn, fr, tt, wt, co, nu, qi, qc, nf, nt, nw, nc, sa, wo, ln, hw, ro, th, dn, dd, da, df, dt, dw, dc, kn, kd, ka, kf, kt, kw, kc, ht, hk, hrk, hdq, hm, hv, hwr9, hna, hkr, hwr⟩ := h
  have hmR := HM.same (fun q hq => (RW_o hq).symm : ∀ q : Nat, (q < a + 41 ∨ a + 41 + 43 ≤ q) → Γ q = (RW Γ cI cJ cZ (a + 41) rf cn nm so sz dr mn fr tt wt co nu qi qc nf nt nw nc sa wo ln hw ro) q) hm
  have hvR := HV.same (fun q hq => (RW_o hq).symm : ∀ q : Nat, (q < a + 41 ∨ a + 41 + 43 ≤ q) → Γ q = (RW Γ cI cJ cZ (a + 41) rf cn nm so sz dr mn fr tt wt co nu qi qc nf nt nw nc sa wo ln hw ro) q) hv
  have hcn9 := hk.1
  have hrv : -2147483648 ≤ rf ∧ rf ≤ 2147483647 := hrk.2.2.2.2.2.2.2.2.2.2.2.1
  refine r_aload_n (pc := 757) dL_law_757 (i := 1) rfl rfl ?_
  obtain ⟨fs7, hfs7⟩ := t_obj ht (rd_of CG_0)
  refine r_callV (pc := 758) (as := []) (st := []) kL_74 rfl dL_law_758 hfs7 (y_X11_handles (d := d - 1)  (by omega) hk hmR hrv (by omega) ht ) rfl (by omega) (Nat.le_of_ble_eq_true rfl) (by omega) (by omega) rfl (fun r1 hp2 n3 hq4 => ?_)
  obtain ⟨hnn3, Γ8, rv8, kn8, kd8, ka8, kf8, kt8, kw8, kc8, hE8, ht5, hk8, hrv8, v8, hrr1, hA8, hw8⟩ := hq4
  subst r1
  have ex8 := RW_x hE8
  have ht6 := Tw_eq (Γ1 := (CG (RW Γ8 cI cJ cZ (a + 41) rf cn nm so sz dr mn fr tt wt co nu qi qc nf nt nw nc sa wo ln hw ro) cI cJ cZ cT a cn rv8 th dn dd da df dt dw dc kn8 kd8 ka8 kf8 kt8 kw8 kc8)) (by rw [ex8]) ht5
  have hk9 := hk8
  rw [← ex8] at hk9
  change Rn _ _ _ 761 _ [.int (iv v8)] _ _ _ _ _
  refine r_aload_n (pc := 761) dL_law_761 (i := 2) rfl rfl ?_
  have ht13 := Tw_eq (Γ1 := RW (CG Γ8 cI cJ cZ cT a cn rv8 th dn dd da df dt dw dc kn8 kd8 ka8 kf8 kt8 kw8 kc8) cI cJ cZ (a + 41) rf cn nm so sz dr mn fr tt wt co nu qi qc nf nt nw nc sa wo ln hw ro) (CG_RW (by omega)) ht6
  obtain ⟨fs14, hfs14⟩ := t_obj ht13 (rd_of RW_y)
  refine r_callV (pc := 762) (as := []) (st := [.int (iv v8)]) kL_77 rfl dL_law_762 hfs14 (zw_X12_handles (d := d - 1)  (by omega) hrk hwr9 ht13  (fun _ _ _ h => h)) rfl (by omega) (Nat.le_of_ble_eq_true rfl) (by omega) (by omega) rfl (fun r8 hp9 n10 hq11 => ?_)
  obtain ⟨hnn10, rf9, v9, ht12, hrr8, f0, f1, f2, f3⟩ := hq11
  subst n10 r8
  have hm9 := HM.ext hE8 hmR
  have hv9 := HV.ext hE8 hvR
  have hcmp : v8 = v9 := by omega
  have her : rv8 = rf9 := by omega
  have her2 := her.symm
  subst her2
  rw [← CG_RW (by omega)] at ht12
  have hv9r : -2147483648 ≤ v9 ∧ v9 ≤ 2147483647 := by omega
  change Rn _ _ _ 765 _ [.int (iv v9), .int (iv v8)] _ _ _ _ _
  refine t_icmp_eq (pc := 765) (tgt := 1077) dL_law_765 (by decide) (by omega) (by omega) (fun c765 => ?_) (fun c765 => ?_)
  · refine Rn.pick (lv' := [(0, .ref b), (1, .ref a), (2, .ref (a + 41)), (3, .int (iv i))]) [0, 1, 2, 3] rfl ?_
    exact kk _ _ _ _ ⟨Γ8, rf9, cn, nm, so, sz, dr, mn, fr, tt, wt, co, nu, qi, qc, nf, nt, nw, nc, sa, wo, ln, hw, ro, th, dn, dd, da, df, dt, dw, dc, kn8, kd8, ka8, kf8, kt8, kw8, kc8, ht12, (EK.swapW hk9), f0, (DQ_r hdq f1), hm9, hv9, hwr9, by omega, by omega, by omega⟩
  · exfalso
    omega
set_option maxHeartbeats 4000000 in
set_option maxRecDepth 100000 in
theorem lm_14 {D : va_G} {cI cJ cZ cT : ClassId} {lo b L : Nat} {xs : Nat → Int32} {hp : MH} {n d kr wr a : Nat} {i : Int} {Po : Option Value → MH → Nat → Prop} (hd : 60 ≤ d) (hL : L ≤ 3584) (hi : 0 ≤ i ∧ i + 7 ≤ (L : Int))  (h : LK cI cJ cZ cT a L i hp n kr wr) (kk : ∀ (hp1 : MH) (n1 kr1 wr1 : Nat), LK cI cJ cZ cT a L (i + 7) hp1 n1 kr1 wr1 → Rn (gG D cI cJ cZ cT lo b L xs) mL_law d 1077 [(0, .ref b), (1, .ref a), (2, .ref (a + 41)), (3, .int (iv i))] [] hp1 n1 kr1 wr1 Po) : Rn (gG D cI cJ cZ cT lo b L xs) mL_law d 770 [(0, .ref b), (1, .ref a), (2, .ref (a + 41)), (3, .int (iv i))] [] hp n kr wr Po := by
  obtain ⟨Γ, rf, cn, nm, so, sz, dr, mn, fr, tt, wt, co, nu, qi, qc, nf, nt, nw, nc, sa, wo, ln, hw, ro, th, dn, dd, da, df, dt, dw, dc, kn, kd, ka, kf, kt, kw, kc, ht, hk, hrk, hdq, hm, hv, hwr9, hna, hkr, hwr⟩ := h
  have hmR := HM.same (fun q hq => (RW_o hq).symm : ∀ q : Nat, (q < a + 41 ∨ a + 41 + 43 ≤ q) → Γ q = (RW Γ cI cJ cZ (a + 41) rf cn nm so sz dr mn fr tt wt co nu qi qc nf nt nw nc sa wo ln hw ro) q) hm
  have hvR := HV.same (fun q hq => (RW_o hq).symm : ∀ q : Nat, (q < a + 41 ∨ a + 41 + 43 ≤ q) → Γ q = (RW Γ cI cJ cZ (a + 41) rf cn nm so sz dr mn fr tt wt co nu qi qc nf nt nw nc sa wo ln hw ro) q) hv
  have hcn9 := hk.1
  have hrv : -2147483648 ≤ rf ∧ rf ≤ 2147483647 := hrk.2.2.2.2.2.2.2.2.2.2.2.1
  refine r_aload_n (pc := 770) dL_law_770 (i := 1) rfl rfl ?_
  refine r_aload_n (pc := 771) dL_law_771 (i := 0) rfl rfl ?_
  refine r_iload_n (pc := 772) dL_law_772 (i := 3) rfl rfl ?_
  refine r_iconst (pc := 773) (v := iv 1) dL_law_773 (by decide) ?_
  refine r_iadd (pc := 774) (v := iv (i + 1)) dL_law_774 (iv_add _ _) ?_
  refine w_sld (pc := 775) (v := iv ((xs (Int.toNat (i + 1))).toInt)) dL_law_775 (iv_in (L := L) (by omega) (by omega)) (by rw [iv_clamp (by omega) (by omega)]; exact (iv_of _).symm) ?_
  have lo775 := iv_lo (xs (Int.toNat (i + 1)))
  have hi775 := iv_hi (xs (Int.toNat (i + 1)))
  obtain ⟨fs7, hfs7⟩ := t_obj ht (rd_of CG_0)
  refine r_callV (pc := 776) (as := [.int (iv ((xs (Int.toNat (i + 1))).toInt))]) (st := []) kL_78 rfl dL_law_776 hfs7 (y_X11_sort (d := d - 1) (x1 := ((xs (Int.toNat (i + 1))).toInt)) (by omega) hk hmR hrv (by omega) ht (by omega)) rfl (by omega) (Nat.le_of_ble_eq_true rfl) (by omega) (by omega) rfl (fun r1 hp2 n3 hq4 => ?_)
  obtain ⟨hnn3, Γ8, rv8, kn8, kd8, ka8, kf8, kt8, kw8, kc8, hE8, ht5, hk8, hrv8, v8, hrr1, hA8, hw8⟩ := hq4
  subst r1
  have ex8 := RW_x hE8
  have ht6 := Tw_eq (Γ1 := (CG (RW Γ8 cI cJ cZ (a + 41) rf cn nm so sz dr mn fr tt wt co nu qi qc nf nt nw nc sa wo ln hw ro) cI cJ cZ cT a cn rv8 th dn dd da df dt dw dc kn8 kd8 ka8 kf8 kt8 kw8 kc8)) (by rw [ex8]) ht5
  have hk9 := hk8
  rw [← ex8] at hk9
  change Rn _ _ _ 779 _ [.int (iv v8)] _ _ _ _ _
  refine r_aload_n (pc := 779) dL_law_779 (i := 2) rfl rfl ?_
  refine r_aload_n (pc := 780) dL_law_780 (i := 0) rfl rfl ?_
  refine r_iload_n (pc := 781) dL_law_781 (i := 3) rfl rfl ?_
  refine r_iconst (pc := 782) (v := iv 1) dL_law_782 (by decide) ?_
  refine r_iadd (pc := 783) (v := iv (i + 1)) dL_law_783 (iv_add _ _) ?_
  refine w_sld (pc := 784) (v := iv ((xs (Int.toNat (i + 1))).toInt)) dL_law_784 (iv_in (L := L) (by omega) (by omega)) (by rw [iv_clamp (by omega) (by omega)]; exact (iv_of _).symm) ?_
  have lo784 := iv_lo (xs (Int.toNat (i + 1)))
  have hi784 := iv_hi (xs (Int.toNat (i + 1)))
  have ht13 := Tw_eq (Γ1 := RW (CG Γ8 cI cJ cZ cT a cn rv8 th dn dd da df dt dw dc kn8 kd8 ka8 kf8 kt8 kw8 kc8) cI cJ cZ (a + 41) rf cn nm so sz dr mn fr tt wt co nu qi qc nf nt nw nc sa wo ln hw ro) (CG_RW (by omega)) ht6
  obtain ⟨fs14, hfs14⟩ := t_obj ht13 (rd_of RW_y)
  refine r_callV (pc := 785) (as := [.int (iv ((xs (Int.toNat (i + 1))).toInt))]) (st := [.int (iv v8)]) kL_82 rfl dL_law_785 hfs14 (zw_X12_sort (d := d - 1) (x1 := ((xs (Int.toNat (i + 1))).toInt)) (by omega) hrk hwr9 ht13 (by omega) (fun _ _ _ h => h)) rfl (by omega) (Nat.le_of_ble_eq_true rfl) (by omega) (by omega) rfl (fun r8 hp9 n10 hq11 => ?_)
  obtain ⟨hnn10, rf9, v9, ht12, hrr8, f0, f1, f2, f3⟩ := hq11
  subst n10 r8
  have hm9 := HM.ext hE8 hmR
  have hv9 := HV.ext hE8 hvR
  have her9 : v8 = v9 ∧ rv8 = rf9 := by
    by_cases h9 : 0 ≤ ((xs (Int.toNat (i + 1))).toInt) ∧ ((xs (Int.toNat (i + 1))).toInt) < cn
    · have h8 := hA8 h9
      have h7 := f3.1 h9
      exact ⟨by omega, by omega⟩
    · have h8 := hw8 h9
      have h7 := f3.2 h9
      exact ⟨by omega, by omega⟩
  obtain ⟨hcmp, her⟩ := her9
  have her2 := her.symm
  subst her2
  rw [← CG_RW (by omega)] at ht12
  have hv9r : -2147483648 ≤ v9 ∧ v9 ≤ 2147483647 := by omega
  change Rn _ _ _ 788 _ [.int (iv v9), .int (iv v8)] _ _ _ _ _
  refine t_icmp_eq (pc := 788) (tgt := 1077) dL_law_788 (by decide) (by omega) (by omega) (fun c788 => ?_) (fun c788 => ?_)
  · refine Rn.pick (lv' := [(0, .ref b), (1, .ref a), (2, .ref (a + 41)), (3, .int (iv i))]) [0, 1, 2, 3] rfl ?_
    exact kk _ _ _ _ ⟨Γ8, rf9, cn, nm, so, sz, dr, mn, fr, tt, wt, co, nu, qi, qc, nf, nt, nw, nc, sa, wo, ln, hw, ro, th, dn, dd, da, df, dt, dw, dc, kn8, kd8, ka8, kf8, kt8, kw8, kc8, ht12, (EK.swapW hk9), f0, (DQ_r hdq f1), hm9, hv9, hwr9, by omega, by omega, by omega⟩
  · exfalso
    omega
set_option maxHeartbeats 4000000 in
set_option maxRecDepth 100000 in
theorem lm_15 {D : va_G} {cI cJ cZ cT : ClassId} {lo b L : Nat} {xs : Nat → Int32} {hp : MH} {n d kr wr a : Nat} {i : Int} {Po : Option Value → MH → Nat → Prop} (hd : 60 ≤ d) (hL : L ≤ 3584) (hi : 0 ≤ i ∧ i + 7 ≤ (L : Int))  (h : LK cI cJ cZ cT a L i hp n kr wr) (kk : ∀ (hp1 : MH) (n1 kr1 wr1 : Nat), LK cI cJ cZ cT a L (i + 7) hp1 n1 kr1 wr1 → Rn (gG D cI cJ cZ cT lo b L xs) mL_law d 1077 [(0, .ref b), (1, .ref a), (2, .ref (a + 41)), (3, .int (iv i))] [] hp1 n1 kr1 wr1 Po) : Rn (gG D cI cJ cZ cT lo b L xs) mL_law d 793 [(0, .ref b), (1, .ref a), (2, .ref (a + 41)), (3, .int (iv i))] [] hp n kr wr Po := by
  obtain ⟨Γ, rf, cn, nm, so, sz, dr, mn, fr, tt, wt, co, nu, qi, qc, nf, nt, nw, nc, sa, wo, ln, hw, ro, th, dn, dd, da, df, dt, dw, dc, kn, kd, ka, kf, kt, kw, kc, ht, hk, hrk, hdq, hm, hv, hwr9, hna, hkr, hwr⟩ := h
  have hmR := HM.same (fun q hq => (RW_o hq).symm : ∀ q : Nat, (q < a + 41 ∨ a + 41 + 43 ≤ q) → Γ q = (RW Γ cI cJ cZ (a + 41) rf cn nm so sz dr mn fr tt wt co nu qi qc nf nt nw nc sa wo ln hw ro) q) hm
  have hvR := HV.same (fun q hq => (RW_o hq).symm : ∀ q : Nat, (q < a + 41 ∨ a + 41 + 43 ≤ q) → Γ q = (RW Γ cI cJ cZ (a + 41) rf cn nm so sz dr mn fr tt wt co nu qi qc nf nt nw nc sa wo ln hw ro) q) hv
  have hcn9 := hk.1
  have hrv : -2147483648 ≤ rf ∧ rf ≤ 2147483647 := hrk.2.2.2.2.2.2.2.2.2.2.2.1
  refine r_aload_n (pc := 793) dL_law_793 (i := 1) rfl rfl ?_
  refine r_aload_n (pc := 794) dL_law_794 (i := 0) rfl rfl ?_
  refine r_iload_n (pc := 795) dL_law_795 (i := 3) rfl rfl ?_
  refine r_iconst (pc := 796) (v := iv 1) dL_law_796 (by decide) ?_
  refine r_iadd (pc := 797) (v := iv (i + 1)) dL_law_797 (iv_add _ _) ?_
  refine w_sld (pc := 798) (v := iv ((xs (Int.toNat (i + 1))).toInt)) dL_law_798 (iv_in (L := L) (by omega) (by omega)) (by rw [iv_clamp (by omega) (by omega)]; exact (iv_of _).symm) ?_
  have lo798 := iv_lo (xs (Int.toNat (i + 1)))
  have hi798 := iv_hi (xs (Int.toNat (i + 1)))
  refine r_aload_n (pc := 799) dL_law_799 (i := 0) rfl rfl ?_
  refine r_iload_n (pc := 800) dL_law_800 (i := 3) rfl rfl ?_
  refine r_iconst (pc := 801) (v := iv 2) dL_law_801 (by decide) ?_
  refine r_iadd (pc := 802) (v := iv (i + 2)) dL_law_802 (iv_add _ _) ?_
  refine w_sld (pc := 803) (v := iv ((xs (Int.toNat (i + 2))).toInt)) dL_law_803 (iv_in (L := L) (by omega) (by omega)) (by rw [iv_clamp (by omega) (by omega)]; exact (iv_of _).symm) ?_
  have lo803 := iv_lo (xs (Int.toNat (i + 2)))
  have hi803 := iv_hi (xs (Int.toNat (i + 2)))
  refine r_aload_n (pc := 804) dL_law_804 (i := 0) rfl rfl ?_
  refine r_iload_n (pc := 805) dL_law_805 (i := 3) rfl rfl ?_
  refine r_iconst (pc := 806) (v := iv 3) dL_law_806 (by decide) ?_
  refine r_iadd (pc := 807) (v := iv (i + 3)) dL_law_807 (iv_add _ _) ?_
  refine w_sld (pc := 808) (v := iv ((xs (Int.toNat (i + 3))).toInt)) dL_law_808 (iv_in (L := L) (by omega) (by omega)) (by rw [iv_clamp (by omega) (by omega)]; exact (iv_of _).symm) ?_
  have lo808 := iv_lo (xs (Int.toNat (i + 3)))
  have hi808 := iv_hi (xs (Int.toNat (i + 3)))
  obtain ⟨fs7, hfs7⟩ := t_obj ht (rd_of CG_0)
  refine r_callV (pc := 809) (as := [.int (iv ((xs (Int.toNat (i + 1))).toInt)), .int (iv ((xs (Int.toNat (i + 2))).toInt)), .int (iv ((xs (Int.toNat (i + 3))).toInt))]) (st := []) kL_83 rfl dL_law_809 hfs7 (y_X11_of (d := d - 1) (x1 := ((xs (Int.toNat (i + 1))).toInt)) (x2 := ((xs (Int.toNat (i + 2))).toInt)) (x3 := ((xs (Int.toNat (i + 3))).toInt)) (by omega) hk hmR hrv (by omega) ht (by omega) (by omega) (by omega)) rfl (by omega) (Nat.le_of_ble_eq_true rfl) (by omega) (by omega) rfl (fun r1 hp2 n3 hq4 => ?_)
  obtain ⟨hnn3, Γ8, rv8, kn8, kd8, ka8, kf8, kt8, kw8, kc8, hE8, ht5, hk8, hrv8, v8, hrr1, hA8, a1, a2⟩ := hq4
  subst r1
  have ex8 := RW_x hE8
  have ht6 := Tw_eq (Γ1 := (CG (RW Γ8 cI cJ cZ (a + 41) rf cn nm so sz dr mn fr tt wt co nu qi qc nf nt nw nc sa wo ln hw ro) cI cJ cZ cT a cn rv8 th dn dd da df dt dw dc kn8 kd8 ka8 kf8 kt8 kw8 kc8)) (by rw [ex8]) ht5
  have hk9 := hk8
  rw [← ex8] at hk9
  change Rn _ _ _ 812 _ [.int (iv v8)] _ _ _ _ _
  refine r_aload_n (pc := 812) dL_law_812 (i := 2) rfl rfl ?_
  refine r_aload_n (pc := 813) dL_law_813 (i := 0) rfl rfl ?_
  refine r_iload_n (pc := 814) dL_law_814 (i := 3) rfl rfl ?_
  refine r_iconst (pc := 815) (v := iv 1) dL_law_815 (by decide) ?_
  refine r_iadd (pc := 816) (v := iv (i + 1)) dL_law_816 (iv_add _ _) ?_
  refine w_sld (pc := 817) (v := iv ((xs (Int.toNat (i + 1))).toInt)) dL_law_817 (iv_in (L := L) (by omega) (by omega)) (by rw [iv_clamp (by omega) (by omega)]; exact (iv_of _).symm) ?_
  have lo817 := iv_lo (xs (Int.toNat (i + 1)))
  have hi817 := iv_hi (xs (Int.toNat (i + 1)))
  refine r_aload_n (pc := 818) dL_law_818 (i := 0) rfl rfl ?_
  refine r_iload_n (pc := 819) dL_law_819 (i := 3) rfl rfl ?_
  refine r_iconst (pc := 820) (v := iv 2) dL_law_820 (by decide) ?_
  refine r_iadd (pc := 821) (v := iv (i + 2)) dL_law_821 (iv_add _ _) ?_
  refine w_sld (pc := 822) (v := iv ((xs (Int.toNat (i + 2))).toInt)) dL_law_822 (iv_in (L := L) (by omega) (by omega)) (by rw [iv_clamp (by omega) (by omega)]; exact (iv_of _).symm) ?_
  have lo822 := iv_lo (xs (Int.toNat (i + 2)))
  have hi822 := iv_hi (xs (Int.toNat (i + 2)))
  refine r_aload_n (pc := 823) dL_law_823 (i := 0) rfl rfl ?_
  refine r_iload_n (pc := 824) dL_law_824 (i := 3) rfl rfl ?_
  refine r_iconst (pc := 825) (v := iv 3) dL_law_825 (by decide) ?_
  refine r_iadd (pc := 826) (v := iv (i + 3)) dL_law_826 (iv_add _ _) ?_
  refine w_sld (pc := 827) (v := iv ((xs (Int.toNat (i + 3))).toInt)) dL_law_827 (iv_in (L := L) (by omega) (by omega)) (by rw [iv_clamp (by omega) (by omega)]; exact (iv_of _).symm) ?_
  have lo827 := iv_lo (xs (Int.toNat (i + 3)))
  have hi827 := iv_hi (xs (Int.toNat (i + 3)))
  have ht13 := Tw_eq (Γ1 := RW (CG Γ8 cI cJ cZ cT a cn rv8 th dn dd da df dt dw dc kn8 kd8 ka8 kf8 kt8 kw8 kc8) cI cJ cZ (a + 41) rf cn nm so sz dr mn fr tt wt co nu qi qc nf nt nw nc sa wo ln hw ro) (CG_RW (by omega)) ht6
  obtain ⟨fs14, hfs14⟩ := t_obj ht13 (rd_of RW_y)
  refine r_callV (pc := 828) (as := [.int (iv ((xs (Int.toNat (i + 1))).toInt)), .int (iv ((xs (Int.toNat (i + 2))).toInt)), .int (iv ((xs (Int.toNat (i + 3))).toInt))]) (st := [.int (iv v8)]) kL_86 rfl dL_law_828 hfs14 (zw_X12_of (d := d - 1) (x1 := ((xs (Int.toNat (i + 1))).toInt)) (x2 := ((xs (Int.toNat (i + 2))).toInt)) (x3 := ((xs (Int.toNat (i + 3))).toInt)) (by omega) hrk hwr9 ht13 (by omega) (by omega) (by omega) (fun _ _ _ h => h)) rfl (by omega) (Nat.le_of_ble_eq_true rfl) (by omega) (by omega) rfl (fun r8 hp9 n10 hq11 => ?_)
  obtain ⟨hnn10, rf9, v9, ht12, hrr8, f0, f1, f2, f3, f4, f5⟩ := hq11
  subst n10 r8
  have hm9 := HM.ext hE8 hmR
  have hv9 := HV.ext hE8 hvR
  have her : rv8 = rf9 := hA8.trans f3.symm
  have hcmp : v8 = v9 := rd_q her a1 a2 f4 f5
  have her2 := her.symm
  subst her2
  rw [← CG_RW (by omega)] at ht12
  have hv9r : -2147483648 ≤ v9 ∧ v9 ≤ 2147483647 := by omega
  change Rn _ _ _ 831 _ [.int (iv v9), .int (iv v8)] _ _ _ _ _
  refine t_icmp_eq (pc := 831) (tgt := 1077) dL_law_831 (by decide) (by omega) (by omega) (fun c831 => ?_) (fun c831 => ?_)
  · refine Rn.pick (lv' := [(0, .ref b), (1, .ref a), (2, .ref (a + 41)), (3, .int (iv i))]) [0, 1, 2, 3] rfl ?_
    exact kk _ _ _ _ ⟨Γ8, rf9, cn, nm, so, sz, dr, mn, fr, tt, wt, co, nu, qi, qc, nf, nt, nw, nc, sa, wo, ln, hw, ro, th, dn, dd, da, df, dt, dw, dc, kn8, kd8, ka8, kf8, kt8, kw8, kc8, ht12, (EK.swapW hk9), f0, (DQ_r hdq f1), hm9, hv9, hwr9, by omega, by omega, by omega⟩
  · exfalso
    omega
