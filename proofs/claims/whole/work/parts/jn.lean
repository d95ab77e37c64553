set_option maxHeartbeats 4000000 in
set_option maxRecDepth 100000 in
theorem lm_16 {D : va_G} {cI cJ cZ cT : ClassId} {lo b L : Nat} {xs : Nat → Int32} {hp : MH} {n d kr wr a : Nat} {i : Int} {Po : Option Value → MH → Nat → Prop} (hd : 60 ≤ d) (hL : L ≤ 3584) (hi : 0 ≤ i ∧ i + 7 ≤ (L : Int))  (h : LK cI cJ cZ cT a L i hp n kr wr) (kk : ∀ (hp1 : MH) (n1 kr1 wr1 : Nat), LK cI cJ cZ cT a L (i + 7) hp1 n1 kr1 wr1 → Rn (gG D cI cJ cZ cT lo b L xs) mL_law d 1077 [(0, .ref b), (1, .ref a), (2, .ref (a + 41)), (3, .int (iv i))] [] hp1 n1 kr1 wr1 Po) : Rn (gG D cI cJ cZ cT lo b L xs) mL_law d 836 [(0, .ref b), (1, .ref a), (2, .ref (a + 41)), (3, .int (iv i))] [] hp n kr wr Po := by
  obtain ⟨Γ, rf, cn, nm, so, sz, dr, mn, fr, tt, wt, co, nu, qi, qc, nf, nt, nw, nc, sa, wo, ln, hw, ro, th, dn, dd, da, df, dt, dw, dc, kn, kd, ka, kf, kt, kw, kc, ht, hk, hrk, hdq, hm, hv, hwr9, hna, hkr, hwr⟩ := h
  have hmR := HM.same (fun q hq => (RW_o hq).symm : ∀ q : Nat, (q < a + 41 ∨ a + 41 + 43 ≤ q) → Γ q = (RW Γ cI cJ cZ (a + 41) rf cn nm so sz dr mn fr tt wt co nu qi qc nf nt nw nc sa wo ln hw ro) q) hm
  have hvR := HV.same (fun q hq => (RW_o hq).symm : ∀ q : Nat, (q < a + 41 ∨ a + 41 + 43 ≤ q) → Γ q = (RW Γ cI cJ cZ (a + 41) rf cn nm so sz dr mn fr tt wt co nu qi qc nf nt nw nc sa wo ln hw ro) q) hv
  have hcn9 := hk.1
  have hrv : -2147483648 ≤ rf ∧ rf ≤ 2147483647 := hrk.2.2.2.2.2.2.2.2.2.2.2.1
  refine r_aload_n (pc := 836) dL_law_836 (i := 1) rfl rfl ?_
  refine r_aload_n (pc := 837) dL_law_837 (i := 0) rfl rfl ?_
  refine r_iload_n (pc := 838) dL_law_838 (i := 3) rfl rfl ?_
  refine r_iconst (pc := 839) (v := iv 1) dL_law_839 (by decide) ?_
  refine r_iadd (pc := 840) (v := iv (i + 1)) dL_law_840 (iv_add _ _) ?_
  refine w_sld (pc := 841) (v := iv ((xs (Int.toNat (i + 1))).toInt)) dL_law_841 (iv_in (L := L) (by omega) (by omega)) (by rw [iv_clamp (by omega) (by omega)]; exact (iv_of _).symm) ?_
  have lo841 := iv_lo (xs (Int.toNat (i + 1)))
  have hi841 := iv_hi (xs (Int.toNat (i + 1)))
  refine r_aload_n (pc := 842) dL_law_842 (i := 0) rfl rfl ?_
  refine r_iload_n (pc := 843) dL_law_843 (i := 3) rfl rfl ?_
  refine r_iconst (pc := 844) (v := iv 2) dL_law_844 (by decide) ?_
  refine r_iadd (pc := 845) (v := iv (i + 2)) dL_law_845 (iv_add _ _) ?_
  refine w_sld (pc := 846) (v := iv ((xs (Int.toNat (i + 2))).toInt)) dL_law_846 (iv_in (L := L) (by omega) (by omega)) (by rw [iv_clamp (by omega) (by omega)]; exact (iv_of _).symm) ?_
  have lo846 := iv_lo (xs (Int.toNat (i + 2)))
  have hi846 := iv_hi (xs (Int.toNat (i + 2)))
  obtain ⟨fs7, hfs7⟩ := t_obj ht (rd_of CG_0)
  refine r_callV (pc := 847) (as := [.int (iv ((xs (Int.toNat (i + 1))).toInt)), .int (iv ((xs (Int.toNat (i + 2))).toInt))]) (st := []) kL_87 rfl dL_law_847 hfs7 (y_X11_at (d := d - 1) (x1 := ((xs (Int.toNat (i + 1))).toInt)) (x2 := ((xs (Int.toNat (i + 2))).toInt)) (by omega) hk hmR hrv (by omega) ht (by omega) (by omega)) rfl (by omega) (Nat.le_of_ble_eq_true rfl) (by omega) (by omega) rfl (fun r1 hp2 n3 hq4 => ?_)
  obtain ⟨hnn3, Γ8, rv8, kn8, kd8, ka8, kf8, kt8, kw8, kc8, hE8, ht5, hk8, hrv8, v8, hrr1, hA8, a1, a2, a3⟩ := hq4
  subst r1
  have ex8 := RW_x hE8
  have ht6 := Tw_eq (Γ1 := (CG (RW Γ8 cI cJ cZ (a + 41) rf cn nm so sz dr mn fr tt wt co nu qi qc nf nt nw nc sa wo ln hw ro) cI cJ cZ cT a cn rv8 th dn dd da df dt dw dc kn8 kd8 ka8 kf8 kt8 kw8 kc8)) (by rw [ex8]) ht5
  have hk9 := hk8
  rw [← ex8] at hk9
  change Rn _ _ _ 850 _ [.long v8] _ _ _ _ _
  refine r_aload_n (pc := 850) dL_law_850 (i := 2) rfl rfl ?_
  refine r_aload_n (pc := 851) dL_law_851 (i := 0) rfl rfl ?_
  refine r_iload_n (pc := 852) dL_law_852 (i := 3) rfl rfl ?_
  refine r_iconst (pc := 853) (v := iv 1) dL_law_853 (by decide) ?_
  refine r_iadd (pc := 854) (v := iv (i + 1)) dL_law_854 (iv_add _ _) ?_
  refine w_sld (pc := 855) (v := iv ((xs (Int.toNat (i + 1))).toInt)) dL_law_855 (iv_in (L := L) (by omega) (by omega)) (by rw [iv_clamp (by omega) (by omega)]; exact (iv_of _).symm) ?_
  have lo855 := iv_lo (xs (Int.toNat (i + 1)))
  have hi855 := iv_hi (xs (Int.toNat (i + 1)))
  refine r_aload_n (pc := 856) dL_law_856 (i := 0) rfl rfl ?_
  refine r_iload_n (pc := 857) dL_law_857 (i := 3) rfl rfl ?_
  refine r_iconst (pc := 858) (v := iv 2) dL_law_858 (by decide) ?_
  refine r_iadd (pc := 859) (v := iv (i + 2)) dL_law_859 (iv_add _ _) ?_
  refine w_sld (pc := 860) (v := iv ((xs (Int.toNat (i + 2))).toInt)) dL_law_860 (iv_in (L := L) (by omega) (by omega)) (by rw [iv_clamp (by omega) (by omega)]; exact (iv_of _).symm) ?_
  have lo860 := iv_lo (xs (Int.toNat (i + 2)))
  have hi860 := iv_hi (xs (Int.toNat (i + 2)))
  have ht13 := Tw_eq (Γ1 := RW (CG Γ8 cI cJ cZ cT a cn rv8 th dn dd da df dt dw dc kn8 kd8 ka8 kf8 kt8 kw8 kc8) cI cJ cZ (a + 41) rf cn nm so sz dr mn fr tt wt co nu qi qc nf nt nw nc sa wo ln hw ro) (CG_RW (by omega)) ht6
  obtain ⟨fs14, hfs14⟩ := t_obj ht13 (rd_of RW_y)
  refine r_callV (pc := 861) (as := [.int (iv ((xs (Int.toNat (i + 1))).toInt)), .int (iv ((xs (Int.toNat (i + 2))).toInt))]) (st := [.long v8]) kL_91 rfl dL_law_861 hfs14 (zw_X12_at (d := d - 1) (x1 := ((xs (Int.toNat (i + 1))).toInt)) (x2 := ((xs (Int.toNat (i + 2))).toInt)) (by omega) hrk hwr9 ht13 (by omega) (by omega) (fun _ _ _ h => h)) rfl (by omega) (Nat.le_of_ble_eq_true rfl) (by omega) (by omega) rfl (fun r8 hp9 n10 hq11 => ?_)
  obtain ⟨hnn10, rf9, v9, ht12, hrr8, f0, f1, f2, f3, f4, f5⟩ := hq11
  subst n10 r8
  have hm9 := HM.ext hE8 hmR
  have hv9 := HV.ext hE8 hvR
  have her : rv8 = rf9 := hA8.trans f2.symm
  have hcmp : v8 = v9 := rd_qJ her a1 a2 a3 f3 f4 f5
  have her2 := her.symm
  subst her2
  subst hcmp
  rw [← CG_RW (by omega)] at ht12
  change Rn _ _ _ 864 _ [.long v8, .long v8] _ _ _ _ _
  refine r_lcmp (pc := 864) dL_law_864 ?_
  refine t_lif_eq (pc := 865) (tgt := 1077) dL_law_865 (by decide) (fun c865 => ?_) (fun c865 => ?_)
  · refine Rn.pick (lv' := [(0, .ref b), (1, .ref a), (2, .ref (a + 41)), (3, .int (iv i))]) [0, 1, 2, 3] rfl ?_
    exact kk _ _ _ _ ⟨Γ8, rf9, cn, nm, so, sz, dr, mn, fr, tt, wt, co, nu, qi, qc, nf, nt, nw, nc, sa, wo, ln, hw, ro, th, dn, dd, da, df, dt, dw, dc, kn8, kd8, ka8, kf8, kt8, kw8, kc8, ht12, (EK.swapW hk9), f0, (DQ_r hdq f1), hm9, hv9, hwr9, by omega, by omega, by omega⟩
  · exfalso
    omega
set_option maxHeartbeats 4000000 in
set_option maxRecDepth 100000 in
theorem lm_17 {D : va_G} {cI cJ cZ cT : ClassId} {lo b L : Nat} {xs : Nat → Int32} {hp : MH} {n d kr wr a : Nat} {i : Int} {Po : Option Value → MH → Nat → Prop} (hd : 60 ≤ d) (hL : L ≤ 3584) (hi : 0 ≤ i ∧ i + 7 ≤ (L : Int))  (h : LK cI cJ cZ cT a L i hp n kr wr) (kk : ∀ (hp1 : MH) (n1 kr1 wr1 : Nat), LK cI cJ cZ cT a L (i + 7) hp1 n1 kr1 wr1 → Rn (gG D cI cJ cZ cT lo b L xs) mL_law d 1077 [(0, .ref b), (1, .ref a), (2, .ref (a + 41)), (3, .int (iv i))] [] hp1 n1 kr1 wr1 Po) : Rn (gG D cI cJ cZ cT lo b L xs) mL_law d 870 [(0, .ref b), (1, .ref a), (2, .ref (a + 41)), (3, .int (iv i))] [] hp n kr wr Po := by
  obtain ⟨Γ, rf, cn, nm, so, sz, dr, mn, fr, tt, wt, co, nu, qi, qc, nf, nt, nw, nc, sa, wo, ln, hw, ro, th, dn, dd, da, df, dt, dw, dc, kn, kd, ka, kf, kt, kw, kc, ht, hk, hrk, hdq, hm, hv, hwr9, hna, hkr, hwr⟩ := h
  have hmR := HM.same (fun q hq => (RW_o hq).symm : ∀ q : Nat, (q < a + 41 ∨ a + 41 + 43 ≤ q) → Γ q = (RW Γ cI cJ cZ (a + 41) rf cn nm so sz dr mn fr tt wt co nu qi qc nf nt nw nc sa wo ln hw ro) q) hm
  have hvR := HV.same (fun q hq => (RW_o hq).symm : ∀ q : Nat, (q < a + 41 ∨ a + 41 + 43 ≤ q) → Γ q = (RW Γ cI cJ cZ (a + 41) rf cn nm so sz dr mn fr tt wt co nu qi qc nf nt nw nc sa wo ln hw ro) q) hv
  have hcn9 := hk.1
  have hrv : -2147483648 ≤ rf ∧ rf ≤ 2147483647 := hrk.2.2.2.2.2.2.2.2.2.2.2.1
  refine r_aload_n (pc := 870) dL_law_870 (i := 1) rfl rfl ?_
  refine r_aload_n (pc := 871) dL_law_871 (i := 0) rfl rfl ?_
  refine r_iload_n (pc := 872) dL_law_872 (i := 3) rfl rfl ?_
  refine r_iconst (pc := 873) (v := iv 1) dL_law_873 (by decide) ?_
  refine r_iadd (pc := 874) (v := iv (i + 1)) dL_law_874 (iv_add _ _) ?_
  refine w_sld (pc := 875) (v := iv ((xs (Int.toNat (i + 1))).toInt)) dL_law_875 (iv_in (L := L) (by omega) (by omega)) (by rw [iv_clamp (by omega) (by omega)]; exact (iv_of _).symm) ?_
  have lo875 := iv_lo (xs (Int.toNat (i + 1)))
  have hi875 := iv_hi (xs (Int.toNat (i + 1)))
  refine r_aload_n (pc := 876) dL_law_876 (i := 0) rfl rfl ?_
  refine r_iload_n (pc := 877) dL_law_877 (i := 3) rfl rfl ?_
  refine r_iconst (pc := 878) (v := iv 2) dL_law_878 (by decide) ?_
  refine r_iadd (pc := 879) (v := iv (i + 2)) dL_law_879 (iv_add _ _) ?_
  refine w_sld (pc := 880) (v := iv ((xs (Int.toNat (i + 2))).toInt)) dL_law_880 (iv_in (L := L) (by omega) (by omega)) (by rw [iv_clamp (by omega) (by omega)]; exact (iv_of _).symm) ?_
  have lo880 := iv_lo (xs (Int.toNat (i + 2)))
  have hi880 := iv_hi (xs (Int.toNat (i + 2)))
  refine r_aload_n (pc := 881) dL_law_881 (i := 0) rfl rfl ?_
  refine r_iload_n (pc := 882) dL_law_882 (i := 3) rfl rfl ?_
  refine r_iconst (pc := 883) (v := iv 3) dL_law_883 (by decide) ?_
  refine r_iadd (pc := 884) (v := iv (i + 3)) dL_law_884 (iv_add _ _) ?_
  refine w_sld (pc := 885) (v := iv ((xs (Int.toNat (i + 3))).toInt)) dL_law_885 (iv_in (L := L) (by omega) (by omega)) (by rw [iv_clamp (by omega) (by omega)]; exact (iv_of _).symm) ?_
  have lo885 := iv_lo (xs (Int.toNat (i + 3)))
  have hi885 := iv_hi (xs (Int.toNat (i + 3)))
  obtain ⟨fs7, hfs7⟩ := t_obj ht (rd_of CG_0)
  refine r_callV (pc := 886) (as := [.int (iv ((xs (Int.toNat (i + 1))).toInt)), .int (iv ((xs (Int.toNat (i + 2))).toInt)), .int (iv ((xs (Int.toNat (i + 3))).toInt))]) (st := []) kL_92 rfl dL_law_886 hfs7 (y3_X11_way (d := d - 1) (x1 := ((xs (Int.toNat (i + 1))).toInt)) (x2 := ((xs (Int.toNat (i + 2))).toInt)) (x3 := ((xs (Int.toNat (i + 3))).toInt)) (by omega) hk hmR hrv (by omega) ht (by omega) (by omega) (by omega) hvR) rfl (by omega) (Nat.le_of_ble_eq_true rfl) (by omega) (by omega) rfl (fun r1 hp2 n3 hq4 => ?_)
  obtain ⟨hnn3, Γ8, rv8, kn8, kd8, ka8, kf8, kt8, kw8, kc8, hE8, ht5, hk8, hrv8, v8, hrr1, hA8, a1, a2⟩ := hq4
  subst r1
  have ex8 := RW_x hE8
  have ht6 := Tw_eq (Γ1 := (CG (RW Γ8 cI cJ cZ (a + 41) rf cn nm so sz dr mn fr tt wt co nu qi qc nf nt nw nc sa wo ln hw ro) cI cJ cZ cT a cn rv8 th dn dd da df dt dw dc kn8 kd8 ka8 kf8 kt8 kw8 kc8)) (by rw [ex8]) ht5
  have hk9 := hk8
  rw [← ex8] at hk9
  change Rn _ _ _ 889 _ [.long v8] _ _ _ _ _
  refine r_aload_n (pc := 889) dL_law_889 (i := 2) rfl rfl ?_
  refine r_aload_n (pc := 890) dL_law_890 (i := 0) rfl rfl ?_
  refine r_iload_n (pc := 891) dL_law_891 (i := 3) rfl rfl ?_
  refine r_iconst (pc := 892) (v := iv 1) dL_law_892 (by decide) ?_
  refine r_iadd (pc := 893) (v := iv (i + 1)) dL_law_893 (iv_add _ _) ?_
  refine w_sld (pc := 894) (v := iv ((xs (Int.toNat (i + 1))).toInt)) dL_law_894 (iv_in (L := L) (by omega) (by omega)) (by rw [iv_clamp (by omega) (by omega)]; exact (iv_of _).symm) ?_
  have lo894 := iv_lo (xs (Int.toNat (i + 1)))
  have hi894 := iv_hi (xs (Int.toNat (i + 1)))
  refine r_aload_n (pc := 895) dL_law_895 (i := 0) rfl rfl ?_
  refine r_iload_n (pc := 896) dL_law_896 (i := 3) rfl rfl ?_
  refine r_iconst (pc := 897) (v := iv 2) dL_law_897 (by decide) ?_
  refine r_iadd (pc := 898) (v := iv (i + 2)) dL_law_898 (iv_add _ _) ?_
  refine w_sld (pc := 899) (v := iv ((xs (Int.toNat (i + 2))).toInt)) dL_law_899 (iv_in (L := L) (by omega) (by omega)) (by rw [iv_clamp (by omega) (by omega)]; exact (iv_of _).symm) ?_
  have lo899 := iv_lo (xs (Int.toNat (i + 2)))
  have hi899 := iv_hi (xs (Int.toNat (i + 2)))
  refine r_aload_n (pc := 900) dL_law_900 (i := 0) rfl rfl ?_
  refine r_iload_n (pc := 901) dL_law_901 (i := 3) rfl rfl ?_
  refine r_iconst (pc := 902) (v := iv 3) dL_law_902 (by decide) ?_
  refine r_iadd (pc := 903) (v := iv (i + 3)) dL_law_903 (iv_add _ _) ?_
  refine w_sld (pc := 904) (v := iv ((xs (Int.toNat (i + 3))).toInt)) dL_law_904 (iv_in (L := L) (by omega) (by omega)) (by rw [iv_clamp (by omega) (by omega)]; exact (iv_of _).symm) ?_
  have lo904 := iv_lo (xs (Int.toNat (i + 3)))
  have hi904 := iv_hi (xs (Int.toNat (i + 3)))
  have ht13 := Tw_eq (Γ1 := RW (CG Γ8 cI cJ cZ cT a cn rv8 th dn dd da df dt dw dc kn8 kd8 ka8 kf8 kt8 kw8 kc8) cI cJ cZ (a + 41) rf cn nm so sz dr mn fr tt wt co nu qi qc nf nt nw nc sa wo ln hw ro) (CG_RW (by omega)) ht6
  obtain ⟨fs14, hfs14⟩ := t_obj ht13 (rd_of RW_y)
  refine r_callV (pc := 905) (as := [.int (iv ((xs (Int.toNat (i + 1))).toInt)), .int (iv ((xs (Int.toNat (i + 2))).toInt)), .int (iv ((xs (Int.toNat (i + 3))).toInt))]) (st := [.long v8]) kL_96 rfl dL_law_905 hfs14 (zw_X12_way (d := d - 1) (x1 := ((xs (Int.toNat (i + 1))).toInt)) (x2 := ((xs (Int.toNat (i + 2))).toInt)) (x3 := ((xs (Int.toNat (i + 3))).toInt)) (by omega) hrk hwr9 ht13 (by omega) (by omega) (by omega) (fun _ _ _ h => h)) rfl (by omega) (Nat.le_of_ble_eq_true rfl) (by omega) (by omega) rfl (fun r8 hp9 n10 hq11 => ?_)
  obtain ⟨hnn10, rf9, v9, ht12, hrr8, f0, f1, f2, f3, f4⟩ := hq11
  subst n10 r8
  have hm9 := HM.ext hE8 hmR
  have hv9 := HV.ext hE8 hvR
  have her : rv8 = rf9 := hA8.trans f2.symm
  have her2 := her.symm
  subst her2
  have hcmp : v8 = v9 := rd_qL rfl a1 a2 f3 f4
  subst hcmp
  rw [← CG_RW (by omega)] at ht12
  change Rn _ _ _ 908 _ [.long v8, .long v8] _ _ _ _ _
  refine r_lcmp (pc := 908) dL_law_908 ?_
  refine t_lif_eq (pc := 909) (tgt := 1077) dL_law_909 (by decide) (fun c909 => ?_) (fun c909 => ?_)
  · refine Rn.pick (lv' := [(0, .ref b), (1, .ref a), (2, .ref (a + 41)), (3, .int (iv i))]) [0, 1, 2, 3] rfl ?_
    exact kk _ _ _ _ ⟨Γ8, rf9, cn, nm, so, sz, dr, mn, fr, tt, wt, co, nu, qi, qc, nf, nt, nw, nc, sa, wo, ln, hw, ro, th, dn, dd, da, df, dt, dw, dc, kn8, kd8, ka8, kf8, kt8, kw8, kc8, ht12, (EK.swapW hk9), f0, (DQ_r hdq f1), hm9, hv9, hwr9, by omega, by omega, by omega⟩
  · exfalso
    omega
set_option maxHeartbeats 4000000 in
set_option maxRecDepth 100000 in
theorem lm_18 {D : va_G} {cI cJ cZ cT : ClassId} {lo b L : Nat} {xs : Nat → Int32} {hp : MH} {n d kr wr a : Nat} {i : Int} {Po : Option Value → MH → Nat → Prop} (hd : 60 ≤ d) (hL : L ≤ 3584) (hi : 0 ≤ i ∧ i + 7 ≤ (L : Int))  (h : LK cI cJ cZ cT a L i hp n kr wr) (kk : ∀ (hp1 : MH) (n1 kr1 wr1 : Nat), LK cI cJ cZ cT a L (i + 7) hp1 n1 kr1 wr1 → Rn (gG D cI cJ cZ cT lo b L xs) mL_law d 1077 [(0, .ref b), (1, .ref a), (2, .ref (a + 41)), (3, .int (iv i))] [] hp1 n1 kr1 wr1 Po) : Rn (gG D cI cJ cZ cT lo b L xs) mL_law d 914 [(0, .ref b), (1, .ref a), (2, .ref (a + 41)), (3, .int (iv i))] [] hp n kr wr Po := by
  obtain ⟨Γ, rf, cn, nm, so, sz, dr, mn, fr, tt, wt, co, nu, qi, qc, nf, nt, nw, nc, sa, wo, ln, hw, ro, th, dn, dd, da, df, dt, dw, dc, kn, kd, ka, kf, kt, kw, kc, ht, hk, hrk, hdq, hm, hv, hwr9, hna, hkr, hwr⟩ := h
  have hmR := HM.same (fun q hq => (RW_o hq).symm : ∀ q : Nat, (q < a + 41 ∨ a + 41 + 43 ≤ q) → Γ q = (RW Γ cI cJ cZ (a + 41) rf cn nm so sz dr mn fr tt wt co nu qi qc nf nt nw nc sa wo ln hw ro) q) hm
  have hvR := HV.same (fun q hq => (RW_o hq).symm : ∀ q : Nat, (q < a + 41 ∨ a + 41 + 43 ≤ q) → Γ q = (RW Γ cI cJ cZ (a + 41) rf cn nm so sz dr mn fr tt wt co nu qi qc nf nt nw nc sa wo ln hw ro) q) hv
  have hcn9 := hk.1
  have hrv : -2147483648 ≤ rf ∧ rf ≤ 2147483647 := hrk.2.2.2.2.2.2.2.2.2.2.2.1
  refine r_aload_n (pc := 914) dL_law_914 (i := 1) rfl rfl ?_
  refine r_aload_n (pc := 915) dL_law_915 (i := 0) rfl rfl ?_
  refine r_iload_n (pc := 916) dL_law_916 (i := 3) rfl rfl ?_
  refine r_iconst (pc := 917) (v := iv 1) dL_law_917 (by decide) ?_
  refine r_iadd (pc := 918) (v := iv (i + 1)) dL_law_918 (iv_add _ _) ?_
  refine w_sld (pc := 919) (v := iv ((xs (Int.toNat (i + 1))).toInt)) dL_law_919 (iv_in (L := L) (by omega) (by omega)) (by rw [iv_clamp (by omega) (by omega)]; exact (iv_of _).symm) ?_
  have lo919 := iv_lo (xs (Int.toNat (i + 1)))
  have hi919 := iv_hi (xs (Int.toNat (i + 1)))
  refine r_aload_n (pc := 920) dL_law_920 (i := 0) rfl rfl ?_
  refine r_iload_n (pc := 921) dL_law_921 (i := 3) rfl rfl ?_
  refine r_iconst (pc := 922) (v := iv 2) dL_law_922 (by decide) ?_
  refine r_iadd (pc := 923) (v := iv (i + 2)) dL_law_923 (iv_add _ _) ?_
  refine w_sld (pc := 924) (v := iv ((xs (Int.toNat (i + 2))).toInt)) dL_law_924 (iv_in (L := L) (by omega) (by omega)) (by rw [iv_clamp (by omega) (by omega)]; exact (iv_of _).symm) ?_
  have lo924 := iv_lo (xs (Int.toNat (i + 2)))
  have hi924 := iv_hi (xs (Int.toNat (i + 2)))
  refine r_aload_n (pc := 925) dL_law_925 (i := 0) rfl rfl ?_
  refine r_iload_n (pc := 926) dL_law_926 (i := 3) rfl rfl ?_
  refine r_iconst (pc := 927) (v := iv 3) dL_law_927 (by decide) ?_
  refine r_iadd (pc := 928) (v := iv (i + 3)) dL_law_928 (iv_add _ _) ?_
  refine w_sld (pc := 929) (v := iv ((xs (Int.toNat (i + 3))).toInt)) dL_law_929 (iv_in (L := L) (by omega) (by omega)) (by rw [iv_clamp (by omega) (by omega)]; exact (iv_of _).symm) ?_
  have lo929 := iv_lo (xs (Int.toNat (i + 3)))
  have hi929 := iv_hi (xs (Int.toNat (i + 3)))
  obtain ⟨fs7, hfs7⟩ := t_obj ht (rd_of CG_0)
  refine r_callV (pc := 930) (as := [.int (iv ((xs (Int.toNat (i + 1))).toInt)), .int (iv ((xs (Int.toNat (i + 2))).toInt)), .int (iv ((xs (Int.toNat (i + 3))).toInt))]) (st := []) kL_97 rfl dL_law_930 hfs7 (y3_X11_step (d := d - 1) (x1 := ((xs (Int.toNat (i + 1))).toInt)) (x2 := ((xs (Int.toNat (i + 2))).toInt)) (x3 := ((xs (Int.toNat (i + 3))).toInt)) (by omega) hk hmR hrv (by omega) ht (by omega) (by omega) (by omega) hvR) rfl (by omega) (Nat.le_of_ble_eq_true rfl) (by omega) (by omega) rfl (fun r1 hp2 n3 hq4 => ?_)
  obtain ⟨hnn3, Γ8, rv8, kn8, kd8, ka8, kf8, kt8, kw8, kc8, hE8, ht5, hk8, hrv8, v8, hrr1, hA8, hvr8, a1, a2⟩ := hq4
  subst r1
  have ex8 := RW_x hE8
  have ht6 := Tw_eq (Γ1 := (CG (RW Γ8 cI cJ cZ (a + 41) rf cn nm so sz dr mn fr tt wt co nu qi qc nf nt nw nc sa wo ln hw ro) cI cJ cZ cT a cn rv8 th dn dd da df dt dw dc kn8 kd8 ka8 kf8 kt8 kw8 kc8)) (by rw [ex8]) ht5
  have hk9 := hk8
  rw [← ex8] at hk9
  change Rn _ _ _ 933 _ [.int (iv v8)] _ _ _ _ _
  refine r_aload_n (pc := 933) dL_law_933 (i := 2) rfl rfl ?_
  refine r_aload_n (pc := 934) dL_law_934 (i := 0) rfl rfl ?_
  refine r_iload_n (pc := 935) dL_law_935 (i := 3) rfl rfl ?_
  refine r_iconst (pc := 936) (v := iv 1) dL_law_936 (by decide) ?_
  refine r_iadd (pc := 937) (v := iv (i + 1)) dL_law_937 (iv_add _ _) ?_
  refine w_sld (pc := 938) (v := iv ((xs (Int.toNat (i + 1))).toInt)) dL_law_938 (iv_in (L := L) (by omega) (by omega)) (by rw [iv_clamp (by omega) (by omega)]; exact (iv_of _).symm) ?_
  have lo938 := iv_lo (xs (Int.toNat (i + 1)))
  have hi938 := iv_hi (xs (Int.toNat (i + 1)))
  refine r_aload_n (pc := 939) dL_law_939 (i := 0) rfl rfl ?_
  refine r_iload_n (pc := 940) dL_law_940 (i := 3) rfl rfl ?_
  refine r_iconst (pc := 941) (v := iv 2) dL_law_941 (by decide) ?_
  refine r_iadd (pc := 942) (v := iv (i + 2)) dL_law_942 (iv_add _ _) ?_
  refine w_sld (pc := 943) (v := iv ((xs (Int.toNat (i + 2))).toInt)) dL_law_943 (iv_in (L := L) (by omega) (by omega)) (by rw [iv_clamp (by omega) (by omega)]; exact (iv_of _).symm) ?_
  have lo943 := iv_lo (xs (Int.toNat (i + 2)))
  have hi943 := iv_hi (xs (Int.toNat (i + 2)))
  refine r_aload_n (pc := 944) dL_law_944 (i := 0) rfl rfl ?_
  refine r_iload_n (pc := 945) dL_law_945 (i := 3) rfl rfl ?_
  refine r_iconst (pc := 946) (v := iv 3) dL_law_946 (by decide) ?_
  refine r_iadd (pc := 947) (v := iv (i + 3)) dL_law_947 (iv_add _ _) ?_
  refine w_sld (pc := 948) (v := iv ((xs (Int.toNat (i + 3))).toInt)) dL_law_948 (iv_in (L := L) (by omega) (by omega)) (by rw [iv_clamp (by omega) (by omega)]; exact (iv_of _).symm) ?_
  have lo948 := iv_lo (xs (Int.toNat (i + 3)))
  have hi948 := iv_hi (xs (Int.toNat (i + 3)))
  have ht13 := Tw_eq (Γ1 := RW (CG Γ8 cI cJ cZ cT a cn rv8 th dn dd da df dt dw dc kn8 kd8 ka8 kf8 kt8 kw8 kc8) cI cJ cZ (a + 41) rf cn nm so sz dr mn fr tt wt co nu qi qc nf nt nw nc sa wo ln hw ro) (CG_RW (by omega)) ht6
  obtain ⟨fs14, hfs14⟩ := t_obj ht13 (rd_of RW_y)
  refine r_callV (pc := 949) (as := [.int (iv ((xs (Int.toNat (i + 1))).toInt)), .int (iv ((xs (Int.toNat (i + 2))).toInt)), .int (iv ((xs (Int.toNat (i + 3))).toInt))]) (st := [.int (iv v8)]) kL_100 rfl dL_law_949 hfs14 (zw_X12_step (d := d - 1) (x1 := ((xs (Int.toNat (i + 1))).toInt)) (x2 := ((xs (Int.toNat (i + 2))).toInt)) (x3 := ((xs (Int.toNat (i + 3))).toInt)) (by omega) hrk hwr9 ht13 (by omega) (by omega) (by omega) (fun _ _ _ h => h)) rfl (by omega) (Nat.le_of_ble_eq_true rfl) (by omega) (by omega) rfl (fun r8 hp9 n10 hq11 => ?_)
  obtain ⟨hnn10, rf9, v9, ht12, hrr8, f0, f1, f2, f3, f4, f5⟩ := hq11
  subst n10 r8
  have hm9 := HM.ext hE8 hmR
  have hv9 := HV.ext hE8 hvR
  have her : rv8 = rf9 := hA8.trans f3.symm
  have her2 := her.symm
  subst her2
  have hcmp : v8 = v9 := rd_q rfl a1 a2 f4 f5
  rw [← CG_RW (by omega)] at ht12
  have hv9r : -2147483648 ≤ v9 ∧ v9 ≤ 2147483647 := by omega
  change Rn _ _ _ 952 _ [.int (iv v9), .int (iv v8)] _ _ _ _ _
  refine t_icmp_eq (pc := 952) (tgt := 1077) dL_law_952 (by decide) (by omega) (by omega) (fun c952 => ?_) (fun c952 => ?_)
  · refine Rn.pick (lv' := [(0, .ref b), (1, .ref a), (2, .ref (a + 41)), (3, .int (iv i))]) [0, 1, 2, 3] rfl ?_
    exact kk _ _ _ _ ⟨Γ8, rf9, cn, nm, so, sz, dr, mn, fr, tt, wt, co, nu, qi, qc, nf, nt, nw, nc, sa, wo, ln, hw, ro, th, dn, dd, da, df, dt, dw, dc, kn8, kd8, ka8, kf8, kt8, kw8, kc8, ht12, (EK.swapW hk9), f0, (DQ_r hdq f1), hm9, hv9, hwr9, by omega, by omega, by omega⟩
  · exfalso
    omega
set_option maxHeartbeats 4000000 in
set_option maxRecDepth 100000 in
theorem lm_19 {D : va_G} {cI cJ cZ cT : ClassId} {lo b L : Nat} {xs : Nat → Int32} {hp : MH} {n d kr wr a : Nat} {i : Int} {Po : Option Value → MH → Nat → Prop} (hd : 60 ≤ d) (hL : L ≤ 3584) (hi : 0 ≤ i ∧ i + 7 ≤ (L : Int))  (h : LK cI cJ cZ cT a L i hp n kr wr) (kk : ∀ (hp1 : MH) (n1 kr1 wr1 : Nat), LK cI cJ cZ cT a L (i + 7) hp1 n1 kr1 wr1 → Rn (gG D cI cJ cZ cT lo b L xs) mL_law d 1077 [(0, .ref b), (1, .ref a), (2, .ref (a + 41)), (3, .int (iv i))] [] hp1 n1 kr1 wr1 Po) : Rn (gG D cI cJ cZ cT lo b L xs) mL_law d 957 [(0, .ref b), (1, .ref a), (2, .ref (a + 41)), (3, .int (iv i))] [] hp n kr wr Po := by
  obtain ⟨Γ, rf, cn, nm, so, sz, dr, mn, fr, tt, wt, co, nu, qi, qc, nf, nt, nw, nc, sa, wo, ln, hw, ro, th, dn, dd, da, df, dt, dw, dc, kn, kd, ka, kf, kt, kw, kc, ht, hk, hrk, hdq, hm, hv, hwr9, hna, hkr, hwr⟩ := h
  have hmR := HM.same (fun q hq => (RW_o hq).symm : ∀ q : Nat, (q < a + 41 ∨ a + 41 + 43 ≤ q) → Γ q = (RW Γ cI cJ cZ (a + 41) rf cn nm so sz dr mn fr tt wt co nu qi qc nf nt nw nc sa wo ln hw ro) q) hm
  have hvR := HV.same (fun q hq => (RW_o hq).symm : ∀ q : Nat, (q < a + 41 ∨ a + 41 + 43 ≤ q) → Γ q = (RW Γ cI cJ cZ (a + 41) rf cn nm so sz dr mn fr tt wt co nu qi qc nf nt nw nc sa wo ln hw ro) q) hv
  have hcn9 := hk.1
  have hrv : -2147483648 ≤ rf ∧ rf ≤ 2147483647 := hrk.2.2.2.2.2.2.2.2.2.2.2.1
  refine r_aload_n (pc := 957) dL_law_957 (i := 1) rfl rfl ?_
  refine r_aload_n (pc := 958) dL_law_958 (i := 0) rfl rfl ?_
  refine r_iload_n (pc := 959) dL_law_959 (i := 3) rfl rfl ?_
  refine r_iconst (pc := 960) (v := iv 1) dL_law_960 (by decide) ?_
  refine r_iadd (pc := 961) (v := iv (i + 1)) dL_law_961 (iv_add _ _) ?_
  refine w_sld (pc := 962) (v := iv ((xs (Int.toNat (i + 1))).toInt)) dL_law_962 (iv_in (L := L) (by omega) (by omega)) (by rw [iv_clamp (by omega) (by omega)]; exact (iv_of _).symm) ?_
  have lo962 := iv_lo (xs (Int.toNat (i + 1)))
  have hi962 := iv_hi (xs (Int.toNat (i + 1)))
  refine r_aload_n (pc := 963) dL_law_963 (i := 0) rfl rfl ?_
  refine r_iload_n (pc := 964) dL_law_964 (i := 3) rfl rfl ?_
  refine r_iconst (pc := 965) (v := iv 2) dL_law_965 (by decide) ?_
  refine r_iadd (pc := 966) (v := iv (i + 2)) dL_law_966 (iv_add _ _) ?_
  refine w_sld (pc := 967) (v := iv ((xs (Int.toNat (i + 2))).toInt)) dL_law_967 (iv_in (L := L) (by omega) (by omega)) (by rw [iv_clamp (by omega) (by omega)]; exact (iv_of _).symm) ?_
  have lo967 := iv_lo (xs (Int.toNat (i + 2)))
  have hi967 := iv_hi (xs (Int.toNat (i + 2)))
  obtain ⟨fs7, hfs7⟩ := t_obj ht (rd_of CG_0)
  refine r_callV (pc := 968) (as := [.int (iv ((xs (Int.toNat (i + 1))).toInt)), .int (iv ((xs (Int.toNat (i + 2))).toInt))]) (st := []) kL_101 rfl dL_law_968 hfs7 (y_X11_part (d := d - 1) (x1 := ((xs (Int.toNat (i + 1))).toInt)) (x2 := ((xs (Int.toNat (i + 2))).toInt)) (by omega) hk hmR hrv (by omega) ht (by omega) (by omega)) rfl (by omega) (Nat.le_of_ble_eq_true rfl) (by omega) (by omega) rfl (fun r1 hp2 n3 hq4 => ?_)
  obtain ⟨hnn3, Γ8, rv8, kn8, kd8, ka8, kf8, kt8, kw8, kc8, hE8, ht5, hk8, hrv8, v8, hrr1, hA8, a1, a2, a3⟩ := hq4
  subst r1
  have ex8 := RW_x hE8
  have ht6 := Tw_eq (Γ1 := (CG (RW Γ8 cI cJ cZ (a + 41) rf cn nm so sz dr mn fr tt wt co nu qi qc nf nt nw nc sa wo ln hw ro) cI cJ cZ cT a cn rv8 th dn dd da df dt dw dc kn8 kd8 ka8 kf8 kt8 kw8 kc8)) (by rw [ex8]) ht5
  have hk9 := hk8
  rw [← ex8] at hk9
  change Rn _ _ _ 971 _ [.int (iv v8)] _ _ _ _ _
  refine r_aload_n (pc := 971) dL_law_971 (i := 2) rfl rfl ?_
  refine r_aload_n (pc := 972) dL_law_972 (i := 0) rfl rfl ?_
  refine r_iload_n (pc := 973) dL_law_973 (i := 3) rfl rfl ?_
  refine r_iconst (pc := 974) (v := iv 1) dL_law_974 (by decide) ?_
  refine r_iadd (pc := 975) (v := iv (i + 1)) dL_law_975 (iv_add _ _) ?_
  refine w_sld (pc := 976) (v := iv ((xs (Int.toNat (i + 1))).toInt)) dL_law_976 (iv_in (L := L) (by omega) (by omega)) (by rw [iv_clamp (by omega) (by omega)]; exact (iv_of _).symm) ?_
  have lo976 := iv_lo (xs (Int.toNat (i + 1)))
  have hi976 := iv_hi (xs (Int.toNat (i + 1)))
  refine r_aload_n (pc := 977) dL_law_977 (i := 0) rfl rfl ?_
  refine r_iload_n (pc := 978) dL_law_978 (i := 3) rfl rfl ?_
  refine r_iconst (pc := 979) (v := iv 2) dL_law_979 (by decide) ?_
  refine r_iadd (pc := 980) (v := iv (i + 2)) dL_law_980 (iv_add _ _) ?_
  refine w_sld (pc := 981) (v := iv ((xs (Int.toNat (i + 2))).toInt)) dL_law_981 (iv_in (L := L) (by omega) (by omega)) (by rw [iv_clamp (by omega) (by omega)]; exact (iv_of _).symm) ?_
  have lo981 := iv_lo (xs (Int.toNat (i + 2)))
  have hi981 := iv_hi (xs (Int.toNat (i + 2)))
  have ht13 := Tw_eq (Γ1 := RW (CG Γ8 cI cJ cZ cT a cn rv8 th dn dd da df dt dw dc kn8 kd8 ka8 kf8 kt8 kw8 kc8) cI cJ cZ (a + 41) rf cn nm so sz dr mn fr tt wt co nu qi qc nf nt nw nc sa wo ln hw ro) (CG_RW (by omega)) ht6
  obtain ⟨fs14, hfs14⟩ := t_obj ht13 (rd_of RW_y)
  refine r_callV (pc := 982) (as := [.int (iv ((xs (Int.toNat (i + 1))).toInt)), .int (iv ((xs (Int.toNat (i + 2))).toInt))]) (st := [.int (iv v8)]) kL_105 rfl dL_law_982 hfs14 (zw_X12_part (d := d - 1) (x1 := ((xs (Int.toNat (i + 1))).toInt)) (x2 := ((xs (Int.toNat (i + 2))).toInt)) (by omega) hrk hwr9 ht13 (by omega) (by omega) (fun _ _ _ h => h)) rfl (by omega) (Nat.le_of_ble_eq_true rfl) (by omega) (by omega) rfl (fun r8 hp9 n10 hq11 => ?_)
  obtain ⟨hnn10, rf9, v9, ht12, hrr8, f0, f1, f2, f3, f4, f5, f6⟩ := hq11
  subst n10 r8
  have hm9 := HM.ext hE8 hmR
  have hv9 := HV.ext hE8 hvR
  have her : rv8 = rf9 := hA8.trans f3.symm
  have hcmp : v8 = v9 := rd_q2 her a1 a2 a3 f4 f5 f6
  have her2 := her.symm
  subst her2
  rw [← CG_RW (by omega)] at ht12
  have hv9r : -2147483648 ≤ v9 ∧ v9 ≤ 2147483647 := by omega
  change Rn _ _ _ 985 _ [.int (iv v9), .int (iv v8)] _ _ _ _ _
  refine t_icmp_eq (pc := 985) (tgt := 1077) dL_law_985 (by decide) (by omega) (by omega) (fun c985 => ?_) (fun c985 => ?_)
  · refine Rn.pick (lv' := [(0, .ref b), (1, .ref a), (2, .ref (a + 41)), (3, .int (iv i))]) [0, 1, 2, 3] rfl ?_
    exact kk _ _ _ _ ⟨Γ8, rf9, cn, nm, so, sz, dr, mn, fr, tt, wt, co, nu, qi, qc, nf, nt, nw, nc, sa, wo, ln, hw, ro, th, dn, dd, da, df, dt, dw, dc, kn8, kd8, ka8, kf8, kt8, kw8, kc8, ht12, (EK.swapW hk9), f0, (DQ_r hdq f1), hm9, hv9, hwr9, by omega, by omega, by omega⟩
  · exfalso
    omega
set_option maxHeartbeats 4000000 in
set_option maxRecDepth 100000 in
theorem lm_20 {D : va_G} {cI cJ cZ cT : ClassId} {lo b L : Nat} {xs : Nat → Int32} {hp : MH} {n d kr wr a : Nat} {i : Int} {Po : Option Value → MH → Nat → Prop} (hd : 60 ≤ d) (hL : L ≤ 3584) (hi : 0 ≤ i ∧ i + 7 ≤ (L : Int))  (h : LK cI cJ cZ cT a L i hp n kr wr) (kk : ∀ (hp1 : MH) (n1 kr1 wr1 : Nat), LK cI cJ cZ cT a L (i + 7) hp1 n1 kr1 wr1 → Rn (gG D cI cJ cZ cT lo b L xs) mL_law d 1077 [(0, .ref b), (1, .ref a), (2, .ref (a + 41)), (3, .int (iv i))] [] hp1 n1 kr1 wr1 Po) : Rn (gG D cI cJ cZ cT lo b L xs) mL_law d 990 [(0, .ref b), (1, .ref a), (2, .ref (a + 41)), (3, .int (iv i))] [] hp n kr wr Po := by
  obtain ⟨Γ, rf, cn, nm, so, sz, dr, mn, fr, tt, wt, co, nu, qi, qc, nf, nt, nw, nc, sa, wo, ln, hw, ro, th, dn, dd, da, df, dt, dw, dc, kn, kd, ka, kf, kt, kw, kc, ht, hk, hrk, hdq, hm, hv, hwr9, hna, hkr, hwr⟩ := h
  have hmR := HM.same (fun q hq => (RW_o hq).symm : ∀ q : Nat, (q < a + 41 ∨ a + 41 + 43 ≤ q) → Γ q = (RW Γ cI cJ cZ (a + 41) rf cn nm so sz dr mn fr tt wt co nu qi qc nf nt nw nc sa wo ln hw ro) q) hm
  have hvR := HV.same (fun q hq => (RW_o hq).symm : ∀ q : Nat, (q < a + 41 ∨ a + 41 + 43 ≤ q) → Γ q = (RW Γ cI cJ cZ (a + 41) rf cn nm so sz dr mn fr tt wt co nu qi qc nf nt nw nc sa wo ln hw ro) q) hv
  have hcn9 := hk.1
  have hrv : -2147483648 ≤ rf ∧ rf ≤ 2147483647 := hrk.2.2.2.2.2.2.2.2.2.2.2.1
  refine r_aload_n (pc := 990) dL_law_990 (i := 1) rfl rfl ?_
  refine r_aload_n (pc := 991) dL_law_991 (i := 0) rfl rfl ?_
  refine r_iload_n (pc := 992) dL_law_992 (i := 3) rfl rfl ?_
  refine r_iconst (pc := 993) (v := iv 1) dL_law_993 (by decide) ?_
  refine r_iadd (pc := 994) (v := iv (i + 1)) dL_law_994 (iv_add _ _) ?_
  refine w_sld (pc := 995) (v := iv ((xs (Int.toNat (i + 1))).toInt)) dL_law_995 (iv_in (L := L) (by omega) (by omega)) (by rw [iv_clamp (by omega) (by omega)]; exact (iv_of _).symm) ?_
  have lo995 := iv_lo (xs (Int.toNat (i + 1)))
  have hi995 := iv_hi (xs (Int.toNat (i + 1)))
  refine r_aload_n (pc := 996) dL_law_996 (i := 0) rfl rfl ?_
  refine r_iload_n (pc := 997) dL_law_997 (i := 3) rfl rfl ?_
  refine r_iconst (pc := 998) (v := iv 2) dL_law_998 (by decide) ?_
  refine r_iadd (pc := 999) (v := iv (i + 2)) dL_law_999 (iv_add _ _) ?_
  refine w_sld (pc := 1000) (v := iv ((xs (Int.toNat (i + 2))).toInt)) dL_law_1000 (iv_in (L := L) (by omega) (by omega)) (by rw [iv_clamp (by omega) (by omega)]; exact (iv_of _).symm) ?_
  have lo1000 := iv_lo (xs (Int.toNat (i + 2)))
  have hi1000 := iv_hi (xs (Int.toNat (i + 2)))
  obtain ⟨fs7, hfs7⟩ := t_obj ht (rd_of CG_0)
  refine r_callV (pc := 1001) (as := [.int (iv ((xs (Int.toNat (i + 1))).toInt)), .int (iv ((xs (Int.toNat (i + 2))).toInt))]) (st := []) kL_106 rfl dL_law_1001 hfs7 (y_X11_members (d := d - 1) (x1 := ((xs (Int.toNat (i + 1))).toInt)) (x2 := ((xs (Int.toNat (i + 2))).toInt)) (by omega) hk hmR hrv (by omega) ht (by omega) (by omega)) rfl (by omega) (Nat.le_of_ble_eq_true rfl) (by omega) (by omega) rfl (fun r1 hp2 n3 hq4 => ?_)
  obtain ⟨hnn3, Γ8, rv8, kn8, kd8, ka8, kf8, kt8, kw8, kc8, hE8, ht5, hk8, hrv8, v8, hrr1, hA8, a1, a2⟩ := hq4
  subst r1
  have ex8 := RW_x hE8
  have ht6 := Tw_eq (Γ1 := (CG (RW Γ8 cI cJ cZ (a + 41) rf cn nm so sz dr mn fr tt wt co nu qi qc nf nt nw nc sa wo ln hw ro) cI cJ cZ cT a cn rv8 th dn dd da df dt dw dc kn8 kd8 ka8 kf8 kt8 kw8 kc8)) (by rw [ex8]) ht5
  have hk9 := hk8
  rw [← ex8] at hk9
  change Rn _ _ _ 1004 _ [.int (iv v8)] _ _ _ _ _
  refine r_aload_n (pc := 1004) dL_law_1004 (i := 2) rfl rfl ?_
  refine r_aload_n (pc := 1005) dL_law_1005 (i := 0) rfl rfl ?_
  refine r_iload_n (pc := 1006) dL_law_1006 (i := 3) rfl rfl ?_
  refine r_iconst (pc := 1007) (v := iv 1) dL_law_1007 (by decide) ?_
  refine r_iadd (pc := 1008) (v := iv (i + 1)) dL_law_1008 (iv_add _ _) ?_
  refine w_sld (pc := 1009) (v := iv ((xs (Int.toNat (i + 1))).toInt)) dL_law_1009 (iv_in (L := L) (by omega) (by omega)) (by rw [iv_clamp (by omega) (by omega)]; exact (iv_of _).symm) ?_
  have lo1009 := iv_lo (xs (Int.toNat (i + 1)))
  have hi1009 := iv_hi (xs (Int.toNat (i + 1)))
  refine r_aload_n (pc := 1010) dL_law_1010 (i := 0) rfl rfl ?_
  refine r_iload_n (pc := 1011) dL_law_1011 (i := 3) rfl rfl ?_
  refine r_iconst (pc := 1012) (v := iv 2) dL_law_1012 (by decide) ?_
  refine r_iadd (pc := 1013) (v := iv (i + 2)) dL_law_1013 (iv_add _ _) ?_
  refine w_sld (pc := 1014) (v := iv ((xs (Int.toNat (i + 2))).toInt)) dL_law_1014 (iv_in (L := L) (by omega) (by omega)) (by rw [iv_clamp (by omega) (by omega)]; exact (iv_of _).symm) ?_
  have lo1014 := iv_lo (xs (Int.toNat (i + 2)))
  have hi1014 := iv_hi (xs (Int.toNat (i + 2)))
  have ht13 := Tw_eq (Γ1 := RW (CG Γ8 cI cJ cZ cT a cn rv8 th dn dd da df dt dw dc kn8 kd8 ka8 kf8 kt8 kw8 kc8) cI cJ cZ (a + 41) rf cn nm so sz dr mn fr tt wt co nu qi qc nf nt nw nc sa wo ln hw ro) (CG_RW (by omega)) ht6
  obtain ⟨fs14, hfs14⟩ := t_obj ht13 (rd_of RW_y)
  refine r_callV (pc := 1015) (as := [.int (iv ((xs (Int.toNat (i + 1))).toInt)), .int (iv ((xs (Int.toNat (i + 2))).toInt))]) (st := [.int (iv v8)]) kL_109 rfl dL_law_1015 hfs14 (zw_X12_members (d := d - 1) (x1 := ((xs (Int.toNat (i + 1))).toInt)) (x2 := ((xs (Int.toNat (i + 2))).toInt)) (by omega) hrk hwr9 ht13 (by omega) (by omega) (fun _ _ _ h => h)) rfl (by omega) (Nat.le_of_ble_eq_true rfl) (by omega) (by omega) rfl (fun r8 hp9 n10 hq11 => ?_)
  obtain ⟨hnn10, rf9, v9, ht12, hrr8, f0, f1, f2, f3, f4, f5⟩ := hq11
  subst n10 r8
  have hm9 := HM.ext hE8 hmR
  have hv9 := HV.ext hE8 hvR
  have her : rv8 = rf9 := hA8.trans f3.symm
  have hcmp : v8 = v9 := rd_qM her a1 a2 f4 f5
  have her2 := her.symm
  subst her2
  rw [← CG_RW (by omega)] at ht12
  have hv9r : -2147483648 ≤ v9 ∧ v9 ≤ 2147483647 := by omega
  change Rn _ _ _ 1018 _ [.int (iv v9), .int (iv v8)] _ _ _ _ _
  refine t_icmp_eq (pc := 1018) (tgt := 1077) dL_law_1018 (by decide) (by omega) (by omega) (fun c1018 => ?_) (fun c1018 => ?_)
  · refine Rn.pick (lv' := [(0, .ref b), (1, .ref a), (2, .ref (a + 41)), (3, .int (iv i))]) [0, 1, 2, 3] rfl ?_
    exact kk _ _ _ _ ⟨Γ8, rf9, cn, nm, so, sz, dr, mn, fr, tt, wt, co, nu, qi, qc, nf, nt, nw, nc, sa, wo, ln, hw, ro, th, dn, dd, da, df, dt, dw, dc, kn8, kd8, ka8, kf8, kt8, kw8, kc8, ht12, (EK.swapW hk9), f0, (DQ_r hdq f1), hm9, hv9, hwr9, by omega, by omega, by omega⟩
  · exfalso
    omega
set_option maxHeartbeats 4000000 in
set_option maxRecDepth 100000 in
theorem lm_21 {D : va_G} {cI cJ cZ cT : ClassId} {lo b L : Nat} {xs : Nat → Int32} {hp : MH} {n d kr wr a : Nat} {i : Int} {Po : Option Value → MH → Nat → Prop} (hd : 60 ≤ d) (hL : L ≤ 3584) (hi : 0 ≤ i ∧ i + 7 ≤ (L : Int))  (h : LK cI cJ cZ cT a L i hp n kr wr) (kk : ∀ (hp1 : MH) (n1 kr1 wr1 : Nat), LK cI cJ cZ cT a L (i + 7) hp1 n1 kr1 wr1 → Rn (gG D cI cJ cZ cT lo b L xs) mL_law d 1077 [(0, .ref b), (1, .ref a), (2, .ref (a + 41)), (3, .int (iv i))] [] hp1 n1 kr1 wr1 Po) : Rn (gG D cI cJ cZ cT lo b L xs) mL_law d 1023 [(0, .ref b), (1, .ref a), (2, .ref (a + 41)), (3, .int (iv i))] [] hp n kr wr Po := by
  obtain ⟨Γ, rf, cn, nm, so, sz, dr, mn, fr, tt, wt, co, nu, qi, qc, nf, nt, nw, nc, sa, wo, ln, hw, ro, th, dn, dd, da, df, dt, dw, dc, kn, kd, ka, kf, kt, kw, kc, ht, hk, hrk, hdq, hm, hv, hwr9, hna, hkr, hwr⟩ := h
  have hmR := HM.same (fun q hq => (RW_o hq).symm : ∀ q : Nat, (q < a + 41 ∨ a + 41 + 43 ≤ q) → Γ q = (RW Γ cI cJ cZ (a + 41) rf cn nm so sz dr mn fr tt wt co nu qi qc nf nt nw nc sa wo ln hw ro) q) hm
  have hvR := HV.same (fun q hq => (RW_o hq).symm : ∀ q : Nat, (q < a + 41 ∨ a + 41 + 43 ≤ q) → Γ q = (RW Γ cI cJ cZ (a + 41) rf cn nm so sz dr mn fr tt wt co nu qi qc nf nt nw nc sa wo ln hw ro) q) hv
  have hcn9 := hk.1
  have hrv : -2147483648 ≤ rf ∧ rf ≤ 2147483647 := hrk.2.2.2.2.2.2.2.2.2.2.2.1
  refine r_aload_n (pc := 1023) dL_law_1023 (i := 1) rfl rfl ?_
  refine r_aload_n (pc := 1024) dL_law_1024 (i := 0) rfl rfl ?_
  refine r_iload_n (pc := 1025) dL_law_1025 (i := 3) rfl rfl ?_
  refine r_iconst (pc := 1026) (v := iv 1) dL_law_1026 (by decide) ?_
  refine r_iadd (pc := 1027) (v := iv (i + 1)) dL_law_1027 (iv_add _ _) ?_
  refine w_sld (pc := 1028) (v := iv ((xs (Int.toNat (i + 1))).toInt)) dL_law_1028 (iv_in (L := L) (by omega) (by omega)) (by rw [iv_clamp (by omega) (by omega)]; exact (iv_of _).symm) ?_
  have lo1028 := iv_lo (xs (Int.toNat (i + 1)))
  have hi1028 := iv_hi (xs (Int.toNat (i + 1)))
  refine r_aload_n (pc := 1029) dL_law_1029 (i := 0) rfl rfl ?_
  refine r_iload_n (pc := 1030) dL_law_1030 (i := 3) rfl rfl ?_
  refine r_iconst (pc := 1031) (v := iv 2) dL_law_1031 (by decide) ?_
  refine r_iadd (pc := 1032) (v := iv (i + 2)) dL_law_1032 (iv_add _ _) ?_
  refine w_sld (pc := 1033) (v := iv ((xs (Int.toNat (i + 2))).toInt)) dL_law_1033 (iv_in (L := L) (by omega) (by omega)) (by rw [iv_clamp (by omega) (by omega)]; exact (iv_of _).symm) ?_
  have lo1033 := iv_lo (xs (Int.toNat (i + 2)))
  have hi1033 := iv_hi (xs (Int.toNat (i + 2)))
  refine r_aload_n (pc := 1034) dL_law_1034 (i := 0) rfl rfl ?_
  refine r_iload_n (pc := 1035) dL_law_1035 (i := 3) rfl rfl ?_
  refine r_iconst (pc := 1036) (v := iv 3) dL_law_1036 (by decide) ?_
  refine r_iadd (pc := 1037) (v := iv (i + 3)) dL_law_1037 (iv_add _ _) ?_
  refine w_sld (pc := 1038) (v := iv ((xs (Int.toNat (i + 3))).toInt)) dL_law_1038 (iv_in (L := L) (by omega) (by omega)) (by rw [iv_clamp (by omega) (by omega)]; exact (iv_of _).symm) ?_
  have lo1038 := iv_lo (xs (Int.toNat (i + 3)))
  have hi1038 := iv_hi (xs (Int.toNat (i + 3)))
  refine r_aload_n (pc := 1039) dL_law_1039 (i := 0) rfl rfl ?_
  refine r_iload_n (pc := 1040) dL_law_1040 (i := 3) rfl rfl ?_
  refine r_iconst (pc := 1041) (v := iv 4) dL_law_1041 (by decide) ?_
  refine r_iadd (pc := 1042) (v := iv (i + 4)) dL_law_1042 (iv_add _ _) ?_
  refine w_sld (pc := 1043) (v := iv ((xs (Int.toNat (i + 4))).toInt)) dL_law_1043 (iv_in (L := L) (by omega) (by omega)) (by rw [iv_clamp (by omega) (by omega)]; exact (iv_of _).symm) ?_
  have lo1043 := iv_lo (xs (Int.toNat (i + 4)))
  have hi1043 := iv_hi (xs (Int.toNat (i + 4)))
  obtain ⟨fs7, hfs7⟩ := t_obj ht (rd_of CG_0)
  refine r_callV (pc := 1044) (as := [.int (iv ((xs (Int.toNat (i + 1))).toInt)), .int (iv ((xs (Int.toNat (i + 2))).toInt)), .int (iv ((xs (Int.toNat (i + 3))).toInt)), .int (iv ((xs (Int.toNat (i + 4))).toInt))]) (st := []) kL_110 rfl dL_law_1044 hfs7 (y5_X11_ask (d := d - 1) (x1 := ((xs (Int.toNat (i + 1))).toInt)) (x2 := ((xs (Int.toNat (i + 2))).toInt)) (x3 := ((xs (Int.toNat (i + 3))).toInt)) (x4 := ((xs (Int.toNat (i + 4))).toInt)) (by omega) hk hmR hrv (by omega) ht (by omega) (by omega) (by omega) (by omega)) rfl (by omega) (Nat.le_of_ble_eq_true rfl) (by omega) (by omega) rfl (fun r1 hp2 n3 hq4 => ?_)
  obtain ⟨hnn3, Γ8, rv8, kn8, kd8, ka8, kf8, kt8, kw8, kc8, hE8, ht5, hk8, hrv8, v8, hrr1, hA8, a1, a2⟩ := hq4
  subst r1
  have ex8 := RW_x hE8
  have ht6 := Tw_eq (Γ1 := (CG (RW Γ8 cI cJ cZ (a + 41) rf cn nm so sz dr mn fr tt wt co nu qi qc nf nt nw nc sa wo ln hw ro) cI cJ cZ cT a cn rv8 th dn dd da df dt dw dc kn8 kd8 ka8 kf8 kt8 kw8 kc8)) (by rw [ex8]) ht5
  have hk9 := hk8
  rw [← ex8] at hk9
  change Rn _ _ _ 1047 _ [.long v8] _ _ _ _ _
  refine r_aload_n (pc := 1047) dL_law_1047 (i := 2) rfl rfl ?_
  refine r_aload_n (pc := 1048) dL_law_1048 (i := 0) rfl rfl ?_
  refine r_iload_n (pc := 1049) dL_law_1049 (i := 3) rfl rfl ?_
  refine r_iconst (pc := 1050) (v := iv 1) dL_law_1050 (by decide) ?_
  refine r_iadd (pc := 1051) (v := iv (i + 1)) dL_law_1051 (iv_add _ _) ?_
  refine w_sld (pc := 1052) (v := iv ((xs (Int.toNat (i + 1))).toInt)) dL_law_1052 (iv_in (L := L) (by omega) (by omega)) (by rw [iv_clamp (by omega) (by omega)]; exact (iv_of _).symm) ?_
  have lo1052 := iv_lo (xs (Int.toNat (i + 1)))
  have hi1052 := iv_hi (xs (Int.toNat (i + 1)))
  refine r_aload_n (pc := 1053) dL_law_1053 (i := 0) rfl rfl ?_
  refine r_iload_n (pc := 1054) dL_law_1054 (i := 3) rfl rfl ?_
  refine r_iconst (pc := 1055) (v := iv 2) dL_law_1055 (by decide) ?_
  refine r_iadd (pc := 1056) (v := iv (i + 2)) dL_law_1056 (iv_add _ _) ?_
  refine w_sld (pc := 1057) (v := iv ((xs (Int.toNat (i + 2))).toInt)) dL_law_1057 (iv_in (L := L) (by omega) (by omega)) (by rw [iv_clamp (by omega) (by omega)]; exact (iv_of _).symm) ?_
  have lo1057 := iv_lo (xs (Int.toNat (i + 2)))
  have hi1057 := iv_hi (xs (Int.toNat (i + 2)))
  refine r_aload_n (pc := 1058) dL_law_1058 (i := 0) rfl rfl ?_
  refine r_iload_n (pc := 1059) dL_law_1059 (i := 3) rfl rfl ?_
  refine r_iconst (pc := 1060) (v := iv 3) dL_law_1060 (by decide) ?_
  refine r_iadd (pc := 1061) (v := iv (i + 3)) dL_law_1061 (iv_add _ _) ?_
  refine w_sld (pc := 1062) (v := iv ((xs (Int.toNat (i + 3))).toInt)) dL_law_1062 (iv_in (L := L) (by omega) (by omega)) (by rw [iv_clamp (by omega) (by omega)]; exact (iv_of _).symm) ?_
  have lo1062 := iv_lo (xs (Int.toNat (i + 3)))
  have hi1062 := iv_hi (xs (Int.toNat (i + 3)))
  refine r_aload_n (pc := 1063) dL_law_1063 (i := 0) rfl rfl ?_
  refine r_iload_n (pc := 1064) dL_law_1064 (i := 3) rfl rfl ?_
  refine r_iconst (pc := 1065) (v := iv 4) dL_law_1065 (by decide) ?_
  refine r_iadd (pc := 1066) (v := iv (i + 4)) dL_law_1066 (iv_add _ _) ?_
  refine w_sld (pc := 1067) (v := iv ((xs (Int.toNat (i + 4))).toInt)) dL_law_1067 (iv_in (L := L) (by omega) (by omega)) (by rw [iv_clamp (by omega) (by omega)]; exact (iv_of _).symm) ?_
  have lo1067 := iv_lo (xs (Int.toNat (i + 4)))
  have hi1067 := iv_hi (xs (Int.toNat (i + 4)))
  have ht13 := Tw_eq (Γ1 := RW (CG Γ8 cI cJ cZ cT a cn rv8 th dn dd da df dt dw dc kn8 kd8 ka8 kf8 kt8 kw8 kc8) cI cJ cZ (a + 41) rf cn nm so sz dr mn fr tt wt co nu qi qc nf nt nw nc sa wo ln hw ro) (CG_RW (by omega)) ht6
  obtain ⟨fs14, hfs14⟩ := t_obj ht13 (rd_of RW_y)
  refine r_callV (pc := 1068) (as := [.int (iv ((xs (Int.toNat (i + 1))).toInt)), .int (iv ((xs (Int.toNat (i + 2))).toInt)), .int (iv ((xs (Int.toNat (i + 3))).toInt)), .int (iv ((xs (Int.toNat (i + 4))).toInt))]) (st := [.long v8]) kL_114 rfl dL_law_1068 hfs14 (zy_X12_ask (d := d - 1) (x1 := ((xs (Int.toNat (i + 1))).toInt)) (x2 := ((xs (Int.toNat (i + 2))).toInt)) (x3 := ((xs (Int.toNat (i + 3))).toInt)) (x4 := ((xs (Int.toNat (i + 4))).toInt)) (by omega) hrk ht13 (by omega) (by omega) (by omega) (by omega)) rfl (by omega) (Nat.le_of_ble_eq_true rfl) (by omega) (by omega) rfl (fun r8 hp9 n10 hq11 => ?_)
  obtain ⟨hnn10, rf9, cn9, nm9, so9, sz9, dr9, mn9, fr9, tt9, wt9, co9, nu9, qi9, qc9, nf9, nt9, nw9, nc9, sa9, wo9, ln9, hw9, ro9, v9, ht12, hrr8, f0, f1, f2, f3, f4, f5⟩ := hq11
  subst n10 r8
  have hm9 := HM.ext hE8 hmR
  have hv9 := HV.ext hE8 hvR
  have her : rv8 = rf9 := hA8.trans f2.symm
  have her2 := her.symm
  subst her2
  obtain ⟨s10, s11, s12, s1, s2, s3, s4, s5, s6, s7, s8, s9, s13, s14, s15, s16, s17⟩ := f3
  subst s10 s11 s12 s1 s2 s3 s4 s5 s6 s7 s8 s9 s13 s14 s15 s16 s17
  have hcmp : v8 = v9 := ask_eq hrk f2 a1 a2 f4 f5
  subst hcmp
  rw [← CG_RW (by omega)] at ht12
  change Rn _ _ _ 1071 _ [.long v8, .long v8] _ _ _ _ _
  refine r_lcmp (pc := 1071) dL_law_1071 ?_
  refine t_lif_eq (pc := 1072) (tgt := 1077) dL_law_1072 (by decide) (fun c1072 => ?_) (fun c1072 => ?_)
  · refine Rn.pick (lv' := [(0, .ref b), (1, .ref a), (2, .ref (a + 41)), (3, .int (iv i))]) [0, 1, 2, 3] rfl ?_
    exact kk _ _ _ _ ⟨Γ8, rf9, cn9, nm9, so9, sz9, dr9, mn9, fr9, tt9, wt9, co9, nu9, qi9, qc9, nf9, nt9, nw9, nc9, sa9, wo9, ln9, hw9, ro9, th, dn, dd, da, df, dt, dw, dc, kn8, kd8, ka8, kf8, kt8, kw8, kc8, ht12, (EK.swapW hk9), f0, (DQ_r hdq f1), hm9, hv9, hwr9, by omega, by omega, by omega⟩
  · exfalso
    omega
