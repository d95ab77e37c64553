set_option maxHeartbeats 4000000 in
set_option maxRecDepth 100000 in
theorem lm_0 {D : va_G} {cI cJ cZ cT : ClassId} {lo b L : Nat} {xs : Nat → Int32} {hp : MH} {n d kr wr a : Nat} {i : Int} {Po : Option Value → MH → Nat → Prop} (hd : 60 ≤ d) (hL : L ≤ 3584) (hi : 0 ≤ i ∧ i + 7 ≤ (L : Int))  (h : LK cI cJ cZ cT a L i hp n kr wr) (kk : ∀ (hp1 : MH) (n1 kr1 wr1 : Nat), LK cI cJ cZ cT a L (i + 7) hp1 n1 kr1 wr1 → Rn (gG D cI cJ cZ cT lo b L xs) mL_law d 1077 [(0, .ref b), (1, .ref a), (2, .ref (a + 41)), (3, .int (iv i))] [] hp1 n1 kr1 wr1 Po) : Rn (gG D cI cJ cZ cT lo b L xs) mL_law d 136 [(0, .ref b), (1, .ref a), (2, .ref (a + 41)), (3, .int (iv i))] [] hp n kr wr Po := by
  obtain ⟨Γ, rf, cn, nm, so, sz, dr, mn, fr, tt, wt, co, nu, qi, qc, nf, nt, nw, nc, sa, wo, ln, hw, ro, th, dn, dd, da, df, dt, dw, dc, kn, kd, ka, kf, kt, kw, kc, ht, hk, hrk, hdq, hm, hv, hwr9, hna, hkr, hwr⟩ := h
  have hmR := HM.same (fun q hq => (RW_o hq).symm : ∀ q : Nat, (q < a + 41 ∨ a + 41 + 43 ≤ q) → Γ q = (RW Γ cI cJ cZ (a + 41) rf cn nm so sz dr mn fr tt wt co nu qi qc nf nt nw nc sa wo ln hw ro) q) hm
  have hvR := HV.same (fun q hq => (RW_o hq).symm : ∀ q : Nat, (q < a + 41 ∨ a + 41 + 43 ≤ q) → Γ q = (RW Γ cI cJ cZ (a + 41) rf cn nm so sz dr mn fr tt wt co nu qi qc nf nt nw nc sa wo ln hw ro) q) hv
  have hcn9 := hk.1
  have hrv : -2147483648 ≤ rf ∧ rf ≤ 2147483647 := hrk.2.2.2.2.2.2.2.2.2.2.2.1
  refine r_aload_n (pc := 136) dL_law_136 (i := 1) rfl rfl ?_
  refine r_aload_n (pc := 137) dL_law_137 (i := 0) rfl rfl ?_
  refine r_iload_n (pc := 138) dL_law_138 (i := 3) rfl rfl ?_
  refine r_iconst (pc := 139) (v := iv 1) dL_law_139 (by decide) ?_
  refine r_iadd (pc := 140) (v := iv (i + 1)) dL_law_140 (iv_add _ _) ?_
  refine w_sld (pc := 141) (v := iv ((xs (Int.toNat (i + 1))).toInt)) dL_law_141 (iv_in (L := L) (by omega) (by omega)) (by rw [iv_clamp (by omega) (by omega)]; exact (iv_of _).symm) ?_
  have lo141 := iv_lo (xs (Int.toNat (i + 1)))
  have hi141 := iv_hi (xs (Int.toNat (i + 1)))
  refine r_aload_n (pc := 142) dL_law_142 (i := 0) rfl rfl ?_
  refine r_iload_n (pc := 143) dL_law_143 (i := 3) rfl rfl ?_
  refine r_iconst (pc := 144) (v := iv 2) dL_law_144 (by decide) ?_
  refine r_iadd (pc := 145) (v := iv (i + 2)) dL_law_145 (iv_add _ _) ?_
  refine w_sld (pc := 146) (v := iv ((xs (Int.toNat (i + 2))).toInt)) dL_law_146 (iv_in (L := L) (by omega) (by omega)) (by rw [iv_clamp (by omega) (by omega)]; exact (iv_of _).symm) ?_
  have lo146 := iv_lo (xs (Int.toNat (i + 2)))
  have hi146 := iv_hi (xs (Int.toNat (i + 2)))
  refine t_if_eq (pc := 147) (tgt := 154) dL_law_147 (by decide) (by omega) (fun c147 => ?_) (fun c147 => ?_)
  · refine r_iconst (pc := 154) (v := iv 0) dL_law_154 (by decide) ?_
    obtain ⟨fs7, hfs7⟩ := t_obj ht (rd_of CG_0)
    refine r_callV (pc := 155) (as := [.int (iv ((xs (Int.toNat (i + 1))).toInt)), .int (iv 0)]) (st := []) kL_13 rfl dL_law_155 hfs7 (y_X11_begin (d := d - 1) (x1 := ((xs (Int.toNat (i + 1))).toInt)) (x2 := 0) (by omega) hk hrv ht (by omega) (by omega)) rfl (by omega) (Nat.le_of_ble_eq_true rfl) (by omega) (by omega) rfl (fun r1 hp2 n3 hq4 => ?_)
    obtain ⟨hnn3, rv8, dn8, dd8, da8, v8, ht5, hrr1, hB⟩ := hq4
    subst n3 r1
    have hk8 : EK (RW Γ cI cJ cZ (a + 41) rf cn nm so sz dr mn fr tt wt co nu qi qc nf nt nw nc sa wo ln hw ro) cI cJ cZ a cn th dn8 dd8 da8 df dt dw dc kn kd ka := by
      rcases hB with ⟨h1, e1, e2, e3, e4, e5⟩ | ⟨h1, e1, e2, e3, e4, e5⟩
      · rw [e1, e2, e3]; exact EK.dr hk (by omega) (by omega) (by omega) (ar_0 _ _ _ _ _)
      · rw [e1, e2, e3]; exact hk
    have bv8 : 0 ≤ v8 ∧ v8 ≤ 1 := by omega
    change Rn _ _ _ 158 _ [.int (iv v8)] _ _ _ _ _
    refine r_aload_n (pc := 158) dL_law_158 (i := 2) rfl rfl ?_
    refine r_aload_n (pc := 159) dL_law_159 (i := 0) rfl rfl ?_
    refine r_iload_n (pc := 160) dL_law_160 (i := 3) rfl rfl ?_
    refine r_iconst (pc := 161) (v := iv 1) dL_law_161 (by decide) ?_
    refine r_iadd (pc := 162) (v := iv (i + 1)) dL_law_162 (iv_add _ _) ?_
    refine w_sld (pc := 163) (v := iv ((xs (Int.toNat (i + 1))).toInt)) dL_law_163 (iv_in (L := L) (by omega) (by omega)) (by rw [iv_clamp (by omega) (by omega)]; exact (iv_of _).symm) ?_
    have lo163 := iv_lo (xs (Int.toNat (i + 1)))
    have hi163 := iv_hi (xs (Int.toNat (i + 1)))
    refine r_aload_n (pc := 164) dL_law_164 (i := 0) rfl rfl ?_
    refine r_iload_n (pc := 165) dL_law_165 (i := 3) rfl rfl ?_
    refine r_iconst (pc := 166) (v := iv 2) dL_law_166 (by decide) ?_
    refine r_iadd (pc := 167) (v := iv (i + 2)) dL_law_167 (iv_add _ _) ?_
    refine w_sld (pc := 168) (v := iv ((xs (Int.toNat (i + 2))).toInt)) dL_law_168 (iv_in (L := L) (by omega) (by omega)) (by rw [iv_clamp (by omega) (by omega)]; exact (iv_of _).symm) ?_
    have lo168 := iv_lo (xs (Int.toNat (i + 2)))
    have hi168 := iv_hi (xs (Int.toNat (i + 2)))
    refine t_if_eq (pc := 169) (tgt := 176) dL_law_169 (by decide) (by omega) (fun c169 => ?_) (fun c169 => ?_)
    · refine r_iconst (pc := 176) (v := iv 0) dL_law_176 (by decide) ?_
      have ht13 := Tw_eq (Γ1 := RW (CG Γ cI cJ cZ cT a cn rv8 th dn8 dd8 da8 df dt dw dc kn kd ka kf kt kw kc) cI cJ cZ (a + 41) rf cn nm so sz dr mn fr tt wt co nu qi qc nf nt nw nc sa wo ln hw ro) (CG_RW (by omega)) ht5
      obtain ⟨fs14, hfs14⟩ := t_obj ht13 (rd_of RW_y)
      refine r_callV (pc := 177) (as := [.int (iv ((xs (Int.toNat (i + 1))).toInt)), .int (iv 0)]) (st := [.int (iv v8)]) kL_17 rfl dL_law_177 hfs14 (zw_X12_begin (d := d - 1) (x1 := ((xs (Int.toNat (i + 1))).toInt)) (x2 := 0) (by omega) hrk hwr9 ht13 (by omega) (by omega) (fun _ _ _ h => h)) rfl (by omega) (Nat.le_of_ble_eq_true rfl) (by omega) (by omega) rfl (fun r8 hp9 n10 hq11 => ?_)
      obtain ⟨hnn10, rf9, sz9, dr9, mn9, v9, ht12, hrr8, f0, f1, f2⟩ := hq11
      subst n10 r8
      have rk9 : RK rf9 cn nm so sz9 dr9 mn9 fr tt wt co nu qi qc nf nt nw nc ∧ DQ dn8 dd8 da8 df dt dw dc sz9 dr9 mn9 fr tt wt co ∧ HM Γ cI cJ cZ a cn th so sz9 dr9 mn9 fr tt wt co nu qi qc ∧ v8 = v9 ∧ rv8 = rf9 := by
        by_cases h9 : 1 ≤ ((xs (Int.toNat (i + 1))).toInt) ∧ ((xs (Int.toNat (i + 1))).toInt) ≤ 16
        · obtain ⟨e0, e1, e2, e3⟩ := f1 h9
          have er := f0.1 h9
          rcases hB with ⟨h1, g1, g2, g3, g4, g5⟩ | ⟨h1, g1, g2, g3, g4, g5⟩
          · rw [e1, e2, e3, g1, g2, g3]; exact ⟨RK_begin hrk h9 (by omega) (by omega), DQ_begin hdq, hm.upd (fun i hi => ⟨fup_o _ _ (by omega), fup_o _ _ (by omega), fup_o _ _ (by omega)⟩) (fun k hk => ⟨rfl, rfl, rfl, rfl⟩), by omega, by omega⟩
          · exact absurd h9 h1
        · obtain ⟨e0, e1, e2, e3⟩ := f2 h9
          have er := f0.2 h9
          rcases hB with ⟨h1, g1, g2, g3, g4, g5⟩ | ⟨h1, g1, g2, g3, g4, g5⟩
          · exact absurd h1 h9
          · rw [e1, e2, e3, g1, g2, g3]; exact ⟨RK_set hrk (by omega) hrk.2.2.2.2.2.2.2.2.2.2.2.2.1, hdq, hm, by omega, by omega⟩
      have hv9 : HV Γ cI cJ cZ a cn th so sz9 sa wo ln hw ro := by
        by_cases h9 : 1 ≤ ((xs (Int.toNat (i + 1))).toInt) ∧ ((xs (Int.toNat (i + 1))).toInt) ≤ 16
        · obtain ⟨e0, e1, e2, e3⟩ := f1 h9
          rw [e1]; exact hv.upd (fun i hi => fup_o _ _ (by omega))
        · obtain ⟨e0, e1, e2, e3⟩ := f2 h9
          rw [e1]; exact hv
      obtain ⟨rk8, dq8, hm9, hcmp, her⟩ := rk9
      subst rv8
      rw [← CG_RW (by omega)] at ht12
      have hv9r : -2147483648 ≤ v9 ∧ v9 ≤ 2147483647 := by omega
      change Rn _ _ _ 180 _ [.int (iv v9), .int (iv v8)] _ _ _ _ _
      refine t_icmp_eq (pc := 180) (tgt := 1077) dL_law_180 (by decide) (by omega) (by omega) (fun c180 => ?_) (fun c180 => ?_)
      · refine Rn.pick (lv' := [(0, .ref b), (1, .ref a), (2, .ref (a + 41)), (3, .int (iv i))]) [0, 1, 2, 3] rfl ?_
        exact kk _ _ _ _ ⟨Γ, rf9, cn, nm, so, sz9, dr9, mn9, fr, tt, wt, co, nu, qi, qc, nf, nt, nw, nc, sa, wo, ln, hw, ro, th, dn8, dd8, da8, df, dt, dw, dc, kn, kd, ka, kf, kt, kw, kc, ht12, (EK.swapW hk8), rk8, dq8, hm9, hv9, hwr9, by omega, by omega, by omega⟩
      · exfalso
        omega
    · exfalso
      omega
  · refine r_iconst (pc := 150) (v := iv 1) dL_law_150 (by decide) ?_
    refine r_goto (pc := 151) (tgt := 155) dL_law_151 (by decide) ?_
    obtain ⟨fs21, hfs21⟩ := t_obj ht (rd_of CG_0)
    refine r_callV (pc := 155) (as := [.int (iv ((xs (Int.toNat (i + 1))).toInt)), .int (iv 1)]) (st := []) kL_13 rfl dL_law_155 hfs21 (y_X11_begin (d := d - 1) (x1 := ((xs (Int.toNat (i + 1))).toInt)) (x2 := 1) (by omega) hk hrv ht (by omega) (by omega)) rfl (by omega) (Nat.le_of_ble_eq_true rfl) (by omega) (by omega) rfl (fun r15 hp16 n17 hq18 => ?_)
    obtain ⟨hnn17, rv8, dn8, dd8, da8, v8, ht19, hrr15, hB⟩ := hq18
    subst n17 r15
    have hk8 : EK (RW Γ cI cJ cZ (a + 41) rf cn nm so sz dr mn fr tt wt co nu qi qc nf nt nw nc sa wo ln hw ro) cI cJ cZ a cn th dn8 dd8 da8 df dt dw dc kn kd ka := by
      rcases hB with ⟨h1, e1, e2, e3, e4, e5⟩ | ⟨h1, e1, e2, e3, e4, e5⟩
      · rw [e1, e2, e3]; exact EK.dr hk (by omega) (by omega) (by omega) (ar_0 _ _ _ _ _)
      · rw [e1, e2, e3]; exact hk
    have bv8 : 0 ≤ v8 ∧ v8 ≤ 1 := by omega
    change Rn _ _ _ 158 _ [.int (iv v8)] _ _ _ _ _
    refine r_aload_n (pc := 158) dL_law_158 (i := 2) rfl rfl ?_
    refine r_aload_n (pc := 159) dL_law_159 (i := 0) rfl rfl ?_
    refine r_iload_n (pc := 160) dL_law_160 (i := 3) rfl rfl ?_
    refine r_iconst (pc := 161) (v := iv 1) dL_law_161 (by decide) ?_
    refine r_iadd (pc := 162) (v := iv (i + 1)) dL_law_162 (iv_add _ _) ?_
    refine w_sld (pc := 163) (v := iv ((xs (Int.toNat (i + 1))).toInt)) dL_law_163 (iv_in (L := L) (by omega) (by omega)) (by rw [iv_clamp (by omega) (by omega)]; exact (iv_of _).symm) ?_
    have lo163 := iv_lo (xs (Int.toNat (i + 1)))
    have hi163 := iv_hi (xs (Int.toNat (i + 1)))
    refine r_aload_n (pc := 164) dL_law_164 (i := 0) rfl rfl ?_
    refine r_iload_n (pc := 165) dL_law_165 (i := 3) rfl rfl ?_
    refine r_iconst (pc := 166) (v := iv 2) dL_law_166 (by decide) ?_
    refine r_iadd (pc := 167) (v := iv (i + 2)) dL_law_167 (iv_add _ _) ?_
    refine w_sld (pc := 168) (v := iv ((xs (Int.toNat (i + 2))).toInt)) dL_law_168 (iv_in (L := L) (by omega) (by omega)) (by rw [iv_clamp (by omega) (by omega)]; exact (iv_of _).symm) ?_
    have lo168 := iv_lo (xs (Int.toNat (i + 2)))
    have hi168 := iv_hi (xs (Int.toNat (i + 2)))
    refine t_if_eq (pc := 169) (tgt := 176) dL_law_169 (by decide) (by omega) (fun c169 => ?_) (fun c169 => ?_)
    · exfalso
      omega
    · refine r_iconst (pc := 172) (v := iv 1) dL_law_172 (by decide) ?_
      refine r_goto (pc := 173) (tgt := 177) dL_law_173 (by decide) ?_
      have ht27 := Tw_eq (Γ1 := RW (CG Γ cI cJ cZ cT a cn rv8 th dn8 dd8 da8 df dt dw dc kn kd ka kf kt kw kc) cI cJ cZ (a + 41) rf cn nm so sz dr mn fr tt wt co nu qi qc nf nt nw nc sa wo ln hw ro) (CG_RW (by omega)) ht19
      obtain ⟨fs28, hfs28⟩ := t_obj ht27 (rd_of RW_y)
      refine r_callV (pc := 177) (as := [.int (iv ((xs (Int.toNat (i + 1))).toInt)), .int (iv 1)]) (st := [.int (iv v8)]) kL_17 rfl dL_law_177 hfs28 (zw_X12_begin (d := d - 1) (x1 := ((xs (Int.toNat (i + 1))).toInt)) (x2 := 1) (by omega) hrk hwr9 ht27 (by omega) (by omega) (fun _ _ _ h => h)) rfl (by omega) (Nat.le_of_ble_eq_true rfl) (by omega) (by omega) rfl (fun r22 hp23 n24 hq25 => ?_)
      obtain ⟨hnn24, rf9, sz9, dr9, mn9, v9, ht26, hrr22, f0, f1, f2⟩ := hq25
      subst n24 r22
      have rk9 : RK rf9 cn nm so sz9 dr9 mn9 fr tt wt co nu qi qc nf nt nw nc ∧ DQ dn8 dd8 da8 df dt dw dc sz9 dr9 mn9 fr tt wt co ∧ HM Γ cI cJ cZ a cn th so sz9 dr9 mn9 fr tt wt co nu qi qc ∧ v8 = v9 ∧ rv8 = rf9 := by
        by_cases h9 : 1 ≤ ((xs (Int.toNat (i + 1))).toInt) ∧ ((xs (Int.toNat (i + 1))).toInt) ≤ 16
        · obtain ⟨e0, e1, e2, e3⟩ := f1 h9
          have er := f0.1 h9
          rcases hB with ⟨h1, g1, g2, g3, g4, g5⟩ | ⟨h1, g1, g2, g3, g4, g5⟩
          · rw [e1, e2, e3, g1, g2, g3]; exact ⟨RK_begin hrk h9 (by omega) (by omega), DQ_begin hdq, hm.upd (fun i hi => ⟨fup_o _ _ (by omega), fup_o _ _ (by omega), fup_o _ _ (by omega)⟩) (fun k hk => ⟨rfl, rfl, rfl, rfl⟩), by omega, by omega⟩
          · exact absurd h9 h1
        · obtain ⟨e0, e1, e2, e3⟩ := f2 h9
          have er := f0.2 h9
          rcases hB with ⟨h1, g1, g2, g3, g4, g5⟩ | ⟨h1, g1, g2, g3, g4, g5⟩
          · exact absurd h1 h9
          · rw [e1, e2, e3, g1, g2, g3]; exact ⟨RK_set hrk (by omega) hrk.2.2.2.2.2.2.2.2.2.2.2.2.1, hdq, hm, by omega, by omega⟩
      have hv9 : HV Γ cI cJ cZ a cn th so sz9 sa wo ln hw ro := by
        by_cases h9 : 1 ≤ ((xs (Int.toNat (i + 1))).toInt) ∧ ((xs (Int.toNat (i + 1))).toInt) ≤ 16
        · obtain ⟨e0, e1, e2, e3⟩ := f1 h9
          rw [e1]; exact hv.upd (fun i hi => fup_o _ _ (by omega))
        · obtain ⟨e0, e1, e2, e3⟩ := f2 h9
          rw [e1]; exact hv
      obtain ⟨rk8, dq8, hm9, hcmp, her⟩ := rk9
      subst rv8
      rw [← CG_RW (by omega)] at ht26
      have hv9r : -2147483648 ≤ v9 ∧ v9 ≤ 2147483647 := by omega
      change Rn _ _ _ 180 _ [.int (iv v9), .int (iv v8)] _ _ _ _ _
      refine t_icmp_eq (pc := 180) (tgt := 1077) dL_law_180 (by decide) (by omega) (by omega) (fun c180 => ?_) (fun c180 => ?_)
      · refine Rn.pick (lv' := [(0, .ref b), (1, .ref a), (2, .ref (a + 41)), (3, .int (iv i))]) [0, 1, 2, 3] rfl ?_
        exact kk _ _ _ _ ⟨Γ, rf9, cn, nm, so, sz9, dr9, mn9, fr, tt, wt, co, nu, qi, qc, nf, nt, nw, nc, sa, wo, ln, hw, ro, th, dn8, dd8, da8, df, dt, dw, dc, kn, kd, ka, kf, kt, kw, kc, ht26, (EK.swapW hk8), rk8, dq8, hm9, hv9, hwr9, by omega, by omega, by omega⟩
      · exfalso
        omega
set_option maxHeartbeats 4000000 in
set_option maxRecDepth 100000 in
theorem lm_1 {D : va_G} {cI cJ cZ cT : ClassId} {lo b L : Nat} {xs : Nat → Int32} {hp : MH} {n d kr wr a : Nat} {i : Int} {Po : Option Value → MH → Nat → Prop} (hd : 60 ≤ d) (hL : L ≤ 3584) (hi : 0 ≤ i ∧ i + 7 ≤ (L : Int))  (h : LK cI cJ cZ cT a L i hp n kr wr) (kk : ∀ (hp1 : MH) (n1 kr1 wr1 : Nat), LK cI cJ cZ cT a L (i + 7) hp1 n1 kr1 wr1 → Rn (gG D cI cJ cZ cT lo b L xs) mL_law d 1077 [(0, .ref b), (1, .ref a), (2, .ref (a + 41)), (3, .int (iv i))] [] hp1 n1 kr1 wr1 Po) : Rn (gG D cI cJ cZ cT lo b L xs) mL_law d 185 [(0, .ref b), (1, .ref a), (2, .ref (a + 41)), (3, .int (iv i))] [] hp n kr wr Po := by
  obtain ⟨Γ, rf, cn, nm, so, sz, dr, mn, fr, tt, wt, co, nu, qi, qc, nf, nt, nw, nc, sa, wo, ln, hw, ro, th, dn, dd, da, df, dt, dw, dc, kn, kd, ka, kf, kt, kw, kc, ht, hk, hrk, hdq, hm, hv, hwr9, hna, hkr, hwr⟩ := h
  have hmR := HM.same (fun q hq => (RW_o hq).symm : ∀ q : Nat, (q < a + 41 ∨ a + 41 + 43 ≤ q) → Γ q = (RW Γ cI cJ cZ (a + 41) rf cn nm so sz dr mn fr tt wt co nu qi qc nf nt nw nc sa wo ln hw ro) q) hm
  have hvR := HV.same (fun q hq => (RW_o hq).symm : ∀ q : Nat, (q < a + 41 ∨ a + 41 + 43 ≤ q) → Γ q = (RW Γ cI cJ cZ (a + 41) rf cn nm so sz dr mn fr tt wt co nu qi qc nf nt nw nc sa wo ln hw ro) q) hv
  have hcn9 := hk.1
  have hrv : -2147483648 ≤ rf ∧ rf ≤ 2147483647 := hrk.2.2.2.2.2.2.2.2.2.2.2.1
  refine r_aload_n (pc := 185) dL_law_185 (i := 1) rfl rfl ?_
  refine r_aload_n (pc := 186) dL_law_186 (i := 0) rfl rfl ?_
  refine r_iload_n (pc := 187) dL_law_187 (i := 3) rfl rfl ?_
  refine r_iconst (pc := 188) (v := iv 1) dL_law_188 (by decide) ?_
  refine r_iadd (pc := 189) (v := iv (i + 1)) dL_law_189 (iv_add _ _) ?_
  refine w_sld (pc := 190) (v := iv ((xs (Int.toNat (i + 1))).toInt)) dL_law_190 (iv_in (L := L) (by omega) (by omega)) (by rw [iv_clamp (by omega) (by omega)]; exact (iv_of _).symm) ?_
  have lo190 := iv_lo (xs (Int.toNat (i + 1)))
  have hi190 := iv_hi (xs (Int.toNat (i + 1)))
  refine r_aload_n (pc := 191) dL_law_191 (i := 0) rfl rfl ?_
  refine r_iload_n (pc := 192) dL_law_192 (i := 3) rfl rfl ?_
  refine r_iconst (pc := 193) (v := iv 2) dL_law_193 (by decide) ?_
  refine r_iadd (pc := 194) (v := iv (i + 2)) dL_law_194 (iv_add _ _) ?_
  refine w_sld (pc := 195) (v := iv ((xs (Int.toNat (i + 2))).toInt)) dL_law_195 (iv_in (L := L) (by omega) (by omega)) (by rw [iv_clamp (by omega) (by omega)]; exact (iv_of _).symm) ?_
  have lo195 := iv_lo (xs (Int.toNat (i + 2)))
  have hi195 := iv_hi (xs (Int.toNat (i + 2)))
  refine r_aload_n (pc := 196) dL_law_196 (i := 0) rfl rfl ?_
  refine r_iload_n (pc := 197) dL_law_197 (i := 3) rfl rfl ?_
  refine r_iconst (pc := 198) (v := iv 3) dL_law_198 (by decide) ?_
  refine r_iadd (pc := 199) (v := iv (i + 3)) dL_law_199 (iv_add _ _) ?_
  refine w_sld (pc := 200) (v := iv ((xs (Int.toNat (i + 3))).toInt)) dL_law_200 (iv_in (L := L) (by omega) (by omega)) (by rw [iv_clamp (by omega) (by omega)]; exact (iv_of _).symm) ?_
  have lo200 := iv_lo (xs (Int.toNat (i + 3)))
  have hi200 := iv_hi (xs (Int.toNat (i + 3)))
  refine r_aload_n (pc := 201) dL_law_201 (i := 0) rfl rfl ?_
  refine r_iload_n (pc := 202) dL_law_202 (i := 3) rfl rfl ?_
  refine r_iconst (pc := 203) (v := iv 4) dL_law_203 (by decide) ?_
  refine r_iadd (pc := 204) (v := iv (i + 4)) dL_law_204 (iv_add _ _) ?_
  refine w_sld (pc := 205) (v := iv ((xs (Int.toNat (i + 4))).toInt)) dL_law_205 (iv_in (L := L) (by omega) (by omega)) (by rw [iv_clamp (by omega) (by omega)]; exact (iv_of _).symm) ?_
  have lo205 := iv_lo (xs (Int.toNat (i + 4)))
  have hi205 := iv_hi (xs (Int.toNat (i + 4)))
  obtain ⟨fs7, hfs7⟩ := t_obj ht (rd_of CG_0)
  refine r_callV (pc := 206) (as := [.int (iv ((xs (Int.toNat (i + 1))).toInt)), .int (iv ((xs (Int.toNat (i + 2))).toInt)), .int (iv ((xs (Int.toNat (i + 3))).toInt)), .int (iv ((xs (Int.toNat (i + 4))).toInt))]) (st := []) kL_18 rfl dL_law_206 hfs7 (y_X11_arc (d := d - 1) (x1 := ((xs (Int.toNat (i + 1))).toInt)) (x2 := ((xs (Int.toNat (i + 2))).toInt)) (x3 := ((xs (Int.toNat (i + 3))).toInt)) (x4 := ((xs (Int.toNat (i + 4))).toInt)) (by omega) hk hrv ht (by omega) (by omega) (by omega) (by omega)) rfl (by omega) (Nat.le_of_ble_eq_true rfl) (by omega) (by omega) rfl (fun r1 hp2 n3 hq4 => ?_)
  obtain ⟨hnn3, rv8, da8, df8, dt8, dw8, dc8, v8, ht5, hrr1, hB⟩ := hq4
  subst n3 r1
  obtain ⟨hdn, hdd1, hda, har⟩ := hk.2.2.1
  have hk8 : EK (RW Γ cI cJ cZ (a + 41) rf cn nm so sz dr mn fr tt wt co nu qi qc nf nt nw nc sa wo ln hw ro) cI cJ cZ a cn th dn dd da8 df8 dt8 dw8 dc8 kn kd ka := by
    rcases hB with ⟨h1, h2, e0, er, e1, e2, e3, e4, e5⟩ | ⟨h1, h2, e0, er, e1, e2, e3, e4, e5⟩ | ⟨h1, e0, er, e1, e2, e3, e4, e5⟩
    · rw [e1, e2, e3, e4, e5]; exact EK.dr hk hdn hdd1 (by omega) (ar_up har (by omega) (by omega) (by omega) (by omega) (by omega))
    · rw [e1, e2, e3, e4, e5]; exact hk
    · rw [e1, e2, e3, e4, e5]; exact hk
  have hB0 : (-4 ≤ v8 ∧ v8 ≤ 59) := by
    rcases hB with ⟨h1, h2, e0, -⟩ | ⟨h1, h2, e0, -⟩ | ⟨h1, e0, -⟩ <;> omega
  change Rn _ _ _ 209 _ [.int (iv v8)] _ _ _ _ _
  refine r_aload_n (pc := 209) dL_law_209 (i := 2) rfl rfl ?_
  refine r_aload_n (pc := 210) dL_law_210 (i := 0) rfl rfl ?_
  refine r_iload_n (pc := 211) dL_law_211 (i := 3) rfl rfl ?_
  refine r_iconst (pc := 212) (v := iv 1) dL_law_212 (by decide) ?_
  refine r_iadd (pc := 213) (v := iv (i + 1)) dL_law_213 (iv_add _ _) ?_
  refine w_sld (pc := 214) (v := iv ((xs (Int.toNat (i + 1))).toInt)) dL_law_214 (iv_in (L := L) (by omega) (by omega)) (by rw [iv_clamp (by omega) (by omega)]; exact (iv_of _).symm) ?_
  have lo214 := iv_lo (xs (Int.toNat (i + 1)))
  have hi214 := iv_hi (xs (Int.toNat (i + 1)))
  refine r_aload_n (pc := 215) dL_law_215 (i := 0) rfl rfl ?_
  refine r_iload_n (pc := 216) dL_law_216 (i := 3) rfl rfl ?_
  refine r_iconst (pc := 217) (v := iv 2) dL_law_217 (by decide) ?_
  refine r_iadd (pc := 218) (v := iv (i + 2)) dL_law_218 (iv_add _ _) ?_
  refine w_sld (pc := 219) (v := iv ((xs (Int.toNat (i + 2))).toInt)) dL_law_219 (iv_in (L := L) (by omega) (by omega)) (by rw [iv_clamp (by omega) (by omega)]; exact (iv_of _).symm) ?_
  have lo219 := iv_lo (xs (Int.toNat (i + 2)))
  have hi219 := iv_hi (xs (Int.toNat (i + 2)))
  refine r_aload_n (pc := 220) dL_law_220 (i := 0) rfl rfl ?_
  refine r_iload_n (pc := 221) dL_law_221 (i := 3) rfl rfl ?_
  refine r_iconst (pc := 222) (v := iv 3) dL_law_222 (by decide) ?_
  refine r_iadd (pc := 223) (v := iv (i + 3)) dL_law_223 (iv_add _ _) ?_
  refine w_sld (pc := 224) (v := iv ((xs (Int.toNat (i + 3))).toInt)) dL_law_224 (iv_in (L := L) (by omega) (by omega)) (by rw [iv_clamp (by omega) (by omega)]; exact (iv_of _).symm) ?_
  have lo224 := iv_lo (xs (Int.toNat (i + 3)))
  have hi224 := iv_hi (xs (Int.toNat (i + 3)))
  refine r_aload_n (pc := 225) dL_law_225 (i := 0) rfl rfl ?_
  refine r_iload_n (pc := 226) dL_law_226 (i := 3) rfl rfl ?_
  refine r_iconst (pc := 227) (v := iv 4) dL_law_227 (by decide) ?_
  refine r_iadd (pc := 228) (v := iv (i + 4)) dL_law_228 (iv_add _ _) ?_
  refine w_sld (pc := 229) (v := iv ((xs (Int.toNat (i + 4))).toInt)) dL_law_229 (iv_in (L := L) (by omega) (by omega)) (by rw [iv_clamp (by omega) (by omega)]; exact (iv_of _).symm) ?_
  have lo229 := iv_lo (xs (Int.toNat (i + 4)))
  have hi229 := iv_hi (xs (Int.toNat (i + 4)))
  have ht13 := Tw_eq (Γ1 := RW (CG Γ cI cJ cZ cT a cn rv8 th dn dd da8 df8 dt8 dw8 dc8 kn kd ka kf kt kw kc) cI cJ cZ (a + 41) rf cn nm so sz dr mn fr tt wt co nu qi qc nf nt nw nc sa wo ln hw ro) (CG_RW (by omega)) ht5
  obtain ⟨fs14, hfs14⟩ := t_obj ht13 (rd_of RW_y)
  refine r_callV (pc := 230) (as := [.int (iv ((xs (Int.toNat (i + 1))).toInt)), .int (iv ((xs (Int.toNat (i + 2))).toInt)), .int (iv ((xs (Int.toNat (i + 3))).toInt)), .int (iv ((xs (Int.toNat (i + 4))).toInt))]) (st := [.int (iv v8)]) kL_22 rfl dL_law_230 hfs14 (zw_X12_arc (d := d - 1) (x1 := ((xs (Int.toNat (i + 1))).toInt)) (x2 := ((xs (Int.toNat (i + 2))).toInt)) (x3 := ((xs (Int.toNat (i + 3))).toInt)) (x4 := ((xs (Int.toNat (i + 4))).toInt)) (by omega) hrk hwr9 ht13 (by omega) (by omega) (by omega) (by omega) (fun _ _ _ h => h)) rfl (by omega) (Nat.le_of_ble_eq_true rfl) (by omega) (by omega) rfl (fun r8 hp9 n10 hq11 => ?_)
  obtain ⟨hnn10, rf9, mn9, fr9, tt9, wt9, co9, v9, ht12, hrr8, f0, f1, f2⟩ := hq11
  subst n10 r8
  obtain ⟨dq1, dq2, dq3, dq4⟩ := id hdq
  have rk9 : RK rf9 cn nm so sz dr mn9 fr9 tt9 wt9 co9 nu qi qc nf nt nw nc ∧ DQ dn dd da8 df8 dt8 dw8 dc8 sz dr mn9 fr9 tt9 wt9 co9 ∧ HM Γ cI cJ cZ a cn th so sz dr mn9 fr9 tt9 wt9 co9 nu qi qc ∧ v8 = v9 ∧ rv8 = rf9 := by
    rcases hB with ⟨h1, h2, e0, er, e1, e2, e3, e4, e5⟩ | ⟨h1, h2, e0, er, e1, e2, e3, e4, e5⟩ | ⟨h1, e0, er, e1, e2, e3, e4, e5⟩
    · obtain ⟨g0, gr, g1, g2, g3, g4, g5⟩ := f0 ⟨by omega, by omega⟩
      rw [e1, e2, e3, e4, e5, g1, g2, g3, g4, g5]; exact ⟨RK_arc hrk (by omega) (by omega) (by omega) (by omega) (by omega) (by omega), DQ_arc hdq (by omega), hm.upd (fun i hi => ⟨rfl, rfl, fup_o _ _ (by omega)⟩) (fun k hk => ⟨fup_o _ _ (by omega), fup_o _ _ (by omega), fup_o _ _ (by omega), fup_o _ _ (by omega)⟩), by omega, by omega⟩
    · obtain ⟨g0, gr, g1, g2, g3, g4, g5⟩ := f1 ⟨by omega, by omega⟩
      rw [e1, e2, e3, e4, e5, g1, g2, g3, g4, g5]; exact ⟨RK_set hrk (by omega) hrk.2.2.2.2.2.2.2.2.2.2.2.2.1, hdq, hm, by omega, by omega⟩
    · obtain ⟨g0, gr, g1, g2, g3, g4, g5⟩ := f2 (by omega)
      rw [e1, e2, e3, e4, e5, g1, g2, g3, g4, g5]; exact ⟨RK_set hrk (by omega) hrk.2.2.2.2.2.2.2.2.2.2.2.2.1, hdq, hm, by omega, by omega⟩
  have hv9 := hv
  obtain ⟨rk8, dq8, hm9, hcmp, her⟩ := rk9
  subst rv8
  rw [← CG_RW (by omega)] at ht12
  have hv9r : -2147483648 ≤ v9 ∧ v9 ≤ 2147483647 := by omega
  change Rn _ _ _ 233 _ [.int (iv v9), .int (iv v8)] _ _ _ _ _
  refine t_icmp_eq (pc := 233) (tgt := 1077) dL_law_233 (by decide) (by omega) (by omega) (fun c233 => ?_) (fun c233 => ?_)
  · refine Rn.pick (lv' := [(0, .ref b), (1, .ref a), (2, .ref (a + 41)), (3, .int (iv i))]) [0, 1, 2, 3] rfl ?_
    exact kk _ _ _ _ ⟨Γ, rf9, cn, nm, so, sz, dr, mn9, fr9, tt9, wt9, co9, nu, qi, qc, nf, nt, nw, nc, sa, wo, ln, hw, ro, th, dn, dd, da8, df8, dt8, dw8, dc8, kn, kd, ka, kf, kt, kw, kc, ht12, (EK.swapW hk8), rk8, dq8, hm9, hv9, hwr9, by omega, by omega, by omega⟩
  · exfalso
    omega
set_option maxHeartbeats 4000000 in
set_option maxRecDepth 100000 in
theorem lm_2 {D : va_G} {cI cJ cZ cT : ClassId} {lo b L : Nat} {xs : Nat → Int32} {hp : MH} {n d kr wr a : Nat} {i : Int} {Po : Option Value → MH → Nat → Prop} (hd : 60 ≤ d) (hL : L ≤ 3584) (hi : 0 ≤ i ∧ i + 7 ≤ (L : Int))  (h : LK cI cJ cZ cT a L i hp n kr wr) (kk : ∀ (hp1 : MH) (n1 kr1 wr1 : Nat), LK cI cJ cZ cT a L (i + 7) hp1 n1 kr1 wr1 → Rn (gG D cI cJ cZ cT lo b L xs) mL_law d 1077 [(0, .ref b), (1, .ref a), (2, .ref (a + 41)), (3, .int (iv i))] [] hp1 n1 kr1 wr1 Po) : Rn (gG D cI cJ cZ cT lo b L xs) mL_law d 238 [(0, .ref b), (1, .ref a), (2, .ref (a + 41)), (3, .int (iv i))] [] hp n kr wr Po := by
  obtain ⟨Γ, rf, cn, nm, so, sz, dr, mn, fr, tt, wt, co, nu, qi, qc, nf, nt, nw, nc, sa, wo, ln, hw, ro, th, dn, dd, da, df, dt, dw, dc, kn, kd, ka, kf, kt, kw, kc, ht, hk, hrk, hdq, hm, hv, hwr9, hna, hkr, hwr⟩ := h
  have hmR := HM.same (fun q hq => (RW_o hq).symm : ∀ q : Nat, (q < a + 41 ∨ a + 41 + 43 ≤ q) → Γ q = (RW Γ cI cJ cZ (a + 41) rf cn nm so sz dr mn fr tt wt co nu qi qc nf nt nw nc sa wo ln hw ro) q) hm
  have hvR := HV.same (fun q hq => (RW_o hq).symm : ∀ q : Nat, (q < a + 41 ∨ a + 41 + 43 ≤ q) → Γ q = (RW Γ cI cJ cZ (a + 41) rf cn nm so sz dr mn fr tt wt co nu qi qc nf nt nw nc sa wo ln hw ro) q) hv
  have hcn9 := hk.1
  have hrv : -2147483648 ≤ rf ∧ rf ≤ 2147483647 := hrk.2.2.2.2.2.2.2.2.2.2.2.1
  refine r_aload_n (pc := 238) dL_law_238 (i := 1) rfl rfl ?_
  obtain ⟨fs7, hfs7⟩ := t_obj ht (rd_of CG_0)
  refine r_callV (pc := 239) (as := []) (st := []) kL_23 rfl dL_law_239 hfs7 (y_X11_graph (d := d - 1)  (by omega) hk hmR hrv (by omega) ht  hdq) rfl (by omega) (Nat.le_of_ble_eq_true rfl) (by omega) (by omega) rfl (fun r1 hp2 n3 hq4 => ?_)
  obtain ⟨hnn3, Γ8, ct8, rv8, th8, kn8, kd8, ka8, kf8, kt8, kw8, kc8, v8, hE8, ht5, hk8, hrr1, hA8, hb8, c1, c2⟩ := hq4
  subst r1
  have ex8 := RW_x hE8
  have ht6 := Tw_eq (Γ1 := (CG (RW Γ8 cI cJ cZ (a + 41) rf cn nm so sz dr mn fr tt wt co nu qi qc nf nt nw nc sa wo ln hw ro) cI cJ cZ cT a ct8 rv8 th8 dn dd da df dt dw dc kn8 kd8 ka8 kf8 kt8 kw8 kc8)) (by rw [ex8]) ht5
  have hk9 := hk8
  rw [← ex8] at hk9
  change Rn _ _ _ 242 _ [.int (iv v8)] _ _ _ _ _
  refine r_aload_n (pc := 242) dL_law_242 (i := 2) rfl rfl ?_
  have ht13 := Tw_eq (Γ1 := RW (CG Γ8 cI cJ cZ cT a ct8 rv8 th8 dn dd da df dt dw dc kn8 kd8 ka8 kf8 kt8 kw8 kc8) cI cJ cZ (a + 41) rf cn nm so sz dr mn fr tt wt co nu qi qc nf nt nw nc sa wo ln hw ro) (CG_RW (by omega)) ht6
  obtain ⟨fs14, hfs14⟩ := t_obj ht13 (rd_of RW_y)
  refine r_callV (pc := 243) (as := []) (st := [.int (iv v8)]) kL_27 rfl dL_law_243 hfs14 (zw_X12_graph (d := d - 1)  (by omega) hrk hwr9 ht13  (fun _ _ _ h => h)) rfl (by omega) (Nat.le_of_ble_eq_true rfl) (by omega) (by omega) rfl (fun r8 hp9 n10 hq11 => ?_)
  obtain ⟨hnn10, rf9, cn9, nm9, so9, sz9, dr9, mn9, fr9, tt9, wt9, co9, nf9, nt9, nw9, nc9, v9, ht12, hrr8, f0, f1, f2, f3, f4, f5, f6⟩ := hq11
  subst n10 r8
  have hcmp : v8 = v9 := hA8.trans f3.symm
  have hv9 := mv_X hvR (by omega) hE8 hcmp c1 c2 (fun h9 => ⟨(f4 h9).1, (f4 h9).2.1, (f4 h9).2.2.1⟩) (fun h9 => ⟨(f5 h9).1, (f5 h9).2.1, (f5 h9).2.2.1⟩) (by decide)
  obtain ⟨hm9, hec, her⟩ := mg_G hmR (by omega) hE8 hcmp c1 c2 f4 f5 f6
  subst ct8 rv8
  rw [← CG_RW (by omega)] at ht12
  have hv9r : -2147483648 ≤ v9 ∧ v9 ≤ 2147483647 := by omega
  change Rn _ _ _ 246 _ [.int (iv v9), .int (iv v8)] _ _ _ _ _
  refine t_icmp_eq (pc := 246) (tgt := 1077) dL_law_246 (by decide) (by omega) (by omega) (fun c246 => ?_) (fun c246 => ?_)
  · refine Rn.pick (lv' := [(0, .ref b), (1, .ref a), (2, .ref (a + 41)), (3, .int (iv i))]) [0, 1, 2, 3] rfl ?_
    exact kk _ _ _ _ ⟨Γ8, rf9, cn9, nm9, so9, sz9, dr9, mn9, fr9, tt9, wt9, co9, nu, qi, qc, nf9, nt9, nw9, nc9, sa, wo, ln, hw, ro, th8, dn, dd, da, df, dt, dw, dc, kn8, kd8, ka8, kf8, kt8, kw8, kc8, ht12, (EK.swapW hk9), f0, (DQ_r hdq f1), hm9, hv9, hwr9, by omega, by omega, by omega⟩
  · exfalso
    omega
set_option maxHeartbeats 4000000 in
set_option maxRecDepth 100000 in
theorem lm_3 {D : va_G} {cI cJ cZ cT : ClassId} {lo b L : Nat} {xs : Nat → Int32} {hp : MH} {n d kr wr a : Nat} {i : Int} {Po : Option Value → MH → Nat → Prop} (hd : 60 ≤ d) (hL : L ≤ 3584) (hi : 0 ≤ i ∧ i + 7 ≤ (L : Int))  (h : LK cI cJ cZ cT a L i hp n kr wr) (kk : ∀ (hp1 : MH) (n1 kr1 wr1 : Nat), LK cI cJ cZ cT a L (i + 7) hp1 n1 kr1 wr1 → Rn (gG D cI cJ cZ cT lo b L xs) mL_law d 1077 [(0, .ref b), (1, .ref a), (2, .ref (a + 41)), (3, .int (iv i))] [] hp1 n1 kr1 wr1 Po) : Rn (gG D cI cJ cZ cT lo b L xs) mL_law d 251 [(0, .ref b), (1, .ref a), (2, .ref (a + 41)), (3, .int (iv i))] [] hp n kr wr Po := by
  obtain ⟨Γ, rf, cn, nm, so, sz, dr, mn, fr, tt, wt, co, nu, qi, qc, nf, nt, nw, nc, sa, wo, ln, hw, ro, th, dn, dd, da, df, dt, dw, dc, kn, kd, ka, kf, kt, kw, kc, ht, hk, hrk, hdq, hm, hv, hwr9, hna, hkr, hwr⟩ := h
  have hmR := HM.same (fun q hq => (RW_o hq).symm : ∀ q : Nat, (q < a + 41 ∨ a + 41 + 43 ≤ q) → Γ q = (RW Γ cI cJ cZ (a + 41) rf cn nm so sz dr mn fr tt wt co nu qi qc nf nt nw nc sa wo ln hw ro) q) hm
  have hvR := HV.same (fun q hq => (RW_o hq).symm : ∀ q : Nat, (q < a + 41 ∨ a + 41 + 43 ≤ q) → Γ q = (RW Γ cI cJ cZ (a + 41) rf cn nm so sz dr mn fr tt wt co nu qi qc nf nt nw nc sa wo ln hw ro) q) hv
  have hcn9 := hk.1
  have hrv : -2147483648 ≤ rf ∧ rf ≤ 2147483647 := hrk.2.2.2.2.2.2.2.2.2.2.2.1
  refine r_aload_n (pc := 251) dL_law_251 (i := 1) rfl rfl ?_
  refine r_aload_n (pc := 252) dL_law_252 (i := 0) rfl rfl ?_
  refine r_iload_n (pc := 253) dL_law_253 (i := 3) rfl rfl ?_
  refine r_iconst (pc := 254) (v := iv 1) dL_law_254 (by decide) ?_
  refine r_iadd (pc := 255) (v := iv (i + 1)) dL_law_255 (iv_add _ _) ?_
  refine w_sld (pc := 256) (v := iv ((xs (Int.toNat (i + 1))).toInt)) dL_law_256 (iv_in (L := L) (by omega) (by omega)) (by rw [iv_clamp (by omega) (by omega)]; exact (iv_of _).symm) ?_
  have lo256 := iv_lo (xs (Int.toNat (i + 1)))
  have hi256 := iv_hi (xs (Int.toNat (i + 1)))
  refine r_aload_n (pc := 257) dL_law_257 (i := 0) rfl rfl ?_
  refine r_iload_n (pc := 258) dL_law_258 (i := 3) rfl rfl ?_
  refine r_iconst (pc := 259) (v := iv 2) dL_law_259 (by decide) ?_
  refine r_iadd (pc := 260) (v := iv (i + 2)) dL_law_260 (iv_add _ _) ?_
  refine w_sld (pc := 261) (v := iv ((xs (Int.toNat (i + 2))).toInt)) dL_law_261 (iv_in (L := L) (by omega) (by omega)) (by rw [iv_clamp (by omega) (by omega)]; exact (iv_of _).symm) ?_
  have lo261 := iv_lo (xs (Int.toNat (i + 2)))
  have hi261 := iv_hi (xs (Int.toNat (i + 2)))
  refine r_aload_n (pc := 262) dL_law_262 (i := 0) rfl rfl ?_
  refine r_iload_n (pc := 263) dL_law_263 (i := 3) rfl rfl ?_
  refine r_iconst (pc := 264) (v := iv 3) dL_law_264 (by decide) ?_
  refine r_iadd (pc := 265) (v := iv (i + 3)) dL_law_265 (iv_add _ _) ?_
  refine w_sld (pc := 266) (v := iv ((xs (Int.toNat (i + 3))).toInt)) dL_law_266 (iv_in (L := L) (by omega) (by omega)) (by rw [iv_clamp (by omega) (by omega)]; exact (iv_of _).symm) ?_
  have lo266 := iv_lo (xs (Int.toNat (i + 3)))
  have hi266 := iv_hi (xs (Int.toNat (i + 3)))
  obtain ⟨fs7, hfs7⟩ := t_obj ht (rd_of CG_0)
  refine r_callV (pc := 267) (as := [.int (iv ((xs (Int.toNat (i + 1))).toInt)), .int (iv ((xs (Int.toNat (i + 2))).toInt)), .int (iv ((xs (Int.toNat (i + 3))).toInt))]) (st := []) kL_28 rfl dL_law_267 hfs7 (y_X11_view (d := d - 1) (x1 := ((xs (Int.toNat (i + 1))).toInt)) (x2 := ((xs (Int.toNat (i + 2))).toInt)) (x3 := ((xs (Int.toNat (i + 3))).toInt)) (by omega) hk hmR hrv (by omega) ht (by omega) (by omega) (by omega)) rfl (by omega) (Nat.le_of_ble_eq_true rfl) (by omega) (by omega) rfl (fun r1 hp2 n3 hq4 => ?_)
  obtain ⟨hnn3, Γ8, ct8, rv8, th8, kn8, kd8, ka8, kf8, kt8, kw8, kc8, v8, hE8, ht5, hk8, hrr1, hA8, hb8, c1, c2⟩ := hq4
  subst r1
  have ex8 := RW_x hE8
  have ht6 := Tw_eq (Γ1 := (CG (RW Γ8 cI cJ cZ (a + 41) rf cn nm so sz dr mn fr tt wt co nu qi qc nf nt nw nc sa wo ln hw ro) cI cJ cZ cT a ct8 rv8 th8 dn dd da df dt dw dc kn8 kd8 ka8 kf8 kt8 kw8 kc8)) (by rw [ex8]) ht5
  have hk9 := hk8
  rw [← ex8] at hk9
  change Rn _ _ _ 270 _ [.int (iv v8)] _ _ _ _ _
  refine r_aload_n (pc := 270) dL_law_270 (i := 2) rfl rfl ?_
  refine r_aload_n (pc := 271) dL_law_271 (i := 0) rfl rfl ?_
  refine r_iload_n (pc := 272) dL_law_272 (i := 3) rfl rfl ?_
  refine r_iconst (pc := 273) (v := iv 1) dL_law_273 (by decide) ?_
  refine r_iadd (pc := 274) (v := iv (i + 1)) dL_law_274 (iv_add _ _) ?_
  refine w_sld (pc := 275) (v := iv ((xs (Int.toNat (i + 1))).toInt)) dL_law_275 (iv_in (L := L) (by omega) (by omega)) (by rw [iv_clamp (by omega) (by omega)]; exact (iv_of _).symm) ?_
  have lo275 := iv_lo (xs (Int.toNat (i + 1)))
  have hi275 := iv_hi (xs (Int.toNat (i + 1)))
  refine r_aload_n (pc := 276) dL_law_276 (i := 0) rfl rfl ?_
  refine r_iload_n (pc := 277) dL_law_277 (i := 3) rfl rfl ?_
  refine r_iconst (pc := 278) (v := iv 2) dL_law_278 (by decide) ?_
  refine r_iadd (pc := 279) (v := iv (i + 2)) dL_law_279 (iv_add _ _) ?_
  refine w_sld (pc := 280) (v := iv ((xs (Int.toNat (i + 2))).toInt)) dL_law_280 (iv_in (L := L) (by omega) (by omega)) (by rw [iv_clamp (by omega) (by omega)]; exact (iv_of _).symm) ?_
  have lo280 := iv_lo (xs (Int.toNat (i + 2)))
  have hi280 := iv_hi (xs (Int.toNat (i + 2)))
  refine r_aload_n (pc := 281) dL_law_281 (i := 0) rfl rfl ?_
  refine r_iload_n (pc := 282) dL_law_282 (i := 3) rfl rfl ?_
  refine r_iconst (pc := 283) (v := iv 3) dL_law_283 (by decide) ?_
  refine r_iadd (pc := 284) (v := iv (i + 3)) dL_law_284 (iv_add _ _) ?_
  refine w_sld (pc := 285) (v := iv ((xs (Int.toNat (i + 3))).toInt)) dL_law_285 (iv_in (L := L) (by omega) (by omega)) (by rw [iv_clamp (by omega) (by omega)]; exact (iv_of _).symm) ?_
  have lo285 := iv_lo (xs (Int.toNat (i + 3)))
  have hi285 := iv_hi (xs (Int.toNat (i + 3)))
  have ht13 := Tw_eq (Γ1 := RW (CG Γ8 cI cJ cZ cT a ct8 rv8 th8 dn dd da df dt dw dc kn8 kd8 ka8 kf8 kt8 kw8 kc8) cI cJ cZ (a + 41) rf cn nm so sz dr mn fr tt wt co nu qi qc nf nt nw nc sa wo ln hw ro) (CG_RW (by omega)) ht6
  obtain ⟨fs14, hfs14⟩ := t_obj ht13 (rd_of RW_y)
  refine r_callV (pc := 286) (as := [.int (iv ((xs (Int.toNat (i + 1))).toInt)), .int (iv ((xs (Int.toNat (i + 2))).toInt)), .int (iv ((xs (Int.toNat (i + 3))).toInt))]) (st := [.int (iv v8)]) kL_32 rfl dL_law_286 hfs14 (zw_X12_view (d := d - 1) (x1 := ((xs (Int.toNat (i + 1))).toInt)) (x2 := ((xs (Int.toNat (i + 2))).toInt)) (x3 := ((xs (Int.toNat (i + 3))).toInt)) (by omega) hrk hwr9 ht13 (by omega) (by omega) (by omega) (fun _ _ _ h => h)) rfl (by omega) (Nat.le_of_ble_eq_true rfl) (by omega) (by omega) rfl (fun r8 hp9 n10 hq11 => ?_)
  obtain ⟨hnn10, rf9, cn9, nm9, so9, sz9, dr9, mn9, fr9, tt9, wt9, co9, nf9, nt9, nw9, nc9, v9, ht12, hrr8, f0, f1, f2, f3, f4, f5, f6⟩ := hq11
  subst n10 r8
  have hcmp : v8 = v9 := hA8.trans f3.symm
  have hv9 := mv_X hvR (by omega) hE8 hcmp c1 c2 (fun h9 => ⟨(f4 h9).1, (f4 h9).2.1, (f4 h9).2.2.1⟩) (fun h9 => ⟨(f5 h9).1, (f5 h9).2.1, (f5 h9).2.2.1⟩) (by decide)
  obtain ⟨hm9, hec, her⟩ := mg_G hmR (by omega) hE8 hcmp c1 c2 f4 f5 f6
  subst ct8 rv8
  rw [← CG_RW (by omega)] at ht12
  have hv9r : -2147483648 ≤ v9 ∧ v9 ≤ 2147483647 := by omega
  change Rn _ _ _ 289 _ [.int (iv v9), .int (iv v8)] _ _ _ _ _
  refine t_icmp_eq (pc := 289) (tgt := 1077) dL_law_289 (by decide) (by omega) (by omega) (fun c289 => ?_) (fun c289 => ?_)
  · refine Rn.pick (lv' := [(0, .ref b), (1, .ref a), (2, .ref (a + 41)), (3, .int (iv i))]) [0, 1, 2, 3] rfl ?_
    exact kk _ _ _ _ ⟨Γ8, rf9, cn9, nm9, so9, sz9, dr9, mn9, fr9, tt9, wt9, co9, nu, qi, qc, nf9, nt9, nw9, nc9, sa, wo, ln, hw, ro, th8, dn, dd, da, df, dt, dw, dc, kn8, kd8, ka8, kf8, kt8, kw8, kc8, ht12, (EK.swapW hk9), f0, (DQ_r hdq f1), hm9, hv9, hwr9, by omega, by omega, by omega⟩
  · exfalso
    omega
set_option maxHeartbeats 4000000 in
set_option maxRecDepth 100000 in
theorem lm_4 {D : va_G} {cI cJ cZ cT : ClassId} {lo b L : Nat} {xs : Nat → Int32} {hp : MH} {n d kr wr a : Nat} {i : Int} {Po : Option Value → MH → Nat → Prop} (hd : 60 ≤ d) (hL : L ≤ 3584) (hi : 0 ≤ i ∧ i + 7 ≤ (L : Int))  (h : LK cI cJ cZ cT a L i hp n kr wr) (kk : ∀ (hp1 : MH) (n1 kr1 wr1 : Nat), LK cI cJ cZ cT a L (i + 7) hp1 n1 kr1 wr1 → Rn (gG D cI cJ cZ cT lo b L xs) mL_law d 1077 [(0, .ref b), (1, .ref a), (2, .ref (a + 41)), (3, .int (iv i))] [] hp1 n1 kr1 wr1 Po) : Rn (gG D cI cJ cZ cT lo b L xs) mL_law d 294 [(0, .ref b), (1, .ref a), (2, .ref (a + 41)), (3, .int (iv i))] [] hp n kr wr Po := by
  obtain ⟨Γ, rf, cn, nm, so, sz, dr, mn, fr, tt, wt, co, nu, qi, qc, nf, nt, nw, nc, sa, wo, ln, hw, ro, th, dn, dd, da, df, dt, dw, dc, kn, kd, ka, kf, kt, kw, kc, ht, hk, hrk, hdq, hm, hv, hwr9, hna, hkr, hwr⟩ := h
  have hmR := HM.same (fun q hq => (RW_o hq).symm : ∀ q : Nat, (q < a + 41 ∨ a + 41 + 43 ≤ q) → Γ q = (RW Γ cI cJ cZ (a + 41) rf cn nm so sz dr mn fr tt wt co nu qi qc nf nt nw nc sa wo ln hw ro) q) hm
  have hvR := HV.same (fun q hq => (RW_o hq).symm : ∀ q : Nat, (q < a + 41 ∨ a + 41 + 43 ≤ q) → Γ q = (RW Γ cI cJ cZ (a + 41) rf cn nm so sz dr mn fr tt wt co nu qi qc nf nt nw nc sa wo ln hw ro) q) hv
  have hcn9 := hk.1
  have hrv : -2147483648 ≤ rf ∧ rf ≤ 2147483647 := hrk.2.2.2.2.2.2.2.2.2.2.2.1
  refine r_aload_n (pc := 294) dL_law_294 (i := 1) rfl rfl ?_
  refine r_aload_n (pc := 295) dL_law_295 (i := 0) rfl rfl ?_
  refine r_iload_n (pc := 296) dL_law_296 (i := 3) rfl rfl ?_
  refine r_iconst (pc := 297) (v := iv 1) dL_law_297 (by decide) ?_
  refine r_iadd (pc := 298) (v := iv (i + 1)) dL_law_298 (iv_add _ _) ?_
  refine w_sld (pc := 299) (v := iv ((xs (Int.toNat (i + 1))).toInt)) dL_law_299 (iv_in (L := L) (by omega) (by omega)) (by rw [iv_clamp (by omega) (by omega)]; exact (iv_of _).symm) ?_
  have lo299 := iv_lo (xs (Int.toNat (i + 1)))
  have hi299 := iv_hi (xs (Int.toNat (i + 1)))
  refine r_aload_n (pc := 300) dL_law_300 (i := 0) rfl rfl ?_
  refine r_iload_n (pc := 301) dL_law_301 (i := 3) rfl rfl ?_
  refine r_iconst (pc := 302) (v := iv 2) dL_law_302 (by decide) ?_
  refine r_iadd (pc := 303) (v := iv (i + 2)) dL_law_303 (iv_add _ _) ?_
  refine w_sld (pc := 304) (v := iv ((xs (Int.toNat (i + 2))).toInt)) dL_law_304 (iv_in (L := L) (by omega) (by omega)) (by rw [iv_clamp (by omega) (by omega)]; exact (iv_of _).symm) ?_
  have lo304 := iv_lo (xs (Int.toNat (i + 2)))
  have hi304 := iv_hi (xs (Int.toNat (i + 2)))
  refine r_aload_n (pc := 305) dL_law_305 (i := 0) rfl rfl ?_
  refine r_iload_n (pc := 306) dL_law_306 (i := 3) rfl rfl ?_
  refine r_iconst (pc := 307) (v := iv 3) dL_law_307 (by decide) ?_
  refine r_iadd (pc := 308) (v := iv (i + 3)) dL_law_308 (iv_add _ _) ?_
  refine w_sld (pc := 309) (v := iv ((xs (Int.toNat (i + 3))).toInt)) dL_law_309 (iv_in (L := L) (by omega) (by omega)) (by rw [iv_clamp (by omega) (by omega)]; exact (iv_of _).symm) ?_
  have lo309 := iv_lo (xs (Int.toNat (i + 3)))
  have hi309 := iv_hi (xs (Int.toNat (i + 3)))
  refine t_if_eq (pc := 310) (tgt := 317) dL_law_310 (by decide) (by omega) (fun c310 => ?_) (fun c310 => ?_)
  · refine r_iconst (pc := 317) (v := iv 0) dL_law_317 (by decide) ?_
    obtain ⟨fs7, hfs7⟩ := t_obj ht (rd_of CG_0)
    refine r_callV (pc := 318) (as := [.int (iv ((xs (Int.toNat (i + 1))).toInt)), .int (iv ((xs (Int.toNat (i + 2))).toInt)), .int (iv 0)]) (st := []) kL_33 rfl dL_law_318 hfs7 (y_X11_join0 (d := d - 1) (x1 := ((xs (Int.toNat (i + 1))).toInt)) (x2 := ((xs (Int.toNat (i + 2))).toInt)) (x3 := 0) (by omega) hk hmR hrv (by omega) ht (by omega) (by omega) (by omega)) rfl (by omega) (Nat.le_of_ble_eq_true rfl) (by omega) (by omega) rfl (fun r1 hp2 n3 hq4 => ?_)
    obtain ⟨hnn3, Γ8, ct8, rv8, th8, kn8, kd8, ka8, kf8, kt8, kw8, kc8, v8, hE8, ht5, hk8, hrr1, hA8, hb8, c1, c2⟩ := hq4
    subst r1
    have ex8 := RW_x hE8
    have ht6 := Tw_eq (Γ1 := (CG (RW Γ8 cI cJ cZ (a + 41) rf cn nm so sz dr mn fr tt wt co nu qi qc nf nt nw nc sa wo ln hw ro) cI cJ cZ cT a ct8 rv8 th8 dn dd da df dt dw dc kn8 kd8 ka8 kf8 kt8 kw8 kc8)) (by rw [ex8]) ht5
    have hk9 := hk8
    rw [← ex8] at hk9
    change Rn _ _ _ 321 _ [.int (iv v8)] _ _ _ _ _
    refine r_aload_n (pc := 321) dL_law_321 (i := 2) rfl rfl ?_
    refine r_aload_n (pc := 322) dL_law_322 (i := 0) rfl rfl ?_
    refine r_iload_n (pc := 323) dL_law_323 (i := 3) rfl rfl ?_
    refine r_iconst (pc := 324) (v := iv 1) dL_law_324 (by decide) ?_
    refine r_iadd (pc := 325) (v := iv (i + 1)) dL_law_325 (iv_add _ _) ?_
    refine w_sld (pc := 326) (v := iv ((xs (Int.toNat (i + 1))).toInt)) dL_law_326 (iv_in (L := L) (by omega) (by omega)) (by rw [iv_clamp (by omega) (by omega)]; exact (iv_of _).symm) ?_
    have lo326 := iv_lo (xs (Int.toNat (i + 1)))
    have hi326 := iv_hi (xs (Int.toNat (i + 1)))
    refine r_aload_n (pc := 327) dL_law_327 (i := 0) rfl rfl ?_
    refine r_iload_n (pc := 328) dL_law_328 (i := 3) rfl rfl ?_
    refine r_iconst (pc := 329) (v := iv 2) dL_law_329 (by decide) ?_
    refine r_iadd (pc := 330) (v := iv (i + 2)) dL_law_330 (iv_add _ _) ?_
    refine w_sld (pc := 331) (v := iv ((xs (Int.toNat (i + 2))).toInt)) dL_law_331 (iv_in (L := L) (by omega) (by omega)) (by rw [iv_clamp (by omega) (by omega)]; exact (iv_of _).symm) ?_
    have lo331 := iv_lo (xs (Int.toNat (i + 2)))
    have hi331 := iv_hi (xs (Int.toNat (i + 2)))
    refine r_aload_n (pc := 332) dL_law_332 (i := 0) rfl rfl ?_
    refine r_iload_n (pc := 333) dL_law_333 (i := 3) rfl rfl ?_
    refine r_iconst (pc := 334) (v := iv 3) dL_law_334 (by decide) ?_
    refine r_iadd (pc := 335) (v := iv (i + 3)) dL_law_335 (iv_add _ _) ?_
    refine w_sld (pc := 336) (v := iv ((xs (Int.toNat (i + 3))).toInt)) dL_law_336 (iv_in (L := L) (by omega) (by omega)) (by rw [iv_clamp (by omega) (by omega)]; exact (iv_of _).symm) ?_
    have lo336 := iv_lo (xs (Int.toNat (i + 3)))
    have hi336 := iv_hi (xs (Int.toNat (i + 3)))
    refine t_if_eq (pc := 337) (tgt := 344) dL_law_337 (by decide) (by omega) (fun c337 => ?_) (fun c337 => ?_)
    · refine r_iconst (pc := 344) (v := iv 0) dL_law_344 (by decide) ?_
      have ht13 := Tw_eq (Γ1 := RW (CG Γ8 cI cJ cZ cT a ct8 rv8 th8 dn dd da df dt dw dc kn8 kd8 ka8 kf8 kt8 kw8 kc8) cI cJ cZ (a + 41) rf cn nm so sz dr mn fr tt wt co nu qi qc nf nt nw nc sa wo ln hw ro) (CG_RW (by omega)) ht6
      obtain ⟨fs14, hfs14⟩ := t_obj ht13 (rd_of RW_y)
      refine r_callV (pc := 345) (as := [.int (iv ((xs (Int.toNat (i + 1))).toInt)), .int (iv ((xs (Int.toNat (i + 2))).toInt)), .int (iv 0)]) (st := [.int (iv v8)]) kL_37 rfl dL_law_345 hfs14 (zw_X12_join0 (d := d - 1) (x1 := ((xs (Int.toNat (i + 1))).toInt)) (x2 := ((xs (Int.toNat (i + 2))).toInt)) (by omega) hrk hwr9 ht13 (by omega) (by omega) (fun _ _ _ h => h)) rfl (by omega) (Nat.le_of_ble_eq_true rfl) (by omega) (by omega) rfl (fun r8 hp9 n10 hq11 => ?_)
      obtain ⟨hnn10, rf9, cn9, nm9, so9, sz9, dr9, mn9, fr9, tt9, wt9, co9, nf9, nt9, nw9, nc9, v9, ht12, hrr8, f0, f1, f2, f3, f4, f5, f6⟩ := hq11
      subst n10 r8
      have hcmp : v8 = v9 := hA8.trans f3.symm
      have hv9 := mv_X hvR (by omega) hE8 hcmp c1 c2 (fun h9 => ⟨(f4 h9).1, (f4 h9).2.1, (f4 h9).2.2.1⟩) (fun h9 => ⟨(f5 h9).1, (f5 h9).2.1, (f5 h9).2.2.1⟩) (by decide)
      obtain ⟨hm9, hec, her⟩ := mg_G hmR (by omega) hE8 hcmp c1 c2 f4 f5 f6
      subst ct8 rv8
      rw [← CG_RW (by omega)] at ht12
      have hv9r : -2147483648 ≤ v9 ∧ v9 ≤ 2147483647 := by omega
      change Rn _ _ _ 348 _ [.int (iv v9), .int (iv v8)] _ _ _ _ _
      refine t_icmp_eq (pc := 348) (tgt := 1077) dL_law_348 (by decide) (by omega) (by omega) (fun c348 => ?_) (fun c348 => ?_)
      · refine Rn.pick (lv' := [(0, .ref b), (1, .ref a), (2, .ref (a + 41)), (3, .int (iv i))]) [0, 1, 2, 3] rfl ?_
        exact kk _ _ _ _ ⟨Γ8, rf9, cn9, nm9, so9, sz9, dr9, mn9, fr9, tt9, wt9, co9, nu, qi, qc, nf9, nt9, nw9, nc9, sa, wo, ln, hw, ro, th8, dn, dd, da, df, dt, dw, dc, kn8, kd8, ka8, kf8, kt8, kw8, kc8, ht12, (EK.swapW hk9), f0, (DQ_r hdq f1), hm9, hv9, hwr9, by omega, by omega, by omega⟩
      · exfalso
        omega
    · exfalso
      omega
  · refine r_iconst (pc := 313) (v := iv 1) dL_law_313 (by decide) ?_
    refine r_goto (pc := 314) (tgt := 318) dL_law_314 (by decide) ?_
    obtain ⟨fs21, hfs21⟩ := t_obj ht (rd_of CG_0)
    refine r_callV (pc := 318) (as := [.int (iv ((xs (Int.toNat (i + 1))).toInt)), .int (iv ((xs (Int.toNat (i + 2))).toInt)), .int (iv 1)]) (st := []) kL_33 rfl dL_law_318 hfs21 (y_X11_join1 (d := d - 1) (x1 := ((xs (Int.toNat (i + 1))).toInt)) (x2 := ((xs (Int.toNat (i + 2))).toInt)) (x3 := 1) (by omega) hk hmR hrv (by omega) ht (by omega) (by omega) (by omega)) rfl (by omega) (Nat.le_of_ble_eq_true rfl) (by omega) (by omega) rfl (fun r15 hp16 n17 hq18 => ?_)
    obtain ⟨hnn17, Γ8, ct8, rv8, th8, kn8, kd8, ka8, kf8, kt8, kw8, kc8, v8, hE8, ht19, hk8, hrr15, hA8, hb8, c1, c2⟩ := hq18
    subst r15
    have ex8 := RW_x hE8
    have ht20 := Tw_eq (Γ1 := (CG (RW Γ8 cI cJ cZ (a + 41) rf cn nm so sz dr mn fr tt wt co nu qi qc nf nt nw nc sa wo ln hw ro) cI cJ cZ cT a ct8 rv8 th8 dn dd da df dt dw dc kn8 kd8 ka8 kf8 kt8 kw8 kc8)) (by rw [ex8]) ht19
    have hk9 := hk8
    rw [← ex8] at hk9
    change Rn _ _ _ 321 _ [.int (iv v8)] _ _ _ _ _
    refine r_aload_n (pc := 321) dL_law_321 (i := 2) rfl rfl ?_
    refine r_aload_n (pc := 322) dL_law_322 (i := 0) rfl rfl ?_
    refine r_iload_n (pc := 323) dL_law_323 (i := 3) rfl rfl ?_
    refine r_iconst (pc := 324) (v := iv 1) dL_law_324 (by decide) ?_
    refine r_iadd (pc := 325) (v := iv (i + 1)) dL_law_325 (iv_add _ _) ?_
    refine w_sld (pc := 326) (v := iv ((xs (Int.toNat (i + 1))).toInt)) dL_law_326 (iv_in (L := L) (by omega) (by omega)) (by rw [iv_clamp (by omega) (by omega)]; exact (iv_of _).symm) ?_
    have lo326 := iv_lo (xs (Int.toNat (i + 1)))
    have hi326 := iv_hi (xs (Int.toNat (i + 1)))
    refine r_aload_n (pc := 327) dL_law_327 (i := 0) rfl rfl ?_
    refine r_iload_n (pc := 328) dL_law_328 (i := 3) rfl rfl ?_
    refine r_iconst (pc := 329) (v := iv 2) dL_law_329 (by decide) ?_
    refine r_iadd (pc := 330) (v := iv (i + 2)) dL_law_330 (iv_add _ _) ?_
    refine w_sld (pc := 331) (v := iv ((xs (Int.toNat (i + 2))).toInt)) dL_law_331 (iv_in (L := L) (by omega) (by omega)) (by rw [iv_clamp (by omega) (by omega)]; exact (iv_of _).symm) ?_
    have lo331 := iv_lo (xs (Int.toNat (i + 2)))
    have hi331 := iv_hi (xs (Int.toNat (i + 2)))
    refine r_aload_n (pc := 332) dL_law_332 (i := 0) rfl rfl ?_
    refine r_iload_n (pc := 333) dL_law_333 (i := 3) rfl rfl ?_
    refine r_iconst (pc := 334) (v := iv 3) dL_law_334 (by decide) ?_
    refine r_iadd (pc := 335) (v := iv (i + 3)) dL_law_335 (iv_add _ _) ?_
    refine w_sld (pc := 336) (v := iv ((xs (Int.toNat (i + 3))).toInt)) dL_law_336 (iv_in (L := L) (by omega) (by omega)) (by rw [iv_clamp (by omega) (by omega)]; exact (iv_of _).symm) ?_
    have lo336 := iv_lo (xs (Int.toNat (i + 3)))
    have hi336 := iv_hi (xs (Int.toNat (i + 3)))
    refine t_if_eq (pc := 337) (tgt := 344) dL_law_337 (by decide) (by omega) (fun c337 => ?_) (fun c337 => ?_)
    · exfalso
      omega
    · refine r_iconst (pc := 340) (v := iv 1) dL_law_340 (by decide) ?_
      refine r_goto (pc := 341) (tgt := 345) dL_law_341 (by decide) ?_
      have ht27 := Tw_eq (Γ1 := RW (CG Γ8 cI cJ cZ cT a ct8 rv8 th8 dn dd da df dt dw dc kn8 kd8 ka8 kf8 kt8 kw8 kc8) cI cJ cZ (a + 41) rf cn nm so sz dr mn fr tt wt co nu qi qc nf nt nw nc sa wo ln hw ro) (CG_RW (by omega)) ht20
      obtain ⟨fs28, hfs28⟩ := t_obj ht27 (rd_of RW_y)
      refine r_callV (pc := 345) (as := [.int (iv ((xs (Int.toNat (i + 1))).toInt)), .int (iv ((xs (Int.toNat (i + 2))).toInt)), .int (iv 1)]) (st := [.int (iv v8)]) kL_37 rfl dL_law_345 hfs28 (zw_X12_join1 (d := d - 1) (x1 := ((xs (Int.toNat (i + 1))).toInt)) (x2 := ((xs (Int.toNat (i + 2))).toInt)) (by omega) hrk hwr9 ht27 (by omega) (by omega) (fun _ _ _ h => h)) rfl (by omega) (Nat.le_of_ble_eq_true rfl) (by omega) (by omega) rfl (fun r22 hp23 n24 hq25 => ?_)
      obtain ⟨hnn24, rf9, cn9, nm9, so9, sz9, dr9, mn9, fr9, tt9, wt9, co9, nf9, nt9, nw9, nc9, v9, ht26, hrr22, f0, f1, f2, f3, f4, f5, f6⟩ := hq25
      subst n24 r22
      have hcmp : v8 = v9 := hA8.trans f3.symm
      have hv9 := mv_X hvR (by omega) hE8 hcmp c1 c2 (fun h9 => ⟨(f4 h9).1, (f4 h9).2.1, (f4 h9).2.2.1⟩) (fun h9 => ⟨(f5 h9).1, (f5 h9).2.1, (f5 h9).2.2.1⟩) (by decide)
      obtain ⟨hm9, hec, her⟩ := mg_G hmR (by omega) hE8 hcmp c1 c2 f4 f5 f6
      subst ct8 rv8
      rw [← CG_RW (by omega)] at ht26
      have hv9r : -2147483648 ≤ v9 ∧ v9 ≤ 2147483647 := by omega
      change Rn _ _ _ 348 _ [.int (iv v9), .int (iv v8)] _ _ _ _ _
      refine t_icmp_eq (pc := 348) (tgt := 1077) dL_law_348 (by decide) (by omega) (by omega) (fun c348 => ?_) (fun c348 => ?_)
      · refine Rn.pick (lv' := [(0, .ref b), (1, .ref a), (2, .ref (a + 41)), (3, .int (iv i))]) [0, 1, 2, 3] rfl ?_
        exact kk _ _ _ _ ⟨Γ8, rf9, cn9, nm9, so9, sz9, dr9, mn9, fr9, tt9, wt9, co9, nu, qi, qc, nf9, nt9, nw9, nc9, sa, wo, ln, hw, ro, th8, dn, dd, da, df, dt, dw, dc, kn8, kd8, ka8, kf8, kt8, kw8, kc8, ht26, (EK.swapW hk9), f0, (DQ_r hdq f1), hm9, hv9, hwr9, by omega, by omega, by omega⟩
      · exfalso
        omega
set_option maxHeartbeats 4000000 in
set_option maxRecDepth 100000 in
theorem lm_5 {D : va_G} {cI cJ cZ cT : ClassId} {lo b L : Nat} {xs : Nat → Int32} {hp : MH} {n d kr wr a : Nat} {i : Int} {Po : Option Value → MH → Nat → Prop} (hd : 60 ≤ d) (hL : L ≤ 3584) (hi : 0 ≤ i ∧ i + 7 ≤ (L : Int))  (h : LK cI cJ cZ cT a L i hp n kr wr) (kk : ∀ (hp1 : MH) (n1 kr1 wr1 : Nat), LK cI cJ cZ cT a L (i + 7) hp1 n1 kr1 wr1 → Rn (gG D cI cJ cZ cT lo b L xs) mL_law d 1077 [(0, .ref b), (1, .ref a), (2, .ref (a + 41)), (3, .int (iv i))] [] hp1 n1 kr1 wr1 Po) : Rn (gG D cI cJ cZ cT lo b L xs) mL_law d 353 [(0, .ref b), (1, .ref a), (2, .ref (a + 41)), (3, .int (iv i))] [] hp n kr wr Po := by
  obtain ⟨Γ, rf, cn, nm, so, sz, dr, mn, fr, tt, wt, co, nu, qi, qc, nf, nt, nw, nc, sa, wo, ln, hw, ro, th, dn, dd, da, df, dt, dw, dc, kn, kd, ka, kf, kt, kw, kc, ht, hk, hrk, hdq, hm, hv, hwr9, hna, hkr, hwr⟩ := h
  have hmR := HM.same (fun q hq => (RW_o hq).symm : ∀ q : Nat, (q < a + 41 ∨ a + 41 + 43 ≤ q) → Γ q = (RW Γ cI cJ cZ (a + 41) rf cn nm so sz dr mn fr tt wt co nu qi qc nf nt nw nc sa wo ln hw ro) q) hm
  have hvR := HV.same (fun q hq => (RW_o hq).symm : ∀ q : Nat, (q < a + 41 ∨ a + 41 + 43 ≤ q) → Γ q = (RW Γ cI cJ cZ (a + 41) rf cn nm so sz dr mn fr tt wt co nu qi qc nf nt nw nc sa wo ln hw ro) q) hv
  have hcn9 := hk.1
  have hrv : -2147483648 ≤ rf ∧ rf ≤ 2147483647 := hrk.2.2.2.2.2.2.2.2.2.2.2.1
  refine r_aload_n (pc := 353) dL_law_353 (i := 1) rfl rfl ?_
  refine r_aload_n (pc := 354) dL_law_354 (i := 0) rfl rfl ?_
  refine r_iload_n (pc := 355) dL_law_355 (i := 3) rfl rfl ?_
  refine r_iconst (pc := 356) (v := iv 1) dL_law_356 (by decide) ?_
  refine r_iadd (pc := 357) (v := iv (i + 1)) dL_law_357 (iv_add _ _) ?_
  refine w_sld (pc := 358) (v := iv ((xs (Int.toNat (i + 1))).toInt)) dL_law_358 (iv_in (L := L) (by omega) (by omega)) (by rw [iv_clamp (by omega) (by omega)]; exact (iv_of _).symm) ?_
  have lo358 := iv_lo (xs (Int.toNat (i + 1)))
  have hi358 := iv_hi (xs (Int.toNat (i + 1)))
  refine r_aload_n (pc := 359) dL_law_359 (i := 0) rfl rfl ?_
  refine r_iload_n (pc := 360) dL_law_360 (i := 3) rfl rfl ?_
  refine r_iconst (pc := 361) (v := iv 2) dL_law_361 (by decide) ?_
  refine r_iadd (pc := 362) (v := iv (i + 2)) dL_law_362 (iv_add _ _) ?_
  refine w_sld (pc := 363) (v := iv ((xs (Int.toNat (i + 2))).toInt)) dL_law_363 (iv_in (L := L) (by omega) (by omega)) (by rw [iv_clamp (by omega) (by omega)]; exact (iv_of _).symm) ?_
  have lo363 := iv_lo (xs (Int.toNat (i + 2)))
  have hi363 := iv_hi (xs (Int.toNat (i + 2)))
  refine r_aload_n (pc := 364) dL_law_364 (i := 0) rfl rfl ?_
  refine r_iload_n (pc := 365) dL_law_365 (i := 3) rfl rfl ?_
  refine r_iconst (pc := 366) (v := iv 3) dL_law_366 (by decide) ?_
  refine r_iadd (pc := 367) (v := iv (i + 3)) dL_law_367 (iv_add _ _) ?_
  refine w_sld (pc := 368) (v := iv ((xs (Int.toNat (i + 3))).toInt)) dL_law_368 (iv_in (L := L) (by omega) (by omega)) (by rw [iv_clamp (by omega) (by omega)]; exact (iv_of _).symm) ?_
  have lo368 := iv_lo (xs (Int.toNat (i + 3)))
  have hi368 := iv_hi (xs (Int.toNat (i + 3)))
  obtain ⟨fs7, hfs7⟩ := t_obj ht (rd_of CG_0)
  refine r_callV (pc := 369) (as := [.int (iv ((xs (Int.toNat (i + 1))).toInt)), .int (iv ((xs (Int.toNat (i + 2))).toInt)), .int (iv ((xs (Int.toNat (i + 3))).toInt))]) (st := []) kL_38 rfl dL_law_369 hfs7 (y_X11_column (d := d - 1) (x1 := ((xs (Int.toNat (i + 1))).toInt)) (x2 := ((xs (Int.toNat (i + 2))).toInt)) (x3 := ((xs (Int.toNat (i + 3))).toInt)) (by omega) hk hmR hrv (by omega) ht (by omega) (by omega) (by omega)) rfl (by omega) (Nat.le_of_ble_eq_true rfl) (by omega) (by omega) rfl (fun r1 hp2 n3 hq4 => ?_)
  obtain ⟨hnn3, Γ8, ct8, rv8, th8, kn8, kd8, ka8, kf8, kt8, kw8, kc8, v8, hE8, ht5, hk8, hrr1, hA8, hb8, c1, c2⟩ := hq4
  subst r1
  have ex8 := RW_x hE8
  have ht6 := Tw_eq (Γ1 := (CG (RW Γ8 cI cJ cZ (a + 41) rf cn nm so sz dr mn fr tt wt co nu qi qc nf nt nw nc sa wo ln hw ro) cI cJ cZ cT a ct8 rv8 th8 dn dd da df dt dw dc kn8 kd8 ka8 kf8 kt8 kw8 kc8)) (by rw [ex8]) ht5
  have hk9 := hk8
  rw [← ex8] at hk9
  change Rn _ _ _ 372 _ [.int (iv v8)] _ _ _ _ _
  refine r_aload_n (pc := 372) dL_law_372 (i := 2) rfl rfl ?_
  refine r_aload_n (pc := 373) dL_law_373 (i := 0) rfl rfl ?_
  refine r_iload_n (pc := 374) dL_law_374 (i := 3) rfl rfl ?_
  refine r_iconst (pc := 375) (v := iv 1) dL_law_375 (by decide) ?_
  refine r_iadd (pc := 376) (v := iv (i + 1)) dL_law_376 (iv_add _ _) ?_
  refine w_sld (pc := 377) (v := iv ((xs (Int.toNat (i + 1))).toInt)) dL_law_377 (iv_in (L := L) (by omega) (by omega)) (by rw [iv_clamp (by omega) (by omega)]; exact (iv_of _).symm) ?_
  have lo377 := iv_lo (xs (Int.toNat (i + 1)))
  have hi377 := iv_hi (xs (Int.toNat (i + 1)))
  refine r_aload_n (pc := 378) dL_law_378 (i := 0) rfl rfl ?_
  refine r_iload_n (pc := 379) dL_law_379 (i := 3) rfl rfl ?_
  refine r_iconst (pc := 380) (v := iv 2) dL_law_380 (by decide) ?_
  refine r_iadd (pc := 381) (v := iv (i + 2)) dL_law_381 (iv_add _ _) ?_
  refine w_sld (pc := 382) (v := iv ((xs (Int.toNat (i + 2))).toInt)) dL_law_382 (iv_in (L := L) (by omega) (by omega)) (by rw [iv_clamp (by omega) (by omega)]; exact (iv_of _).symm) ?_
  have lo382 := iv_lo (xs (Int.toNat (i + 2)))
  have hi382 := iv_hi (xs (Int.toNat (i + 2)))
  refine r_aload_n (pc := 383) dL_law_383 (i := 0) rfl rfl ?_
  refine r_iload_n (pc := 384) dL_law_384 (i := 3) rfl rfl ?_
  refine r_iconst (pc := 385) (v := iv 3) dL_law_385 (by decide) ?_
  refine r_iadd (pc := 386) (v := iv (i + 3)) dL_law_386 (iv_add _ _) ?_
  refine w_sld (pc := 387) (v := iv ((xs (Int.toNat (i + 3))).toInt)) dL_law_387 (iv_in (L := L) (by omega) (by omega)) (by rw [iv_clamp (by omega) (by omega)]; exact (iv_of _).symm) ?_
  have lo387 := iv_lo (xs (Int.toNat (i + 3)))
  have hi387 := iv_hi (xs (Int.toNat (i + 3)))
  have ht13 := Tw_eq (Γ1 := RW (CG Γ8 cI cJ cZ cT a ct8 rv8 th8 dn dd da df dt dw dc kn8 kd8 ka8 kf8 kt8 kw8 kc8) cI cJ cZ (a + 41) rf cn nm so sz dr mn fr tt wt co nu qi qc nf nt nw nc sa wo ln hw ro) (CG_RW (by omega)) ht6
  obtain ⟨fs14, hfs14⟩ := t_obj ht13 (rd_of RW_y)
  refine r_callV (pc := 388) (as := [.int (iv ((xs (Int.toNat (i + 1))).toInt)), .int (iv ((xs (Int.toNat (i + 2))).toInt)), .int (iv ((xs (Int.toNat (i + 3))).toInt))]) (st := [.int (iv v8)]) kL_41 rfl dL_law_388 hfs14 (zw_X12_column (d := d - 1) (x1 := ((xs (Int.toNat (i + 1))).toInt)) (x2 := ((xs (Int.toNat (i + 2))).toInt)) (x3 := ((xs (Int.toNat (i + 3))).toInt)) (by omega) hrk hwr9 ht13 (by omega) (by omega) (by omega) (fun _ _ _ h => h)) rfl (by omega) (Nat.le_of_ble_eq_true rfl) (by omega) (by omega) rfl (fun r8 hp9 n10 hq11 => ?_)
  obtain ⟨hnn10, rf9, cn9, so9, sz9, nu9, v9, ht12, hrr8, f0, f1, f2, f3, f4, f5, f6⟩ := hq11
  subst n10 r8
  have hcmp : v8 = v9 := hA8.trans f3.symm
  have hv9 := mv_X hvR (by omega) hE8 hcmp c1 c2 (fun h9 => ⟨(f4 h9).1, (f4 h9).2.1, (f4 h9).2.2.1⟩) (fun h9 => (f5 h9).elim (fun g q => ⟨q.1.1, q.1.2.1, q.1.2.2.1⟩)) (by decide)
  obtain ⟨hm9, hec, her⟩ := mg_C hmR (by omega) hE8 hcmp c1 c2 f4 f5 (fun h9 f g hf hg => ck_uq (by have h8 := an1_pos f3 h9; omega) hf hg) f6
  subst ct8 rv8
  rw [← CG_RW (by omega)] at ht12
  have hv9r : -2147483648 ≤ v9 ∧ v9 ≤ 2147483647 := by omega
  change Rn _ _ _ 391 _ [.int (iv v9), .int (iv v8)] _ _ _ _ _
  refine t_icmp_eq (pc := 391) (tgt := 1077) dL_law_391 (by decide) (by omega) (by omega) (fun c391 => ?_) (fun c391 => ?_)
  · refine Rn.pick (lv' := [(0, .ref b), (1, .ref a), (2, .ref (a + 41)), (3, .int (iv i))]) [0, 1, 2, 3] rfl ?_
    exact kk _ _ _ _ ⟨Γ8, rf9, cn9, nm, so9, sz9, dr, mn, fr, tt, wt, co, nu9, qi, qc, nf, nt, nw, nc, sa, wo, ln, hw, ro, th8, dn, dd, da, df, dt, dw, dc, kn8, kd8, ka8, kf8, kt8, kw8, kc8, ht12, (EK.swapW hk9), f0, (DQ_r hdq f1), hm9, hv9, hwr9, by omega, by omega, by omega⟩
  · exfalso
    omega
