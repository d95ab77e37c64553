set_option maxHeartbeats 4000000 in
set_option maxRecDepth 100000 in
theorem lk_0 {D : va_G} {cI cJ cZ cT : ClassId} {lo b L : Nat} {xs : Nat → Int32} {hp : MH} {n d kr wr a : Nat} {i : Int} {Po : Option Value → MH → Nat → Prop} (hd : 60 ≤ d) (hL : L ≤ 3584) (hi : 0 ≤ i ∧ i + 7 ≤ (L : Int)) (hP : ∀ (v : Int) (hp : MH) (n : Nat), Po (some (.int (iv v))) hp n) (h : LK cI cJ cZ cT a L i hp n kr wr) (kk : ∀ (hp1 : MH) (n1 kr1 wr1 : Nat), LK cI cJ cZ cT a L (i + 7) hp1 n1 kr1 wr1 → Rn (gG D cI cJ cZ cT lo b L xs) mL_law d 1077 [(0, .ref b), (1, .ref a), (2, .ref (a + 41)), (3, .int (iv i))] [] hp1 n1 kr1 wr1 Po) : Rn (gG D cI cJ cZ cT lo b L xs) mL_law d 136 [(0, .ref b), (1, .ref a), (2, .ref (a + 41)), (3, .int (iv i))] [] hp n kr wr Po := by
  obtain ⟨Γ, rf, cn, nm, so, sz, dr, mn, fr, tt, wt, co, nu, qi, qc, nf, nt, nw, nc, sa, wo, ln, hw, ro, th, dn, dd, da, df, dt, dw, dc, kn, kd, ka, kf, kt, kw, kc, ht, hk, hrk, hdq, hm, hv, hwr9, hna, hkr, hwr⟩ := h
  have hmR := HM.same (fun q hq => (RW_o hq).symm : ∀ q : Nat, (q < a + 41 ∨ a + 41 + 43 ≤ q) → Γ q = (RW Γ cI cJ cZ (a + 41) rf cn nm so sz dr mn fr tt wt co nu qi qc nf nt nw nc sa wo ln hw ro) q) hm
  have hvR := HV.same (fun q hq => (RW_o hq).symm : ∀ q : Nat, (q < a + 41 ∨ a + 41 + 43 ≤ q) → Γ q = (RW Γ cI cJ cZ (a + 41) rf cn nm so sz dr mn fr tt wt co nu qi qc nf nt nw nc sa wo ln hw ro) q) hv
  have hcn9 := hk.1
  have hrv : -2147483648 ≤ rf ∧ rf ≤ 2147483647 := hrk.2.2.2.2.2.2.2.2.2.2.2.1
  refine r_aload_n (pc := 136) dL_law_136 (i := 1) rfl rfl ?_
  refine r_aload_n (pc := 137) dL_law_137 (i := 0) rfl rfl ?_
  refine r_iload_n (pc := 138) dL_law_138 (i := 3) rfl rfl ?_
  refine r_iconst (pc := 139) (v := iv 1) dL_law_139 (by decide) ?_
  refine r_iadd (pc := 140) (v := iv (i + 1)) dL_law_140 (iv_add _ _) ?_
  refine w_sld (pc := 141) (v := iv ((xs (Int.toNat (i + 1))).toInt)) dL_law_141 (iv_in (L := L) (by omega) (by omega)) (by rw [iv_clamp (by omega) (by omega)]; exact (iv_of _).symm) ?_
  have lo141 := iv_lo (xs (Int.toNat (i + 1)))
  have hi141 := iv_hi (xs (Int.toNat (i + 1)))
  refine r_aload_n (pc := 142) dL_law_142 (i := 0) rfl rfl ?_
  refine r_iload_n (pc := 143) dL_law_143 (i := 3) rfl rfl ?_
  refine r_iconst (pc := 144) (v := iv 2) dL_law_144 (by decide) ?_
  refine r_iadd (pc := 145) (v := iv (i + 2)) dL_law_145 (iv_add _ _) ?_
  refine w_sld (pc := 146) (v := iv ((xs (Int.toNat (i + 2))).toInt)) dL_law_146 (iv_in (L := L) (by omega) (by omega)) (by rw [iv_clamp (by omega) (by omega)]; exact (iv_of _).symm) ?_
  have lo146 := iv_lo (xs (Int.toNat (i + 2)))
  have hi146 := iv_hi (xs (Int.toNat (i + 2)))
  refine t_if_eq (pc := 147) (tgt := 154) dL_law_147 (by decide) (by omega) (fun c147 => ?_) (fun c147 => ?_)
  · refine r_iconst (pc := 154) (v := iv 0) dL_law_154 (by decide) ?_
    obtain ⟨fs7, hfs7⟩ := t_obj ht (rd_of CG_0)
    refine r_callV (pc := 155) (as := [.int (iv ((xs (Int.toNat (i + 1))).toInt)), .int (iv 0)]) (st := []) kL_13 rfl dL_law_155 hfs7 (y_X11_begin (d := d - 1) (x1 := ((xs (Int.toNat (i + 1))).toInt)) (x2 := 0) (by omega) hk hrv ht (by omega) (by omega)) rfl (by omega) (Nat.le_of_ble_eq_true rfl) (by omega) (by omega) rfl (fun r1 hp2 n3 hq4 => ?_)
    obtain ⟨hnn3, rv8, dn8, dd8, da8, v8, ht5, hrr1, hB⟩ := hq4
    subst n3 r1
    have hk8 : EK (RW Γ cI cJ cZ (a + 41) rf cn nm so sz dr mn fr tt wt co nu qi qc nf nt nw nc sa wo ln hw ro) cI cJ cZ a cn th dn8 dd8 da8 df dt dw dc kn kd ka := by
      rcases hB with ⟨h1, e1, e2, e3, e4, e5⟩ | ⟨h1, e1, e2, e3, e4, e5⟩
      · rw [e1, e2, e3]; exact EK.dr hk (by omega) (by omega) (by omega) (ar_0 _ _ _ _ _)
      · rw [e1, e2, e3]; exact hk
    have bv8 : 0 ≤ v8 ∧ v8 ≤ 1 := by omega
    change Rn _ _ _ 158 _ [.int (iv v8)] _ _ _ _ _
    refine r_aload_n (pc := 158) dL_law_158 (i := 2) rfl rfl ?_
    refine r_aload_n (pc := 159) dL_law_159 (i := 0) rfl rfl ?_
    refine r_iload_n (pc := 160) dL_law_160 (i := 3) rfl rfl ?_
    refine r_iconst (pc := 161) (v := iv 1) dL_law_161 (by decide) ?_
    refine r_iadd (pc := 162) (v := iv (i + 1)) dL_law_162 (iv_add _ _) ?_
    refine w_sld (pc := 163) (v := iv ((xs (Int.toNat (i + 1))).toInt)) dL_law_163 (iv_in (L := L) (by omega) (by omega)) (by rw [iv_clamp (by omega) (by omega)]; exact (iv_of _).symm) ?_
    have lo163 := iv_lo (xs (Int.toNat (i + 1)))
    have hi163 := iv_hi (xs (Int.toNat (i + 1)))
    refine r_aload_n (pc := 164) dL_law_164 (i := 0) rfl rfl ?_
    refine r_iload_n (pc := 165) dL_law_165 (i := 3) rfl rfl ?_
    refine r_iconst (pc := 166) (v := iv 2) dL_law_166 (by decide) ?_
    refine r_iadd (pc := 167) (v := iv (i + 2)) dL_law_167 (iv_add _ _) ?_
    refine w_sld (pc := 168) (v := iv ((xs (Int.toNat (i + 2))).toInt)) dL_law_168 (iv_in (L := L) (by omega) (by omega)) (by rw [iv_clamp (by omega) (by omega)]; exact (iv_of _).symm) ?_
    have lo168 := iv_lo (xs (Int.toNat (i + 2)))
    have hi168 := iv_hi (xs (Int.toNat (i + 2)))
    refine t_if_eq (pc := 169) (tgt := 176) dL_law_169 (by decide) (by omega) (fun c169 => ?_) (fun c169 => ?_)
    · refine r_iconst (pc := 176) (v := iv 0) dL_law_176 (by decide) ?_
      have ht13 := Tw_eq (Γ1 := RW (CG Γ cI cJ cZ cT a cn rv8 th dn8 dd8 da8 df dt dw dc kn kd ka kf kt kw kc) cI cJ cZ (a + 41) rf cn nm so sz dr mn fr tt wt co nu qi qc nf nt nw nc sa wo ln hw ro) (CG_RW (by omega)) ht5
      obtain ⟨fs14, hfs14⟩ := t_obj ht13 (rd_of RW_y)
      refine r_callV (pc := 177) (as := [.int (iv ((xs (Int.toNat (i + 1))).toInt)), .int (iv 0)]) (st := [.int (iv v8)]) kL_17 rfl dL_law_177 hfs14 (zw_X12_begin (d := d - 1) (x1 := ((xs (Int.toNat (i + 1))).toInt)) (x2 := 0) (by omega) hrk hwr9 ht13 (by omega) (by omega) (fun _ _ _ h => h)) rfl (by omega) (Nat.le_of_ble_eq_true rfl) (by omega) (by omega) rfl (fun r8 hp9 n10 hq11 => ?_)
      obtain ⟨hnn10, rf9, sz9, dr9, mn9, v9, ht12, hrr8, f0, f1, f2⟩ := hq11
      subst n10 r8
      have rk9 : RK rf9 cn nm so sz9 dr9 mn9 fr tt wt co nu qi qc nf nt nw nc ∧ DQ dn8 dd8 da8 df dt dw dc sz9 dr9 mn9 fr tt wt co ∧ HM Γ cI cJ cZ a cn th so sz9 dr9 mn9 fr tt wt co nu qi qc ∧ v8 = v9 ∧ rv8 = rf9 := by
        by_cases h9 : 1 ≤ ((xs (Int.toNat (i + 1))).toInt) ∧ ((xs (Int.toNat (i + 1))).toInt) ≤ 16
        · obtain ⟨e0, e1, e2, e3⟩ := f1 h9
          have er := f0.1 h9
          rcases hB with ⟨h1, g1, g2, g3, g4, g5⟩ | ⟨h1, g1, g2, g3, g4, g5⟩
          · rw [e1, e2, e3, g1, g2, g3]; exact ⟨RK_begin hrk h9 (by omega) (by omega), DQ_begin hdq, hm.upd (fun i hi => ⟨fup_o _ _ (by omega), fup_o _ _ (by omega), fup_o _ _ (by omega)⟩) (fun k hk => ⟨rfl, rfl, rfl, rfl⟩), by omega, by omega⟩
          · exact absurd h9 h1
        · obtain ⟨e0, e1, e2, e3⟩ := f2 h9
          have er := f0.2 h9
          rcases hB with ⟨h1, g1, g2, g3, g4, g5⟩ | ⟨h1, g1, g2, g3, g4, g5⟩
          · exact absurd h1 h9
          · rw [e1, e2, e3, g1, g2, g3]; exact ⟨RK_set hrk (by omega) hrk.2.2.2.2.2.2.2.2.2.2.2.2.1, hdq, hm, by omega, by omega⟩
      have hv9 : HV Γ cI cJ cZ a cn th so sz9 sa wo ln hw ro := by
        by_cases h9 : 1 ≤ ((xs (Int.toNat (i + 1))).toInt) ∧ ((xs (Int.toNat (i + 1))).toInt) ≤ 16
        · obtain ⟨e0, e1, e2, e3⟩ := f1 h9
          rw [e1]; exact hv.upd (fun i hi => fup_o _ _ (by omega))
        · obtain ⟨e0, e1, e2, e3⟩ := f2 h9
          rw [e1]; exact hv
      obtain ⟨rk8, dq8, hm9, hcmp, her⟩ := rk9
      subst rv8
      rw [← CG_RW (by omega)] at ht12
      have hv9r : -2147483648 ≤ v9 ∧ v9 ≤ 2147483647 := by omega
      change Rn _ _ _ 180 _ [.int (iv v9), .int (iv v8)] _ _ _ _ _
      refine t_icmp_eq (pc := 180) (tgt := 1077) dL_law_180 (by decide) (by omega) (by omega) (fun c180 => ?_) (fun c180 => ?_)
      · refine Rn.pick (lv' := [(0, .ref b), (1, .ref a), (2, .ref (a + 41)), (3, .int (iv i))]) [0, 1, 2, 3] rfl ?_
        exact kk _ _ _ _ ⟨Γ, rf9, cn, nm, so, sz9, dr9, mn9, fr, tt, wt, co, nu, qi, qc, nf, nt, nw, nc, sa, wo, ln, hw, ro, th, dn8, dd8, da8, df, dt, dw, dc, kn, kd, ka, kf, kt, kw, kc, ht12, (EK.swapW hk8), rk8, dq8, hm9, hv9, hwr9, by omega, by omega, by omega⟩
      · exfalso
        omega
    · exfalso
      omega
  · refine r_iconst (pc := 150) (v := iv 1) dL_law_150 (by decide) ?_
    refine r_goto (pc := 151) (tgt := 155) dL_law_151 (by decide) ?_
    obtain ⟨fs21, hfs21⟩ := t_obj ht (rd_of CG_0)
    refine r_callV (pc := 155) (as := [.int (iv ((xs (Int.toNat (i + 1))).toInt)), .int (iv 1)]) (st := []) kL_13 rfl dL_law_155 hfs21 (y_X11_begin (d := d - 1) (x1 := ((xs (Int.toNat (i + 1))).toInt)) (x2 := 1) (by omega) hk hrv ht (by omega) (by omega)) rfl (by omega) (Nat.le_of_ble_eq_true rfl) (by omega) (by omega) rfl (fun r15 hp16 n17 hq18 => ?_)
    obtain ⟨hnn17, rv8, dn8, dd8, da8, v8, ht19, hrr15, hB⟩ := hq18
    subst n17 r15
    have hk8 : EK (RW Γ cI cJ cZ (a + 41) rf cn nm so sz dr mn fr tt wt co nu qi qc nf nt nw nc sa wo ln hw ro) cI cJ cZ a cn th dn8 dd8 da8 df dt dw dc kn kd ka := by
      rcases hB with ⟨h1, e1, e2, e3, e4, e5⟩ | ⟨h1, e1, e2, e3, e4, e5⟩
      · rw [e1, e2, e3]; exact EK.dr hk (by omega) (by omega) (by omega) (ar_0 _ _ _ _ _)
      · rw [e1, e2, e3]; exact hk
    have bv8 : 0 ≤ v8 ∧ v8 ≤ 1 := by omega
    change Rn _ _ _ 158 _ [.int (iv v8)] _ _ _ _ _
    refine r_aload_n (pc := 158) dL_law_158 (i := 2) rfl rfl ?_
    refine r_aload_n (pc := 159) dL_law_159 (i := 0) rfl rfl ?_
    refine r_iload_n (pc := 160) dL_law_160 (i := 3) rfl rfl ?_
    refine r_iconst (pc := 161) (v := iv 1) dL_law_161 (by decide) ?_
    refine r_iadd (pc := 162) (v := iv (i + 1)) dL_law_162 (iv_add _ _) ?_
    refine w_sld (pc := 163) (v := iv ((xs (Int.toNat (i + 1))).toInt)) dL_law_163 (iv_in (L := L) (by omega) (by omega)) (by rw [iv_clamp (by omega) (by omega)]; exact (iv_of _).symm) ?_
    have lo163 := iv_lo (xs (Int.toNat (i + 1)))
    have hi163 := iv_hi (xs (Int.toNat (i + 1)))
    refine r_aload_n (pc := 164) dL_law_164 (i := 0) rfl rfl ?_
    refine r_iload_n (pc := 165) dL_law_165 (i := 3) rfl rfl ?_
    refine r_iconst (pc := 166) (v := iv 2) dL_law_166 (by decide) ?_
    refine r_iadd (pc := 167) (v := iv (i + 2)) dL_law_167 (iv_add _ _) ?_
    refine w_sld (pc := 168) (v := iv ((xs (Int.toNat (i + 2))).toInt)) dL_law_168 (iv_in (L := L) (by omega) (by omega)) (by rw [iv_clamp (by omega) (by omega)]; exact (iv_of _).symm) ?_
    have lo168 := iv_lo (xs (Int.toNat (i + 2)))
    have hi168 := iv_hi (xs (Int.toNat (i + 2)))
    refine t_if_eq (pc := 169) (tgt := 176) dL_law_169 (by decide) (by omega) (fun c169 => ?_) (fun c169 => ?_)
    · exfalso
      omega
    · refine r_iconst (pc := 172) (v := iv 1) dL_law_172 (by decide) ?_
      refine r_goto (pc := 173) (tgt := 177) dL_law_173 (by decide) ?_
      have ht27 := Tw_eq (Γ1 := RW (CG Γ cI cJ cZ cT a cn rv8 th dn8 dd8 da8 df dt dw dc kn kd ka kf kt kw kc) cI cJ cZ (a + 41) rf cn nm so sz dr mn fr tt wt co nu qi qc nf nt nw nc sa wo ln hw ro) (CG_RW (by omega)) ht19
      obtain ⟨fs28, hfs28⟩ := t_obj ht27 (rd_of RW_y)
      refine r_callV (pc := 177) (as := [.int (iv ((xs (Int.toNat (i + 1))).toInt)), .int (iv 1)]) (st := [.int (iv v8)]) kL_17 rfl dL_law_177 hfs28 (zw_X12_begin (d := d - 1) (x1 := ((xs (Int.toNat (i + 1))).toInt)) (x2 := 1) (by omega) hrk hwr9 ht27 (by omega) (by omega) (fun _ _ _ h => h)) rfl (by omega) (Nat.le_of_ble_eq_true rfl) (by omega) (by omega) rfl (fun r22 hp23 n24 hq25 => ?_)
      obtain ⟨hnn24, rf9, sz9, dr9, mn9, v9, ht26, hrr22, f0, f1, f2⟩ := hq25
      subst n24 r22
      have rk9 : RK rf9 cn nm so sz9 dr9 mn9 fr tt wt co nu qi qc nf nt nw nc ∧ DQ dn8 dd8 da8 df dt dw dc sz9 dr9 mn9 fr tt wt co ∧ HM Γ cI cJ cZ a cn th so sz9 dr9 mn9 fr tt wt co nu qi qc ∧ v8 = v9 ∧ rv8 = rf9 := by
        by_cases h9 : 1 ≤ ((xs (Int.toNat (i + 1))).toInt) ∧ ((xs (Int.toNat (i + 1))).toInt) ≤ 16
        · obtain ⟨e0, e1, e2, e3⟩ := f1 h9
          have er := f0.1 h9
          rcases hB with ⟨h1, g1, g2, g3, g4, g5⟩ | ⟨h1, g1, g2, g3, g4, g5⟩
          · rw [e1, e2, e3, g1, g2, g3]; exact ⟨RK_begin hrk h9 (by omega) (by omega), DQ_begin hdq, hm.upd (fun i hi => ⟨fup_o _ _ (by omega), fup_o _ _ (by omega), fup_o _ _ (by omega)⟩) (fun k hk => ⟨rfl, rfl, rfl, rfl⟩), by omega, by omega⟩
          · exact absurd h9 h1
        · obtain ⟨e0, e1, e2, e3⟩ := f2 h9
          have er := f0.2 h9
          rcases hB with ⟨h1, g1, g2, g3, g4, g5⟩ | ⟨h1, g1, g2, g3, g4, g5⟩
          · exact absurd h1 h9
          · rw [e1, e2, e3, g1, g2, g3]; exact ⟨RK_set hrk (by omega) hrk.2.2.2.2.2.2.2.2.2.2.2.2.1, hdq, hm, by omega, by omega⟩
      have hv9 : HV Γ cI cJ cZ a cn th so sz9 sa wo ln hw ro := by
        by_cases h9 : 1 ≤ ((xs (Int.toNat (i + 1))).toInt) ∧ ((xs (Int.toNat (i + 1))).toInt) ≤ 16
        · obtain ⟨e0, e1, e2, e3⟩ := f1 h9
          rw [e1]; exact hv.upd (fun i hi => fup_o _ _ (by omega))
        · obtain ⟨e0, e1, e2, e3⟩ := f2 h9
          rw [e1]; exact hv
      obtain ⟨rk8, dq8, hm9, hcmp, her⟩ := rk9
      subst rv8
      rw [← CG_RW (by omega)] at ht26
      have hv9r : -2147483648 ≤ v9 ∧ v9 ≤ 2147483647 := by omega
      change Rn _ _ _ 180 _ [.int (iv v9), .int (iv v8)] _ _ _ _ _
      refine t_icmp_eq (pc := 180) (tgt := 1077) dL_law_180 (by decide) (by omega) (by omega) (fun c180 => ?_) (fun c180 => ?_)
      · refine Rn.pick (lv' := [(0, .ref b), (1, .ref a), (2, .ref (a + 41)), (3, .int (iv i))]) [0, 1, 2, 3] rfl ?_
        exact kk _ _ _ _ ⟨Γ, rf9, cn, nm, so, sz9, dr9, mn9, fr, tt, wt, co, nu, qi, qc, nf, nt, nw, nc, sa, wo, ln, hw, ro, th, dn8, dd8, da8, df, dt, dw, dc, kn, kd, ka, kf, kt, kw, kc, ht26, (EK.swapW hk8), rk8, dq8, hm9, hv9, hwr9, by omega, by omega, by omega⟩
      · exfalso
        omega
set_option maxHeartbeats 4000000 in
set_option maxRecDepth 100000 in
theorem lk_1 {D : va_G} {cI cJ cZ cT : ClassId} {lo b L : Nat} {xs : Nat → Int32} {hp : MH} {n d kr wr a : Nat} {i : Int} {Po : Option Value → MH → Nat → Prop} (hd : 60 ≤ d) (hL : L ≤ 3584) (hi : 0 ≤ i ∧ i + 7 ≤ (L : Int)) (hP : ∀ (v : Int) (hp : MH) (n : Nat), Po (some (.int (iv v))) hp n) (h : LK cI cJ cZ cT a L i hp n kr wr) (kk : ∀ (hp1 : MH) (n1 kr1 wr1 : Nat), LK cI cJ cZ cT a L (i + 7) hp1 n1 kr1 wr1 → Rn (gG D cI cJ cZ cT lo b L xs) mL_law d 1077 [(0, .ref b), (1, .ref a), (2, .ref (a + 41)), (3, .int (iv i))] [] hp1 n1 kr1 wr1 Po) : Rn (gG D cI cJ cZ cT lo b L xs) mL_law d 185 [(0, .ref b), (1, .ref a), (2, .ref (a + 41)), (3, .int (iv i))] [] hp n kr wr Po := by
  obtain ⟨Γ, rf, cn, nm, so, sz, dr, mn, fr, tt, wt, co, nu, qi, qc, nf, nt, nw, nc, sa, wo, ln, hw, ro, th, dn, dd, da, df, dt, dw, dc, kn, kd, ka, kf, kt, kw, kc, ht, hk, hrk, hdq, hm, hv, hwr9, hna, hkr, hwr⟩ := h
  have hmR := HM.same (fun q hq => (RW_o hq).symm : ∀ q : Nat, (q < a + 41 ∨ a + 41 + 43 ≤ q) → Γ q = (RW Γ cI cJ cZ (a + 41) rf cn nm so sz dr mn fr tt wt co nu qi qc nf nt nw nc sa wo ln hw ro) q) hm
  have hvR := HV.same (fun q hq => (RW_o hq).symm : ∀ q : Nat, (q < a + 41 ∨ a + 41 + 43 ≤ q) → Γ q = (RW Γ cI cJ cZ (a + 41) rf cn nm so sz dr mn fr tt wt co nu qi qc nf nt nw nc sa wo ln hw ro) q) hv
  have hcn9 := hk.1
  have hrv : -2147483648 ≤ rf ∧ rf ≤ 2147483647 := hrk.2.2.2.2.2.2.2.2.2.2.2.1
  refine r_aload_n (pc := 185) dL_law_185 (i := 1) rfl rfl ?_
  refine r_aload_n (pc := 186) dL_law_186 (i := 0) rfl rfl ?_
  refine r_iload_n (pc := 187) dL_law_187 (i := 3) rfl rfl ?_
  refine r_iconst (pc := 188) (v := iv 1) dL_law_188 (by decide) ?_
  refine r_iadd (pc := 189) (v := iv (i + 1)) dL_law_189 (iv_add _ _) ?_
  refine w_sld (pc := 190) (v := iv ((xs (Int.toNat (i + 1))).toInt)) dL_law_190 (iv_in (L := L) (by omega) (by omega)) (by rw [iv_clamp (by omega) (by omega)]; exact (iv_of _).symm) ?_
  have lo190 := iv_lo (xs (Int.toNat (i + 1)))
  have hi190 := iv_hi (xs (Int.toNat (i + 1)))
  refine r_aload_n (pc := 191) dL_law_191 (i := 0) rfl rfl ?_
  refine r_iload_n (pc := 192) dL_law_192 (i := 3) rfl rfl ?_
  refine r_iconst (pc := 193) (v := iv 2) dL_law_193 (by decide) ?_
  refine r_iadd (pc := 194) (v := iv (i + 2)) dL_law_194 (iv_add _ _) ?_
  refine w_sld (pc := 195) (v := iv ((xs (Int.toNat (i + 2))).toInt)) dL_law_195 (iv_in (L := L) (by omega) (by omega)) (by rw [iv_clamp (by omega) (by omega)]; exact (iv_of _).symm) ?_
  have lo195 := iv_lo (xs (Int.toNat (i + 2)))
  have hi195 := iv_hi (xs (Int.toNat (i + 2)))
  refine r_aload_n (pc := 196) dL_law_196 (i := 0) rfl rfl ?_
  refine r_iload_n (pc := 197) dL_law_197 (i := 3) rfl rfl ?_
  refine r_iconst (pc := 198) (v := iv 3) dL_law_198 (by decide) ?_
  refine r_iadd (pc := 199) (v := iv (i + 3)) dL_law_199 (iv_add _ _) ?_
  refine w_sld (pc := 200) (v := iv ((xs (Int.toNat (i + 3))).toInt)) dL_law_200 (iv_in (L := L) (by omega) (by omega)) (by rw [iv_clamp (by omega) (by omega)]; exact (iv_of _).symm) ?_
  have lo200 := iv_lo (xs (Int.toNat (i + 3)))
  have hi200 := iv_hi (xs (Int.toNat (i + 3)))
  refine r_aload_n (pc := 201) dL_law_201 (i := 0) rfl rfl ?_
  refine r_iload_n (pc := 202) dL_law_202 (i := 3) rfl rfl ?_
  refine r_iconst (pc := 203) (v := iv 4) dL_law_203 (by decide) ?_
  refine r_iadd (pc := 204) (v := iv (i + 4)) dL_law_204 (iv_add _ _) ?_
  refine w_sld (pc := 205) (v := iv ((xs (Int.toNat (i + 4))).toInt)) dL_law_205 (iv_in (L := L) (by omega) (by omega)) (by rw [iv_clamp (by omega) (by omega)]; exact (iv_of _).symm) ?_
  have lo205 := iv_lo (xs (Int.toNat (i + 4)))
  have hi205 := iv_hi (xs (Int.toNat (i + 4)))
  obtain ⟨fs7, hfs7⟩ := t_obj ht (rd_of CG_0)
  refine r_callV (pc := 206) (as := [.int (iv ((xs (Int.toNat (i + 1))).toInt)), .int (iv ((xs (Int.toNat (i + 2))).toInt)), .int (iv ((xs (Int.toNat (i + 3))).toInt)), .int (iv ((xs (Int.toNat (i + 4))).toInt))]) (st := []) kL_18 rfl dL_law_206 hfs7 (y_X11_arc (d := d - 1) (x1 := ((xs (Int.toNat (i + 1))).toInt)) (x2 := ((xs (Int.toNat (i + 2))).toInt)) (x3 := ((xs (Int.toNat (i + 3))).toInt)) (x4 := ((xs (Int.toNat (i + 4))).toInt)) (by omega) hk hrv ht (by omega) (by omega) (by omega) (by omega)) rfl (by omega) (Nat.le_of_ble_eq_true rfl) (by omega) (by omega) rfl (fun r1 hp2 n3 hq4 => ?_)
  obtain ⟨hnn3, rv8, da8, df8, dt8, dw8, dc8, v8, ht5, hrr1, hB⟩ := hq4
  subst n3 r1
  obtain ⟨hdn, hdd1, hda, har⟩ := hk.2.2.1
  have hk8 : EK (RW Γ cI cJ cZ (a + 41) rf cn nm so sz dr mn fr tt wt co nu qi qc nf nt nw nc sa wo ln hw ro) cI cJ cZ a cn th dn dd da8 df8 dt8 dw8 dc8 kn kd ka := by
    rcases hB with ⟨h1, h2, e0, er, e1, e2, e3, e4, e5⟩ | ⟨h1, h2, e0, er, e1, e2, e3, e4, e5⟩ | ⟨h1, e0, er, e1, e2, e3, e4, e5⟩
    · rw [e1, e2, e3, e4, e5]; exact EK.dr hk hdn hdd1 (by omega) (ar_up har (by omega) (by omega) (by omega) (by omega) (by omega))
    · rw [e1, e2, e3, e4, e5]; exact hk
    · rw [e1, e2, e3, e4, e5]; exact hk
  have hB0 : (-4 ≤ v8 ∧ v8 ≤ 59) := by
    rcases hB with ⟨h1, h2, e0, -⟩ | ⟨h1, h2, e0, -⟩ | ⟨h1, e0, -⟩ <;> omega
  change Rn _ _ _ 209 _ [.int (iv v8)] _ _ _ _ _
  refine r_aload_n (pc := 209) dL_law_209 (i := 2) rfl rfl ?_
  refine r_aload_n (pc := 210) dL_law_210 (i := 0) rfl rfl ?_
  refine r_iload_n (pc := 211) dL_law_211 (i := 3) rfl rfl ?_
  refine r_iconst (pc := 212) (v := iv 1) dL_law_212 (by decide) ?_
  refine r_iadd (pc := 213) (v := iv (i + 1)) dL_law_213 (iv_add _ _) ?_
  refine w_sld (pc := 214) (v := iv ((xs (Int.toNat (i + 1))).toInt)) dL_law_214 (iv_in (L := L) (by omega) (by omega)) (by rw [iv_clamp (by omega) (by omega)]; exact (iv_of _).symm) ?_
  have lo214 := iv_lo (xs (Int.toNat (i + 1)))
  have hi214 := iv_hi (xs (Int.toNat (i + 1)))
  refine r_aload_n (pc := 215) dL_law_215 (i := 0) rfl rfl ?_
  refine r_iload_n (pc := 216) dL_law_216 (i := 3) rfl rfl ?_
  refine r_iconst (pc := 217) (v := iv 2) dL_law_217 (by decide) ?_
  refine r_iadd (pc := 218) (v := iv (i + 2)) dL_law_218 (iv_add _ _) ?_
  refine w_sld (pc := 219) (v := iv ((xs (Int.toNat (i + 2))).toInt)) dL_law_219 (iv_in (L := L) (by omega) (by omega)) (by rw [iv_clamp (by omega) (by omega)]; exact (iv_of _).symm) ?_
  have lo219 := iv_lo (xs (Int.toNat (i + 2)))
  have hi219 := iv_hi (xs (Int.toNat (i + 2)))
  refine r_aload_n (pc := 220) dL_law_220 (i := 0) rfl rfl ?_
  refine r_iload_n (pc := 221) dL_law_221 (i := 3) rfl rfl ?_
  refine r_iconst (pc := 222) (v := iv 3) dL_law_222 (by decide) ?_
  refine r_iadd (pc := 223) (v := iv (i + 3)) dL_law_223 (iv_add _ _) ?_
  refine w_sld (pc := 224) (v := iv ((xs (Int.toNat (i + 3))).toInt)) dL_law_224 (iv_in (L := L) (by omega) (by omega)) (by rw [iv_clamp (by omega) (by omega)]; exact (iv_of _).symm) ?_
  have lo224 := iv_lo (xs (Int.toNat (i + 3)))
  have hi224 := iv_hi (xs (Int.toNat (i + 3)))
  refine r_aload_n (pc := 225) dL_law_225 (i := 0) rfl rfl ?_
  refine r_iload_n (pc := 226) dL_law_226 (i := 3) rfl rfl ?_
  refine r_iconst (pc := 227) (v := iv 4) dL_law_227 (by decide) ?_
  refine r_iadd (pc := 228) (v := iv (i + 4)) dL_law_228 (iv_add _ _) ?_
  refine w_sld (pc := 229) (v := iv ((xs (Int.toNat (i + 4))).toInt)) dL_law_229 (iv_in (L := L) (by omega) (by omega)) (by rw [iv_clamp (by omega) (by omega)]; exact (iv_of _).symm) ?_
  have lo229 := iv_lo (xs (Int.toNat (i + 4)))
  have hi229 := iv_hi (xs (Int.toNat (i + 4)))
  have ht13 := Tw_eq (Γ1 := RW (CG Γ cI cJ cZ cT a cn rv8 th dn dd da8 df8 dt8 dw8 dc8 kn kd ka kf kt kw kc) cI cJ cZ (a + 41) rf cn nm so sz dr mn fr tt wt co nu qi qc nf nt nw nc sa wo ln hw ro) (CG_RW (by omega)) ht5
  obtain ⟨fs14, hfs14⟩ := t_obj ht13 (rd_of RW_y)
  refine r_callV (pc := 230) (as := [.int (iv ((xs (Int.toNat (i + 1))).toInt)), .int (iv ((xs (Int.toNat (i + 2))).toInt)), .int (iv ((xs (Int.toNat (i + 3))).toInt)), .int (iv ((xs (Int.toNat (i + 4))).toInt))]) (st := [.int (iv v8)]) kL_22 rfl dL_law_230 hfs14 (zw_X12_arc (d := d - 1) (x1 := ((xs (Int.toNat (i + 1))).toInt)) (x2 := ((xs (Int.toNat (i + 2))).toInt)) (x3 := ((xs (Int.toNat (i + 3))).toInt)) (x4 := ((xs (Int.toNat (i + 4))).toInt)) (by omega) hrk hwr9 ht13 (by omega) (by omega) (by omega) (by omega) (fun _ _ _ h => h)) rfl (by omega) (Nat.le_of_ble_eq_true rfl) (by omega) (by omega) rfl (fun r8 hp9 n10 hq11 => ?_)
  obtain ⟨hnn10, rf9, mn9, fr9, tt9, wt9, co9, v9, ht12, hrr8, f0, f1, f2⟩ := hq11
  subst n10 r8
  obtain ⟨dq1, dq2, dq3, dq4⟩ := id hdq
  have rk9 : RK rf9 cn nm so sz dr mn9 fr9 tt9 wt9 co9 nu qi qc nf nt nw nc ∧ DQ dn dd da8 df8 dt8 dw8 dc8 sz dr mn9 fr9 tt9 wt9 co9 ∧ HM Γ cI cJ cZ a cn th so sz dr mn9 fr9 tt9 wt9 co9 nu qi qc ∧ v8 = v9 ∧ rv8 = rf9 := by
    rcases hB with ⟨h1, h2, e0, er, e1, e2, e3, e4, e5⟩ | ⟨h1, h2, e0, er, e1, e2, e3, e4, e5⟩ | ⟨h1, e0, er, e1, e2, e3, e4, e5⟩
    · obtain ⟨g0, gr, g1, g2, g3, g4, g5⟩ := f0 ⟨by omega, by omega⟩
      rw [e1, e2, e3, e4, e5, g1, g2, g3, g4, g5]; exact ⟨RK_arc hrk (by omega) (by omega) (by omega) (by omega) (by omega) (by omega), DQ_arc hdq (by omega), hm.upd (fun i hi => ⟨rfl, rfl, fup_o _ _ (by omega)⟩) (fun k hk => ⟨fup_o _ _ (by omega), fup_o _ _ (by omega), fup_o _ _ (by omega), fup_o _ _ (by omega)⟩), by omega, by omega⟩
    · obtain ⟨g0, gr, g1, g2, g3, g4, g5⟩ := f1 ⟨by omega, by omega⟩
      rw [e1, e2, e3, e4, e5, g1, g2, g3, g4, g5]; exact ⟨RK_set hrk (by omega) hrk.2.2.2.2.2.2.2.2.2.2.2.2.1, hdq, hm, by omega, by omega⟩
    · obtain ⟨g0, gr, g1, g2, g3, g4, g5⟩ := f2 (by omega)
      rw [e1, e2, e3, e4, e5, g1, g2, g3, g4, g5]; exact ⟨RK_set hrk (by omega) hrk.2.2.2.2.2.2.2.2.2.2.2.2.1, hdq, hm, by omega, by omega⟩
  have hv9 := hv
  obtain ⟨rk8, dq8, hm9, hcmp, her⟩ := rk9
  subst rv8
  rw [← CG_RW (by omega)] at ht12
  have hv9r : -2147483648 ≤ v9 ∧ v9 ≤ 2147483647 := by omega
  change Rn _ _ _ 233 _ [.int (iv v9), .int (iv v8)] _ _ _ _ _
  refine t_icmp_eq (pc := 233) (tgt := 1077) dL_law_233 (by decide) (by omega) (by omega) (fun c233 => ?_) (fun c233 => ?_)
  · refine Rn.pick (lv' := [(0, .ref b), (1, .ref a), (2, .ref (a + 41)), (3, .int (iv i))]) [0, 1, 2, 3] rfl ?_
    exact kk _ _ _ _ ⟨Γ, rf9, cn, nm, so, sz, dr, mn9, fr9, tt9, wt9, co9, nu, qi, qc, nf, nt, nw, nc, sa, wo, ln, hw, ro, th, dn, dd, da8, df8, dt8, dw8, dc8, kn, kd, ka, kf, kt, kw, kc, ht12, (EK.swapW hk8), rk8, dq8, hm9, hv9, hwr9, by omega, by omega, by omega⟩
  · exfalso
    omega
set_option maxHeartbeats 4000000 in
set_option maxRecDepth 100000 in
theorem lk_2 {D : va_G} {cI cJ cZ cT : ClassId} {lo b L : Nat} {xs : Nat → Int32} {hp : MH} {n d kr wr a : Nat} {i : Int} {Po : Option Value → MH → Nat → Prop} (hd : 60 ≤ d) (hL : L ≤ 3584) (hi : 0 ≤ i ∧ i + 7 ≤ (L : Int)) (hP : ∀ (v : Int) (hp : MH) (n : Nat), Po (some (.int (iv v))) hp n) (h : LK cI cJ cZ cT a L i hp n kr wr) (kk : ∀ (hp1 : MH) (n1 kr1 wr1 : Nat), LK cI cJ cZ cT a L (i + 7) hp1 n1 kr1 wr1 → Rn (gG D cI cJ cZ cT lo b L xs) mL_law d 1077 [(0, .ref b), (1, .ref a), (2, .ref (a + 41)), (3, .int (iv i))] [] hp1 n1 kr1 wr1 Po) : Rn (gG D cI cJ cZ cT lo b L xs) mL_law d 238 [(0, .ref b), (1, .ref a), (2, .ref (a + 41)), (3, .int (iv i))] [] hp n kr wr Po := by
  obtain ⟨Γ, rf, cn, nm, so, sz, dr, mn, fr, tt, wt, co, nu, qi, qc, nf, nt, nw, nc, sa, wo, ln, hw, ro, th, dn, dd, da, df, dt, dw, dc, kn, kd, ka, kf, kt, kw, kc, ht, hk, hrk, hdq, hm, hv, hwr9, hna, hkr, hwr⟩ := h
  have hmR := HM.same (fun q hq => (RW_o hq).symm : ∀ q : Nat, (q < a + 41 ∨ a + 41 + 43 ≤ q) → Γ q = (RW Γ cI cJ cZ (a + 41) rf cn nm so sz dr mn fr tt wt co nu qi qc nf nt nw nc sa wo ln hw ro) q) hm
  have hvR := HV.same (fun q hq => (RW_o hq).symm : ∀ q : Nat, (q < a + 41 ∨ a + 41 + 43 ≤ q) → Γ q = (RW Γ cI cJ cZ (a + 41) rf cn nm so sz dr mn fr tt wt co nu qi qc nf nt nw nc sa wo ln hw ro) q) hv
  have hcn9 := hk.1
  have hrv : -2147483648 ≤ rf ∧ rf ≤ 2147483647 := hrk.2.2.2.2.2.2.2.2.2.2.2.1
  refine r_aload_n (pc := 238) dL_law_238 (i := 1) rfl rfl ?_
  obtain ⟨fs7, hfs7⟩ := t_obj ht (rd_of CG_0)
  refine r_callV (pc := 239) (as := []) (st := []) kL_23 rfl dL_law_239 hfs7 (y_X11_graph (d := d - 1)  (by omega) hk hmR hrv (by omega) ht  hdq) rfl (by omega) (Nat.le_of_ble_eq_true rfl) (by omega) (by omega) rfl (fun r1 hp2 n3 hq4 => ?_)
  obtain ⟨hnn3, Γ8, ct8, rv8, th8, kn8, kd8, ka8, kf8, kt8, kw8, kc8, v8, hE8, ht5, hk8, hrr1, hA8, hb8, c1, c2⟩ := hq4
  subst r1
  have ex8 := RW_x hE8
  have ht6 := Tw_eq (Γ1 := (CG (RW Γ8 cI cJ cZ (a + 41) rf cn nm so sz dr mn fr tt wt co nu qi qc nf nt nw nc sa wo ln hw ro) cI cJ cZ cT a ct8 rv8 th8 dn dd da df dt dw dc kn8 kd8 ka8 kf8 kt8 kw8 kc8)) (by rw [ex8]) ht5
  have hk9 := hk8
  rw [← ex8] at hk9
  change Rn _ _ _ 242 _ [.int (iv v8)] _ _ _ _ _
  refine r_aload_n (pc := 242) dL_law_242 (i := 2) rfl rfl ?_
  have ht13 := Tw_eq (Γ1 := RW (CG Γ8 cI cJ cZ cT a ct8 rv8 th8 dn dd da df dt dw dc kn8 kd8 ka8 kf8 kt8 kw8 kc8) cI cJ cZ (a + 41) rf cn nm so sz dr mn fr tt wt co nu qi qc nf nt nw nc sa wo ln hw ro) (CG_RW (by omega)) ht6
  obtain ⟨fs14, hfs14⟩ := t_obj ht13 (rd_of RW_y)
  refine r_callV (pc := 243) (as := []) (st := [.int (iv v8)]) kL_27 rfl dL_law_243 hfs14 (zw_X12_graph (d := d - 1)  (by omega) hrk hwr9 ht13  (fun _ _ _ h => h)) rfl (by omega) (Nat.le_of_ble_eq_true rfl) (by omega) (by omega) rfl (fun r8 hp9 n10 hq11 => ?_)
  obtain ⟨hnn10, rf9, cn9, nm9, so9, sz9, dr9, mn9, fr9, tt9, wt9, co9, nf9, nt9, nw9, nc9, v9, ht12, hrr8, f0, f1, f2, f3, f4, f5, f6⟩ := hq11
  subst n10 r8
  have hcmp : v8 = v9 := hA8.trans f3.symm
  have hv9 := mv_X hvR (by omega) hE8 hcmp c1 c2 (fun h9 => ⟨(f4 h9).1, (f4 h9).2.1, (f4 h9).2.2.1⟩) (fun h9 => ⟨(f5 h9).1, (f5 h9).2.1, (f5 h9).2.2.1⟩) (by decide)
  obtain ⟨hm9, hec, her⟩ := mg_G hmR (by omega) hE8 hcmp c1 c2 f4 f5 f6
  subst ct8 rv8
  rw [← CG_RW (by omega)] at ht12
  have hv9r : -2147483648 ≤ v9 ∧ v9 ≤ 2147483647 := by omega
  change Rn _ _ _ 246 _ [.int (iv v9), .int (iv v8)] _ _ _ _ _
  refine t_icmp_eq (pc := 246) (tgt := 1077) dL_law_246 (by decide) (by omega) (by omega) (fun c246 => ?_) (fun c246 => ?_)
  · refine Rn.pick (lv' := [(0, .ref b), (1, .ref a), (2, .ref (a + 41)), (3, .int (iv i))]) [0, 1, 2, 3] rfl ?_
    exact kk _ _ _ _ ⟨Γ8, rf9, cn9, nm9, so9, sz9, dr9, mn9, fr9, tt9, wt9, co9, nu, qi, qc, nf9, nt9, nw9, nc9, sa, wo, ln, hw, ro, th8, dn, dd, da, df, dt, dw, dc, kn8, kd8, ka8, kf8, kt8, kw8, kc8, ht12, (EK.swapW hk9), f0, (DQ_r hdq f1), hm9, hv9, hwr9, by omega, by omega, by omega⟩
  · exfalso
    omega
set_option maxHeartbeats 4000000 in
set_option maxRecDepth 100000 in
theorem lk_3 {D : va_G} {cI cJ cZ cT : ClassId} {lo b L : Nat} {xs : Nat → Int32} {hp : MH} {n d kr wr a : Nat} {i : Int} {Po : Option Value → MH → Nat → Prop} (hd : 60 ≤ d) (hL : L ≤ 3584) (hi : 0 ≤ i ∧ i + 7 ≤ (L : Int)) (hP : ∀ (v : Int) (hp : MH) (n : Nat), Po (some (.int (iv v))) hp n) (h : LK cI cJ cZ cT a L i hp n kr wr) (kk : ∀ (hp1 : MH) (n1 kr1 wr1 : Nat), LK cI cJ cZ cT a L (i + 7) hp1 n1 kr1 wr1 → Rn (gG D cI cJ cZ cT lo b L xs) mL_law d 1077 [(0, .ref b), (1, .ref a), (2, .ref (a + 41)), (3, .int (iv i))] [] hp1 n1 kr1 wr1 Po) : Rn (gG D cI cJ cZ cT lo b L xs) mL_law d 251 [(0, .ref b), (1, .ref a), (2, .ref (a + 41)), (3, .int (iv i))] [] hp n kr wr Po := by
  obtain ⟨Γ, rf, cn, nm, so, sz, dr, mn, fr, tt, wt, co, nu, qi, qc, nf, nt, nw, nc, sa, wo, ln, hw, ro, th, dn, dd, da, df, dt, dw, dc, kn, kd, ka, kf, kt, kw, kc, ht, hk, hrk, hdq, hm, hv, hwr9, hna, hkr, hwr⟩ := h
  have hmR := HM.same (fun q hq => (RW_o hq).symm : ∀ q : Nat, (q < a + 41 ∨ a + 41 + 43 ≤ q) → Γ q = (RW Γ cI cJ cZ (a + 41) rf cn nm so sz dr mn fr tt wt co nu qi qc nf nt nw nc sa wo ln hw ro) q) hm
  have hvR := HV.same (fun q hq => (RW_o hq).symm : ∀ q : Nat, (q < a + 41 ∨ a + 41 + 43 ≤ q) → Γ q = (RW Γ cI cJ cZ (a + 41) rf cn nm so sz dr mn fr tt wt co nu qi qc nf nt nw nc sa wo ln hw ro) q) hv
  have hcn9 := hk.1
  have hrv : -2147483648 ≤ rf ∧ rf ≤ 2147483647 := hrk.2.2.2.2.2.2.2.2.2.2.2.1
  refine r_aload_n (pc := 251) dL_law_251 (i := 1) rfl rfl ?_
  refine r_aload_n (pc := 252) dL_law_252 (i := 0) rfl rfl ?_
  refine r_iload_n (pc := 253) dL_law_253 (i := 3) rfl rfl ?_
  refine r_iconst (pc := 254) (v := iv 1) dL_law_254 (by decide) ?_
  refine r_iadd (pc := 255) (v := iv (i + 1)) dL_law_255 (iv_add _ _) ?_
  refine w_sld (pc := 256) (v := iv ((xs (Int.toNat (i + 1))).toInt)) dL_law_256 (iv_in (L := L) (by omega) (by omega)) (by rw [iv_clamp (by omega) (by omega)]; exact (iv_of _).symm) ?_
  have lo256 := iv_lo (xs (Int.toNat (i + 1)))
  have hi256 := iv_hi (xs (Int.toNat (i + 1)))
  refine r_aload_n (pc := 257) dL_law_257 (i := 0) rfl rfl ?_
  refine r_iload_n (pc := 258) dL_law_258 (i := 3) rfl rfl ?_
  refine r_iconst (pc := 259) (v := iv 2) dL_law_259 (by decide) ?_
  refine r_iadd (pc := 260) (v := iv (i + 2)) dL_law_260 (iv_add _ _) ?_
  refine w_sld (pc := 261) (v := iv ((xs (Int.toNat (i + 2))).toInt)) dL_law_261 (iv_in (L := L) (by omega) (by omega)) (by rw [iv_clamp (by omega) (by omega)]; exact (iv_of _).symm) ?_
  have lo261 := iv_lo (xs (Int.toNat (i + 2)))
  have hi261 := iv_hi (xs (Int.toNat (i + 2)))
  refine r_aload_n (pc := 262) dL_law_262 (i := 0) rfl rfl ?_
  refine r_iload_n (pc := 263) dL_law_263 (i := 3) rfl rfl ?_
  refine r_iconst (pc := 264) (v := iv 3) dL_law_264 (by decide) ?_
  refine r_iadd (pc := 265) (v := iv (i + 3)) dL_law_265 (iv_add _ _) ?_
  refine w_sld (pc := 266) (v := iv ((xs (Int.toNat (i + 3))).toInt)) dL_law_266 (iv_in (L := L) (by omega) (by omega)) (by rw [iv_clamp (by omega) (by omega)]; exact (iv_of _).symm) ?_
  have lo266 := iv_lo (xs (Int.toNat (i + 3)))
  have hi266 := iv_hi (xs (Int.toNat (i + 3)))
  obtain ⟨fs7, hfs7⟩ := t_obj ht (rd_of CG_0)
  refine r_callV (pc := 267) (as := [.int (iv ((xs (Int.toNat (i + 1))).toInt)), .int (iv ((xs (Int.toNat (i + 2))).toInt)), .int (iv ((xs (Int.toNat (i + 3))).toInt))]) (st := []) kL_28 rfl dL_law_267 hfs7 (y_X11_view (d := d - 1) (x1 := ((xs (Int.toNat (i + 1))).toInt)) (x2 := ((xs (Int.toNat (i + 2))).toInt)) (x3 := ((xs (Int.toNat (i + 3))).toInt)) (by omega) hk hmR hrv (by omega) ht (by omega) (by omega) (by omega)) rfl (by omega) (Nat.le_of_ble_eq_true rfl) (by omega) (by omega) rfl (fun r1 hp2 n3 hq4 => ?_)
  obtain ⟨hnn3, Γ8, ct8, rv8, th8, kn8, kd8, ka8, kf8, kt8, kw8, kc8, v8, hE8, ht5, hk8, hrr1, hA8, hb8, c1, c2⟩ := hq4
  subst r1
  have ex8 := RW_x hE8
  have ht6 := Tw_eq (Γ1 := (CG (RW Γ8 cI cJ cZ (a + 41) rf cn nm so sz dr mn fr tt wt co nu qi qc nf nt nw nc sa wo ln hw ro) cI cJ cZ cT a ct8 rv8 th8 dn dd da df dt dw dc kn8 kd8 ka8 kf8 kt8 kw8 kc8)) (by rw [ex8]) ht5
  have hk9 := hk8
  rw [← ex8] at hk9
  change Rn _ _ _ 270 _ [.int (iv v8)] _ _ _ _ _
  refine r_aload_n (pc := 270) dL_law_270 (i := 2) rfl rfl ?_
  refine r_aload_n (pc := 271) dL_law_271 (i := 0) rfl rfl ?_
  refine r_iload_n (pc := 272) dL_law_272 (i := 3) rfl rfl ?_
  refine r_iconst (pc := 273) (v := iv 1) dL_law_273 (by decide) ?_
  refine r_iadd (pc := 274) (v := iv (i + 1)) dL_law_274 (iv_add _ _) ?_
  refine w_sld (pc := 275) (v := iv ((xs (Int.toNat (i + 1))).toInt)) dL_law_275 (iv_in (L := L) (by omega) (by omega)) (by rw [iv_clamp (by omega) (by omega)]; exact (iv_of _).symm) ?_
  have lo275 := iv_lo (xs (Int.toNat (i + 1)))
  have hi275 := iv_hi (xs (Int.toNat (i + 1)))
  refine r_aload_n (pc := 276) dL_law_276 (i := 0) rfl rfl ?_
  refine r_iload_n (pc := 277) dL_law_277 (i := 3) rfl rfl ?_
  refine r_iconst (pc := 278) (v := iv 2) dL_law_278 (by decide) ?_
  refine r_iadd (pc := 279) (v := iv (i + 2)) dL_law_279 (iv_add _ _) ?_
  refine w_sld (pc := 280) (v := iv ((xs (Int.toNat (i + 2))).toInt)) dL_law_280 (iv_in (L := L) (by omega) (by omega)) (by rw [iv_clamp (by omega) (by omega)]; exact (iv_of _).symm) ?_
  have lo280 := iv_lo (xs (Int.toNat (i + 2)))
  have hi280 := iv_hi (xs (Int.toNat (i + 2)))
  refine r_aload_n (pc := 281) dL_law_281 (i := 0) rfl rfl ?_
  refine r_iload_n (pc := 282) dL_law_282 (i := 3) rfl rfl ?_
  refine r_iconst (pc := 283) (v := iv 3) dL_law_283 (by decide) ?_
  refine r_iadd (pc := 284) (v := iv (i + 3)) dL_law_284 (iv_add _ _) ?_
  refine w_sld (pc := 285) (v := iv ((xs (Int.toNat (i + 3))).toInt)) dL_law_285 (iv_in (L := L) (by omega) (by omega)) (by rw [iv_clamp (by omega) (by omega)]; exact (iv_of _).symm) ?_
  have lo285 := iv_lo (xs (Int.toNat (i + 3)))
  have hi285 := iv_hi (xs (Int.toNat (i + 3)))
  have ht13 := Tw_eq (Γ1 := RW (CG Γ8 cI cJ cZ cT a ct8 rv8 th8 dn dd da df dt dw dc kn8 kd8 ka8 kf8 kt8 kw8 kc8) cI cJ cZ (a + 41) rf cn nm so sz dr mn fr tt wt co nu qi qc nf nt nw nc sa wo ln hw ro) (CG_RW (by omega)) ht6
  obtain ⟨fs14, hfs14⟩ := t_obj ht13 (rd_of RW_y)
  refine r_callV (pc := 286) (as := [.int (iv ((xs (Int.toNat (i + 1))).toInt)), .int (iv ((xs (Int.toNat (i + 2))).toInt)), .int (iv ((xs (Int.toNat (i + 3))).toInt))]) (st := [.int (iv v8)]) kL_32 rfl dL_law_286 hfs14 (zw_X12_view (d := d - 1) (x1 := ((xs (Int.toNat (i + 1))).toInt)) (x2 := ((xs (Int.toNat (i + 2))).toInt)) (x3 := ((xs (Int.toNat (i + 3))).toInt)) (by omega) hrk hwr9 ht13 (by omega) (by omega) (by omega) (fun _ _ _ h => h)) rfl (by omega) (Nat.le_of_ble_eq_true rfl) (by omega) (by omega) rfl (fun r8 hp9 n10 hq11 => ?_)
  obtain ⟨hnn10, rf9, cn9, nm9, so9, sz9, dr9, mn9, fr9, tt9, wt9, co9, nf9, nt9, nw9, nc9, v9, ht12, hrr8, f0, f1, f2, f3, f4, f5, f6⟩ := hq11
  subst n10 r8
  have hcmp : v8 = v9 := hA8.trans f3.symm
  have hv9 := mv_X hvR (by omega) hE8 hcmp c1 c2 (fun h9 => ⟨(f4 h9).1, (f4 h9).2.1, (f4 h9).2.2.1⟩) (fun h9 => ⟨(f5 h9).1, (f5 h9).2.1, (f5 h9).2.2.1⟩) (by decide)
  obtain ⟨hm9, hec, her⟩ := mg_G hmR (by omega) hE8 hcmp c1 c2 f4 f5 f6
  subst ct8 rv8
  rw [← CG_RW (by omega)] at ht12
  have hv9r : -2147483648 ≤ v9 ∧ v9 ≤ 2147483647 := by omega
  change Rn _ _ _ 289 _ [.int (iv v9), .int (iv v8)] _ _ _ _ _
  refine t_icmp_eq (pc := 289) (tgt := 1077) dL_law_289 (by decide) (by omega) (by omega) (fun c289 => ?_) (fun c289 => ?_)
  · refine Rn.pick (lv' := [(0, .ref b), (1, .ref a), (2, .ref (a + 41)), (3, .int (iv i))]) [0, 1, 2, 3] rfl ?_
    exact kk _ _ _ _ ⟨Γ8, rf9, cn9, nm9, so9, sz9, dr9, mn9, fr9, tt9, wt9, co9, nu, qi, qc, nf9, nt9, nw9, nc9, sa, wo, ln, hw, ro, th8, dn, dd, da, df, dt, dw, dc, kn8, kd8, ka8, kf8, kt8, kw8, kc8, ht12, (EK.swapW hk9), f0, (DQ_r hdq f1), hm9, hv9, hwr9, by omega, by omega, by omega⟩
  · exfalso
    omega
set_option maxHeartbeats 4000000 in
set_option maxRecDepth 100000 in
theorem lk_4 {D : va_G} {cI cJ cZ cT : ClassId} {lo b L : Nat} {xs : Nat → Int32} {hp : MH} {n d kr wr a : Nat} {i : Int} {Po : Option Value → MH → Nat → Prop} (hd : 60 ≤ d) (hL : L ≤ 3584) (hi : 0 ≤ i ∧ i + 7 ≤ (L : Int)) (hP : ∀ (v : Int) (hp : MH) (n : Nat), Po (some (.int (iv v))) hp n) (h : LK cI cJ cZ cT a L i hp n kr wr) (kk : ∀ (hp1 : MH) (n1 kr1 wr1 : Nat), LK cI cJ cZ cT a L (i + 7) hp1 n1 kr1 wr1 → Rn (gG D cI cJ cZ cT lo b L xs) mL_law d 1077 [(0, .ref b), (1, .ref a), (2, .ref (a + 41)), (3, .int (iv i))] [] hp1 n1 kr1 wr1 Po) : Rn (gG D cI cJ cZ cT lo b L xs) mL_law d 294 [(0, .ref b), (1, .ref a), (2, .ref (a + 41)), (3, .int (iv i))] [] hp n kr wr Po := by
  obtain ⟨Γ, rf, cn, nm, so, sz, dr, mn, fr, tt, wt, co, nu, qi, qc, nf, nt, nw, nc, sa, wo, ln, hw, ro, th, dn, dd, da, df, dt, dw, dc, kn, kd, ka, kf, kt, kw, kc, ht, hk, hrk, hdq, hm, hv, hwr9, hna, hkr, hwr⟩ := h
  have hmR := HM.same (fun q hq => (RW_o hq).symm : ∀ q : Nat, (q < a + 41 ∨ a + 41 + 43 ≤ q) → Γ q = (RW Γ cI cJ cZ (a + 41) rf cn nm so sz dr mn fr tt wt co nu qi qc nf nt nw nc sa wo ln hw ro) q) hm
  have hvR := HV.same (fun q hq => (RW_o hq).symm : ∀ q : Nat, (q < a + 41 ∨ a + 41 + 43 ≤ q) → Γ q = (RW Γ cI cJ cZ (a + 41) rf cn nm so sz dr mn fr tt wt co nu qi qc nf nt nw nc sa wo ln hw ro) q) hv
  have hcn9 := hk.1
  have hrv : -2147483648 ≤ rf ∧ rf ≤ 2147483647 := hrk.2.2.2.2.2.2.2.2.2.2.2.1
  refine r_aload_n (pc := 294) dL_law_294 (i := 1) rfl rfl ?_
  refine r_aload_n (pc := 295) dL_law_295 (i := 0) rfl rfl ?_
  refine r_iload_n (pc := 296) dL_law_296 (i := 3) rfl rfl ?_
  refine r_iconst (pc := 297) (v := iv 1) dL_law_297 (by decide) ?_
  refine r_iadd (pc := 298) (v := iv (i + 1)) dL_law_298 (iv_add _ _) ?_
  refine w_sld (pc := 299) (v := iv ((xs (Int.toNat (i + 1))).toInt)) dL_law_299 (iv_in (L := L) (by omega) (by omega)) (by rw [iv_clamp (by omega) (by omega)]; exact (iv_of _).symm) ?_
  have lo299 := iv_lo (xs (Int.toNat (i + 1)))
  have hi299 := iv_hi (xs (Int.toNat (i + 1)))
  refine r_aload_n (pc := 300) dL_law_300 (i := 0) rfl rfl ?_
  refine r_iload_n (pc := 301) dL_law_301 (i := 3) rfl rfl ?_
  refine r_iconst (pc := 302) (v := iv 2) dL_law_302 (by decide) ?_
  refine r_iadd (pc := 303) (v := iv (i + 2)) dL_law_303 (iv_add _ _) ?_
  refine w_sld (pc := 304) (v := iv ((xs (Int.toNat (i + 2))).toInt)) dL_law_304 (iv_in (L := L) (by omega) (by omega)) (by rw [iv_clamp (by omega) (by omega)]; exact (iv_of _).symm) ?_
  have lo304 := iv_lo (xs (Int.toNat (i + 2)))
  have hi304 := iv_hi (xs (Int.toNat (i + 2)))
  refine r_aload_n (pc := 305) dL_law_305 (i := 0) rfl rfl ?_
  refine r_iload_n (pc := 306) dL_law_306 (i := 3) rfl rfl ?_
  refine r_iconst (pc := 307) (v := iv 3) dL_law_307 (by decide) ?_
  refine r_iadd (pc := 308) (v := iv (i + 3)) dL_law_308 (iv_add _ _) ?_
  refine w_sld (pc := 309) (v := iv ((xs (Int.toNat (i + 3))).toInt)) dL_law_309 (iv_in (L := L) (by omega) (by omega)) (by rw [iv_clamp (by omega) (by omega)]; exact (iv_of _).symm) ?_
  have lo309 := iv_lo (xs (Int.toNat (i + 3)))
  have hi309 := iv_hi (xs (Int.toNat (i + 3)))
  refine t_if_eq (pc := 310) (tgt := 317) dL_law_310 (by decide) (by omega) (fun c310 => ?_) (fun c310 => ?_)
  · refine r_iconst (pc := 317) (v := iv 0) dL_law_317 (by decide) ?_
    obtain ⟨fs7, hfs7⟩ := t_obj ht (rd_of CG_0)
    refine r_callV (pc := 318) (as := [.int (iv ((xs (Int.toNat (i + 1))).toInt)), .int (iv ((xs (Int.toNat (i + 2))).toInt)), .int (iv 0)]) (st := []) kL_33 rfl dL_law_318 hfs7 (y_X11_join0 (d := d - 1) (x1 := ((xs (Int.toNat (i + 1))).toInt)) (x2 := ((xs (Int.toNat (i + 2))).toInt)) (x3 := 0) (by omega) hk hmR hrv (by omega) ht (by omega) (by omega) (by omega)) rfl (by omega) (Nat.le_of_ble_eq_true rfl) (by omega) (by omega) rfl (fun r1 hp2 n3 hq4 => ?_)
    obtain ⟨hnn3, Γ8, ct8, rv8, th8, kn8, kd8, ka8, kf8, kt8, kw8, kc8, v8, hE8, ht5, hk8, hrr1, hA8, hb8, c1, c2⟩ := hq4
    subst r1
    have ex8 := RW_x hE8
    have ht6 := Tw_eq (Γ1 := (CG (RW Γ8 cI cJ cZ (a + 41) rf cn nm so sz dr mn fr tt wt co nu qi qc nf nt nw nc sa wo ln hw ro) cI cJ cZ cT a ct8 rv8 th8 dn dd da df dt dw dc kn8 kd8 ka8 kf8 kt8 kw8 kc8)) (by rw [ex8]) ht5
    have hk9 := hk8
    rw [← ex8] at hk9
    change Rn _ _ _ 321 _ [.int (iv v8)] _ _ _ _ _
    refine r_aload_n (pc := 321) dL_law_321 (i := 2) rfl rfl ?_
    refine r_aload_n (pc := 322) dL_law_322 (i := 0) rfl rfl ?_
    refine r_iload_n (pc := 323) dL_law_323 (i := 3) rfl rfl ?_
    refine r_iconst (pc := 324) (v := iv 1) dL_law_324 (by decide) ?_
    refine r_iadd (pc := 325) (v := iv (i + 1)) dL_law_325 (iv_add _ _) ?_
    refine w_sld (pc := 326) (v := iv ((xs (Int.toNat (i + 1))).toInt)) dL_law_326 (iv_in (L := L) (by omega) (by omega)) (by rw [iv_clamp (by omega) (by omega)]; exact (iv_of _).symm) ?_
    have lo326 := iv_lo (xs (Int.toNat (i + 1)))
    have hi326 := iv_hi (xs (Int.toNat (i + 1)))
    refine r_aload_n (pc := 327) dL_law_327 (i := 0) rfl rfl ?_
    refine r_iload_n (pc := 328) dL_law_328 (i := 3) rfl rfl ?_
    refine r_iconst (pc := 329) (v := iv 2) dL_law_329 (by decide) ?_
    refine r_iadd (pc := 330) (v := iv (i + 2)) dL_law_330 (iv_add _ _) ?_
    refine w_sld (pc := 331) (v := iv ((xs (Int.toNat (i + 2))).toInt)) dL_law_331 (iv_in (L := L) (by omega) (by omega)) (by rw [iv_clamp (by omega) (by omega)]; exact (iv_of _).symm) ?_
    have lo331 := iv_lo (xs (Int.toNat (i + 2)))
    have hi331 := iv_hi (xs (Int.toNat (i + 2)))
    refine r_aload_n (pc := 332) dL_law_332 (i := 0) rfl rfl ?_
    refine r_iload_n (pc := 333) dL_law_333 (i := 3) rfl rfl ?_
    refine r_iconst (pc := 334) (v := iv 3) dL_law_334 (by decide) ?_
    refine r_iadd (pc := 335) (v := iv (i + 3)) dL_law_335 (iv_add _ _) ?_
    refine w_sld (pc := 336) (v := iv ((xs (Int.toNat (i + 3))).toInt)) dL_law_336 (iv_in (L := L) (by omega) (by omega)) (by rw [iv_clamp (by omega) (by omega)]; exact (iv_of _).symm) ?_
    have lo336 := iv_lo (xs (Int.toNat (i + 3)))
    have hi336 := iv_hi (xs (Int.toNat (i + 3)))
    refine t_if_eq (pc := 337) (tgt := 344) dL_law_337 (by decide) (by omega) (fun c337 => ?_) (fun c337 => ?_)
    · refine r_iconst (pc := 344) (v := iv 0) dL_law_344 (by decide) ?_
      have ht13 := Tw_eq (Γ1 := RW (CG Γ8 cI cJ cZ cT a ct8 rv8 th8 dn dd da df dt dw dc kn8 kd8 ka8 kf8 kt8 kw8 kc8) cI cJ cZ (a + 41) rf cn nm so sz dr mn fr tt wt co nu qi qc nf nt nw nc sa wo ln hw ro) (CG_RW (by omega)) ht6
      obtain ⟨fs14, hfs14⟩ := t_obj ht13 (rd_of RW_y)
      refine r_callV (pc := 345) (as := [.int (iv ((xs (Int.toNat (i + 1))).toInt)), .int (iv ((xs (Int.toNat (i + 2))).toInt)), .int (iv 0)]) (st := [.int (iv v8)]) kL_37 rfl dL_law_345 hfs14 (zw_X12_join0 (d := d - 1) (x1 := ((xs (Int.toNat (i + 1))).toInt)) (x2 := ((xs (Int.toNat (i + 2))).toInt)) (by omega) hrk hwr9 ht13 (by omega) (by omega) (fun _ _ _ h => h)) rfl (by omega) (Nat.le_of_ble_eq_true rfl) (by omega) (by omega) rfl (fun r8 hp9 n10 hq11 => ?_)
      obtain ⟨hnn10, rf9, cn9, nm9, so9, sz9, dr9, mn9, fr9, tt9, wt9, co9, nf9, nt9, nw9, nc9, v9, ht12, hrr8, f0, f1, f2, f3, f4, f5, f6⟩ := hq11
      subst n10 r8
      have hcmp : v8 = v9 := hA8.trans f3.symm
      have hv9 := mv_X hvR (by omega) hE8 hcmp c1 c2 (fun h9 => ⟨(f4 h9).1, (f4 h9).2.1, (f4 h9).2.2.1⟩) (fun h9 => ⟨(f5 h9).1, (f5 h9).2.1, (f5 h9).2.2.1⟩) (by decide)
      obtain ⟨hm9, hec, her⟩ := mg_G hmR (by omega) hE8 hcmp c1 c2 f4 f5 f6
      subst ct8 rv8
      rw [← CG_RW (by omega)] at ht12
      have hv9r : -2147483648 ≤ v9 ∧ v9 ≤ 2147483647 := by omega
      change Rn _ _ _ 348 _ [.int (iv v9), .int (iv v8)] _ _ _ _ _
      refine t_icmp_eq (pc := 348) (tgt := 1077) dL_law_348 (by decide) (by omega) (by omega) (fun c348 => ?_) (fun c348 => ?_)
      · refine Rn.pick (lv' := [(0, .ref b), (1, .ref a), (2, .ref (a + 41)), (3, .int (iv i))]) [0, 1, 2, 3] rfl ?_
        exact kk _ _ _ _ ⟨Γ8, rf9, cn9, nm9, so9, sz9, dr9, mn9, fr9, tt9, wt9, co9, nu, qi, qc, nf9, nt9, nw9, nc9, sa, wo, ln, hw, ro, th8, dn, dd, da, df, dt, dw, dc, kn8, kd8, ka8, kf8, kt8, kw8, kc8, ht12, (EK.swapW hk9), f0, (DQ_r hdq f1), hm9, hv9, hwr9, by omega, by omega, by omega⟩
      · exfalso
        omega
    · exfalso
      omega
  · refine r_iconst (pc := 313) (v := iv 1) dL_law_313 (by decide) ?_
    refine r_goto (pc := 314) (tgt := 318) dL_law_314 (by decide) ?_
    obtain ⟨fs21, hfs21⟩ := t_obj ht (rd_of CG_0)
    refine r_callV (pc := 318) (as := [.int (iv ((xs (Int.toNat (i + 1))).toInt)), .int (iv ((xs (Int.toNat (i + 2))).toInt)), .int (iv 1)]) (st := []) kL_33 rfl dL_law_318 hfs21 (y_X11_join1 (d := d - 1) (x1 := ((xs (Int.toNat (i + 1))).toInt)) (x2 := ((xs (Int.toNat (i + 2))).toInt)) (x3 := 1) (by omega) hk hmR hrv (by omega) ht (by omega) (by omega) (by omega)) rfl (by omega) (Nat.le_of_ble_eq_true rfl) (by omega) (by omega) rfl (fun r15 hp16 n17 hq18 => ?_)
    obtain ⟨hnn17, Γ8, ct8, rv8, th8, kn8, kd8, ka8, kf8, kt8, kw8, kc8, v8, hE8, ht19, hk8, hrr15, hA8, hb8, c1, c2⟩ := hq18
    subst r15
    have ex8 := RW_x hE8
    have ht20 := Tw_eq (Γ1 := (CG (RW Γ8 cI cJ cZ (a + 41) rf cn nm so sz dr mn fr tt wt co nu qi qc nf nt nw nc sa wo ln hw ro) cI cJ cZ cT a ct8 rv8 th8 dn dd da df dt dw dc kn8 kd8 ka8 kf8 kt8 kw8 kc8)) (by rw [ex8]) ht19
    have hk9 := hk8
    rw [← ex8] at hk9
    change Rn _ _ _ 321 _ [.int (iv v8)] _ _ _ _ _
    refine r_aload_n (pc := 321) dL_law_321 (i := 2) rfl rfl ?_
    refine r_aload_n (pc := 322) dL_law_322 (i := 0) rfl rfl ?_
    refine r_iload_n (pc := 323) dL_law_323 (i := 3) rfl rfl ?_
    refine r_iconst (pc := 324) (v := iv 1) dL_law_324 (by decide) ?_
    refine r_iadd (pc := 325) (v := iv (i + 1)) dL_law_325 (iv_add _ _) ?_
    refine w_sld (pc := 326) (v := iv ((xs (Int.toNat (i + 1))).toInt)) dL_law_326 (iv_in (L := L) (by omega) (by omega)) (by rw [iv_clamp (by omega) (by omega)]; exact (iv_of _).symm) ?_
    have lo326 := iv_lo (xs (Int.toNat (i + 1)))
    have hi326 := iv_hi (xs (Int.toNat (i + 1)))
    refine r_aload_n (pc := 327) dL_law_327 (i := 0) rfl rfl ?_
    refine r_iload_n (pc := 328) dL_law_328 (i := 3) rfl rfl ?_
    refine r_iconst (pc := 329) (v := iv 2) dL_law_329 (by decide) ?_
    refine r_iadd (pc := 330) (v := iv (i + 2)) dL_law_330 (iv_add _ _) ?_
    refine w_sld (pc := 331) (v := iv ((xs (Int.toNat (i + 2))).toInt)) dL_law_331 (iv_in (L := L) (by omega) (by omega)) (by rw [iv_clamp (by omega) (by omega)]; exact (iv_of _).symm) ?_
    have lo331 := iv_lo (xs (Int.toNat (i + 2)))
    have hi331 := iv_hi (xs (Int.toNat (i + 2)))
    refine r_aload_n (pc := 332) dL_law_332 (i := 0) rfl rfl ?_
    refine r_iload_n (pc := 333) dL_law_333 (i := 3) rfl rfl ?_
    refine r_iconst (pc := 334) (v := iv 3) dL_law_334 (by decide) ?_
    refine r_iadd (pc := 335) (v := iv (i + 3)) dL_law_335 (iv_add _ _) ?_
    refine w_sld (pc := 336) (v := iv ((xs (Int.toNat (i + 3))).toInt)) dL_law_336 (iv_in (L := L) (by omega) (by omega)) (by rw [iv_clamp (by omega) (by omega)]; exact (iv_of _).symm) ?_
    have lo336 := iv_lo (xs (Int.toNat (i + 3)))
    have hi336 := iv_hi (xs (Int.toNat (i + 3)))
    refine t_if_eq (pc := 337) (tgt := 344) dL_law_337 (by decide) (by omega) (fun c337 => ?_) (fun c337 => ?_)
    · exfalso
      omega
    · refine r_iconst (pc := 340) (v := iv 1) dL_law_340 (by decide) ?_
      refine r_goto (pc := 341) (tgt := 345) dL_law_341 (by decide) ?_
      have ht27 := Tw_eq (Γ1 := RW (CG Γ8 cI cJ cZ cT a ct8 rv8 th8 dn dd da df dt dw dc kn8 kd8 ka8 kf8 kt8 kw8 kc8) cI cJ cZ (a + 41) rf cn nm so sz dr mn fr tt wt co nu qi qc nf nt nw nc sa wo ln hw ro) (CG_RW (by omega)) ht20
      obtain ⟨fs28, hfs28⟩ := t_obj ht27 (rd_of RW_y)
      refine r_callV (pc := 345) (as := [.int (iv ((xs (Int.toNat (i + 1))).toInt)), .int (iv ((xs (Int.toNat (i + 2))).toInt)), .int (iv 1)]) (st := [.int (iv v8)]) kL_37 rfl dL_law_345 hfs28 (zw_X12_join1 (d := d - 1) (x1 := ((xs (Int.toNat (i + 1))).toInt)) (x2 := ((xs (Int.toNat (i + 2))).toInt)) (by omega) hrk hwr9 ht27 (by omega) (by omega) (fun _ _ _ h => h)) rfl (by omega) (Nat.le_of_ble_eq_true rfl) (by omega) (by omega) rfl (fun r22 hp23 n24 hq25 => ?_)
      obtain ⟨hnn24, rf9, cn9, nm9, so9, sz9, dr9, mn9, fr9, tt9, wt9, co9, nf9, nt9, nw9, nc9, v9, ht26, hrr22, f0, f1, f2, f3, f4, f5, f6⟩ := hq25
      subst n24 r22
      have hcmp : v8 = v9 := hA8.trans f3.symm
      have hv9 := mv_X hvR (by omega) hE8 hcmp c1 c2 (fun h9 => ⟨(f4 h9).1, (f4 h9).2.1, (f4 h9).2.2.1⟩) (fun h9 => ⟨(f5 h9).1, (f5 h9).2.1, (f5 h9).2.2.1⟩) (by decide)
      obtain ⟨hm9, hec, her⟩ := mg_G hmR (by omega) hE8 hcmp c1 c2 f4 f5 f6
      subst ct8 rv8
      rw [← CG_RW (by omega)] at ht26
      have hv9r : -2147483648 ≤ v9 ∧ v9 ≤ 2147483647 := by omega
      change Rn _ _ _ 348 _ [.int (iv v9), .int (iv v8)] _ _ _ _ _
      refine t_icmp_eq (pc := 348) (tgt := 1077) dL_law_348 (by decide) (by omega) (by omega) (fun c348 => ?_) (fun c348 => ?_)
      · refine Rn.pick (lv' := [(0, .ref b), (1, .ref a), (2, .ref (a + 41)), (3, .int (iv i))]) [0, 1, 2, 3] rfl ?_
        exact kk _ _ _ _ ⟨Γ8, rf9, cn9, nm9, so9, sz9, dr9, mn9, fr9, tt9, wt9, co9, nu, qi, qc, nf9, nt9, nw9, nc9, sa, wo, ln, hw, ro, th8, dn, dd, da, df, dt, dw, dc, kn8, kd8, ka8, kf8, kt8, kw8, kc8, ht26, (EK.swapW hk9), f0, (DQ_r hdq f1), hm9, hv9, hwr9, by omega, by omega, by omega⟩
      · exfalso
        omega
set_option maxHeartbeats 4000000 in
set_option maxRecDepth 100000 in
theorem lk_5 {D : va_G} {cI cJ cZ cT : ClassId} {lo b L : Nat} {xs : Nat → Int32} {hp : MH} {n d kr wr a : Nat} {i : Int} {Po : Option Value → MH → Nat → Prop} (hd : 60 ≤ d) (hL : L ≤ 3584) (hi : 0 ≤ i ∧ i + 7 ≤ (L : Int)) (hP : ∀ (v : Int) (hp : MH) (n : Nat), Po (some (.int (iv v))) hp n) (h : LK cI cJ cZ cT a L i hp n kr wr) (kk : ∀ (hp1 : MH) (n1 kr1 wr1 : Nat), LK cI cJ cZ cT a L (i + 7) hp1 n1 kr1 wr1 → Rn (gG D cI cJ cZ cT lo b L xs) mL_law d 1077 [(0, .ref b), (1, .ref a), (2, .ref (a + 41)), (3, .int (iv i))] [] hp1 n1 kr1 wr1 Po) : Rn (gG D cI cJ cZ cT lo b L xs) mL_law d 353 [(0, .ref b), (1, .ref a), (2, .ref (a + 41)), (3, .int (iv i))] [] hp n kr wr Po := by
  obtain ⟨Γ, rf, cn, nm, so, sz, dr, mn, fr, tt, wt, co, nu, qi, qc, nf, nt, nw, nc, sa, wo, ln, hw, ro, th, dn, dd, da, df, dt, dw, dc, kn, kd, ka, kf, kt, kw, kc, ht, hk, hrk, hdq, hm, hv, hwr9, hna, hkr, hwr⟩ := h
  have hmR := HM.same (fun q hq => (RW_o hq).symm : ∀ q : Nat, (q < a + 41 ∨ a + 41 + 43 ≤ q) → Γ q = (RW Γ cI cJ cZ (a + 41) rf cn nm so sz dr mn fr tt wt co nu qi qc nf nt nw nc sa wo ln hw ro) q) hm
  have hvR := HV.same (fun q hq => (RW_o hq).symm : ∀ q : Nat, (q < a + 41 ∨ a + 41 + 43 ≤ q) → Γ q = (RW Γ cI cJ cZ (a + 41) rf cn nm so sz dr mn fr tt wt co nu qi qc nf nt nw nc sa wo ln hw ro) q) hv
  have hcn9 := hk.1
  have hrv : -2147483648 ≤ rf ∧ rf ≤ 2147483647 := hrk.2.2.2.2.2.2.2.2.2.2.2.1
  refine r_aload_n (pc := 353) dL_law_353 (i := 1) rfl rfl ?_
  refine r_aload_n (pc := 354) dL_law_354 (i := 0) rfl rfl ?_
  refine r_iload_n (pc := 355) dL_law_355 (i := 3) rfl rfl ?_
  refine r_iconst (pc := 356) (v := iv 1) dL_law_356 (by decide) ?_
  refine r_iadd (pc := 357) (v := iv (i + 1)) dL_law_357 (iv_add _ _) ?_
  refine w_sld (pc := 358) (v := iv ((xs (Int.toNat (i + 1))).toInt)) dL_law_358 (iv_in (L := L) (by omega) (by omega)) (by rw [iv_clamp (by omega) (by omega)]; exact (iv_of _).symm) ?_
  have lo358 := iv_lo (xs (Int.toNat (i + 1)))
  have hi358 := iv_hi (xs (Int.toNat (i + 1)))
  refine r_aload_n (pc := 359) dL_law_359 (i := 0) rfl rfl ?_
  refine r_iload_n (pc := 360) dL_law_360 (i := 3) rfl rfl ?_
  refine r_iconst (pc := 361) (v := iv 2) dL_law_361 (by decide) ?_
  refine r_iadd (pc := 362) (v := iv (i + 2)) dL_law_362 (iv_add _ _) ?_
  refine w_sld (pc := 363) (v := iv ((xs (Int.toNat (i + 2))).toInt)) dL_law_363 (iv_in (L := L) (by omega) (by omega)) (by rw [iv_clamp (by omega) (by omega)]; exact (iv_of _).symm) ?_
  have lo363 := iv_lo (xs (Int.toNat (i + 2)))
  have hi363 := iv_hi (xs (Int.toNat (i + 2)))
  refine r_aload_n (pc := 364) dL_law_364 (i := 0) rfl rfl ?_
  refine r_iload_n (pc := 365) dL_law_365 (i := 3) rfl rfl ?_
  refine r_iconst (pc := 366) (v := iv 3) dL_law_366 (by decide) ?_
  refine r_iadd (pc := 367) (v := iv (i + 3)) dL_law_367 (iv_add _ _) ?_
  refine w_sld (pc := 368) (v := iv ((xs (Int.toNat (i + 3))).toInt)) dL_law_368 (iv_in (L := L) (by omega) (by omega)) (by rw [iv_clamp (by omega) (by omega)]; exact (iv_of _).symm) ?_
  have lo368 := iv_lo (xs (Int.toNat (i + 3)))
  have hi368 := iv_hi (xs (Int.toNat (i + 3)))
  obtain ⟨fs7, hfs7⟩ := t_obj ht (rd_of CG_0)
  refine r_callV (pc := 369) (as := [.int (iv ((xs (Int.toNat (i + 1))).toInt)), .int (iv ((xs (Int.toNat (i + 2))).toInt)), .int (iv ((xs (Int.toNat (i + 3))).toInt))]) (st := []) kL_38 rfl dL_law_369 hfs7 (y_X11_column (d := d - 1) (x1 := ((xs (Int.toNat (i + 1))).toInt)) (x2 := ((xs (Int.toNat (i + 2))).toInt)) (x3 := ((xs (Int.toNat (i + 3))).toInt)) (by omega) hk hmR hrv (by omega) ht (by omega) (by omega) (by omega)) rfl (by omega) (Nat.le_of_ble_eq_true rfl) (by omega) (by omega) rfl (fun r1 hp2 n3 hq4 => ?_)
  obtain ⟨hnn3, Γ8, ct8, rv8, th8, kn8, kd8, ka8, kf8, kt8, kw8, kc8, v8, hE8, ht5, hk8, hrr1, hA8, hb8, c1, c2⟩ := hq4
  subst r1
  have ex8 := RW_x hE8
  have ht6 := Tw_eq (Γ1 := (CG (RW Γ8 cI cJ cZ (a + 41) rf cn nm so sz dr mn fr tt wt co nu qi qc nf nt nw nc sa wo ln hw ro) cI cJ cZ cT a ct8 rv8 th8 dn dd da df dt dw dc kn8 kd8 ka8 kf8 kt8 kw8 kc8)) (by rw [ex8]) ht5
  have hk9 := hk8
  rw [← ex8] at hk9
  change Rn _ _ _ 372 _ [.int (iv v8)] _ _ _ _ _
  refine r_aload_n (pc := 372) dL_law_372 (i := 2) rfl rfl ?_
  refine r_aload_n (pc := 373) dL_law_373 (i := 0) rfl rfl ?_
  refine r_iload_n (pc := 374) dL_law_374 (i := 3) rfl rfl ?_
  refine r_iconst (pc := 375) (v := iv 1) dL_law_375 (by decide) ?_
  refine r_iadd (pc := 376) (v := iv (i + 1)) dL_law_376 (iv_add _ _) ?_
  refine w_sld (pc := 377) (v := iv ((xs (Int.toNat (i + 1))).toInt)) dL_law_377 (iv_in (L := L) (by omega) (by omega)) (by rw [iv_clamp (by omega) (by omega)]; exact (iv_of _).symm) ?_
  have lo377 := iv_lo (xs (Int.toNat (i + 1)))
  have hi377 := iv_hi (xs (Int.toNat (i + 1)))
  refine r_aload_n (pc := 378) dL_law_378 (i := 0) rfl rfl ?_
  refine r_iload_n (pc := 379) dL_law_379 (i := 3) rfl rfl ?_
  refine r_iconst (pc := 380) (v := iv 2) dL_law_380 (by decide) ?_
  refine r_iadd (pc := 381) (v := iv (i + 2)) dL_law_381 (iv_add _ _) ?_
  refine w_sld (pc := 382) (v := iv ((xs (Int.toNat (i + 2))).toInt)) dL_law_382 (iv_in (L := L) (by omega) (by omega)) (by rw [iv_clamp (by omega) (by omega)]; exact (iv_of _).symm) ?_
  have lo382 := iv_lo (xs (Int.toNat (i + 2)))
  have hi382 := iv_hi (xs (Int.toNat (i + 2)))
  refine r_aload_n (pc := 383) dL_law_383 (i := 0) rfl rfl ?_
  refine r_iload_n (pc := 384) dL_law_384 (i := 3) rfl rfl ?_
  refine r_iconst (pc := 385) (v := iv 3) dL_law_385 (by decide) ?_
  refine r_iadd (pc := 386) (v := iv (i + 3)) dL_law_386 (iv_add _ _) ?_
  refine w_sld (pc := 387) (v := iv ((xs (Int.toNat (i + 3))).toInt)) dL_law_387 (iv_in (L := L) (by omega) (by omega)) (by rw [iv_clamp (by omega) (by omega)]; exact (iv_of _).symm) ?_
  have lo387 := iv_lo (xs (Int.toNat (i + 3)))
  have hi387 := iv_hi (xs (Int.toNat (i + 3)))
  have ht13 := Tw_eq (Γ1 := RW (CG Γ8 cI cJ cZ cT a ct8 rv8 th8 dn dd da df dt dw dc kn8 kd8 ka8 kf8 kt8 kw8 kc8) cI cJ cZ (a + 41) rf cn nm so sz dr mn fr tt wt co nu qi qc nf nt nw nc sa wo ln hw ro) (CG_RW (by omega)) ht6
  obtain ⟨fs14, hfs14⟩ := t_obj ht13 (rd_of RW_y)
  refine r_callV (pc := 388) (as := [.int (iv ((xs (Int.toNat (i + 1))).toInt)), .int (iv ((xs (Int.toNat (i + 2))).toInt)), .int (iv ((xs (Int.toNat (i + 3))).toInt))]) (st := [.int (iv v8)]) kL_41 rfl dL_law_388 hfs14 (zw_X12_column (d := d - 1) (x1 := ((xs (Int.toNat (i + 1))).toInt)) (x2 := ((xs (Int.toNat (i + 2))).toInt)) (x3 := ((xs (Int.toNat (i + 3))).toInt)) (by omega) hrk hwr9 ht13 (by omega) (by omega) (by omega) (fun _ _ _ h => h)) rfl (by omega) (Nat.le_of_ble_eq_true rfl) (by omega) (by omega) rfl (fun r8 hp9 n10 hq11 => ?_)
  obtain ⟨hnn10, rf9, cn9, so9, sz9, nu9, v9, ht12, hrr8, f0, f1, f2, f3, f4, f5, f6⟩ := hq11
  subst n10 r8
  have hcmp : v8 = v9 := hA8.trans f3.symm
  have hv9 := mv_X hvR (by omega) hE8 hcmp c1 c2 (fun h9 => ⟨(f4 h9).1, (f4 h9).2.1, (f4 h9).2.2.1⟩) (fun h9 => (f5 h9).elim (fun g q => ⟨q.1.1, q.1.2.1, q.1.2.2.1⟩)) (by decide)
  obtain ⟨hm9, hec, her⟩ := mg_C hmR (by omega) hE8 hcmp c1 c2 f4 f5 (fun h9 f g hf hg => ck_uq (by have h8 := an1_pos f3 h9; omega) hf hg) f6
  subst ct8 rv8
  rw [← CG_RW (by omega)] at ht12
  have hv9r : -2147483648 ≤ v9 ∧ v9 ≤ 2147483647 := by omega
  change Rn _ _ _ 391 _ [.int (iv v9), .int (iv v8)] _ _ _ _ _
  refine t_icmp_eq (pc := 391) (tgt := 1077) dL_law_391 (by decide) (by omega) (by omega) (fun c391 => ?_) (fun c391 => ?_)
  · refine Rn.pick (lv' := [(0, .ref b), (1, .ref a), (2, .ref (a + 41)), (3, .int (iv i))]) [0, 1, 2, 3] rfl ?_
    exact kk _ _ _ _ ⟨Γ8, rf9, cn9, nm, so9, sz9, dr, mn, fr, tt, wt, co, nu9, qi, qc, nf, nt, nw, nc, sa, wo, ln, hw, ro, th8, dn, dd, da, df, dt, dw, dc, kn8, kd8, ka8, kf8, kt8, kw8, kc8, ht12, (EK.swapW hk9), f0, (DQ_r hdq f1), hm9, hv9, hwr9, by omega, by omega, by omega⟩
  · exfalso
    omega
set_option maxHeartbeats 4000000 in
set_option maxRecDepth 100000 in
theorem lk_6 {D : va_G} {cI cJ cZ cT : ClassId} {lo b L : Nat} {xs : Nat → Int32} {hp : MH} {n d kr wr a : Nat} {i : Int} {Po : Option Value → MH → Nat → Prop} (hd : 60 ≤ d) (hL : L ≤ 3584) (hi : 0 ≤ i ∧ i + 7 ≤ (L : Int)) (hP : ∀ (v : Int) (hp : MH) (n : Nat), Po (some (.int (iv v))) hp n) (h : LK cI cJ cZ cT a L i hp n kr wr) (kk : ∀ (hp1 : MH) (n1 kr1 wr1 : Nat), LK cI cJ cZ cT a L (i + 7) hp1 n1 kr1 wr1 → Rn (gG D cI cJ cZ cT lo b L xs) mL_law d 1077 [(0, .ref b), (1, .ref a), (2, .ref (a + 41)), (3, .int (iv i))] [] hp1 n1 kr1 wr1 Po) : Rn (gG D cI cJ cZ cT lo b L xs) mL_law d 396 [(0, .ref b), (1, .ref a), (2, .ref (a + 41)), (3, .int (iv i))] [] hp n kr wr Po := by
  obtain ⟨Γ, rf, cn, nm, so, sz, dr, mn, fr, tt, wt, co, nu, qi, qc, nf, nt, nw, nc, sa, wo, ln, hw, ro, th, dn, dd, da, df, dt, dw, dc, kn, kd, ka, kf, kt, kw, kc, ht, hk, hrk, hdq, hm, hv, hwr9, hna, hkr, hwr⟩ := h
  have hmR := HM.same (fun q hq => (RW_o hq).symm : ∀ q : Nat, (q < a + 41 ∨ a + 41 + 43 ≤ q) → Γ q = (RW Γ cI cJ cZ (a + 41) rf cn nm so sz dr mn fr tt wt co nu qi qc nf nt nw nc sa wo ln hw ro) q) hm
  have hvR := HV.same (fun q hq => (RW_o hq).symm : ∀ q : Nat, (q < a + 41 ∨ a + 41 + 43 ≤ q) → Γ q = (RW Γ cI cJ cZ (a + 41) rf cn nm so sz dr mn fr tt wt co nu qi qc nf nt nw nc sa wo ln hw ro) q) hv
  have hcn9 := hk.1
  have hrv : -2147483648 ≤ rf ∧ rf ≤ 2147483647 := hrk.2.2.2.2.2.2.2.2.2.2.2.1
  refine r_aload_n (pc := 396) dL_law_396 (i := 1) rfl rfl ?_
  refine r_aload_n (pc := 397) dL_law_397 (i := 0) rfl rfl ?_
  refine r_iload_n (pc := 398) dL_law_398 (i := 3) rfl rfl ?_
  refine r_iconst (pc := 399) (v := iv 1) dL_law_399 (by decide) ?_
  refine r_iadd (pc := 400) (v := iv (i + 1)) dL_law_400 (iv_add _ _) ?_
  refine w_sld (pc := 401) (v := iv ((xs (Int.toNat (i + 1))).toInt)) dL_law_401 (iv_in (L := L) (by omega) (by omega)) (by rw [iv_clamp (by omega) (by omega)]; exact (iv_of _).symm) ?_
  have lo401 := iv_lo (xs (Int.toNat (i + 1)))
  have hi401 := iv_hi (xs (Int.toNat (i + 1)))
  refine r_aload_n (pc := 402) dL_law_402 (i := 0) rfl rfl ?_
  refine r_iload_n (pc := 403) dL_law_403 (i := 3) rfl rfl ?_
  refine r_iconst (pc := 404) (v := iv 2) dL_law_404 (by decide) ?_
  refine r_iadd (pc := 405) (v := iv (i + 2)) dL_law_405 (iv_add _ _) ?_
  refine w_sld (pc := 406) (v := iv ((xs (Int.toNat (i + 2))).toInt)) dL_law_406 (iv_in (L := L) (by omega) (by omega)) (by rw [iv_clamp (by omega) (by omega)]; exact (iv_of _).symm) ?_
  have lo406 := iv_lo (xs (Int.toNat (i + 2)))
  have hi406 := iv_hi (xs (Int.toNat (i + 2)))
  refine r_i2l (pc := 407) (v := (iv ((xs (Int.toNat (i + 2))).toInt)).toInt64) dL_law_407 rfl ?_
  refine r_bipush (pc := 408) (v := iv 32) dL_law_408 (by decide) ?_
  refine r_lshl (pc := 410) dL_law_410 ?_
  refine r_aload_n (pc := 411) dL_law_411 (i := 0) rfl rfl ?_
  refine r_iload_n (pc := 412) dL_law_412 (i := 3) rfl rfl ?_
  refine r_iconst (pc := 413) (v := iv 3) dL_law_413 (by decide) ?_
  refine r_iadd (pc := 414) (v := iv (i + 3)) dL_law_414 (iv_add _ _) ?_
  refine w_sld (pc := 415) (v := iv ((xs (Int.toNat (i + 3))).toInt)) dL_law_415 (iv_in (L := L) (by omega) (by omega)) (by rw [iv_clamp (by omega) (by omega)]; exact (iv_of _).symm) ?_
  have lo415 := iv_lo (xs (Int.toNat (i + 3)))
  have hi415 := iv_hi (xs (Int.toNat (i + 3)))
  refine r_i2l (pc := 416) (v := (iv ((xs (Int.toNat (i + 3))).toInt)).toInt64) dL_law_416 rfl ?_
  refine r_ldc2 (pc := 417) (v := 4294967295) dL_law_417 kL_42 ?_
  have hk417 : (4294967295 : Int64).toInt = 4294967295 := by decide
  refine r_land (pc := 420) (v := ((iv ((xs (Int.toNat (i + 3))).toInt)).toInt64) &&& (4294967295 : Int64)) dL_law_420 rfl ?_
  refine r_lor (pc := 421) (v := (((iv ((xs (Int.toNat (i + 2))).toInt)).toInt64) <<< ((iv 32).toInt64 &&& 63)) ||| (((iv ((xs (Int.toNat (i + 3))).toInt)).toInt64) &&& (4294967295 : Int64))) dL_law_421 rfl ?_
  refine r_aload_n (pc := 422) dL_law_422 (i := 0) rfl rfl ?_
  refine r_iload_n (pc := 423) dL_law_423 (i := 3) rfl rfl ?_
  refine r_iconst (pc := 424) (v := iv 4) dL_law_424 (by decide) ?_
  refine r_iadd (pc := 425) (v := iv (i + 4)) dL_law_425 (iv_add _ _) ?_
  refine w_sld (pc := 426) (v := iv ((xs (Int.toNat (i + 4))).toInt)) dL_law_426 (iv_in (L := L) (by omega) (by omega)) (by rw [iv_clamp (by omega) (by omega)]; exact (iv_of _).symm) ?_
  have lo426 := iv_lo (xs (Int.toNat (i + 4)))
  have hi426 := iv_hi (xs (Int.toNat (i + 4)))
  refine r_aload_n (pc := 427) dL_law_427 (i := 0) rfl rfl ?_
  refine r_iload_n (pc := 428) dL_law_428 (i := 3) rfl rfl ?_
  refine r_iconst (pc := 429) (v := iv 5) dL_law_429 (by decide) ?_
  refine r_iadd (pc := 430) (v := iv (i + 5)) dL_law_430 (iv_add _ _) ?_
  refine w_sld (pc := 431) (v := iv ((xs (Int.toNat (i + 5))).toInt)) dL_law_431 (iv_in (L := L) (by omega) (by omega)) (by rw [iv_clamp (by omega) (by omega)]; exact (iv_of _).symm) ?_
  have lo431 := iv_lo (xs (Int.toNat (i + 5)))
  have hi431 := iv_hi (xs (Int.toNat (i + 5)))
  refine r_i2l (pc := 432) (v := (iv ((xs (Int.toNat (i + 5))).toInt)).toInt64) dL_law_432 rfl ?_
  refine r_bipush (pc := 433) (v := iv 32) dL_law_433 (by decide) ?_
  refine r_lshl (pc := 435) dL_law_435 ?_
  refine r_aload_n (pc := 436) dL_law_436 (i := 0) rfl rfl ?_
  refine r_iload_n (pc := 437) dL_law_437 (i := 3) rfl rfl ?_
  refine r_bipush (pc := 438) (v := iv 6) dL_law_438 (by decide) ?_
  refine r_iadd (pc := 440) (v := iv (i + 6)) dL_law_440 (iv_add _ _) ?_
  refine w_sld (pc := 441) (v := iv ((xs (Int.toNat (i + 6))).toInt)) dL_law_441 (iv_in (L := L) (by omega) (by omega)) (by rw [iv_clamp (by omega) (by omega)]; exact (iv_of _).symm) ?_
  have lo441 := iv_lo (xs (Int.toNat (i + 6)))
  have hi441 := iv_hi (xs (Int.toNat (i + 6)))
  refine r_i2l (pc := 442) (v := (iv ((xs (Int.toNat (i + 6))).toInt)).toInt64) dL_law_442 rfl ?_
  refine r_ldc2 (pc := 443) (v := 4294967295) dL_law_443 kL_42 ?_
  have hk443 : (4294967295 : Int64).toInt = 4294967295 := by decide
  refine r_land (pc := 446) (v := ((iv ((xs (Int.toNat (i + 6))).toInt)).toInt64) &&& (4294967295 : Int64)) dL_law_446 rfl ?_
  refine r_lor (pc := 447) (v := (((iv ((xs (Int.toNat (i + 5))).toInt)).toInt64) <<< ((iv 32).toInt64 &&& 63)) ||| (((iv ((xs (Int.toNat (i + 6))).toInt)).toInt64) &&& (4294967295 : Int64))) dL_law_447 rfl ?_
  obtain ⟨fs7, hfs7⟩ := t_obj ht (rd_of CG_0)
  refine r_callV (pc := 448) (as := [.int (iv ((xs (Int.toNat (i + 1))).toInt)), .long ((((iv ((xs (Int.toNat (i + 2))).toInt)).toInt64) <<< ((iv 32).toInt64 &&& 63)) ||| (((iv ((xs (Int.toNat (i + 3))).toInt)).toInt64) &&& (4294967295 : Int64))), .int (iv ((xs (Int.toNat (i + 4))).toInt)), .long ((((iv ((xs (Int.toNat (i + 5))).toInt)).toInt64) <<< ((iv 32).toInt64 &&& 63)) ||| (((iv ((xs (Int.toNat (i + 6))).toInt)).toInt64) &&& (4294967295 : Int64)))]) (st := []) kL_44 rfl dL_law_448 hfs7 (y_X11_flat (d := d - 1) (x1 := ((xs (Int.toNat (i + 1))).toInt)) (j2 := (((iv ((xs (Int.toNat (i + 2))).toInt)).toInt64) <<< ((iv 32).toInt64 &&& 63)) ||| (((iv ((xs (Int.toNat (i + 3))).toInt)).toInt64) &&& (4294967295 : Int64))) (x3 := ((xs (Int.toNat (i + 4))).toInt)) (j4 := (((iv ((xs (Int.toNat (i + 5))).toInt)).toInt64) <<< ((iv 32).toInt64 &&& 63)) ||| (((iv ((xs (Int.toNat (i + 6))).toInt)).toInt64) &&& (4294967295 : Int64))) (by omega) hk hmR hrv (by omega) ht (by omega) (by omega)) rfl (by omega) (Nat.le_of_ble_eq_true rfl) (by omega) (by omega) rfl (fun r1 hp2 n3 hq4 => ?_)
  obtain ⟨hnn3, Γ8, ct8, rv8, th8, kn8, kd8, ka8, kf8, kt8, kw8, kc8, v8, hE8, ht5, hk8, hrr1, hA8, hb8, c1, c2⟩ := hq4
  subst r1
  have ex8 := RW_x hE8
  have ht6 := Tw_eq (Γ1 := (CG (RW Γ8 cI cJ cZ (a + 41) rf cn nm so sz dr mn fr tt wt co nu qi qc nf nt nw nc sa wo ln hw ro) cI cJ cZ cT a ct8 rv8 th8 dn dd da df dt dw dc kn8 kd8 ka8 kf8 kt8 kw8 kc8)) (by rw [ex8]) ht5
  have hk9 := hk8
  rw [← ex8] at hk9
  change Rn _ _ _ 451 _ [.int (iv v8)] _ _ _ _ _
  refine r_aload_n (pc := 451) dL_law_451 (i := 2) rfl rfl ?_
  refine r_aload_n (pc := 452) dL_law_452 (i := 0) rfl rfl ?_
  refine r_iload_n (pc := 453) dL_law_453 (i := 3) rfl rfl ?_
  refine r_iconst (pc := 454) (v := iv 1) dL_law_454 (by decide) ?_
  refine r_iadd (pc := 455) (v := iv (i + 1)) dL_law_455 (iv_add _ _) ?_
  refine w_sld (pc := 456) (v := iv ((xs (Int.toNat (i + 1))).toInt)) dL_law_456 (iv_in (L := L) (by omega) (by omega)) (by rw [iv_clamp (by omega) (by omega)]; exact (iv_of _).symm) ?_
  have lo456 := iv_lo (xs (Int.toNat (i + 1)))
  have hi456 := iv_hi (xs (Int.toNat (i + 1)))
  refine r_aload_n (pc := 457) dL_law_457 (i := 0) rfl rfl ?_
  refine r_iload_n (pc := 458) dL_law_458 (i := 3) rfl rfl ?_
  refine r_iconst (pc := 459) (v := iv 2) dL_law_459 (by decide) ?_
  refine r_iadd (pc := 460) (v := iv (i + 2)) dL_law_460 (iv_add _ _) ?_
  refine w_sld (pc := 461) (v := iv ((xs (Int.toNat (i + 2))).toInt)) dL_law_461 (iv_in (L := L) (by omega) (by omega)) (by rw [iv_clamp (by omega) (by omega)]; exact (iv_of _).symm) ?_
  have lo461 := iv_lo (xs (Int.toNat (i + 2)))
  have hi461 := iv_hi (xs (Int.toNat (i + 2)))
  refine r_i2l (pc := 462) (v := (iv ((xs (Int.toNat (i + 2))).toInt)).toInt64) dL_law_462 rfl ?_
  refine r_bipush (pc := 463) (v := iv 32) dL_law_463 (by decide) ?_
  refine r_lshl (pc := 465) dL_law_465 ?_
  refine r_aload_n (pc := 466) dL_law_466 (i := 0) rfl rfl ?_
  refine r_iload_n (pc := 467) dL_law_467 (i := 3) rfl rfl ?_
  refine r_iconst (pc := 468) (v := iv 3) dL_law_468 (by decide) ?_
  refine r_iadd (pc := 469) (v := iv (i + 3)) dL_law_469 (iv_add _ _) ?_
  refine w_sld (pc := 470) (v := iv ((xs (Int.toNat (i + 3))).toInt)) dL_law_470 (iv_in (L := L) (by omega) (by omega)) (by rw [iv_clamp (by omega) (by omega)]; exact (iv_of _).symm) ?_
  have lo470 := iv_lo (xs (Int.toNat (i + 3)))
  have hi470 := iv_hi (xs (Int.toNat (i + 3)))
  refine r_i2l (pc := 471) (v := (iv ((xs (Int.toNat (i + 3))).toInt)).toInt64) dL_law_471 rfl ?_
  refine r_ldc2 (pc := 472) (v := 4294967295) dL_law_472 kL_42 ?_
  have hk472 : (4294967295 : Int64).toInt = 4294967295 := by decide
  refine r_land (pc := 475) (v := ((iv ((xs (Int.toNat (i + 3))).toInt)).toInt64) &&& (4294967295 : Int64)) dL_law_475 rfl ?_
  refine r_lor (pc := 476) (v := (((iv ((xs (Int.toNat (i + 2))).toInt)).toInt64) <<< ((iv 32).toInt64 &&& 63)) ||| (((iv ((xs (Int.toNat (i + 3))).toInt)).toInt64) &&& (4294967295 : Int64))) dL_law_476 rfl ?_
  refine r_aload_n (pc := 477) dL_law_477 (i := 0) rfl rfl ?_
  refine r_iload_n (pc := 478) dL_law_478 (i := 3) rfl rfl ?_
  refine r_iconst (pc := 479) (v := iv 4) dL_law_479 (by decide) ?_
  refine r_iadd (pc := 480) (v := iv (i + 4)) dL_law_480 (iv_add _ _) ?_
  refine w_sld (pc := 481) (v := iv ((xs (Int.toNat (i + 4))).toInt)) dL_law_481 (iv_in (L := L) (by omega) (by omega)) (by rw [iv_clamp (by omega) (by omega)]; exact (iv_of _).symm) ?_
  have lo481 := iv_lo (xs (Int.toNat (i + 4)))
  have hi481 := iv_hi (xs (Int.toNat (i + 4)))
  refine r_aload_n (pc := 482) dL_law_482 (i := 0) rfl rfl ?_
  refine r_iload_n (pc := 483) dL_law_483 (i := 3) rfl rfl ?_
  refine r_iconst (pc := 484) (v := iv 5) dL_law_484 (by decide) ?_
  refine r_iadd (pc := 485) (v := iv (i + 5)) dL_law_485 (iv_add _ _) ?_
  refine w_sld (pc := 486) (v := iv ((xs (Int.toNat (i + 5))).toInt)) dL_law_486 (iv_in (L := L) (by omega) (by omega)) (by rw [iv_clamp (by omega) (by omega)]; exact (iv_of _).symm) ?_
  have lo486 := iv_lo (xs (Int.toNat (i + 5)))
  have hi486 := iv_hi (xs (Int.toNat (i + 5)))
  refine r_i2l (pc := 487) (v := (iv ((xs (Int.toNat (i + 5))).toInt)).toInt64) dL_law_487 rfl ?_
  refine r_bipush (pc := 488) (v := iv 32) dL_law_488 (by decide) ?_
  refine r_lshl (pc := 490) dL_law_490 ?_
  refine r_aload_n (pc := 491) dL_law_491 (i := 0) rfl rfl ?_
  refine r_iload_n (pc := 492) dL_law_492 (i := 3) rfl rfl ?_
  refine r_bipush (pc := 493) (v := iv 6) dL_law_493 (by decide) ?_
  refine r_iadd (pc := 495) (v := iv (i + 6)) dL_law_495 (iv_add _ _) ?_
  refine w_sld (pc := 496) (v := iv ((xs (Int.toNat (i + 6))).toInt)) dL_law_496 (iv_in (L := L) (by omega) (by omega)) (by rw [iv_clamp (by omega) (by omega)]; exact (iv_of _).symm) ?_
  have lo496 := iv_lo (xs (Int.toNat (i + 6)))
  have hi496 := iv_hi (xs (Int.toNat (i + 6)))
  refine r_i2l (pc := 497) (v := (iv ((xs (Int.toNat (i + 6))).toInt)).toInt64) dL_law_497 rfl ?_
  refine r_ldc2 (pc := 498) (v := 4294967295) dL_law_498 kL_42 ?_
  have hk498 : (4294967295 : Int64).toInt = 4294967295 := by decide
  refine r_land (pc := 501) (v := ((iv ((xs (Int.toNat (i + 6))).toInt)).toInt64) &&& (4294967295 : Int64)) dL_law_501 rfl ?_
  refine r_lor (pc := 502) (v := (((iv ((xs (Int.toNat (i + 5))).toInt)).toInt64) <<< ((iv 32).toInt64 &&& 63)) ||| (((iv ((xs (Int.toNat (i + 6))).toInt)).toInt64) &&& (4294967295 : Int64))) dL_law_502 rfl ?_
  have ht13 := Tw_eq (Γ1 := RW (CG Γ8 cI cJ cZ cT a ct8 rv8 th8 dn dd da df dt dw dc kn8 kd8 ka8 kf8 kt8 kw8 kc8) cI cJ cZ (a + 41) rf cn nm so sz dr mn fr tt wt co nu qi qc nf nt nw nc sa wo ln hw ro) (CG_RW (by omega)) ht6
  obtain ⟨fs14, hfs14⟩ := t_obj ht13 (rd_of RW_y)
  refine r_callV (pc := 503) (as := [.int (iv ((xs (Int.toNat (i + 1))).toInt)), .long ((((iv ((xs (Int.toNat (i + 2))).toInt)).toInt64) <<< ((iv 32).toInt64 &&& 63)) ||| (((iv ((xs (Int.toNat (i + 3))).toInt)).toInt64) &&& (4294967295 : Int64))), .int (iv ((xs (Int.toNat (i + 4))).toInt)), .long ((((iv ((xs (Int.toNat (i + 5))).toInt)).toInt64) <<< ((iv 32).toInt64 &&& 63)) ||| (((iv ((xs (Int.toNat (i + 6))).toInt)).toInt64) &&& (4294967295 : Int64)))]) (st := [.int (iv v8)]) kL_48 rfl dL_law_503 hfs14 (zw_X12_flat (d := d - 1) (x1 := ((xs (Int.toNat (i + 1))).toInt)) (j2 := (((iv ((xs (Int.toNat (i + 2))).toInt)).toInt64) <<< ((iv 32).toInt64 &&& 63)) ||| (((iv ((xs (Int.toNat (i + 3))).toInt)).toInt64) &&& (4294967295 : Int64))) (x3 := ((xs (Int.toNat (i + 4))).toInt)) (j4 := (((iv ((xs (Int.toNat (i + 5))).toInt)).toInt64) <<< ((iv 32).toInt64 &&& 63)) ||| (((iv ((xs (Int.toNat (i + 6))).toInt)).toInt64) &&& (4294967295 : Int64))) (by omega) hrk hwr9 ht13 (by omega) (by omega) (fun _ _ _ h => h)) rfl (by omega) (Nat.le_of_ble_eq_true rfl) (by omega) (by omega) rfl (fun r8 hp9 n10 hq11 => ?_)
  obtain ⟨hnn10, rf9, cn9, so9, sz9, nu9, v9, ht12, hrr8, f0, f1, f2, f3, f4, f5, f6⟩ := hq11
  subst n10 r8
  have hcmp : v8 = v9 := hA8.trans f3.symm
  have hv9 := mv_X hvR (by omega) hE8 hcmp c1 c2 (fun h9 => ⟨(f4 h9).1, (f4 h9).2.1, (f4 h9).2.2.1⟩) (fun h9 => ⟨(f5 h9).1, (f5 h9).2.1, (f5 h9).2.2.1⟩) (by decide)
  obtain ⟨hm9, hec, her⟩ := mg_F hmR (by omega) hE8 hcmp c1 c2 f4 f5 f6
  subst ct8 rv8
  rw [← CG_RW (by omega)] at ht12
  have hv9r : -2147483648 ≤ v9 ∧ v9 ≤ 2147483647 := by omega
  change Rn _ _ _ 506 _ [.int (iv v9), .int (iv v8)] _ _ _ _ _
  refine t_icmp_eq (pc := 506) (tgt := 1077) dL_law_506 (by decide) (by omega) (by omega) (fun c506 => ?_) (fun c506 => ?_)
  · refine Rn.pick (lv' := [(0, .ref b), (1, .ref a), (2, .ref (a + 41)), (3, .int (iv i))]) [0, 1, 2, 3] rfl ?_
    exact kk _ _ _ _ ⟨Γ8, rf9, cn9, nm, so9, sz9, dr, mn, fr, tt, wt, co, nu9, qi, qc, nf, nt, nw, nc, sa, wo, ln, hw, ro, th8, dn, dd, da, df, dt, dw, dc, kn8, kd8, ka8, kf8, kt8, kw8, kc8, ht12, (EK.swapW hk9), f0, (DQ_r hdq f1), hm9, hv9, hwr9, by omega, by omega, by omega⟩
  · exfalso
    omega
set_option maxHeartbeats 4000000 in
set_option maxRecDepth 100000 in
theorem lk_7 {D : va_G} {cI cJ cZ cT : ClassId} {lo b L : Nat} {xs : Nat → Int32} {hp : MH} {n d kr wr a : Nat} {i : Int} {Po : Option Value → MH → Nat → Prop} (hd : 60 ≤ d) (hL : L ≤ 3584) (hi : 0 ≤ i ∧ i + 7 ≤ (L : Int)) (hP : ∀ (v : Int) (hp : MH) (n : Nat), Po (some (.int (iv v))) hp n) (h : LK cI cJ cZ cT a L i hp n kr wr) (kk : ∀ (hp1 : MH) (n1 kr1 wr1 : Nat), LK cI cJ cZ cT a L (i + 7) hp1 n1 kr1 wr1 → Rn (gG D cI cJ cZ cT lo b L xs) mL_law d 1077 [(0, .ref b), (1, .ref a), (2, .ref (a + 41)), (3, .int (iv i))] [] hp1 n1 kr1 wr1 Po) : Rn (gG D cI cJ cZ cT lo b L xs) mL_law d 511 [(0, .ref b), (1, .ref a), (2, .ref (a + 41)), (3, .int (iv i))] [] hp n kr wr Po := by
  obtain ⟨Γ, rf, cn, nm, so, sz, dr, mn, fr, tt, wt, co, nu, qi, qc, nf, nt, nw, nc, sa, wo, ln, hw, ro, th, dn, dd, da, df, dt, dw, dc, kn, kd, ka, kf, kt, kw, kc, ht, hk, hrk, hdq, hm, hv, hwr9, hna, hkr, hwr⟩ := h
  have hmR := HM.same (fun q hq => (RW_o hq).symm : ∀ q : Nat, (q < a + 41 ∨ a + 41 + 43 ≤ q) → Γ q = (RW Γ cI cJ cZ (a + 41) rf cn nm so sz dr mn fr tt wt co nu qi qc nf nt nw nc sa wo ln hw ro) q) hm
  have hvR := HV.same (fun q hq => (RW_o hq).symm : ∀ q : Nat, (q < a + 41 ∨ a + 41 + 43 ≤ q) → Γ q = (RW Γ cI cJ cZ (a + 41) rf cn nm so sz dr mn fr tt wt co nu qi qc nf nt nw nc sa wo ln hw ro) q) hv
  have hcn9 := hk.1
  have hrv : -2147483648 ≤ rf ∧ rf ≤ 2147483647 := hrk.2.2.2.2.2.2.2.2.2.2.2.1
  refine r_aload_n (pc := 511) dL_law_511 (i := 1) rfl rfl ?_
  refine r_aload_n (pc := 512) dL_law_512 (i := 0) rfl rfl ?_
  refine r_iload_n (pc := 513) dL_law_513 (i := 3) rfl rfl ?_
  refine r_iconst (pc := 514) (v := iv 1) dL_law_514 (by decide) ?_
  refine r_iadd (pc := 515) (v := iv (i + 1)) dL_law_515 (iv_add _ _) ?_
  refine w_sld (pc := 516) (v := iv ((xs (Int.toNat (i + 1))).toInt)) dL_law_516 (iv_in (L := L) (by omega) (by omega)) (by rw [iv_clamp (by omega) (by omega)]; exact (iv_of _).symm) ?_
  have lo516 := iv_lo (xs (Int.toNat (i + 1)))
  have hi516 := iv_hi (xs (Int.toNat (i + 1)))
  refine r_aload_n (pc := 517) dL_law_517 (i := 0) rfl rfl ?_
  refine r_iload_n (pc := 518) dL_law_518 (i := 3) rfl rfl ?_
  refine r_iconst (pc := 519) (v := iv 2) dL_law_519 (by decide) ?_
  refine r_iadd (pc := 520) (v := iv (i + 2)) dL_law_520 (iv_add _ _) ?_
  refine w_sld (pc := 521) (v := iv ((xs (Int.toNat (i + 2))).toInt)) dL_law_521 (iv_in (L := L) (by omega) (by omega)) (by rw [iv_clamp (by omega) (by omega)]; exact (iv_of _).symm) ?_
  have lo521 := iv_lo (xs (Int.toNat (i + 2)))
  have hi521 := iv_hi (xs (Int.toNat (i + 2)))
  refine r_aload_n (pc := 522) dL_law_522 (i := 0) rfl rfl ?_
  refine r_iload_n (pc := 523) dL_law_523 (i := 3) rfl rfl ?_
  refine r_iconst (pc := 524) (v := iv 3) dL_law_524 (by decide) ?_
  refine r_iadd (pc := 525) (v := iv (i + 3)) dL_law_525 (iv_add _ _) ?_
  refine w_sld (pc := 526) (v := iv ((xs (Int.toNat (i + 3))).toInt)) dL_law_526 (iv_in (L := L) (by omega) (by omega)) (by rw [iv_clamp (by omega) (by omega)]; exact (iv_of _).symm) ?_
  have lo526 := iv_lo (xs (Int.toNat (i + 3)))
  have hi526 := iv_hi (xs (Int.toNat (i + 3)))
  obtain ⟨fs7, hfs7⟩ := t_obj ht (rd_of CG_0)
  refine r_callV (pc := 527) (as := [.int (iv ((xs (Int.toNat (i + 1))).toInt)), .int (iv ((xs (Int.toNat (i + 2))).toInt)), .int (iv ((xs (Int.toNat (i + 3))).toInt))]) (st := []) kL_49 rfl dL_law_527 hfs7 (y_X11_mix (d := d - 1) (x1 := ((xs (Int.toNat (i + 1))).toInt)) (x2 := ((xs (Int.toNat (i + 2))).toInt)) (x3 := ((xs (Int.toNat (i + 3))).toInt)) (by omega) hk hmR hrv (by omega) ht (by omega) (by omega) (by omega)) rfl (by omega) (Nat.le_of_ble_eq_true rfl) (by omega) (by omega) rfl (fun r1 hp2 n3 hq4 => ?_)
  obtain ⟨hnn3, Γ8, ct8, rv8, th8, kn8, kd8, ka8, kf8, kt8, kw8, kc8, v8, hE8, ht5, hk8, hrr1, hA8, hb8, c1, c2⟩ := hq4
  subst r1
  have ex8 := RW_x hE8
  have ht6 := Tw_eq (Γ1 := (CG (RW Γ8 cI cJ cZ (a + 41) rf cn nm so sz dr mn fr tt wt co nu qi qc nf nt nw nc sa wo ln hw ro) cI cJ cZ cT a ct8 rv8 th8 dn dd da df dt dw dc kn8 kd8 ka8 kf8 kt8 kw8 kc8)) (by rw [ex8]) ht5
  have hk9 := hk8
  rw [← ex8] at hk9
  change Rn _ _ _ 530 _ [.int (iv v8)] _ _ _ _ _
  refine r_aload_n (pc := 530) dL_law_530 (i := 2) rfl rfl ?_
  refine r_aload_n (pc := 531) dL_law_531 (i := 0) rfl rfl ?_
  refine r_iload_n (pc := 532) dL_law_532 (i := 3) rfl rfl ?_
  refine r_iconst (pc := 533) (v := iv 1) dL_law_533 (by decide) ?_
  refine r_iadd (pc := 534) (v := iv (i + 1)) dL_law_534 (iv_add _ _) ?_
  refine w_sld (pc := 535) (v := iv ((xs (Int.toNat (i + 1))).toInt)) dL_law_535 (iv_in (L := L) (by omega) (by omega)) (by rw [iv_clamp (by omega) (by omega)]; exact (iv_of _).symm) ?_
  have lo535 := iv_lo (xs (Int.toNat (i + 1)))
  have hi535 := iv_hi (xs (Int.toNat (i + 1)))
  refine r_aload_n (pc := 536) dL_law_536 (i := 0) rfl rfl ?_
  refine r_iload_n (pc := 537) dL_law_537 (i := 3) rfl rfl ?_
  refine r_iconst (pc := 538) (v := iv 2) dL_law_538 (by decide) ?_
  refine r_iadd (pc := 539) (v := iv (i + 2)) dL_law_539 (iv_add _ _) ?_
  refine w_sld (pc := 540) (v := iv ((xs (Int.toNat (i + 2))).toInt)) dL_law_540 (iv_in (L := L) (by omega) (by omega)) (by rw [iv_clamp (by omega) (by omega)]; exact (iv_of _).symm) ?_
  have lo540 := iv_lo (xs (Int.toNat (i + 2)))
  have hi540 := iv_hi (xs (Int.toNat (i + 2)))
  refine r_aload_n (pc := 541) dL_law_541 (i := 0) rfl rfl ?_
  refine r_iload_n (pc := 542) dL_law_542 (i := 3) rfl rfl ?_
  refine r_iconst (pc := 543) (v := iv 3) dL_law_543 (by decide) ?_
  refine r_iadd (pc := 544) (v := iv (i + 3)) dL_law_544 (iv_add _ _) ?_
  refine w_sld (pc := 545) (v := iv ((xs (Int.toNat (i + 3))).toInt)) dL_law_545 (iv_in (L := L) (by omega) (by omega)) (by rw [iv_clamp (by omega) (by omega)]; exact (iv_of _).symm) ?_
  have lo545 := iv_lo (xs (Int.toNat (i + 3)))
  have hi545 := iv_hi (xs (Int.toNat (i + 3)))
  have ht13 := Tw_eq (Γ1 := RW (CG Γ8 cI cJ cZ cT a ct8 rv8 th8 dn dd da df dt dw dc kn8 kd8 ka8 kf8 kt8 kw8 kc8) cI cJ cZ (a + 41) rf cn nm so sz dr mn fr tt wt co nu qi qc nf nt nw nc sa wo ln hw ro) (CG_RW (by omega)) ht6
  obtain ⟨fs14, hfs14⟩ := t_obj ht13 (rd_of RW_y)
  refine r_callV (pc := 546) (as := [.int (iv ((xs (Int.toNat (i + 1))).toInt)), .int (iv ((xs (Int.toNat (i + 2))).toInt)), .int (iv ((xs (Int.toNat (i + 3))).toInt))]) (st := [.int (iv v8)]) kL_52 rfl dL_law_546 hfs14 (zw_X12_mix (d := d - 1) (x1 := ((xs (Int.toNat (i + 1))).toInt)) (x2 := ((xs (Int.toNat (i + 2))).toInt)) (x3 := ((xs (Int.toNat (i + 3))).toInt)) (by omega) hrk hwr9 ht13 (by omega) (by omega) (by omega) (fun _ _ _ h => h)) rfl (by omega) (Nat.le_of_ble_eq_true rfl) (by omega) (by omega) rfl (fun r8 hp9 n10 hq11 => ?_)
  obtain ⟨hnn10, rf9, cn9, so9, sz9, nu9, v9, ht12, hrr8, f0, f1, f2, f3, f4, f5, f6⟩ := hq11
  subst n10 r8
  have hcmp : v8 = v9 := hA8.trans f3.symm
  have hv9 := mv_X hvR (by omega) hE8 hcmp c1 c2 (fun h9 => ⟨(f4 h9).1, (f4 h9).2.1, (f4 h9).2.2.1⟩) (fun h9 => ⟨(f5 h9).1, (f5 h9).2.1, (f5 h9).2.2.1⟩) (by decide)
  obtain ⟨hm9, hec, her⟩ := mg_F hmR (by omega) hE8 hcmp c1 c2 f4 f5 f6
  subst ct8 rv8
  rw [← CG_RW (by omega)] at ht12
  have hv9r : -2147483648 ≤ v9 ∧ v9 ≤ 2147483647 := by omega
  change Rn _ _ _ 549 _ [.int (iv v9), .int (iv v8)] _ _ _ _ _
  refine t_icmp_eq (pc := 549) (tgt := 1077) dL_law_549 (by decide) (by omega) (by omega) (fun c549 => ?_) (fun c549 => ?_)
  · refine Rn.pick (lv' := [(0, .ref b), (1, .ref a), (2, .ref (a + 41)), (3, .int (iv i))]) [0, 1, 2, 3] rfl ?_
    exact kk _ _ _ _ ⟨Γ8, rf9, cn9, nm, so9, sz9, dr, mn, fr, tt, wt, co, nu9, qi, qc, nf, nt, nw, nc, sa, wo, ln, hw, ro, th8, dn, dd, da, df, dt, dw, dc, kn8, kd8, ka8, kf8, kt8, kw8, kc8, ht12, (EK.swapW hk9), f0, (DQ_r hdq f1), hm9, hv9, hwr9, by omega, by omega, by omega⟩
  · exfalso
    omega
set_option maxHeartbeats 4000000 in
set_option maxRecDepth 100000 in
theorem lk_8 {D : va_G} {cI cJ cZ cT : ClassId} {lo b L : Nat} {xs : Nat → Int32} {hp : MH} {n d kr wr a : Nat} {i : Int} {Po : Option Value → MH → Nat → Prop} (hd : 60 ≤ d) (hL : L ≤ 3584) (hi : 0 ≤ i ∧ i + 7 ≤ (L : Int)) (hP : ∀ (v : Int) (hp : MH) (n : Nat), Po (some (.int (iv v))) hp n) (h : LK cI cJ cZ cT a L i hp n kr wr) (kk : ∀ (hp1 : MH) (n1 kr1 wr1 : Nat), LK cI cJ cZ cT a L (i + 7) hp1 n1 kr1 wr1 → Rn (gG D cI cJ cZ cT lo b L xs) mL_law d 1077 [(0, .ref b), (1, .ref a), (2, .ref (a + 41)), (3, .int (iv i))] [] hp1 n1 kr1 wr1 Po) : Rn (gG D cI cJ cZ cT lo b L xs) mL_law d 554 [(0, .ref b), (1, .ref a), (2, .ref (a + 41)), (3, .int (iv i))] [] hp n kr wr Po := by
  obtain ⟨Γ, rf, cn, nm, so, sz, dr, mn, fr, tt, wt, co, nu, qi, qc, nf, nt, nw, nc, sa, wo, ln, hw, ro, th, dn, dd, da, df, dt, dw, dc, kn, kd, ka, kf, kt, kw, kc, ht, hk, hrk, hdq, hm, hv, hwr9, hna, hkr, hwr⟩ := h
  have hmR := HM.same (fun q hq => (RW_o hq).symm : ∀ q : Nat, (q < a + 41 ∨ a + 41 + 43 ≤ q) → Γ q = (RW Γ cI cJ cZ (a + 41) rf cn nm so sz dr mn fr tt wt co nu qi qc nf nt nw nc sa wo ln hw ro) q) hm
  have hvR := HV.same (fun q hq => (RW_o hq).symm : ∀ q : Nat, (q < a + 41 ∨ a + 41 + 43 ≤ q) → Γ q = (RW Γ cI cJ cZ (a + 41) rf cn nm so sz dr mn fr tt wt co nu qi qc nf nt nw nc sa wo ln hw ro) q) hv
  have hcn9 := hk.1
  have hrv : -2147483648 ≤ rf ∧ rf ≤ 2147483647 := hrk.2.2.2.2.2.2.2.2.2.2.2.1
  refine r_aload_n (pc := 554) dL_law_554 (i := 1) rfl rfl ?_
  refine r_aload_n (pc := 555) dL_law_555 (i := 0) rfl rfl ?_
  refine r_iload_n (pc := 556) dL_law_556 (i := 3) rfl rfl ?_
  refine r_iconst (pc := 557) (v := iv 1) dL_law_557 (by decide) ?_
  refine r_iadd (pc := 558) (v := iv (i + 1)) dL_law_558 (iv_add _ _) ?_
  refine w_sld (pc := 559) (v := iv ((xs (Int.toNat (i + 1))).toInt)) dL_law_559 (iv_in (L := L) (by omega) (by omega)) (by rw [iv_clamp (by omega) (by omega)]; exact (iv_of _).symm) ?_
  have lo559 := iv_lo (xs (Int.toNat (i + 1)))
  have hi559 := iv_hi (xs (Int.toNat (i + 1)))
  refine r_aload_n (pc := 560) dL_law_560 (i := 0) rfl rfl ?_
  refine r_iload_n (pc := 561) dL_law_561 (i := 3) rfl rfl ?_
  refine r_iconst (pc := 562) (v := iv 2) dL_law_562 (by decide) ?_
  refine r_iadd (pc := 563) (v := iv (i + 2)) dL_law_563 (iv_add _ _) ?_
  refine w_sld (pc := 564) (v := iv ((xs (Int.toNat (i + 2))).toInt)) dL_law_564 (iv_in (L := L) (by omega) (by omega)) (by rw [iv_clamp (by omega) (by omega)]; exact (iv_of _).symm) ?_
  have lo564 := iv_lo (xs (Int.toNat (i + 2)))
  have hi564 := iv_hi (xs (Int.toNat (i + 2)))
  refine r_aload_n (pc := 565) dL_law_565 (i := 0) rfl rfl ?_
  refine r_iload_n (pc := 566) dL_law_566 (i := 3) rfl rfl ?_
  refine r_iconst (pc := 567) (v := iv 3) dL_law_567 (by decide) ?_
  refine r_iadd (pc := 568) (v := iv (i + 3)) dL_law_568 (iv_add _ _) ?_
  refine w_sld (pc := 569) (v := iv ((xs (Int.toNat (i + 3))).toInt)) dL_law_569 (iv_in (L := L) (by omega) (by omega)) (by rw [iv_clamp (by omega) (by omega)]; exact (iv_of _).symm) ?_
  have lo569 := iv_lo (xs (Int.toNat (i + 3)))
  have hi569 := iv_hi (xs (Int.toNat (i + 3)))
  refine r_aload_n (pc := 570) dL_law_570 (i := 0) rfl rfl ?_
  refine r_iload_n (pc := 571) dL_law_571 (i := 3) rfl rfl ?_
  refine r_iconst (pc := 572) (v := iv 4) dL_law_572 (by decide) ?_
  refine r_iadd (pc := 573) (v := iv (i + 4)) dL_law_573 (iv_add _ _) ?_
  refine w_sld (pc := 574) (v := iv ((xs (Int.toNat (i + 4))).toInt)) dL_law_574 (iv_in (L := L) (by omega) (by omega)) (by rw [iv_clamp (by omega) (by omega)]; exact (iv_of _).symm) ?_
  have lo574 := iv_lo (xs (Int.toNat (i + 4)))
  have hi574 := iv_hi (xs (Int.toNat (i + 4)))
  refine r_aload_n (pc := 575) dL_law_575 (i := 0) rfl rfl ?_
  refine r_iload_n (pc := 576) dL_law_576 (i := 3) rfl rfl ?_
  refine r_iconst (pc := 577) (v := iv 5) dL_law_577 (by decide) ?_
  refine r_iadd (pc := 578) (v := iv (i + 5)) dL_law_578 (iv_add _ _) ?_
  refine w_sld (pc := 579) (v := iv ((xs (Int.toNat (i + 5))).toInt)) dL_law_579 (iv_in (L := L) (by omega) (by omega)) (by rw [iv_clamp (by omega) (by omega)]; exact (iv_of _).symm) ?_
  have lo579 := iv_lo (xs (Int.toNat (i + 5)))
  have hi579 := iv_hi (xs (Int.toNat (i + 5)))
  refine t_if_eq (pc := 580) (tgt := 587) dL_law_580 (by decide) (by omega) (fun c580 => ?_) (fun c580 => ?_)
  · refine r_iconst (pc := 587) (v := iv 0) dL_law_587 (by decide) ?_
    refine r_aload_n (pc := 588) dL_law_588 (i := 0) rfl rfl ?_
    refine r_iload_n (pc := 589) dL_law_589 (i := 3) rfl rfl ?_
    refine r_bipush (pc := 590) (v := iv 6) dL_law_590 (by decide) ?_
    refine r_iadd (pc := 592) (v := iv (i + 6)) dL_law_592 (iv_add _ _) ?_
    refine w_sld (pc := 593) (v := iv ((xs (Int.toNat (i + 6))).toInt)) dL_law_593 (iv_in (L := L) (by omega) (by omega)) (by rw [iv_clamp (by omega) (by omega)]; exact (iv_of _).symm) ?_
    have lo593 := iv_lo (xs (Int.toNat (i + 6)))
    have hi593 := iv_hi (xs (Int.toNat (i + 6)))
    obtain ⟨fs7, hfs7⟩ := t_obj ht (rd_of CG_0)
    refine r_callV (pc := 594) (as := [.int (iv ((xs (Int.toNat (i + 1))).toInt)), .int (iv ((xs (Int.toNat (i + 2))).toInt)), .int (iv ((xs (Int.toNat (i + 3))).toInt)), .int (iv ((xs (Int.toNat (i + 4))).toInt)), .int (iv 0), .int (iv ((xs (Int.toNat (i + 6))).toInt))]) (st := []) kL_53 rfl dL_law_594 hfs7 (y_X11_run (d := d - 1) (x1 := ((xs (Int.toNat (i + 1))).toInt)) (x2 := ((xs (Int.toNat (i + 2))).toInt)) (x3 := ((xs (Int.toNat (i + 3))).toInt)) (x4 := ((xs (Int.toNat (i + 4))).toInt)) (x5 := 0) (x6 := ((xs (Int.toNat (i + 6))).toInt)) (by omega) hk hmR hrv (by omega) ht (by omega) (by omega) (by omega) (by omega) (by omega) (by omega)) rfl (by omega) (Nat.le_of_ble_eq_true rfl) (by omega) (by omega) rfl (fun r1 hp2 n3 hq4 => ?_)
    obtain ⟨hnn3, Γ8, ct8, rv8, th8, kn8, kd8, ka8, kf8, kt8, kw8, kc8, v8, hE8, ht5, hk8, hrr1, hA8, hb8, c1, c2⟩ := hq4
    subst r1
    have ex8 := RW_x hE8
    have ht6 := Tw_eq (Γ1 := (CG (RW Γ8 cI cJ cZ (a + 41) rf cn nm so sz dr mn fr tt wt co nu qi qc nf nt nw nc sa wo ln hw ro) cI cJ cZ cT a ct8 rv8 th8 dn dd da df dt dw dc kn8 kd8 ka8 kf8 kt8 kw8 kc8)) (by rw [ex8]) ht5
    have hk9 := hk8
    rw [← ex8] at hk9
    change Rn _ _ _ 597 _ [.int (iv v8)] _ _ _ _ _
    refine r_aload_n (pc := 597) dL_law_597 (i := 2) rfl rfl ?_
    refine r_aload_n (pc := 598) dL_law_598 (i := 0) rfl rfl ?_
    refine r_iload_n (pc := 599) dL_law_599 (i := 3) rfl rfl ?_
    refine r_iconst (pc := 600) (v := iv 1) dL_law_600 (by decide) ?_
    refine r_iadd (pc := 601) (v := iv (i + 1)) dL_law_601 (iv_add _ _) ?_
    refine w_sld (pc := 602) (v := iv ((xs (Int.toNat (i + 1))).toInt)) dL_law_602 (iv_in (L := L) (by omega) (by omega)) (by rw [iv_clamp (by omega) (by omega)]; exact (iv_of _).symm) ?_
    have lo602 := iv_lo (xs (Int.toNat (i + 1)))
    have hi602 := iv_hi (xs (Int.toNat (i + 1)))
    refine r_aload_n (pc := 603) dL_law_603 (i := 0) rfl rfl ?_
    refine r_iload_n (pc := 604) dL_law_604 (i := 3) rfl rfl ?_
    refine r_iconst (pc := 605) (v := iv 2) dL_law_605 (by decide) ?_
    refine r_iadd (pc := 606) (v := iv (i + 2)) dL_law_606 (iv_add _ _) ?_
    refine w_sld (pc := 607) (v := iv ((xs (Int.toNat (i + 2))).toInt)) dL_law_607 (iv_in (L := L) (by omega) (by omega)) (by rw [iv_clamp (by omega) (by omega)]; exact (iv_of _).symm) ?_
    have lo607 := iv_lo (xs (Int.toNat (i + 2)))
    have hi607 := iv_hi (xs (Int.toNat (i + 2)))
    refine r_aload_n (pc := 608) dL_law_608 (i := 0) rfl rfl ?_
    refine r_iload_n (pc := 609) dL_law_609 (i := 3) rfl rfl ?_
    refine r_iconst (pc := 610) (v := iv 3) dL_law_610 (by decide) ?_
    refine r_iadd (pc := 611) (v := iv (i + 3)) dL_law_611 (iv_add _ _) ?_
    refine w_sld (pc := 612) (v := iv ((xs (Int.toNat (i + 3))).toInt)) dL_law_612 (iv_in (L := L) (by omega) (by omega)) (by rw [iv_clamp (by omega) (by omega)]; exact (iv_of _).symm) ?_
    have lo612 := iv_lo (xs (Int.toNat (i + 3)))
    have hi612 := iv_hi (xs (Int.toNat (i + 3)))
    refine r_aload_n (pc := 613) dL_law_613 (i := 0) rfl rfl ?_
    refine r_iload_n (pc := 614) dL_law_614 (i := 3) rfl rfl ?_
    refine r_iconst (pc := 615) (v := iv 4) dL_law_615 (by decide) ?_
    refine r_iadd (pc := 616) (v := iv (i + 4)) dL_law_616 (iv_add _ _) ?_
    refine w_sld (pc := 617) (v := iv ((xs (Int.toNat (i + 4))).toInt)) dL_law_617 (iv_in (L := L) (by omega) (by omega)) (by rw [iv_clamp (by omega) (by omega)]; exact (iv_of _).symm) ?_
    have lo617 := iv_lo (xs (Int.toNat (i + 4)))
    have hi617 := iv_hi (xs (Int.toNat (i + 4)))
    refine r_aload_n (pc := 618) dL_law_618 (i := 0) rfl rfl ?_
    refine r_iload_n (pc := 619) dL_law_619 (i := 3) rfl rfl ?_
    refine r_iconst (pc := 620) (v := iv 5) dL_law_620 (by decide) ?_
    refine r_iadd (pc := 621) (v := iv (i + 5)) dL_law_621 (iv_add _ _) ?_
    refine w_sld (pc := 622) (v := iv ((xs (Int.toNat (i + 5))).toInt)) dL_law_622 (iv_in (L := L) (by omega) (by omega)) (by rw [iv_clamp (by omega) (by omega)]; exact (iv_of _).symm) ?_
    have lo622 := iv_lo (xs (Int.toNat (i + 5)))
    have hi622 := iv_hi (xs (Int.toNat (i + 5)))
    refine t_if_eq (pc := 623) (tgt := 630) dL_law_623 (by decide) (by omega) (fun c623 => ?_) (fun c623 => ?_)
    · refine r_iconst (pc := 630) (v := iv 0) dL_law_630 (by decide) ?_
      refine r_aload_n (pc := 631) dL_law_631 (i := 0) rfl rfl ?_
      refine r_iload_n (pc := 632) dL_law_632 (i := 3) rfl rfl ?_
      refine r_bipush (pc := 633) (v := iv 6) dL_law_633 (by decide) ?_
      refine r_iadd (pc := 635) (v := iv (i + 6)) dL_law_635 (iv_add _ _) ?_
      refine w_sld (pc := 636) (v := iv ((xs (Int.toNat (i + 6))).toInt)) dL_law_636 (iv_in (L := L) (by omega) (by omega)) (by rw [iv_clamp (by omega) (by omega)]; exact (iv_of _).symm) ?_
      have lo636 := iv_lo (xs (Int.toNat (i + 6)))
      have hi636 := iv_hi (xs (Int.toNat (i + 6)))
      have ht13 := Tw_eq (Γ1 := RW (CG Γ8 cI cJ cZ cT a ct8 rv8 th8 dn dd da df dt dw dc kn8 kd8 ka8 kf8 kt8 kw8 kc8) cI cJ cZ (a + 41) rf cn nm so sz dr mn fr tt wt co nu qi qc nf nt nw nc sa wo ln hw ro) (CG_RW (by omega)) ht6
      obtain ⟨fs14, hfs14⟩ := t_obj ht13 (rd_of RW_y)
      refine r_callV (pc := 637) (as := [.int (iv ((xs (Int.toNat (i + 1))).toInt)), .int (iv ((xs (Int.toNat (i + 2))).toInt)), .int (iv ((xs (Int.toNat (i + 3))).toInt)), .int (iv ((xs (Int.toNat (i + 4))).toInt)), .int (iv 0), .int (iv ((xs (Int.toNat (i + 6))).toInt))]) (st := [.int (iv v8)]) kL_57 rfl dL_law_637 hfs14 (zw_X12_run (d := d - 1) (x1 := ((xs (Int.toNat (i + 1))).toInt)) (x2 := ((xs (Int.toNat (i + 2))).toInt)) (x3 := ((xs (Int.toNat (i + 3))).toInt)) (x4 := ((xs (Int.toNat (i + 4))).toInt)) (x5 := 0) (x6 := ((xs (Int.toNat (i + 6))).toInt)) (by omega) hrk hwr9 ht13 (by omega) (by omega) (by omega) (by omega) (by omega) (by omega) (fun _ _ _ h => h)) rfl (by omega) (Nat.le_of_ble_eq_true rfl) (by omega) (by omega) rfl (fun r8 hp9 n10 hq11 => ?_)
      obtain ⟨hnn10, rf9, cn9, so9, sz9, nu9, v9, ht12, hrr8, f0, f1, f2, f3, f4, f5, f6⟩ := hq11
      subst n10 r8
      have hcmp : v8 = v9 := hA8.trans f3.symm
      have hv9 := mv_X hvR (by omega) hE8 hcmp c1 c2 (fun h9 => ⟨(f4 h9).1, (f4 h9).2.1, (f4 h9).2.2.1⟩) (fun h9 => ⟨(f5 h9).1, (f5 h9).2.1, (f5 h9).2.2.1⟩) (by decide)
      obtain ⟨hm9, hec, her⟩ := mg_F hmR (by omega) hE8 hcmp c1 c2 f4 f5 f6
      subst ct8 rv8
      rw [← CG_RW (by omega)] at ht12
      have hv9r : -2147483648 ≤ v9 ∧ v9 ≤ 2147483647 := by omega
      change Rn _ _ _ 640 _ [.int (iv v9), .int (iv v8)] _ _ _ _ _
      refine t_icmp_eq (pc := 640) (tgt := 1077) dL_law_640 (by decide) (by omega) (by omega) (fun c640 => ?_) (fun c640 => ?_)
      · refine Rn.pick (lv' := [(0, .ref b), (1, .ref a), (2, .ref (a + 41)), (3, .int (iv i))]) [0, 1, 2, 3] rfl ?_
        exact kk _ _ _ _ ⟨Γ8, rf9, cn9, nm, so9, sz9, dr, mn, fr, tt, wt, co, nu9, qi, qc, nf, nt, nw, nc, sa, wo, ln, hw, ro, th8, dn, dd, da, df, dt, dw, dc, kn8, kd8, ka8, kf8, kt8, kw8, kc8, ht12, (EK.swapW hk9), f0, (DQ_r hdq f1), hm9, hv9, hwr9, by omega, by omega, by omega⟩
      · exfalso
        omega
    · exfalso
      omega
  · refine r_iconst (pc := 583) (v := iv 1) dL_law_583 (by decide) ?_
    refine r_goto (pc := 584) (tgt := 588) dL_law_584 (by decide) ?_
    refine r_aload_n (pc := 588) dL_law_588 (i := 0) rfl rfl ?_
    refine r_iload_n (pc := 589) dL_law_589 (i := 3) rfl rfl ?_
    refine r_bipush (pc := 590) (v := iv 6) dL_law_590 (by decide) ?_
    refine r_iadd (pc := 592) (v := iv (i + 6)) dL_law_592 (iv_add _ _) ?_
    refine w_sld (pc := 593) (v := iv ((xs (Int.toNat (i + 6))).toInt)) dL_law_593 (iv_in (L := L) (by omega) (by omega)) (by rw [iv_clamp (by omega) (by omega)]; exact (iv_of _).symm) ?_
    have lo593 := iv_lo (xs (Int.toNat (i + 6)))
    have hi593 := iv_hi (xs (Int.toNat (i + 6)))
    obtain ⟨fs21, hfs21⟩ := t_obj ht (rd_of CG_0)
    refine r_callV (pc := 594) (as := [.int (iv ((xs (Int.toNat (i + 1))).toInt)), .int (iv ((xs (Int.toNat (i + 2))).toInt)), .int (iv ((xs (Int.toNat (i + 3))).toInt)), .int (iv ((xs (Int.toNat (i + 4))).toInt)), .int (iv 1), .int (iv ((xs (Int.toNat (i + 6))).toInt))]) (st := []) kL_53 rfl dL_law_594 hfs21 (y_X11_run (d := d - 1) (x1 := ((xs (Int.toNat (i + 1))).toInt)) (x2 := ((xs (Int.toNat (i + 2))).toInt)) (x3 := ((xs (Int.toNat (i + 3))).toInt)) (x4 := ((xs (Int.toNat (i + 4))).toInt)) (x5 := 1) (x6 := ((xs (Int.toNat (i + 6))).toInt)) (by omega) hk hmR hrv (by omega) ht (by omega) (by omega) (by omega) (by omega) (by omega) (by omega)) rfl (by omega) (Nat.le_of_ble_eq_true rfl) (by omega) (by omega) rfl (fun r15 hp16 n17 hq18 => ?_)
    obtain ⟨hnn17, Γ8, ct8, rv8, th8, kn8, kd8, ka8, kf8, kt8, kw8, kc8, v8, hE8, ht19, hk8, hrr15, hA8, hb8, c1, c2⟩ := hq18
    subst r15
    have ex8 := RW_x hE8
    have ht20 := Tw_eq (Γ1 := (CG (RW Γ8 cI cJ cZ (a + 41) rf cn nm so sz dr mn fr tt wt co nu qi qc nf nt nw nc sa wo ln hw ro) cI cJ cZ cT a ct8 rv8 th8 dn dd da df dt dw dc kn8 kd8 ka8 kf8 kt8 kw8 kc8)) (by rw [ex8]) ht19
    have hk9 := hk8
    rw [← ex8] at hk9
    change Rn _ _ _ 597 _ [.int (iv v8)] _ _ _ _ _
    refine r_aload_n (pc := 597) dL_law_597 (i := 2) rfl rfl ?_
    refine r_aload_n (pc := 598) dL_law_598 (i := 0) rfl rfl ?_
    refine r_iload_n (pc := 599) dL_law_599 (i := 3) rfl rfl ?_
    refine r_iconst (pc := 600) (v := iv 1) dL_law_600 (by decide) ?_
    refine r_iadd (pc := 601) (v := iv (i + 1)) dL_law_601 (iv_add _ _) ?_
    refine w_sld (pc := 602) (v := iv ((xs (Int.toNat (i + 1))).toInt)) dL_law_602 (iv_in (L := L) (by omega) (by omega)) (by rw [iv_clamp (by omega) (by omega)]; exact (iv_of _).symm) ?_
    have lo602 := iv_lo (xs (Int.toNat (i + 1)))
    have hi602 := iv_hi (xs (Int.toNat (i + 1)))
    refine r_aload_n (pc := 603) dL_law_603 (i := 0) rfl rfl ?_
    refine r_iload_n (pc := 604) dL_law_604 (i := 3) rfl rfl ?_
    refine r_iconst (pc := 605) (v := iv 2) dL_law_605 (by decide) ?_
    refine r_iadd (pc := 606) (v := iv (i + 2)) dL_law_606 (iv_add _ _) ?_
    refine w_sld (pc := 607) (v := iv ((xs (Int.toNat (i + 2))).toInt)) dL_law_607 (iv_in (L := L) (by omega) (by omega)) (by rw [iv_clamp (by omega) (by omega)]; exact (iv_of _).symm) ?_
    have lo607 := iv_lo (xs (Int.toNat (i + 2)))
    have hi607 := iv_hi (xs (Int.toNat (i + 2)))
    refine r_aload_n (pc := 608) dL_law_608 (i := 0) rfl rfl ?_
    refine r_iload_n (pc := 609) dL_law_609 (i := 3) rfl rfl ?_
    refine r_iconst (pc := 610) (v := iv 3) dL_law_610 (by decide) ?_
    refine r_iadd (pc := 611) (v := iv (i + 3)) dL_law_611 (iv_add _ _) ?_
    refine w_sld (pc := 612) (v := iv ((xs (Int.toNat (i + 3))).toInt)) dL_law_612 (iv_in (L := L) (by omega) (by omega)) (by rw [iv_clamp (by omega) (by omega)]; exact (iv_of _).symm) ?_
    have lo612 := iv_lo (xs (Int.toNat (i + 3)))
    have hi612 := iv_hi (xs (Int.toNat (i + 3)))
    refine r_aload_n (pc := 613) dL_law_613 (i := 0) rfl rfl ?_
    refine r_iload_n (pc := 614) dL_law_614 (i := 3) rfl rfl ?_
    refine r_iconst (pc := 615) (v := iv 4) dL_law_615 (by decide) ?_
    refine r_iadd (pc := 616) (v := iv (i + 4)) dL_law_616 (iv_add _ _) ?_
    refine w_sld (pc := 617) (v := iv ((xs (Int.toNat (i + 4))).toInt)) dL_law_617 (iv_in (L := L) (by omega) (by omega)) (by rw [iv_clamp (by omega) (by omega)]; exact (iv_of _).symm) ?_
    have lo617 := iv_lo (xs (Int.toNat (i + 4)))
    have hi617 := iv_hi (xs (Int.toNat (i + 4)))
    refine r_aload_n (pc := 618) dL_law_618 (i := 0) rfl rfl ?_
    refine r_iload_n (pc := 619) dL_law_619 (i := 3) rfl rfl ?_
    refine r_iconst (pc := 620) (v := iv 5) dL_law_620 (by decide) ?_
    refine r_iadd (pc := 621) (v := iv (i + 5)) dL_law_621 (iv_add _ _) ?_
    refine w_sld (pc := 622) (v := iv ((xs (Int.toNat (i + 5))).toInt)) dL_law_622 (iv_in (L := L) (by omega) (by omega)) (by rw [iv_clamp (by omega) (by omega)]; exact (iv_of _).symm) ?_
    have lo622 := iv_lo (xs (Int.toNat (i + 5)))
    have hi622 := iv_hi (xs (Int.toNat (i + 5)))
    refine t_if_eq (pc := 623) (tgt := 630) dL_law_623 (by decide) (by omega) (fun c623 => ?_) (fun c623 => ?_)
    · exfalso
      omega
    · refine r_iconst (pc := 626) (v := iv 1) dL_law_626 (by decide) ?_
      refine r_goto (pc := 627) (tgt := 631) dL_law_627 (by decide) ?_
      refine r_aload_n (pc := 631) dL_law_631 (i := 0) rfl rfl ?_
      refine r_iload_n (pc := 632) dL_law_632 (i := 3) rfl rfl ?_
      refine r_bipush (pc := 633) (v := iv 6) dL_law_633 (by decide) ?_
      refine r_iadd (pc := 635) (v := iv (i + 6)) dL_law_635 (iv_add _ _) ?_
      refine w_sld (pc := 636) (v := iv ((xs (Int.toNat (i + 6))).toInt)) dL_law_636 (iv_in (L := L) (by omega) (by omega)) (by rw [iv_clamp (by omega) (by omega)]; exact (iv_of _).symm) ?_
      have lo636 := iv_lo (xs (Int.toNat (i + 6)))
      have hi636 := iv_hi (xs (Int.toNat (i + 6)))
      have ht27 := Tw_eq (Γ1 := RW (CG Γ8 cI cJ cZ cT a ct8 rv8 th8 dn dd da df dt dw dc kn8 kd8 ka8 kf8 kt8 kw8 kc8) cI cJ cZ (a + 41) rf cn nm so sz dr mn fr tt wt co nu qi qc nf nt nw nc sa wo ln hw ro) (CG_RW (by omega)) ht20
      obtain ⟨fs28, hfs28⟩ := t_obj ht27 (rd_of RW_y)
      refine r_callV (pc := 637) (as := [.int (iv ((xs (Int.toNat (i + 1))).toInt)), .int (iv ((xs (Int.toNat (i + 2))).toInt)), .int (iv ((xs (Int.toNat (i + 3))).toInt)), .int (iv ((xs (Int.toNat (i + 4))).toInt)), .int (iv 1), .int (iv ((xs (Int.toNat (i + 6))).toInt))]) (st := [.int (iv v8)]) kL_57 rfl dL_law_637 hfs28 (zw_X12_run (d := d - 1) (x1 := ((xs (Int.toNat (i + 1))).toInt)) (x2 := ((xs (Int.toNat (i + 2))).toInt)) (x3 := ((xs (Int.toNat (i + 3))).toInt)) (x4 := ((xs (Int.toNat (i + 4))).toInt)) (x5 := 1) (x6 := ((xs (Int.toNat (i + 6))).toInt)) (by omega) hrk hwr9 ht27 (by omega) (by omega) (by omega) (by omega) (by omega) (by omega) (fun _ _ _ h => h)) rfl (by omega) (Nat.le_of_ble_eq_true rfl) (by omega) (by omega) rfl (fun r22 hp23 n24 hq25 => ?_)
      obtain ⟨hnn24, rf9, cn9, so9, sz9, nu9, v9, ht26, hrr22, f0, f1, f2, f3, f4, f5, f6⟩ := hq25
      subst n24 r22
      have hcmp : v8 = v9 := hA8.trans f3.symm
      have hv9 := mv_X hvR (by omega) hE8 hcmp c1 c2 (fun h9 => ⟨(f4 h9).1, (f4 h9).2.1, (f4 h9).2.2.1⟩) (fun h9 => ⟨(f5 h9).1, (f5 h9).2.1, (f5 h9).2.2.1⟩) (by decide)
      obtain ⟨hm9, hec, her⟩ := mg_F hmR (by omega) hE8 hcmp c1 c2 f4 f5 f6
      subst ct8 rv8
      rw [← CG_RW (by omega)] at ht26
      have hv9r : -2147483648 ≤ v9 ∧ v9 ≤ 2147483647 := by omega
      change Rn _ _ _ 640 _ [.int (iv v9), .int (iv v8)] _ _ _ _ _
      refine t_icmp_eq (pc := 640) (tgt := 1077) dL_law_640 (by decide) (by omega) (by omega) (fun c640 => ?_) (fun c640 => ?_)
      · refine Rn.pick (lv' := [(0, .ref b), (1, .ref a), (2, .ref (a + 41)), (3, .int (iv i))]) [0, 1, 2, 3] rfl ?_
        exact kk _ _ _ _ ⟨Γ8, rf9, cn9, nm, so9, sz9, dr, mn, fr, tt, wt, co, nu9, qi, qc, nf, nt, nw, nc, sa, wo, ln, hw, ro, th8, dn, dd, da, df, dt, dw, dc, kn8, kd8, ka8, kf8, kt8, kw8, kc8, ht26, (EK.swapW hk9), f0, (DQ_r hdq f1), hm9, hv9, hwr9, by omega, by omega, by omega⟩
      · exfalso
        omega
set_option maxHeartbeats 4000000 in
set_option maxRecDepth 100000 in
theorem lk_10 {D : va_G} {cI cJ cZ cT : ClassId} {lo b L : Nat} {xs : Nat → Int32} {hp : MH} {n d kr wr a : Nat} {i : Int} {Po : Option Value → MH → Nat → Prop} (hd : 60 ≤ d) (hL : L ≤ 3584) (hi : 0 ≤ i ∧ i + 7 ≤ (L : Int)) (hP : ∀ (v : Int) (hp : MH) (n : Nat), Po (some (.int (iv v))) hp n) (h : LK cI cJ cZ cT a L i hp n kr wr) (kk : ∀ (hp1 : MH) (n1 kr1 wr1 : Nat), LK cI cJ cZ cT a L (i + 7) hp1 n1 kr1 wr1 → Rn (gG D cI cJ cZ cT lo b L xs) mL_law d 1077 [(0, .ref b), (1, .ref a), (2, .ref (a + 41)), (3, .int (iv i))] [] hp1 n1 kr1 wr1 Po) : Rn (gG D cI cJ cZ cT lo b L xs) mL_law d 688 [(0, .ref b), (1, .ref a), (2, .ref (a + 41)), (3, .int (iv i))] [] hp n kr wr Po := by
  obtain ⟨Γ, rf, cn, nm, so, sz, dr, mn, fr, tt, wt, co, nu, qi, qc, nf, nt, nw, nc, sa, wo, ln, hw, ro, th, dn, dd, da, df, dt, dw, dc, kn, kd, ka, kf, kt, kw, kc, ht, hk, hrk, hdq, hm, hv, hwr9, hna, hkr, hwr⟩ := h
  have hmR := HM.same (fun q hq => (RW_o hq).symm : ∀ q : Nat, (q < a + 41 ∨ a + 41 + 43 ≤ q) → Γ q = (RW Γ cI cJ cZ (a + 41) rf cn nm so sz dr mn fr tt wt co nu qi qc nf nt nw nc sa wo ln hw ro) q) hm
  have hvR := HV.same (fun q hq => (RW_o hq).symm : ∀ q : Nat, (q < a + 41 ∨ a + 41 + 43 ≤ q) → Γ q = (RW Γ cI cJ cZ (a + 41) rf cn nm so sz dr mn fr tt wt co nu qi qc nf nt nw nc sa wo ln hw ro) q) hv
  have hcn9 := hk.1
  have hrv : -2147483648 ≤ rf ∧ rf ≤ 2147483647 := hrk.2.2.2.2.2.2.2.2.2.2.2.1
  refine r_aload_n (pc := 688) dL_law_688 (i := 1) rfl rfl ?_
  refine r_aload_n (pc := 689) dL_law_689 (i := 0) rfl rfl ?_
  refine r_iload_n (pc := 690) dL_law_690 (i := 3) rfl rfl ?_
  refine r_iconst (pc := 691) (v := iv 1) dL_law_691 (by decide) ?_
  refine r_iadd (pc := 692) (v := iv (i + 1)) dL_law_692 (iv_add _ _) ?_
  refine w_sld (pc := 693) (v := iv ((xs (Int.toNat (i + 1))).toInt)) dL_law_693 (iv_in (L := L) (by omega) (by omega)) (by rw [iv_clamp (by omega) (by omega)]; exact (iv_of _).symm) ?_
  have lo693 := iv_lo (xs (Int.toNat (i + 1)))
  have hi693 := iv_hi (xs (Int.toNat (i + 1)))
  refine r_aload_n (pc := 694) dL_law_694 (i := 0) rfl rfl ?_
  refine r_iload_n (pc := 695) dL_law_695 (i := 3) rfl rfl ?_
  refine r_iconst (pc := 696) (v := iv 2) dL_law_696 (by decide) ?_
  refine r_iadd (pc := 697) (v := iv (i + 2)) dL_law_697 (iv_add _ _) ?_
  refine w_sld (pc := 698) (v := iv ((xs (Int.toNat (i + 2))).toInt)) dL_law_698 (iv_in (L := L) (by omega) (by omega)) (by rw [iv_clamp (by omega) (by omega)]; exact (iv_of _).symm) ?_
  have lo698 := iv_lo (xs (Int.toNat (i + 2)))
  have hi698 := iv_hi (xs (Int.toNat (i + 2)))
  refine r_aload_n (pc := 699) dL_law_699 (i := 0) rfl rfl ?_
  refine r_iload_n (pc := 700) dL_law_700 (i := 3) rfl rfl ?_
  refine r_iconst (pc := 701) (v := iv 3) dL_law_701 (by decide) ?_
  refine r_iadd (pc := 702) (v := iv (i + 3)) dL_law_702 (iv_add _ _) ?_
  refine w_sld (pc := 703) (v := iv ((xs (Int.toNat (i + 3))).toInt)) dL_law_703 (iv_in (L := L) (by omega) (by omega)) (by rw [iv_clamp (by omega) (by omega)]; exact (iv_of _).symm) ?_
  have lo703 := iv_lo (xs (Int.toNat (i + 3)))
  have hi703 := iv_hi (xs (Int.toNat (i + 3)))
  obtain ⟨fs7, hfs7⟩ := t_obj ht (rd_of CG_0)
  refine r_callV (pc := 704) (as := [.int (iv ((xs (Int.toNat (i + 1))).toInt)), .int (iv ((xs (Int.toNat (i + 2))).toInt)), .int (iv ((xs (Int.toNat (i + 3))).toInt))]) (st := []) kL_62 rfl dL_law_704 hfs7 (y_X11_parts (d := d - 1) (x1 := ((xs (Int.toNat (i + 1))).toInt)) (x2 := ((xs (Int.toNat (i + 2))).toInt)) (x3 := ((xs (Int.toNat (i + 3))).toInt)) (by omega) hk hmR hrv (by omega) ht (by omega) (by omega) (by omega)) rfl (by omega) (Nat.le_of_ble_eq_true rfl) (by omega) (by omega) rfl (fun r1 hp2 n3 hq4 => ?_)
  obtain ⟨hnn3, Γ8, ct8, rv8, th8, kn8, kd8, ka8, kf8, kt8, kw8, kc8, v8, hE8, ht5, hk8, hrr1, hA8, hb8, c1, c2⟩ := hq4
  subst r1
  have ex8 := RW_x hE8
  have ht6 := Tw_eq (Γ1 := (CG (RW Γ8 cI cJ cZ (a + 41) rf cn nm so sz dr mn fr tt wt co nu qi qc nf nt nw nc sa wo ln hw ro) cI cJ cZ cT a ct8 rv8 th8 dn dd da df dt dw dc kn8 kd8 ka8 kf8 kt8 kw8 kc8)) (by rw [ex8]) ht5
  have hk9 := hk8
  rw [← ex8] at hk9
  change Rn _ _ _ 707 _ [.int (iv v8)] _ _ _ _ _
  refine r_aload_n (pc := 707) dL_law_707 (i := 2) rfl rfl ?_
  refine r_aload_n (pc := 708) dL_law_708 (i := 0) rfl rfl ?_
  refine r_iload_n (pc := 709) dL_law_709 (i := 3) rfl rfl ?_
  refine r_iconst (pc := 710) (v := iv 1) dL_law_710 (by decide) ?_
  refine r_iadd (pc := 711) (v := iv (i + 1)) dL_law_711 (iv_add _ _) ?_
  refine w_sld (pc := 712) (v := iv ((xs (Int.toNat (i + 1))).toInt)) dL_law_712 (iv_in (L := L) (by omega) (by omega)) (by rw [iv_clamp (by omega) (by omega)]; exact (iv_of _).symm) ?_
  have lo712 := iv_lo (xs (Int.toNat (i + 1)))
  have hi712 := iv_hi (xs (Int.toNat (i + 1)))
  refine r_aload_n (pc := 713) dL_law_713 (i := 0) rfl rfl ?_
  refine r_iload_n (pc := 714) dL_law_714 (i := 3) rfl rfl ?_
  refine r_iconst (pc := 715) (v := iv 2) dL_law_715 (by decide) ?_
  refine r_iadd (pc := 716) (v := iv (i + 2)) dL_law_716 (iv_add _ _) ?_
  refine w_sld (pc := 717) (v := iv ((xs (Int.toNat (i + 2))).toInt)) dL_law_717 (iv_in (L := L) (by omega) (by omega)) (by rw [iv_clamp (by omega) (by omega)]; exact (iv_of _).symm) ?_
  have lo717 := iv_lo (xs (Int.toNat (i + 2)))
  have hi717 := iv_hi (xs (Int.toNat (i + 2)))
  refine r_aload_n (pc := 718) dL_law_718 (i := 0) rfl rfl ?_
  refine r_iload_n (pc := 719) dL_law_719 (i := 3) rfl rfl ?_
  refine r_iconst (pc := 720) (v := iv 3) dL_law_720 (by decide) ?_
  refine r_iadd (pc := 721) (v := iv (i + 3)) dL_law_721 (iv_add _ _) ?_
  refine w_sld (pc := 722) (v := iv ((xs (Int.toNat (i + 3))).toInt)) dL_law_722 (iv_in (L := L) (by omega) (by omega)) (by rw [iv_clamp (by omega) (by omega)]; exact (iv_of _).symm) ?_
  have lo722 := iv_lo (xs (Int.toNat (i + 3)))
  have hi722 := iv_hi (xs (Int.toNat (i + 3)))
  have ht13 := Tw_eq (Γ1 := RW (CG Γ8 cI cJ cZ cT a ct8 rv8 th8 dn dd da df dt dw dc kn8 kd8 ka8 kf8 kt8 kw8 kc8) cI cJ cZ (a + 41) rf cn nm so sz dr mn fr tt wt co nu qi qc nf nt nw nc sa wo ln hw ro) (CG_RW (by omega)) ht6
  obtain ⟨fs14, hfs14⟩ := t_obj ht13 (rd_of RW_y)
  refine r_callV (pc := 723) (as := [.int (iv ((xs (Int.toNat (i + 1))).toInt)), .int (iv ((xs (Int.toNat (i + 2))).toInt)), .int (iv ((xs (Int.toNat (i + 3))).toInt))]) (st := [.int (iv v8)]) kL_65 rfl dL_law_723 hfs14 (zw_X12_partsj (d := d - 1) (x1 := ((xs (Int.toNat (i + 1))).toInt)) (x2 := ((xs (Int.toNat (i + 2))).toInt)) (x3 := ((xs (Int.toNat (i + 3))).toInt)) (by omega) hrk hwr9 ht13 (by omega) (by omega) (by omega) (fun _ _ _ h => h)) rfl (by omega) (Nat.le_of_ble_eq_true rfl) (by omega) (by omega) rfl (fun r8 hp9 n10 hq11 => ?_)
  obtain ⟨hnn10, rf9, cn9, so9, sz9, qi9, qc9, v9, ht12, hrr8, f0, f1, f2, f3, f4, f5, f6⟩ := hq11
  subst n10 r8
  have hcmp : v8 = v9 := hA8.trans f3.symm
  have hv9 := mv_X hvR (by omega) hE8 hcmp c1 c2 (fun h9 => ⟨(f4 h9).1, (f4 h9).2.1, (f4 h9).2.2.1⟩) (fun h9 => ⟨(f5 h9).1, (f5 h9).2.1, (f5 h9).2.2.1⟩) (by decide)
  obtain ⟨hm9, hec, her⟩ := mg_Q hmR (by omega) hE8 hcmp c1 c2 f4 f5 f6
  subst ct8 rv8
  rw [← CG_RW (by omega)] at ht12
  have hv9r : -2147483648 ≤ v9 ∧ v9 ≤ 2147483647 := by omega
  change Rn _ _ _ 726 _ [.int (iv v9), .int (iv v8)] _ _ _ _ _
  refine t_icmp_eq (pc := 726) (tgt := 1077) dL_law_726 (by decide) (by omega) (by omega) (fun c726 => ?_) (fun c726 => ?_)
  · refine Rn.pick (lv' := [(0, .ref b), (1, .ref a), (2, .ref (a + 41)), (3, .int (iv i))]) [0, 1, 2, 3] rfl ?_
    exact kk _ _ _ _ ⟨Γ8, rf9, cn9, nm, so9, sz9, dr, mn, fr, tt, wt, co, nu, qi9, qc9, nf, nt, nw, nc, sa, wo, ln, hw, ro, th8, dn, dd, da, df, dt, dw, dc, kn8, kd8, ka8, kf8, kt8, kw8, kc8, ht12, (EK.swapW hk9), f0, (DQ_r hdq f1), hm9, hv9, hwr9, by omega, by omega, by omega⟩
  · exfalso
    omega
set_option maxHeartbeats 4000000 in
set_option maxRecDepth 100000 in
theorem lk_11 {D : va_G} {cI cJ cZ cT : ClassId} {lo b L : Nat} {xs : Nat → Int32} {hp : MH} {n d kr wr a : Nat} {i : Int} {Po : Option Value → MH → Nat → Prop} (hd : 60 ≤ d) (hL : L ≤ 3584) (hi : 0 ≤ i ∧ i + 7 ≤ (L : Int)) (hP : ∀ (v : Int) (hp : MH) (n : Nat), Po (some (.int (iv v))) hp n) (h : LK cI cJ cZ cT a L i hp n kr wr) (kk : ∀ (hp1 : MH) (n1 kr1 wr1 : Nat), LK cI cJ cZ cT a L (i + 7) hp1 n1 kr1 wr1 → Rn (gG D cI cJ cZ cT lo b L xs) mL_law d 1077 [(0, .ref b), (1, .ref a), (2, .ref (a + 41)), (3, .int (iv i))] [] hp1 n1 kr1 wr1 Po) : Rn (gG D cI cJ cZ cT lo b L xs) mL_law d 731 [(0, .ref b), (1, .ref a), (2, .ref (a + 41)), (3, .int (iv i))] [] hp n kr wr Po := by
  obtain ⟨Γ, rf, cn, nm, so, sz, dr, mn, fr, tt, wt, co, nu, qi, qc, nf, nt, nw, nc, sa, wo, ln, hw, ro, th, dn, dd, da, df, dt, dw, dc, kn, kd, ka, kf, kt, kw, kc, ht, hk, hrk, hdq, hm, hv, hwr9, hna, hkr, hwr⟩ := h
  have hmR := HM.same (fun q hq => (RW_o hq).symm : ∀ q : Nat, (q < a + 41 ∨ a + 41 + 43 ≤ q) → Γ q = (RW Γ cI cJ cZ (a + 41) rf cn nm so sz dr mn fr tt wt co nu qi qc nf nt nw nc sa wo ln hw ro) q) hm
  have hvR := HV.same (fun q hq => (RW_o hq).symm : ∀ q : Nat, (q < a + 41 ∨ a + 41 + 43 ≤ q) → Γ q = (RW Γ cI cJ cZ (a + 41) rf cn nm so sz dr mn fr tt wt co nu qi qc nf nt nw nc sa wo ln hw ro) q) hv
  have hcn9 := hk.1
  have hrv : -2147483648 ≤ rf ∧ rf ≤ 2147483647 := hrk.2.2.2.2.2.2.2.2.2.2.2.1
  refine r_aload_n (pc := 731) dL_law_731 (i := 1) rfl rfl ?_
  obtain ⟨fs7, hfs7⟩ := t_obj ht (rd_of CG_0)
  refine r_callV (pc := 732) (as := []) (st := []) kL_66 rfl dL_law_732 hfs7 (y_X11_drop (d := d - 1)  (by omega) hk hmR hrv (by omega) ht ) rfl (by omega) (Nat.le_of_ble_eq_true rfl) (by omega) (by omega) rfl (fun r1 hp2 n3 hq4 => ?_)
  obtain ⟨hnn3, ct8, rv8, th8, v8, ht5, hrr1, hB⟩ := hq4
  subst n3 r1
  have hk8 : EK (RW Γ cI cJ cZ (a + 41) rf cn nm so sz dr mn fr tt wt co nu qi qc nf nt nw nc sa wo ln hw ro) cI cJ cZ a ct8 th8 dn dd da df dt dw dc kn kd ka := by
    rcases hB with ⟨h1, e0, e1, e2, e3⟩ | ⟨h1, e0, e1, e2, e3⟩
    · rw [e1, e2]; exact hk
    · rw [e1, e2]; exact EK.drop hk h1
  have bv8 : -1 ≤ v8 ∧ v8 ≤ 119 := by omega
  change Rn _ _ _ 735 _ [.int (iv v8)] _ _ _ _ _
  refine r_aload_n (pc := 735) dL_law_735 (i := 2) rfl rfl ?_
  have ht13 := Tw_eq (Γ1 := RW (CG Γ cI cJ cZ cT a ct8 rv8 th8 dn dd da df dt dw dc kn kd ka kf kt kw kc) cI cJ cZ (a + 41) rf cn nm so sz dr mn fr tt wt co nu qi qc nf nt nw nc sa wo ln hw ro) (CG_RW (by omega)) ht5
  obtain ⟨fs14, hfs14⟩ := t_obj ht13 (rd_of RW_y)
  refine r_callV (pc := 736) (as := []) (st := [.int (iv v8)]) kL_69 rfl dL_law_736 hfs14 (zw_X12_drop (d := d - 1)  (by omega) hrk hwr9 ht13  (fun _ _ _ h => h)) rfl (by omega) (Nat.le_of_ble_eq_true rfl) (by omega) (by omega) rfl (fun r8 hp9 n10 hq11 => ?_)
  obtain ⟨hnn10, rf9, cn9, v9, ht12, hrr8, f0, f1, f2, f3⟩ := hq11
  subst n10 r8
  have hdr9 : HM Γ cI cJ cZ a cn9 th8 so sz dr mn fr tt wt co nu qi qc ∧ v8 = v9 ∧ ct8 = cn9 ∧ rv8 = rf9 := by
    rcases hB with ⟨h1, e0, e1, e2, e3⟩ | ⟨h1, e0, e1, e2, e3⟩
    · obtain ⟨g0, g1, g2⟩ := f3.1 h1
      rw [e2, g1]; exact ⟨hm, by omega, by omega, by omega⟩
    · obtain ⟨g0, g1, g2⟩ := f3.2 h1
      rw [e2, g1]; exact ⟨hm.drop, by omega, by omega, by omega⟩
  have hv9 : HV Γ cI cJ cZ a cn9 th8 so sz sa wo ln hw ro := by
    rcases hB with ⟨h1, e0, e1, e2, e3⟩ | ⟨h1, e0, e1, e2, e3⟩
    · obtain ⟨g0, g1, g2⟩ := f3.1 h1
      rw [e2, g1]; exact hv
    · obtain ⟨g0, g1, g2⟩ := f3.2 h1
      rw [e2, g1]; exact hv.drop
  obtain ⟨hm9, hcmp, hec, her⟩ := hdr9
  subst ct8 rv8
  rw [← CG_RW (by omega)] at ht12
  have hv9r : -2147483648 ≤ v9 ∧ v9 ≤ 2147483647 := by omega
  change Rn _ _ _ 739 _ [.int (iv v9), .int (iv v8)] _ _ _ _ _
  refine t_icmp_eq (pc := 739) (tgt := 1077) dL_law_739 (by decide) (by omega) (by omega) (fun c739 => ?_) (fun c739 => ?_)
  · refine Rn.pick (lv' := [(0, .ref b), (1, .ref a), (2, .ref (a + 41)), (3, .int (iv i))]) [0, 1, 2, 3] rfl ?_
    exact kk _ _ _ _ ⟨Γ, rf9, cn9, nm, so, sz, dr, mn, fr, tt, wt, co, nu, qi, qc, nf, nt, nw, nc, sa, wo, ln, hw, ro, th8, dn, dd, da, df, dt, dw, dc, kn, kd, ka, kf, kt, kw, kc, ht12, (EK.swapW hk8), f0, (DQ_r hdq f1), hm9, hv9, hwr9, by omega, by omega, by omega⟩
  · exfalso
    omega
set_option maxHeartbeats 4000000 in
set_option maxRecDepth 100000 in
theorem lk_12 {D : va_G} {cI cJ cZ cT : ClassId} {lo b L : Nat} {xs : Nat → Int32} {hp : MH} {n d kr wr a : Nat} {i : Int} {Po : Option Value → MH → Nat → Prop} (hd : 60 ≤ d) (hL : L ≤ 3584) (hi : 0 ≤ i ∧ i + 7 ≤ (L : Int)) (hP : ∀ (v : Int) (hp : MH) (n : Nat), Po (some (.int (iv v))) hp n) (h : LK cI cJ cZ cT a L i hp n kr wr) (kk : ∀ (hp1 : MH) (n1 kr1 wr1 : Nat), LK cI cJ cZ cT a L (i + 7) hp1 n1 kr1 wr1 → Rn (gG D cI cJ cZ cT lo b L xs) mL_law d 1077 [(0, .ref b), (1, .ref a), (2, .ref (a + 41)), (3, .int (iv i))] [] hp1 n1 kr1 wr1 Po) : Rn (gG D cI cJ cZ cT lo b L xs) mL_law d 744 [(0, .ref b), (1, .ref a), (2, .ref (a + 41)), (3, .int (iv i))] [] hp n kr wr Po := by
  obtain ⟨Γ, rf, cn, nm, so, sz, dr, mn, fr, tt, wt, co, nu, qi, qc, nf, nt, nw, nc, sa, wo, ln, hw, ro, th, dn, dd, da, df, dt, dw, dc, kn, kd, ka, kf, kt, kw, kc, ht, hk, hrk, hdq, hm, hv, hwr9, hna, hkr, hwr⟩ := h
  have hmR := HM.same (fun q hq => (RW_o hq).symm : ∀ q : Nat, (q < a + 41 ∨ a + 41 + 43 ≤ q) → Γ q = (RW Γ cI cJ cZ (a + 41) rf cn nm so sz dr mn fr tt wt co nu qi qc nf nt nw nc sa wo ln hw ro) q) hm
  have hvR := HV.same (fun q hq => (RW_o hq).symm : ∀ q : Nat, (q < a + 41 ∨ a + 41 + 43 ≤ q) → Γ q = (RW Γ cI cJ cZ (a + 41) rf cn nm so sz dr mn fr tt wt co nu qi qc nf nt nw nc sa wo ln hw ro) q) hv
  have hcn9 := hk.1
  have hrv : -2147483648 ≤ rf ∧ rf ≤ 2147483647 := hrk.2.2.2.2.2.2.2.2.2.2.2.1
  refine r_aload_n (pc := 744) dL_law_744 (i := 1) rfl rfl ?_
  obtain ⟨fs7, hfs7⟩ := t_obj ht (rd_of CG_0)
  refine r_callV (pc := 745) (as := []) (st := []) kL_70 rfl dL_law_745 hfs7 (y_X11_refused (d := d - 1)  (by omega) hk hmR hrv (by omega) ht ) rfl (by omega) (Nat.le_of_ble_eq_true rfl) (by omega) (by omega) rfl (fun r1 hp2 n3 hq4 => ?_)
  obtain ⟨hnn3, Γ8, rv8, kn8, kd8, ka8, kf8, kt8, kw8, kc8, hE8, ht5, hk8, hrv8, v8, hrr1, hA8, hw8⟩ := hq4
  subst r1
  have ex8 := RW_x hE8
  have ht6 := Tw_eq (Γ1 := (CG (RW Γ8 cI cJ cZ (a + 41) rf cn nm so sz dr mn fr tt wt co nu qi qc nf nt nw nc sa wo ln hw ro) cI cJ cZ cT a cn rv8 th dn dd da df dt dw dc kn8 kd8 ka8 kf8 kt8 kw8 kc8)) (by rw [ex8]) ht5
  have hk9 := hk8
  rw [← ex8] at hk9
  change Rn _ _ _ 748 _ [.int (iv v8)] _ _ _ _ _
  refine r_aload_n (pc := 748) dL_law_748 (i := 2) rfl rfl ?_
  have ht13 := Tw_eq (Γ1 := RW (CG Γ8 cI cJ cZ cT a cn rv8 th dn dd da df dt dw dc kn8 kd8 ka8 kf8 kt8 kw8 kc8) cI cJ cZ (a + 41) rf cn nm so sz dr mn fr tt wt co nu qi qc nf nt nw nc sa wo ln hw ro) (CG_RW (by omega)) ht6
  obtain ⟨fs14, hfs14⟩ := t_obj ht13 (rd_of RW_y)
  refine r_callV (pc := 749) (as := []) (st := [.int (iv v8)]) kL_73 rfl dL_law_749 hfs14 (zw_X12_refused (d := d - 1)  (by omega) hrk hwr9 ht13  (fun _ _ _ h => h)) rfl (by omega) (Nat.le_of_ble_eq_true rfl) (by omega) (by omega) rfl (fun r8 hp9 n10 hq11 => ?_)
  obtain ⟨hnn10, v9, ht12, hrr8, f0, f1, f2, f3⟩ := hq11
  subst n10 r8
  have hm9 := HM.ext hE8 hmR
  have hv9 := HV.ext hE8 hvR
  have hcmp : v8 = v9 := by omega
  have her : rv8 = rf := hw8
  have her2 := her.symm
  subst her2
  rw [← CG_RW (by omega)] at ht12
  have hv9r : -2147483648 ≤ v9 ∧ v9 ≤ 2147483647 := by omega
  change Rn _ _ _ 752 _ [.int (iv v9), .int (iv v8)] _ _ _ _ _
  refine t_icmp_eq (pc := 752) (tgt := 1077) dL_law_752 (by decide) (by omega) (by omega) (fun c752 => ?_) (fun c752 => ?_)
  · refine Rn.pick (lv' := [(0, .ref b), (1, .ref a), (2, .ref (a + 41)), (3, .int (iv i))]) [0, 1, 2, 3] rfl ?_
    exact kk _ _ _ _ ⟨Γ8, rf, cn, nm, so, sz, dr, mn, fr, tt, wt, co, nu, qi, qc, nf, nt, nw, nc, sa, wo, ln, hw, ro, th, dn, dd, da, df, dt, dw, dc, kn8, kd8, ka8, kf8, kt8, kw8, kc8, ht12, (EK.swapW hk9), f0, (DQ_r hdq f1), hm9, hv9, hwr9, by omega, by omega, by omega⟩
  · exfalso
    omega
set_option maxHeartbeats 4000000 in
set_option maxRecDepth 100000 in
theorem lk_13 {D : va_G} {cI cJ cZ cT : ClassId} {lo b L : Nat} {xs : Nat → Int32} {hp : MH} {n d kr wr a : Nat} {i : Int} {Po : Option Value → MH → Nat → Prop} (hd : 60 ≤ d) (hL : L ≤ 3584) (hi : 0 ≤ i ∧ i + 7 ≤ (L : Int)) (hP : ∀ (v : Int) (hp : MH) (n : Nat), Po (some (.int (iv v))) hp n) (h : LK cI cJ cZ cT a L i hp n kr wr) (kk : ∀ (hp1 : MH) (n1 kr1 wr1 : Nat), LK cI cJ cZ cT a L (i + 7) hp1 n1 kr1 wr1 → Rn (gG D cI cJ cZ cT lo b L xs) mL_law d 1077 [(0, .ref b), (1, .ref a), (2, .ref (a + 41)), (3, .int (iv i))] [] hp1 n1 kr1 wr1 Po) : Rn (gG D cI cJ cZ cT lo b L xs) mL_law d 757 [(0, .ref b), (1, .ref a), (2, .ref (a + 41)), (3, .int (iv i))] [] hp n kr wr Po := by
  obtain ⟨Γ, rf, cn, nm, so, sz, dr, mn, fr, tt, wt, co, nu, qi, qc, nf, nt, nw, nc, sa, wo, ln, hw, ro, th, dn, dd, da, df, dt, dw, dc, kn, kd, ka, kf, kt, kw, kc, ht, hk, hrk, hdq, hm, hv, hwr9, hna, hkr, hwr⟩ := h
  have hmR := HM.same (fun q hq => (RW_o hq).symm : ∀ q : Nat, (q < a + 41 ∨ a + 41 + 43 ≤ q) → Γ q = (RW Γ cI cJ cZ (a + 41) rf cn nm so sz dr mn fr tt wt co nu qi qc nf nt nw nc sa wo ln hw ro) q) hm
  have hvR := HV.same (fun q hq => (RW_o hq).symm : ∀ q : Nat, (q < a + 41 ∨ a + 41 + 43 ≤ q) → Γ q = (RW Γ cI cJ cZ (a + 41) rf cn nm so sz dr mn fr tt wt co nu qi qc nf nt nw nc sa wo ln hw ro) q) hv
  have hcn9 := hk.1
  have hrv : -2147483648 ≤ rf ∧ rf ≤ 2147483647 := hrk.2.2.2.2.2.2.2.2.2.2.2.1
  refine r_aload_n (pc := 757) dL_law_757 (i := 1) rfl rfl ?_
  obtain ⟨fs7, hfs7⟩ := t_obj ht (rd_of CG_0)
  refine r_callV (pc := 758) (as := []) (st := []) kL_74 rfl dL_law_758 hfs7 (y_X11_handles (d := d - 1)  (by omega) hk hmR hrv (by omega) ht ) rfl (by omega) (Nat.le_of_ble_eq_true rfl) (by omega) (by omega) rfl (fun r1 hp2 n3 hq4 => ?_)
  obtain ⟨hnn3, Γ8, rv8, kn8, kd8, ka8, kf8, kt8, kw8, kc8, hE8, ht5, hk8, hrv8, v8, hrr1, hA8, hw8⟩ := hq4
  subst r1
  have ex8 := RW_x hE8
  have ht6 := Tw_eq (Γ1 := (CG (RW Γ8 cI cJ cZ (a + 41) rf cn nm so sz dr mn fr tt wt co nu qi qc nf nt nw nc sa wo ln hw ro) cI cJ cZ cT a cn rv8 th dn dd da df dt dw dc kn8 kd8 ka8 kf8 kt8 kw8 kc8)) (by rw [ex8]) ht5
  have hk9 := hk8
  rw [← ex8] at hk9
  change Rn _ _ _ 761 _ [.int (iv v8)] _ _ _ _ _
  refine r_aload_n (pc := 761) dL_law_761 (i := 2) rfl rfl ?_
  have ht13 := Tw_eq (Γ1 := RW (CG Γ8 cI cJ cZ cT a cn rv8 th dn dd da df dt dw dc kn8 kd8 ka8 kf8 kt8 kw8 kc8) cI cJ cZ (a + 41) rf cn nm so sz dr mn fr tt wt co nu qi qc nf nt nw nc sa wo ln hw ro) (CG_RW (by omega)) ht6
  obtain ⟨fs14, hfs14⟩ := t_obj ht13 (rd_of RW_y)
  refine r_callV (pc := 762) (as := []) (st := [.int (iv v8)]) kL_77 rfl dL_law_762 hfs14 (zw_X12_handles (d := d - 1)  (by omega) hrk hwr9 ht13  (fun _ _ _ h => h)) rfl (by omega) (Nat.le_of_ble_eq_true rfl) (by omega) (by omega) rfl (fun r8 hp9 n10 hq11 => ?_)
  obtain ⟨hnn10, rf9, v9, ht12, hrr8, f0, f1, f2, f3⟩ := hq11
  subst n10 r8
  have hm9 := HM.ext hE8 hmR
  have hv9 := HV.ext hE8 hvR
  have hcmp : v8 = v9 := by omega
  have her : rv8 = rf9 := by omega
  have her2 := her.symm
  subst her2
  rw [← CG_RW (by omega)] at ht12
  have hv9r : -2147483648 ≤ v9 ∧ v9 ≤ 2147483647 := by omega
  change Rn _ _ _ 765 _ [.int (iv v9), .int (iv v8)] _ _ _ _ _
  refine t_icmp_eq (pc := 765) (tgt := 1077) dL_law_765 (by decide) (by omega) (by omega) (fun c765 => ?_) (fun c765 => ?_)
  · refine Rn.pick (lv' := [(0, .ref b), (1, .ref a), (2, .ref (a + 41)), (3, .int (iv i))]) [0, 1, 2, 3] rfl ?_
    exact kk _ _ _ _ ⟨Γ8, rf9, cn, nm, so, sz, dr, mn, fr, tt, wt, co, nu, qi, qc, nf, nt, nw, nc, sa, wo, ln, hw, ro, th, dn, dd, da, df, dt, dw, dc, kn8, kd8, ka8, kf8, kt8, kw8, kc8, ht12, (EK.swapW hk9), f0, (DQ_r hdq f1), hm9, hv9, hwr9, by omega, by omega, by omega⟩
  · exfalso
    omega
set_option maxHeartbeats 4000000 in
set_option maxRecDepth 100000 in
theorem lk_14 {D : va_G} {cI cJ cZ cT : ClassId} {lo b L : Nat} {xs : Nat → Int32} {hp : MH} {n d kr wr a : Nat} {i : Int} {Po : Option Value → MH → Nat → Prop} (hd : 60 ≤ d) (hL : L ≤ 3584) (hi : 0 ≤ i ∧ i + 7 ≤ (L : Int)) (hP : ∀ (v : Int) (hp : MH) (n : Nat), Po (some (.int (iv v))) hp n) (h : LK cI cJ cZ cT a L i hp n kr wr) (kk : ∀ (hp1 : MH) (n1 kr1 wr1 : Nat), LK cI cJ cZ cT a L (i + 7) hp1 n1 kr1 wr1 → Rn (gG D cI cJ cZ cT lo b L xs) mL_law d 1077 [(0, .ref b), (1, .ref a), (2, .ref (a + 41)), (3, .int (iv i))] [] hp1 n1 kr1 wr1 Po) : Rn (gG D cI cJ cZ cT lo b L xs) mL_law d 770 [(0, .ref b), (1, .ref a), (2, .ref (a + 41)), (3, .int (iv i))] [] hp n kr wr Po := by
  obtain ⟨Γ, rf, cn, nm, so, sz, dr, mn, fr, tt, wt, co, nu, qi, qc, nf, nt, nw, nc, sa, wo, ln, hw, ro, th, dn, dd, da, df, dt, dw, dc, kn, kd, ka, kf, kt, kw, kc, ht, hk, hrk, hdq, hm, hv, hwr9, hna, hkr, hwr⟩ := h
  have hmR := HM.same (fun q hq => (RW_o hq).symm : ∀ q : Nat, (q < a + 41 ∨ a + 41 + 43 ≤ q) → Γ q = (RW Γ cI cJ cZ (a + 41) rf cn nm so sz dr mn fr tt wt co nu qi qc nf nt nw nc sa wo ln hw ro) q) hm
  have hvR := HV.same (fun q hq => (RW_o hq).symm : ∀ q : Nat, (q < a + 41 ∨ a + 41 + 43 ≤ q) → Γ q = (RW Γ cI cJ cZ (a + 41) rf cn nm so sz dr mn fr tt wt co nu qi qc nf nt nw nc sa wo ln hw ro) q) hv
  have hcn9 := hk.1
  have hrv : -2147483648 ≤ rf ∧ rf ≤ 2147483647 := hrk.2.2.2.2.2.2.2.2.2.2.2.1
  refine r_aload_n (pc := 770) dL_law_770 (i := 1) rfl rfl ?_
  refine r_aload_n (pc := 771) dL_law_771 (i := 0) rfl rfl ?_
  refine r_iload_n (pc := 772) dL_law_772 (i := 3) rfl rfl ?_
  refine r_iconst (pc := 773) (v := iv 1) dL_law_773 (by decide) ?_
  refine r_iadd (pc := 774) (v := iv (i + 1)) dL_law_774 (iv_add _ _) ?_
  refine w_sld (pc := 775) (v := iv ((xs (Int.toNat (i + 1))).toInt)) dL_law_775 (iv_in (L := L) (by omega) (by omega)) (by rw [iv_clamp (by omega) (by omega)]; exact (iv_of _).symm) ?_
  have lo775 := iv_lo (xs (Int.toNat (i + 1)))
  have hi775 := iv_hi (xs (Int.toNat (i + 1)))
  obtain ⟨fs7, hfs7⟩ := t_obj ht (rd_of CG_0)
  refine r_callV (pc := 776) (as := [.int (iv ((xs (Int.toNat (i + 1))).toInt))]) (st := []) kL_78 rfl dL_law_776 hfs7 (y_X11_sort (d := d - 1) (x1 := ((xs (Int.toNat (i + 1))).toInt)) (by omega) hk hmR hrv (by omega) ht (by omega)) rfl (by omega) (Nat.le_of_ble_eq_true rfl) (by omega) (by omega) rfl (fun r1 hp2 n3 hq4 => ?_)
  obtain ⟨hnn3, Γ8, rv8, kn8, kd8, ka8, kf8, kt8, kw8, kc8, hE8, ht5, hk8, hrv8, v8, hrr1, hA8, hw8⟩ := hq4
  subst r1
  have ex8 := RW_x hE8
  have ht6 := Tw_eq (Γ1 := (CG (RW Γ8 cI cJ cZ (a + 41) rf cn nm so sz dr mn fr tt wt co nu qi qc nf nt nw nc sa wo ln hw ro) cI cJ cZ cT a cn rv8 th dn dd da df dt dw dc kn8 kd8 ka8 kf8 kt8 kw8 kc8)) (by rw [ex8]) ht5
  have hk9 := hk8
  rw [← ex8] at hk9
  change Rn _ _ _ 779 _ [.int (iv v8)] _ _ _ _ _
  refine r_aload_n (pc := 779) dL_law_779 (i := 2) rfl rfl ?_
  refine r_aload_n (pc := 780) dL_law_780 (i := 0) rfl rfl ?_
  refine r_iload_n (pc := 781) dL_law_781 (i := 3) rfl rfl ?_
  refine r_iconst (pc := 782) (v := iv 1) dL_law_782 (by decide) ?_
  refine r_iadd (pc := 783) (v := iv (i + 1)) dL_law_783 (iv_add _ _) ?_
  refine w_sld (pc := 784) (v := iv ((xs (Int.toNat (i + 1))).toInt)) dL_law_784 (iv_in (L := L) (by omega) (by omega)) (by rw [iv_clamp (by omega) (by omega)]; exact (iv_of _).symm) ?_
  have lo784 := iv_lo (xs (Int.toNat (i + 1)))
  have hi784 := iv_hi (xs (Int.toNat (i + 1)))
  have ht13 := Tw_eq (Γ1 := RW (CG Γ8 cI cJ cZ cT a cn rv8 th dn dd da df dt dw dc kn8 kd8 ka8 kf8 kt8 kw8 kc8) cI cJ cZ (a + 41) rf cn nm so sz dr mn fr tt wt co nu qi qc nf nt nw nc sa wo ln hw ro) (CG_RW (by omega)) ht6
  obtain ⟨fs14, hfs14⟩ := t_obj ht13 (rd_of RW_y)
  refine r_callV (pc := 785) (as := [.int (iv ((xs (Int.toNat (i + 1))).toInt))]) (st := [.int (iv v8)]) kL_82 rfl dL_law_785 hfs14 (zw_X12_sort (d := d - 1) (x1 := ((xs (Int.toNat (i + 1))).toInt)) (by omega) hrk hwr9 ht13 (by omega) (fun _ _ _ h => h)) rfl (by omega) (Nat.le_of_ble_eq_true rfl) (by omega) (by omega) rfl (fun r8 hp9 n10 hq11 => ?_)
  obtain ⟨hnn10, rf9, v9, ht12, hrr8, f0, f1, f2, f3⟩ := hq11
  subst n10 r8
  have hm9 := HM.ext hE8 hmR
  have hv9 := HV.ext hE8 hvR
  have her9 : v8 = v9 ∧ rv8 = rf9 := by
    by_cases h9 : 0 ≤ ((xs (Int.toNat (i + 1))).toInt) ∧ ((xs (Int.toNat (i + 1))).toInt) < cn
    · have h8 := hA8 h9
      have h7 := f3.1 h9
      exact ⟨by omega, by omega⟩
    · have h8 := hw8 h9
      have h7 := f3.2 h9
      exact ⟨by omega, by omega⟩
  obtain ⟨hcmp, her⟩ := her9
  have her2 := her.symm
  subst her2
  rw [← CG_RW (by omega)] at ht12
  have hv9r : -2147483648 ≤ v9 ∧ v9 ≤ 2147483647 := by omega
  change Rn _ _ _ 788 _ [.int (iv v9), .int (iv v8)] _ _ _ _ _
  refine t_icmp_eq (pc := 788) (tgt := 1077) dL_law_788 (by decide) (by omega) (by omega) (fun c788 => ?_) (fun c788 => ?_)
  · refine Rn.pick (lv' := [(0, .ref b), (1, .ref a), (2, .ref (a + 41)), (3, .int (iv i))]) [0, 1, 2, 3] rfl ?_
    exact kk _ _ _ _ ⟨Γ8, rf9, cn, nm, so, sz, dr, mn, fr, tt, wt, co, nu, qi, qc, nf, nt, nw, nc, sa, wo, ln, hw, ro, th, dn, dd, da, df, dt, dw, dc, kn8, kd8, ka8, kf8, kt8, kw8, kc8, ht12, (EK.swapW hk9), f0, (DQ_r hdq f1), hm9, hv9, hwr9, by omega, by omega, by omega⟩
  · exfalso
    omega
set_option maxHeartbeats 4000000 in
set_option maxRecDepth 100000 in
theorem lk_15 {D : va_G} {cI cJ cZ cT : ClassId} {lo b L : Nat} {xs : Nat → Int32} {hp : MH} {n d kr wr a : Nat} {i : Int} {Po : Option Value → MH → Nat → Prop} (hd : 60 ≤ d) (hL : L ≤ 3584) (hi : 0 ≤ i ∧ i + 7 ≤ (L : Int)) (hP : ∀ (v : Int) (hp : MH) (n : Nat), Po (some (.int (iv v))) hp n) (h : LK cI cJ cZ cT a L i hp n kr wr) (kk : ∀ (hp1 : MH) (n1 kr1 wr1 : Nat), LK cI cJ cZ cT a L (i + 7) hp1 n1 kr1 wr1 → Rn (gG D cI cJ cZ cT lo b L xs) mL_law d 1077 [(0, .ref b), (1, .ref a), (2, .ref (a + 41)), (3, .int (iv i))] [] hp1 n1 kr1 wr1 Po) : Rn (gG D cI cJ cZ cT lo b L xs) mL_law d 793 [(0, .ref b), (1, .ref a), (2, .ref (a + 41)), (3, .int (iv i))] [] hp n kr wr Po := by
  obtain ⟨Γ, rf, cn, nm, so, sz, dr, mn, fr, tt, wt, co, nu, qi, qc, nf, nt, nw, nc, sa, wo, ln, hw, ro, th, dn, dd, da, df, dt, dw, dc, kn, kd, ka, kf, kt, kw, kc, ht, hk, hrk, hdq, hm, hv, hwr9, hna, hkr, hwr⟩ := h
  have hmR := HM.same (fun q hq => (RW_o hq).symm : ∀ q : Nat, (q < a + 41 ∨ a + 41 + 43 ≤ q) → Γ q = (RW Γ cI cJ cZ (a + 41) rf cn nm so sz dr mn fr tt wt co nu qi qc nf nt nw nc sa wo ln hw ro) q) hm
  have hvR := HV.same (fun q hq => (RW_o hq).symm : ∀ q : Nat, (q < a + 41 ∨ a + 41 + 43 ≤ q) → Γ q = (RW Γ cI cJ cZ (a + 41) rf cn nm so sz dr mn fr tt wt co nu qi qc nf nt nw nc sa wo ln hw ro) q) hv
  have hcn9 := hk.1
  have hrv : -2147483648 ≤ rf ∧ rf ≤ 2147483647 := hrk.2.2.2.2.2.2.2.2.2.2.2.1
  refine r_aload_n (pc := 793) dL_law_793 (i := 1) rfl rfl ?_
  refine r_aload_n (pc := 794) dL_law_794 (i := 0) rfl rfl ?_
  refine r_iload_n (pc := 795) dL_law_795 (i := 3) rfl rfl ?_
  refine r_iconst (pc := 796) (v := iv 1) dL_law_796 (by decide) ?_
  refine r_iadd (pc := 797) (v := iv (i + 1)) dL_law_797 (iv_add _ _) ?_
  refine w_sld (pc := 798) (v := iv ((xs (Int.toNat (i + 1))).toInt)) dL_law_798 (iv_in (L := L) (by omega) (by omega)) (by rw [iv_clamp (by omega) (by omega)]; exact (iv_of _).symm) ?_
  have lo798 := iv_lo (xs (Int.toNat (i + 1)))
  have hi798 := iv_hi (xs (Int.toNat (i + 1)))
  refine r_aload_n (pc := 799) dL_law_799 (i := 0) rfl rfl ?_
  refine r_iload_n (pc := 800) dL_law_800 (i := 3) rfl rfl ?_
  refine r_iconst (pc := 801) (v := iv 2) dL_law_801 (by decide) ?_
  refine r_iadd (pc := 802) (v := iv (i + 2)) dL_law_802 (iv_add _ _) ?_
  refine w_sld (pc := 803) (v := iv ((xs (Int.toNat (i + 2))).toInt)) dL_law_803 (iv_in (L := L) (by omega) (by omega)) (by rw [iv_clamp (by omega) (by omega)]; exact (iv_of _).symm) ?_
  have lo803 := iv_lo (xs (Int.toNat (i + 2)))
  have hi803 := iv_hi (xs (Int.toNat (i + 2)))
  refine r_aload_n (pc := 804) dL_law_804 (i := 0) rfl rfl ?_
  refine r_iload_n (pc := 805) dL_law_805 (i := 3) rfl rfl ?_
  refine r_iconst (pc := 806) (v := iv 3) dL_law_806 (by decide) ?_
  refine r_iadd (pc := 807) (v := iv (i + 3)) dL_law_807 (iv_add _ _) ?_
  refine w_sld (pc := 808) (v := iv ((xs (Int.toNat (i + 3))).toInt)) dL_law_808 (iv_in (L := L) (by omega) (by omega)) (by rw [iv_clamp (by omega) (by omega)]; exact (iv_of _).symm) ?_
  have lo808 := iv_lo (xs (Int.toNat (i + 3)))
  have hi808 := iv_hi (xs (Int.toNat (i + 3)))
  obtain ⟨fs7, hfs7⟩ := t_obj ht (rd_of CG_0)
  refine r_callV (pc := 809) (as := [.int (iv ((xs (Int.toNat (i + 1))).toInt)), .int (iv ((xs (Int.toNat (i + 2))).toInt)), .int (iv ((xs (Int.toNat (i + 3))).toInt))]) (st := []) kL_83 rfl dL_law_809 hfs7 (y_X11_of (d := d - 1) (x1 := ((xs (Int.toNat (i + 1))).toInt)) (x2 := ((xs (Int.toNat (i + 2))).toInt)) (x3 := ((xs (Int.toNat (i + 3))).toInt)) (by omega) hk hmR hrv (by omega) ht (by omega) (by omega) (by omega)) rfl (by omega) (Nat.le_of_ble_eq_true rfl) (by omega) (by omega) rfl (fun r1 hp2 n3 hq4 => ?_)
  obtain ⟨hnn3, Γ8, rv8, kn8, kd8, ka8, kf8, kt8, kw8, kc8, hE8, ht5, hk8, hrv8, v8, hrr1, hA8, a1, a2⟩ := hq4
  subst r1
  have ex8 := RW_x hE8
  have ht6 := Tw_eq (Γ1 := (CG (RW Γ8 cI cJ cZ (a + 41) rf cn nm so sz dr mn fr tt wt co nu qi qc nf nt nw nc sa wo ln hw ro) cI cJ cZ cT a cn rv8 th dn dd da df dt dw dc kn8 kd8 ka8 kf8 kt8 kw8 kc8)) (by rw [ex8]) ht5
  have hk9 := hk8
  rw [← ex8] at hk9
  change Rn _ _ _ 812 _ [.int (iv v8)] _ _ _ _ _
  refine r_aload_n (pc := 812) dL_law_812 (i := 2) rfl rfl ?_
  refine r_aload_n (pc := 813) dL_law_813 (i := 0) rfl rfl ?_
  refine r_iload_n (pc := 814) dL_law_814 (i := 3) rfl rfl ?_
  refine r_iconst (pc := 815) (v := iv 1) dL_law_815 (by decide) ?_
  refine r_iadd (pc := 816) (v := iv (i + 1)) dL_law_816 (iv_add _ _) ?_
  refine w_sld (pc := 817) (v := iv ((xs (Int.toNat (i + 1))).toInt)) dL_law_817 (iv_in (L := L) (by omega) (by omega)) (by rw [iv_clamp (by omega) (by omega)]; exact (iv_of _).symm) ?_
  have lo817 := iv_lo (xs (Int.toNat (i + 1)))
  have hi817 := iv_hi (xs (Int.toNat (i + 1)))
  refine r_aload_n (pc := 818) dL_law_818 (i := 0) rfl rfl ?_
  refine r_iload_n (pc := 819) dL_law_819 (i := 3) rfl rfl ?_
  refine r_iconst (pc := 820) (v := iv 2) dL_law_820 (by decide) ?_
  refine r_iadd (pc := 821) (v := iv (i + 2)) dL_law_821 (iv_add _ _) ?_
  refine w_sld (pc := 822) (v := iv ((xs (Int.toNat (i + 2))).toInt)) dL_law_822 (iv_in (L := L) (by omega) (by omega)) (by rw [iv_clamp (by omega) (by omega)]; exact (iv_of _).symm) ?_
  have lo822 := iv_lo (xs (Int.toNat (i + 2)))
  have hi822 := iv_hi (xs (Int.toNat (i + 2)))
  refine r_aload_n (pc := 823) dL_law_823 (i := 0) rfl rfl ?_
  refine r_iload_n (pc := 824) dL_law_824 (i := 3) rfl rfl ?_
  refine r_iconst (pc := 825) (v := iv 3) dL_law_825 (by decide) ?_
  refine r_iadd (pc := 826) (v := iv (i + 3)) dL_law_826 (iv_add _ _) ?_
  refine w_sld (pc := 827) (v := iv ((xs (Int.toNat (i + 3))).toInt)) dL_law_827 (iv_in (L := L) (by omega) (by omega)) (by rw [iv_clamp (by omega) (by omega)]; exact (iv_of _).symm) ?_
  have lo827 := iv_lo (xs (Int.toNat (i + 3)))
  have hi827 := iv_hi (xs (Int.toNat (i + 3)))
  have ht13 := Tw_eq (Γ1 := RW (CG Γ8 cI cJ cZ cT a cn rv8 th dn dd da df dt dw dc kn8 kd8 ka8 kf8 kt8 kw8 kc8) cI cJ cZ (a + 41) rf cn nm so sz dr mn fr tt wt co nu qi qc nf nt nw nc sa wo ln hw ro) (CG_RW (by omega)) ht6
  obtain ⟨fs14, hfs14⟩ := t_obj ht13 (rd_of RW_y)
  refine r_callV (pc := 828) (as := [.int (iv ((xs (Int.toNat (i + 1))).toInt)), .int (iv ((xs (Int.toNat (i + 2))).toInt)), .int (iv ((xs (Int.toNat (i + 3))).toInt))]) (st := [.int (iv v8)]) kL_86 rfl dL_law_828 hfs14 (zw_X12_of (d := d - 1) (x1 := ((xs (Int.toNat (i + 1))).toInt)) (x2 := ((xs (Int.toNat (i + 2))).toInt)) (x3 := ((xs (Int.toNat (i + 3))).toInt)) (by omega) hrk hwr9 ht13 (by omega) (by omega) (by omega) (fun _ _ _ h => h)) rfl (by omega) (Nat.le_of_ble_eq_true rfl) (by omega) (by omega) rfl (fun r8 hp9 n10 hq11 => ?_)
  obtain ⟨hnn10, rf9, v9, ht12, hrr8, f0, f1, f2, f3, f4, f5⟩ := hq11
  subst n10 r8
  have hm9 := HM.ext hE8 hmR
  have hv9 := HV.ext hE8 hvR
  have her : rv8 = rf9 := hA8.trans f3.symm
  have hcmp : v8 = v9 := rd_q her a1 a2 f4 f5
  have her2 := her.symm
  subst her2
  rw [← CG_RW (by omega)] at ht12
  have hv9r : -2147483648 ≤ v9 ∧ v9 ≤ 2147483647 := by omega
  change Rn _ _ _ 831 _ [.int (iv v9), .int (iv v8)] _ _ _ _ _
  refine t_icmp_eq (pc := 831) (tgt := 1077) dL_law_831 (by decide) (by omega) (by omega) (fun c831 => ?_) (fun c831 => ?_)
  · refine Rn.pick (lv' := [(0, .ref b), (1, .ref a), (2, .ref (a + 41)), (3, .int (iv i))]) [0, 1, 2, 3] rfl ?_
    exact kk _ _ _ _ ⟨Γ8, rf9, cn, nm, so, sz, dr, mn, fr, tt, wt, co, nu, qi, qc, nf, nt, nw, nc, sa, wo, ln, hw, ro, th, dn, dd, da, df, dt, dw, dc, kn8, kd8, ka8, kf8, kt8, kw8, kc8, ht12, (EK.swapW hk9), f0, (DQ_r hdq f1), hm9, hv9, hwr9, by omega, by omega, by omega⟩
  · exfalso
    omega
set_option maxHeartbeats 4000000 in
set_option maxRecDepth 100000 in
theorem lk_16 {D : va_G} {cI cJ cZ cT : ClassId} {lo b L : Nat} {xs : Nat → Int32} {hp : MH} {n d kr wr a : Nat} {i : Int} {Po : Option Value → MH → Nat → Prop} (hd : 60 ≤ d) (hL : L ≤ 3584) (hi : 0 ≤ i ∧ i + 7 ≤ (L : Int)) (hP : ∀ (v : Int) (hp : MH) (n : Nat), Po (some (.int (iv v))) hp n) (h : LK cI cJ cZ cT a L i hp n kr wr) (kk : ∀ (hp1 : MH) (n1 kr1 wr1 : Nat), LK cI cJ cZ cT a L (i + 7) hp1 n1 kr1 wr1 → Rn (gG D cI cJ cZ cT lo b L xs) mL_law d 1077 [(0, .ref b), (1, .ref a), (2, .ref (a + 41)), (3, .int (iv i))] [] hp1 n1 kr1 wr1 Po) : Rn (gG D cI cJ cZ cT lo b L xs) mL_law d 836 [(0, .ref b), (1, .ref a), (2, .ref (a + 41)), (3, .int (iv i))] [] hp n kr wr Po := by
  obtain ⟨Γ, rf, cn, nm, so, sz, dr, mn, fr, tt, wt, co, nu, qi, qc, nf, nt, nw, nc, sa, wo, ln, hw, ro, th, dn, dd, da, df, dt, dw, dc, kn, kd, ka, kf, kt, kw, kc, ht, hk, hrk, hdq, hm, hv, hwr9, hna, hkr, hwr⟩ := h
  have hmR := HM.same (fun q hq => (RW_o hq).symm : ∀ q : Nat, (q < a + 41 ∨ a + 41 + 43 ≤ q) → Γ q = (RW Γ cI cJ cZ (a + 41) rf cn nm so sz dr mn fr tt wt co nu qi qc nf nt nw nc sa wo ln hw ro) q) hm
  have hvR := HV.same (fun q hq => (RW_o hq).symm : ∀ q : Nat, (q < a + 41 ∨ a + 41 + 43 ≤ q) → Γ q = (RW Γ cI cJ cZ (a + 41) rf cn nm so sz dr mn fr tt wt co nu qi qc nf nt nw nc sa wo ln hw ro) q) hv
  have hcn9 := hk.1
  have hrv : -2147483648 ≤ rf ∧ rf ≤ 2147483647 := hrk.2.2.2.2.2.2.2.2.2.2.2.1
  refine r_aload_n (pc := 836) dL_law_836 (i := 1) rfl rfl ?_
  refine r_aload_n (pc := 837) dL_law_837 (i := 0) rfl rfl ?_
  refine r_iload_n (pc := 838) dL_law_838 (i := 3) rfl rfl ?_
  refine r_iconst (pc := 839) (v := iv 1) dL_law_839 (by decide) ?_
  refine r_iadd (pc := 840) (v := iv (i + 1)) dL_law_840 (iv_add _ _) ?_
  refine w_sld (pc := 841) (v := iv ((xs (Int.toNat (i + 1))).toInt)) dL_law_841 (iv_in (L := L) (by omega) (by omega)) (by rw [iv_clamp (by omega) (by omega)]; exact (iv_of _).symm) ?_
  have lo841 := iv_lo (xs (Int.toNat (i + 1)))
  have hi841 := iv_hi (xs (Int.toNat (i + 1)))
  refine r_aload_n (pc := 842) dL_law_842 (i := 0) rfl rfl ?_
  refine r_iload_n (pc := 843) dL_law_843 (i := 3) rfl rfl ?_
  refine r_iconst (pc := 844) (v := iv 2) dL_law_844 (by decide) ?_
  refine r_iadd (pc := 845) (v := iv (i + 2)) dL_law_845 (iv_add _ _) ?_
  refine w_sld (pc := 846) (v := iv ((xs (Int.toNat (i + 2))).toInt)) dL_law_846 (iv_in (L := L) (by omega) (by omega)) (by rw [iv_clamp (by omega) (by omega)]; exact (iv_of _).symm) ?_
  have lo846 := iv_lo (xs (Int.toNat (i + 2)))
  have hi846 := iv_hi (xs (Int.toNat (i + 2)))
  obtain ⟨fs7, hfs7⟩ := t_obj ht (rd_of CG_0)
  refine r_callV (pc := 847) (as := [.int (iv ((xs (Int.toNat (i + 1))).toInt)), .int (iv ((xs (Int.toNat (i + 2))).toInt))]) (st := []) kL_87 rfl dL_law_847 hfs7 (y_X11_at (d := d - 1) (x1 := ((xs (Int.toNat (i + 1))).toInt)) (x2 := ((xs (Int.toNat (i + 2))).toInt)) (by omega) hk hmR hrv (by omega) ht (by omega) (by omega)) rfl (by omega) (Nat.le_of_ble_eq_true rfl) (by omega) (by omega) rfl (fun r1 hp2 n3 hq4 => ?_)
  obtain ⟨hnn3, Γ8, rv8, kn8, kd8, ka8, kf8, kt8, kw8, kc8, hE8, ht5, hk8, hrv8, v8, hrr1, hA8, a1, a2, a3⟩ := hq4
  subst r1
  have ex8 := RW_x hE8
  have ht6 := Tw_eq (Γ1 := (CG (RW Γ8 cI cJ cZ (a + 41) rf cn nm so sz dr mn fr tt wt co nu qi qc nf nt nw nc sa wo ln hw ro) cI cJ cZ cT a cn rv8 th dn dd da df dt dw dc kn8 kd8 ka8 kf8 kt8 kw8 kc8)) (by rw [ex8]) ht5
  have hk9 := hk8
  rw [← ex8] at hk9
  change Rn _ _ _ 850 _ [.long v8] _ _ _ _ _
  refine r_aload_n (pc := 850) dL_law_850 (i := 2) rfl rfl ?_
  refine r_aload_n (pc := 851) dL_law_851 (i := 0) rfl rfl ?_
  refine r_iload_n (pc := 852) dL_law_852 (i := 3) rfl rfl ?_
  refine r_iconst (pc := 853) (v := iv 1) dL_law_853 (by decide) ?_
  refine r_iadd (pc := 854) (v := iv (i + 1)) dL_law_854 (iv_add _ _) ?_
  refine w_sld (pc := 855) (v := iv ((xs (Int.toNat (i + 1))).toInt)) dL_law_855 (iv_in (L := L) (by omega) (by omega)) (by rw [iv_clamp (by omega) (by omega)]; exact (iv_of _).symm) ?_
  have lo855 := iv_lo (xs (Int.toNat (i + 1)))
  have hi855 := iv_hi (xs (Int.toNat (i + 1)))
  refine r_aload_n (pc := 856) dL_law_856 (i := 0) rfl rfl ?_
  refine r_iload_n (pc := 857) dL_law_857 (i := 3) rfl rfl ?_
  refine r_iconst (pc := 858) (v := iv 2) dL_law_858 (by decide) ?_
  refine r_iadd (pc := 859) (v := iv (i + 2)) dL_law_859 (iv_add _ _) ?_
  refine w_sld (pc := 860) (v := iv ((xs (Int.toNat (i + 2))).toInt)) dL_law_860 (iv_in (L := L) (by omega) (by omega)) (by rw [iv_clamp (by omega) (by omega)]; exact (iv_of _).symm) ?_
  have lo860 := iv_lo (xs (Int.toNat (i + 2)))
  have hi860 := iv_hi (xs (Int.toNat (i + 2)))
  have ht13 := Tw_eq (Γ1 := RW (CG Γ8 cI cJ cZ cT a cn rv8 th dn dd da df dt dw dc kn8 kd8 ka8 kf8 kt8 kw8 kc8) cI cJ cZ (a + 41) rf cn nm so sz dr mn fr tt wt co nu qi qc nf nt nw nc sa wo ln hw ro) (CG_RW (by omega)) ht6
  obtain ⟨fs14, hfs14⟩ := t_obj ht13 (rd_of RW_y)
  refine r_callV (pc := 861) (as := [.int (iv ((xs (Int.toNat (i + 1))).toInt)), .int (iv ((xs (Int.toNat (i + 2))).toInt))]) (st := [.long v8]) kL_91 rfl dL_law_861 hfs14 (zw_X12_at (d := d - 1) (x1 := ((xs (Int.toNat (i + 1))).toInt)) (x2 := ((xs (Int.toNat (i + 2))).toInt)) (by omega) hrk hwr9 ht13 (by omega) (by omega) (fun _ _ _ h => h)) rfl (by omega) (Nat.le_of_ble_eq_true rfl) (by omega) (by omega) rfl (fun r8 hp9 n10 hq11 => ?_)
  obtain ⟨hnn10, rf9, v9, ht12, hrr8, f0, f1, f2, f3, f4, f5⟩ := hq11
  subst n10 r8
  have hm9 := HM.ext hE8 hmR
  have hv9 := HV.ext hE8 hvR
  have her : rv8 = rf9 := hA8.trans f2.symm
  have hcmp : v8 = v9 := rd_qJ her a1 a2 a3 f3 f4 f5
  have her2 := her.symm
  subst her2
  subst hcmp
  rw [← CG_RW (by omega)] at ht12
  change Rn _ _ _ 864 _ [.long v8, .long v8] _ _ _ _ _
  refine r_lcmp (pc := 864) dL_law_864 ?_
  refine t_lif_eq (pc := 865) (tgt := 1077) dL_law_865 (by decide) (fun c865 => ?_) (fun c865 => ?_)
  · refine Rn.pick (lv' := [(0, .ref b), (1, .ref a), (2, .ref (a + 41)), (3, .int (iv i))]) [0, 1, 2, 3] rfl ?_
    exact kk _ _ _ _ ⟨Γ8, rf9, cn, nm, so, sz, dr, mn, fr, tt, wt, co, nu, qi, qc, nf, nt, nw, nc, sa, wo, ln, hw, ro, th, dn, dd, da, df, dt, dw, dc, kn8, kd8, ka8, kf8, kt8, kw8, kc8, ht12, (EK.swapW hk9), f0, (DQ_r hdq f1), hm9, hv9, hwr9, by omega, by omega, by omega⟩
  · exfalso
    omega
set_option maxHeartbeats 4000000 in
set_option maxRecDepth 100000 in
theorem lk_17 {D : va_G} {cI cJ cZ cT : ClassId} {lo b L : Nat} {xs : Nat → Int32} {hp : MH} {n d kr wr a : Nat} {i : Int} {Po : Option Value → MH → Nat → Prop} (hd : 60 ≤ d) (hL : L ≤ 3584) (hi : 0 ≤ i ∧ i + 7 ≤ (L : Int)) (hP : ∀ (v : Int) (hp : MH) (n : Nat), Po (some (.int (iv v))) hp n) (h : LK cI cJ cZ cT a L i hp n kr wr) (kk : ∀ (hp1 : MH) (n1 kr1 wr1 : Nat), LK cI cJ cZ cT a L (i + 7) hp1 n1 kr1 wr1 → Rn (gG D cI cJ cZ cT lo b L xs) mL_law d 1077 [(0, .ref b), (1, .ref a), (2, .ref (a + 41)), (3, .int (iv i))] [] hp1 n1 kr1 wr1 Po) : Rn (gG D cI cJ cZ cT lo b L xs) mL_law d 870 [(0, .ref b), (1, .ref a), (2, .ref (a + 41)), (3, .int (iv i))] [] hp n kr wr Po := by
  obtain ⟨Γ, rf, cn, nm, so, sz, dr, mn, fr, tt, wt, co, nu, qi, qc, nf, nt, nw, nc, sa, wo, ln, hw, ro, th, dn, dd, da, df, dt, dw, dc, kn, kd, ka, kf, kt, kw, kc, ht, hk, hrk, hdq, hm, hv, hwr9, hna, hkr, hwr⟩ := h
  have hmR := HM.same (fun q hq => (RW_o hq).symm : ∀ q : Nat, (q < a + 41 ∨ a + 41 + 43 ≤ q) → Γ q = (RW Γ cI cJ cZ (a + 41) rf cn nm so sz dr mn fr tt wt co nu qi qc nf nt nw nc sa wo ln hw ro) q) hm
  have hvR := HV.same (fun q hq => (RW_o hq).symm : ∀ q : Nat, (q < a + 41 ∨ a + 41 + 43 ≤ q) → Γ q = (RW Γ cI cJ cZ (a + 41) rf cn nm so sz dr mn fr tt wt co nu qi qc nf nt nw nc sa wo ln hw ro) q) hv
  have hcn9 := hk.1
  have hrv : -2147483648 ≤ rf ∧ rf ≤ 2147483647 := hrk.2.2.2.2.2.2.2.2.2.2.2.1
  refine r_aload_n (pc := 870) dL_law_870 (i := 1) rfl rfl ?_
  refine r_aload_n (pc := 871) dL_law_871 (i := 0) rfl rfl ?_
  refine r_iload_n (pc := 872) dL_law_872 (i := 3) rfl rfl ?_
  refine r_iconst (pc := 873) (v := iv 1) dL_law_873 (by decide) ?_
  refine r_iadd (pc := 874) (v := iv (i + 1)) dL_law_874 (iv_add _ _) ?_
  refine w_sld (pc := 875) (v := iv ((xs (Int.toNat (i + 1))).toInt)) dL_law_875 (iv_in (L := L) (by omega) (by omega)) (by rw [iv_clamp (by omega) (by omega)]; exact (iv_of _).symm) ?_
  have lo875 := iv_lo (xs (Int.toNat (i + 1)))
  have hi875 := iv_hi (xs (Int.toNat (i + 1)))
  refine r_aload_n (pc := 876) dL_law_876 (i := 0) rfl rfl ?_
  refine r_iload_n (pc := 877) dL_law_877 (i := 3) rfl rfl ?_
  refine r_iconst (pc := 878) (v := iv 2) dL_law_878 (by decide) ?_
  refine r_iadd (pc := 879) (v := iv (i + 2)) dL_law_879 (iv_add _ _) ?_
  refine w_sld (pc := 880) (v := iv ((xs (Int.toNat (i + 2))).toInt)) dL_law_880 (iv_in (L := L) (by omega) (by omega)) (by rw [iv_clamp (by omega) (by omega)]; exact (iv_of _).symm) ?_
  have lo880 := iv_lo (xs (Int.toNat (i + 2)))
  have hi880 := iv_hi (xs (Int.toNat (i + 2)))
  refine r_aload_n (pc := 881) dL_law_881 (i := 0) rfl rfl ?_
  refine r_iload_n (pc := 882) dL_law_882 (i := 3) rfl rfl ?_
  refine r_iconst (pc := 883) (v := iv 3) dL_law_883 (by decide) ?_
  refine r_iadd (pc := 884) (v := iv (i + 3)) dL_law_884 (iv_add _ _) ?_
  refine w_sld (pc := 885) (v := iv ((xs (Int.toNat (i + 3))).toInt)) dL_law_885 (iv_in (L := L) (by omega) (by omega)) (by rw [iv_clamp (by omega) (by omega)]; exact (iv_of _).symm) ?_
  have lo885 := iv_lo (xs (Int.toNat (i + 3)))
  have hi885 := iv_hi (xs (Int.toNat (i + 3)))
  obtain ⟨fs7, hfs7⟩ := t_obj ht (rd_of CG_0)
  refine r_callV (pc := 886) (as := [.int (iv ((xs (Int.toNat (i + 1))).toInt)), .int (iv ((xs (Int.toNat (i + 2))).toInt)), .int (iv ((xs (Int.toNat (i + 3))).toInt))]) (st := []) kL_92 rfl dL_law_886 hfs7 (y3_X11_way (d := d - 1) (x1 := ((xs (Int.toNat (i + 1))).toInt)) (x2 := ((xs (Int.toNat (i + 2))).toInt)) (x3 := ((xs (Int.toNat (i + 3))).toInt)) (by omega) hk hmR hrv (by omega) ht (by omega) (by omega) (by omega) hvR) rfl (by omega) (Nat.le_of_ble_eq_true rfl) (by omega) (by omega) rfl (fun r1 hp2 n3 hq4 => ?_)
  obtain ⟨hnn3, Γ8, rv8, kn8, kd8, ka8, kf8, kt8, kw8, kc8, hE8, ht5, hk8, hrv8, v8, hrr1, hA8, a1, a2⟩ := hq4
  subst r1
  have ex8 := RW_x hE8
  have ht6 := Tw_eq (Γ1 := (CG (RW Γ8 cI cJ cZ (a + 41) rf cn nm so sz dr mn fr tt wt co nu qi qc nf nt nw nc sa wo ln hw ro) cI cJ cZ cT a cn rv8 th dn dd da df dt dw dc kn8 kd8 ka8 kf8 kt8 kw8 kc8)) (by rw [ex8]) ht5
  have hk9 := hk8
  rw [← ex8] at hk9
  change Rn _ _ _ 889 _ [.long v8] _ _ _ _ _
  refine r_aload_n (pc := 889) dL_law_889 (i := 2) rfl rfl ?_
  refine r_aload_n (pc := 890) dL_law_890 (i := 0) rfl rfl ?_
  refine r_iload_n (pc := 891) dL_law_891 (i := 3) rfl rfl ?_
  refine r_iconst (pc := 892) (v := iv 1) dL_law_892 (by decide) ?_
  refine r_iadd (pc := 893) (v := iv (i + 1)) dL_law_893 (iv_add _ _) ?_
  refine w_sld (pc := 894) (v := iv ((xs (Int.toNat (i + 1))).toInt)) dL_law_894 (iv_in (L := L) (by omega) (by omega)) (by rw [iv_clamp (by omega) (by omega)]; exact (iv_of _).symm) ?_
  have lo894 := iv_lo (xs (Int.toNat (i + 1)))
  have hi894 := iv_hi (xs (Int.toNat (i + 1)))
  refine r_aload_n (pc := 895) dL_law_895 (i := 0) rfl rfl ?_
  refine r_iload_n (pc := 896) dL_law_896 (i := 3) rfl rfl ?_
  refine r_iconst (pc := 897) (v := iv 2) dL_law_897 (by decide) ?_
  refine r_iadd (pc := 898) (v := iv (i + 2)) dL_law_898 (iv_add _ _) ?_
  refine w_sld (pc := 899) (v := iv ((xs (Int.toNat (i + 2))).toInt)) dL_law_899 (iv_in (L := L) (by omega) (by omega)) (by rw [iv_clamp (by omega) (by omega)]; exact (iv_of _).symm) ?_
  have lo899 := iv_lo (xs (Int.toNat (i + 2)))
  have hi899 := iv_hi (xs (Int.toNat (i + 2)))
  refine r_aload_n (pc := 900) dL_law_900 (i := 0) rfl rfl ?_
  refine r_iload_n (pc := 901) dL_law_901 (i := 3) rfl rfl ?_
  refine r_iconst (pc := 902) (v := iv 3) dL_law_902 (by decide) ?_
  refine r_iadd (pc := 903) (v := iv (i + 3)) dL_law_903 (iv_add _ _) ?_
  refine w_sld (pc := 904) (v := iv ((xs (Int.toNat (i + 3))).toInt)) dL_law_904 (iv_in (L := L) (by omega) (by omega)) (by rw [iv_clamp (by omega) (by omega)]; exact (iv_of _).symm) ?_
  have lo904 := iv_lo (xs (Int.toNat (i + 3)))
  have hi904 := iv_hi (xs (Int.toNat (i + 3)))
  have ht13 := Tw_eq (Γ1 := RW (CG Γ8 cI cJ cZ cT a cn rv8 th dn dd da df dt dw dc kn8 kd8 ka8 kf8 kt8 kw8 kc8) cI cJ cZ (a + 41) rf cn nm so sz dr mn fr tt wt co nu qi qc nf nt nw nc sa wo ln hw ro) (CG_RW (by omega)) ht6
  obtain ⟨fs14, hfs14⟩ := t_obj ht13 (rd_of RW_y)
  refine r_callV (pc := 905) (as := [.int (iv ((xs (Int.toNat (i + 1))).toInt)), .int (iv ((xs (Int.toNat (i + 2))).toInt)), .int (iv ((xs (Int.toNat (i + 3))).toInt))]) (st := [.long v8]) kL_96 rfl dL_law_905 hfs14 (zw_X12_way (d := d - 1) (x1 := ((xs (Int.toNat (i + 1))).toInt)) (x2 := ((xs (Int.toNat (i + 2))).toInt)) (x3 := ((xs (Int.toNat (i + 3))).toInt)) (by omega) hrk hwr9 ht13 (by omega) (by omega) (by omega) (fun _ _ _ h => h)) rfl (by omega) (Nat.le_of_ble_eq_true rfl) (by omega) (by omega) rfl (fun r8 hp9 n10 hq11 => ?_)
  obtain ⟨hnn10, rf9, v9, ht12, hrr8, f0, f1, f2, f3, f4⟩ := hq11
  subst n10 r8
  have hm9 := HM.ext hE8 hmR
  have hv9 := HV.ext hE8 hvR
  have her : rv8 = rf9 := hA8.trans f2.symm
  have her2 := her.symm
  subst her2
  have hcmp : v8 = v9 := rd_qL rfl a1 a2 f3 f4
  subst hcmp
  rw [← CG_RW (by omega)] at ht12
  change Rn _ _ _ 908 _ [.long v8, .long v8] _ _ _ _ _
  refine r_lcmp (pc := 908) dL_law_908 ?_
  refine t_lif_eq (pc := 909) (tgt := 1077) dL_law_909 (by decide) (fun c909 => ?_) (fun c909 => ?_)
  · refine Rn.pick (lv' := [(0, .ref b), (1, .ref a), (2, .ref (a + 41)), (3, .int (iv i))]) [0, 1, 2, 3] rfl ?_
    exact kk _ _ _ _ ⟨Γ8, rf9, cn, nm, so, sz, dr, mn, fr, tt, wt, co, nu, qi, qc, nf, nt, nw, nc, sa, wo, ln, hw, ro, th, dn, dd, da, df, dt, dw, dc, kn8, kd8, ka8, kf8, kt8, kw8, kc8, ht12, (EK.swapW hk9), f0, (DQ_r hdq f1), hm9, hv9, hwr9, by omega, by omega, by omega⟩
  · exfalso
    omega
set_option maxHeartbeats 4000000 in
set_option maxRecDepth 100000 in
theorem lk_18 {D : va_G} {cI cJ cZ cT : ClassId} {lo b L : Nat} {xs : Nat → Int32} {hp : MH} {n d kr wr a : Nat} {i : Int} {Po : Option Value → MH → Nat → Prop} (hd : 60 ≤ d) (hL : L ≤ 3584) (hi : 0 ≤ i ∧ i + 7 ≤ (L : Int)) (hP : ∀ (v : Int) (hp : MH) (n : Nat), Po (some (.int (iv v))) hp n) (h : LK cI cJ cZ cT a L i hp n kr wr) (kk : ∀ (hp1 : MH) (n1 kr1 wr1 : Nat), LK cI cJ cZ cT a L (i + 7) hp1 n1 kr1 wr1 → Rn (gG D cI cJ cZ cT lo b L xs) mL_law d 1077 [(0, .ref b), (1, .ref a), (2, .ref (a + 41)), (3, .int (iv i))] [] hp1 n1 kr1 wr1 Po) : Rn (gG D cI cJ cZ cT lo b L xs) mL_law d 914 [(0, .ref b), (1, .ref a), (2, .ref (a + 41)), (3, .int (iv i))] [] hp n kr wr Po := by
  obtain ⟨Γ, rf, cn, nm, so, sz, dr, mn, fr, tt, wt, co, nu, qi, qc, nf, nt, nw, nc, sa, wo, ln, hw, ro, th, dn, dd, da, df, dt, dw, dc, kn, kd, ka, kf, kt, kw, kc, ht, hk, hrk, hdq, hm, hv, hwr9, hna, hkr, hwr⟩ := h
  have hmR := HM.same (fun q hq => (RW_o hq).symm : ∀ q : Nat, (q < a + 41 ∨ a + 41 + 43 ≤ q) → Γ q = (RW Γ cI cJ cZ (a + 41) rf cn nm so sz dr mn fr tt wt co nu qi qc nf nt nw nc sa wo ln hw ro) q) hm
  have hvR := HV.same (fun q hq => (RW_o hq).symm : ∀ q : Nat, (q < a + 41 ∨ a + 41 + 43 ≤ q) → Γ q = (RW Γ cI cJ cZ (a + 41) rf cn nm so sz dr mn fr tt wt co nu qi qc nf nt nw nc sa wo ln hw ro) q) hv
  have hcn9 := hk.1
  have hrv : -2147483648 ≤ rf ∧ rf ≤ 2147483647 := hrk.2.2.2.2.2.2.2.2.2.2.2.1
  refine r_aload_n (pc := 914) dL_law_914 (i := 1) rfl rfl ?_
  refine r_aload_n (pc := 915) dL_law_915 (i := 0) rfl rfl ?_
  refine r_iload_n (pc := 916) dL_law_916 (i := 3) rfl rfl ?_
  refine r_iconst (pc := 917) (v := iv 1) dL_law_917 (by decide) ?_
  refine r_iadd (pc := 918) (v := iv (i + 1)) dL_law_918 (iv_add _ _) ?_
  refine w_sld (pc := 919) (v := iv ((xs (Int.toNat (i + 1))).toInt)) dL_law_919 (iv_in (L := L) (by omega) (by omega)) (by rw [iv_clamp (by omega) (by omega)]; exact (iv_of _).symm) ?_
  have lo919 := iv_lo (xs (Int.toNat (i + 1)))
  have hi919 := iv_hi (xs (Int.toNat (i + 1)))
  refine r_aload_n (pc := 920) dL_law_920 (i := 0) rfl rfl ?_
  refine r_iload_n (pc := 921) dL_law_921 (i := 3) rfl rfl ?_
  refine r_iconst (pc := 922) (v := iv 2) dL_law_922 (by decide) ?_
  refine r_iadd (pc := 923) (v := iv (i + 2)) dL_law_923 (iv_add _ _) ?_
  refine w_sld (pc := 924) (v := iv ((xs (Int.toNat (i + 2))).toInt)) dL_law_924 (iv_in (L := L) (by omega) (by omega)) (by rw [iv_clamp (by omega) (by omega)]; exact (iv_of _).symm) ?_
  have lo924 := iv_lo (xs (Int.toNat (i + 2)))
  have hi924 := iv_hi (xs (Int.toNat (i + 2)))
  refine r_aload_n (pc := 925) dL_law_925 (i := 0) rfl rfl ?_
  refine r_iload_n (pc := 926) dL_law_926 (i := 3) rfl rfl ?_
  refine r_iconst (pc := 927) (v := iv 3) dL_law_927 (by decide) ?_
  refine r_iadd (pc := 928) (v := iv (i + 3)) dL_law_928 (iv_add _ _) ?_
  refine w_sld (pc := 929) (v := iv ((xs (Int.toNat (i + 3))).toInt)) dL_law_929 (iv_in (L := L) (by omega) (by omega)) (by rw [iv_clamp (by omega) (by omega)]; exact (iv_of _).symm) ?_
  have lo929 := iv_lo (xs (Int.toNat (i + 3)))
  have hi929 := iv_hi (xs (Int.toNat (i + 3)))
  obtain ⟨fs7, hfs7⟩ := t_obj ht (rd_of CG_0)
  refine r_callV (pc := 930) (as := [.int (iv ((xs (Int.toNat (i + 1))).toInt)), .int (iv ((xs (Int.toNat (i + 2))).toInt)), .int (iv ((xs (Int.toNat (i + 3))).toInt))]) (st := []) kL_97 rfl dL_law_930 hfs7 (y3_X11_step (d := d - 1) (x1 := ((xs (Int.toNat (i + 1))).toInt)) (x2 := ((xs (Int.toNat (i + 2))).toInt)) (x3 := ((xs (Int.toNat (i + 3))).toInt)) (by omega) hk hmR hrv (by omega) ht (by omega) (by omega) (by omega) hvR) rfl (by omega) (Nat.le_of_ble_eq_true rfl) (by omega) (by omega) rfl (fun r1 hp2 n3 hq4 => ?_)
  obtain ⟨hnn3, Γ8, rv8, kn8, kd8, ka8, kf8, kt8, kw8, kc8, hE8, ht5, hk8, hrv8, v8, hrr1, hA8, hvr8, a1, a2⟩ := hq4
  subst r1
  have ex8 := RW_x hE8
  have ht6 := Tw_eq (Γ1 := (CG (RW Γ8 cI cJ cZ (a + 41) rf cn nm so sz dr mn fr tt wt co nu qi qc nf nt nw nc sa wo ln hw ro) cI cJ cZ cT a cn rv8 th dn dd da df dt dw dc kn8 kd8 ka8 kf8 kt8 kw8 kc8)) (by rw [ex8]) ht5
  have hk9 := hk8
  rw [← ex8] at hk9
  change Rn _ _ _ 933 _ [.int (iv v8)] _ _ _ _ _
  refine r_aload_n (pc := 933) dL_law_933 (i := 2) rfl rfl ?_
  refine r_aload_n (pc := 934) dL_law_934 (i := 0) rfl rfl ?_
  refine r_iload_n (pc := 935) dL_law_935 (i := 3) rfl rfl ?_
  refine r_iconst (pc := 936) (v := iv 1) dL_law_936 (by decide) ?_
  refine r_iadd (pc := 937) (v := iv (i + 1)) dL_law_937 (iv_add _ _) ?_
  refine w_sld (pc := 938) (v := iv ((xs (Int.toNat (i + 1))).toInt)) dL_law_938 (iv_in (L := L) (by omega) (by omega)) (by rw [iv_clamp (by omega) (by omega)]; exact (iv_of _).symm) ?_
  have lo938 := iv_lo (xs (Int.toNat (i + 1)))
  have hi938 := iv_hi (xs (Int.toNat (i + 1)))
  refine r_aload_n (pc := 939) dL_law_939 (i := 0) rfl rfl ?_
  refine r_iload_n (pc := 940) dL_law_940 (i := 3) rfl rfl ?_
  refine r_iconst (pc := 941) (v := iv 2) dL_law_941 (by decide) ?_
  refine r_iadd (pc := 942) (v := iv (i + 2)) dL_law_942 (iv_add _ _) ?_
  refine w_sld (pc := 943) (v := iv ((xs (Int.toNat (i + 2))).toInt)) dL_law_943 (iv_in (L := L) (by omega) (by omega)) (by rw [iv_clamp (by omega) (by omega)]; exact (iv_of _).symm) ?_
  have lo943 := iv_lo (xs (Int.toNat (i + 2)))
  have hi943 := iv_hi (xs (Int.toNat (i + 2)))
  refine r_aload_n (pc := 944) dL_law_944 (i := 0) rfl rfl ?_
  refine r_iload_n (pc := 945) dL_law_945 (i := 3) rfl rfl ?_
  refine r_iconst (pc := 946) (v := iv 3) dL_law_946 (by decide) ?_
  refine r_iadd (pc := 947) (v := iv (i + 3)) dL_law_947 (iv_add _ _) ?_
  refine w_sld (pc := 948) (v := iv ((xs (Int.toNat (i + 3))).toInt)) dL_law_948 (iv_in (L := L) (by omega) (by omega)) (by rw [iv_clamp (by omega) (by omega)]; exact (iv_of _).symm) ?_
  have lo948 := iv_lo (xs (Int.toNat (i + 3)))
  have hi948 := iv_hi (xs (Int.toNat (i + 3)))
  have ht13 := Tw_eq (Γ1 := RW (CG Γ8 cI cJ cZ cT a cn rv8 th dn dd da df dt dw dc kn8 kd8 ka8 kf8 kt8 kw8 kc8) cI cJ cZ (a + 41) rf cn nm so sz dr mn fr tt wt co nu qi qc nf nt nw nc sa wo ln hw ro) (CG_RW (by omega)) ht6
  obtain ⟨fs14, hfs14⟩ := t_obj ht13 (rd_of RW_y)
  refine r_callV (pc := 949) (as := [.int (iv ((xs (Int.toNat (i + 1))).toInt)), .int (iv ((xs (Int.toNat (i + 2))).toInt)), .int (iv ((xs (Int.toNat (i + 3))).toInt))]) (st := [.int (iv v8)]) kL_100 rfl dL_law_949 hfs14 (zw_X12_step (d := d - 1) (x1 := ((xs (Int.toNat (i + 1))).toInt)) (x2 := ((xs (Int.toNat (i + 2))).toInt)) (x3 := ((xs (Int.toNat (i + 3))).toInt)) (by omega) hrk hwr9 ht13 (by omega) (by omega) (by omega) (fun _ _ _ h => h)) rfl (by omega) (Nat.le_of_ble_eq_true rfl) (by omega) (by omega) rfl (fun r8 hp9 n10 hq11 => ?_)
  obtain ⟨hnn10, rf9, v9, ht12, hrr8, f0, f1, f2, f3, f4, f5⟩ := hq11
  subst n10 r8
  have hm9 := HM.ext hE8 hmR
  have hv9 := HV.ext hE8 hvR
  have her : rv8 = rf9 := hA8.trans f3.symm
  have her2 := her.symm
  subst her2
  have hcmp : v8 = v9 := rd_q rfl a1 a2 f4 f5
  rw [← CG_RW (by omega)] at ht12
  have hv9r : -2147483648 ≤ v9 ∧ v9 ≤ 2147483647 := by omega
  change Rn _ _ _ 952 _ [.int (iv v9), .int (iv v8)] _ _ _ _ _
  refine t_icmp_eq (pc := 952) (tgt := 1077) dL_law_952 (by decide) (by omega) (by omega) (fun c952 => ?_) (fun c952 => ?_)
  · refine Rn.pick (lv' := [(0, .ref b), (1, .ref a), (2, .ref (a + 41)), (3, .int (iv i))]) [0, 1, 2, 3] rfl ?_
    exact kk _ _ _ _ ⟨Γ8, rf9, cn, nm, so, sz, dr, mn, fr, tt, wt, co, nu, qi, qc, nf, nt, nw, nc, sa, wo, ln, hw, ro, th, dn, dd, da, df, dt, dw, dc, kn8, kd8, ka8, kf8, kt8, kw8, kc8, ht12, (EK.swapW hk9), f0, (DQ_r hdq f1), hm9, hv9, hwr9, by omega, by omega, by omega⟩
  · exfalso
    omega
set_option maxHeartbeats 4000000 in
set_option maxRecDepth 100000 in
theorem lk_19 {D : va_G} {cI cJ cZ cT : ClassId} {lo b L : Nat} {xs : Nat → Int32} {hp : MH} {n d kr wr a : Nat} {i : Int} {Po : Option Value → MH → Nat → Prop} (hd : 60 ≤ d) (hL : L ≤ 3584) (hi : 0 ≤ i ∧ i + 7 ≤ (L : Int)) (hP : ∀ (v : Int) (hp : MH) (n : Nat), Po (some (.int (iv v))) hp n) (h : LK cI cJ cZ cT a L i hp n kr wr) (kk : ∀ (hp1 : MH) (n1 kr1 wr1 : Nat), LK cI cJ cZ cT a L (i + 7) hp1 n1 kr1 wr1 → Rn (gG D cI cJ cZ cT lo b L xs) mL_law d 1077 [(0, .ref b), (1, .ref a), (2, .ref (a + 41)), (3, .int (iv i))] [] hp1 n1 kr1 wr1 Po) : Rn (gG D cI cJ cZ cT lo b L xs) mL_law d 957 [(0, .ref b), (1, .ref a), (2, .ref (a + 41)), (3, .int (iv i))] [] hp n kr wr Po := by
  obtain ⟨Γ, rf, cn, nm, so, sz, dr, mn, fr, tt, wt, co, nu, qi, qc, nf, nt, nw, nc, sa, wo, ln, hw, ro, th, dn, dd, da, df, dt, dw, dc, kn, kd, ka, kf, kt, kw, kc, ht, hk, hrk, hdq, hm, hv, hwr9, hna, hkr, hwr⟩ := h
  have hmR := HM.same (fun q hq => (RW_o hq).symm : ∀ q : Nat, (q < a + 41 ∨ a + 41 + 43 ≤ q) → Γ q = (RW Γ cI cJ cZ (a + 41) rf cn nm so sz dr mn fr tt wt co nu qi qc nf nt nw nc sa wo ln hw ro) q) hm
  have hvR := HV.same (fun q hq => (RW_o hq).symm : ∀ q : Nat, (q < a + 41 ∨ a + 41 + 43 ≤ q) → Γ q = (RW Γ cI cJ cZ (a + 41) rf cn nm so sz dr mn fr tt wt co nu qi qc nf nt nw nc sa wo ln hw ro) q) hv
  have hcn9 := hk.1
  have hrv : -2147483648 ≤ rf ∧ rf ≤ 2147483647 := hrk.2.2.2.2.2.2.2.2.2.2.2.1
  refine r_aload_n (pc := 957) dL_law_957 (i := 1) rfl rfl ?_
  refine r_aload_n (pc := 958) dL_law_958 (i := 0) rfl rfl ?_
  refine r_iload_n (pc := 959) dL_law_959 (i := 3) rfl rfl ?_
  refine r_iconst (pc := 960) (v := iv 1) dL_law_960 (by decide) ?_
  refine r_iadd (pc := 961) (v := iv (i + 1)) dL_law_961 (iv_add _ _) ?_
  refine w_sld (pc := 962) (v := iv ((xs (Int.toNat (i + 1))).toInt)) dL_law_962 (iv_in (L := L) (by omega) (by omega)) (by rw [iv_clamp (by omega) (by omega)]; exact (iv_of _).symm) ?_
  have lo962 := iv_lo (xs (Int.toNat (i + 1)))
  have hi962 := iv_hi (xs (Int.toNat (i + 1)))
  refine r_aload_n (pc := 963) dL_law_963 (i := 0) rfl rfl ?_
  refine r_iload_n (pc := 964) dL_law_964 (i := 3) rfl rfl ?_
  refine r_iconst (pc := 965) (v := iv 2) dL_law_965 (by decide) ?_
  refine r_iadd (pc := 966) (v := iv (i + 2)) dL_law_966 (iv_add _ _) ?_
  refine w_sld (pc := 967) (v := iv ((xs (Int.toNat (i + 2))).toInt)) dL_law_967 (iv_in (L := L) (by omega) (by omega)) (by rw [iv_clamp (by omega) (by omega)]; exact (iv_of _).symm) ?_
  have lo967 := iv_lo (xs (Int.toNat (i + 2)))
  have hi967 := iv_hi (xs (Int.toNat (i + 2)))
  obtain ⟨fs7, hfs7⟩ := t_obj ht (rd_of CG_0)
  refine r_callV (pc := 968) (as := [.int (iv ((xs (Int.toNat (i + 1))).toInt)), .int (iv ((xs (Int.toNat (i + 2))).toInt))]) (st := []) kL_101 rfl dL_law_968 hfs7 (y_X11_part (d := d - 1) (x1 := ((xs (Int.toNat (i + 1))).toInt)) (x2 := ((xs (Int.toNat (i + 2))).toInt)) (by omega) hk hmR hrv (by omega) ht (by omega) (by omega)) rfl (by omega) (Nat.le_of_ble_eq_true rfl) (by omega) (by omega) rfl (fun r1 hp2 n3 hq4 => ?_)
  obtain ⟨hnn3, Γ8, rv8, kn8, kd8, ka8, kf8, kt8, kw8, kc8, hE8, ht5, hk8, hrv8, v8, hrr1, hA8, a1, a2, a3⟩ := hq4
  subst r1
  have ex8 := RW_x hE8
  have ht6 := Tw_eq (Γ1 := (CG (RW Γ8 cI cJ cZ (a + 41) rf cn nm so sz dr mn fr tt wt co nu qi qc nf nt nw nc sa wo ln hw ro) cI cJ cZ cT a cn rv8 th dn dd da df dt dw dc kn8 kd8 ka8 kf8 kt8 kw8 kc8)) (by rw [ex8]) ht5
  have hk9 := hk8
  rw [← ex8] at hk9
  change Rn _ _ _ 971 _ [.int (iv v8)] _ _ _ _ _
  refine r_aload_n (pc := 971) dL_law_971 (i := 2) rfl rfl ?_
  refine r_aload_n (pc := 972) dL_law_972 (i := 0) rfl rfl ?_
  refine r_iload_n (pc := 973) dL_law_973 (i := 3) rfl rfl ?_
  refine r_iconst (pc := 974) (v := iv 1) dL_law_974 (by decide) ?_
  refine r_iadd (pc := 975) (v := iv (i + 1)) dL_law_975 (iv_add _ _) ?_
  refine w_sld (pc := 976) (v := iv ((xs (Int.toNat (i + 1))).toInt)) dL_law_976 (iv_in (L := L) (by omega) (by omega)) (by rw [iv_clamp (by omega) (by omega)]; exact (iv_of _).symm) ?_
  have lo976 := iv_lo (xs (Int.toNat (i + 1)))
  have hi976 := iv_hi (xs (Int.toNat (i + 1)))
  refine r_aload_n (pc := 977) dL_law_977 (i := 0) rfl rfl ?_
  refine r_iload_n (pc := 978) dL_law_978 (i := 3) rfl rfl ?_
  refine r_iconst (pc := 979) (v := iv 2) dL_law_979 (by decide) ?_
  refine r_iadd (pc := 980) (v := iv (i + 2)) dL_law_980 (iv_add _ _) ?_
  refine w_sld (pc := 981) (v := iv ((xs (Int.toNat (i + 2))).toInt)) dL_law_981 (iv_in (L := L) (by omega) (by omega)) (by rw [iv_clamp (by omega) (by omega)]; exact (iv_of _).symm) ?_
  have lo981 := iv_lo (xs (Int.toNat (i + 2)))
  have hi981 := iv_hi (xs (Int.toNat (i + 2)))
  have ht13 := Tw_eq (Γ1 := RW (CG Γ8 cI cJ cZ cT a cn rv8 th dn dd da df dt dw dc kn8 kd8 ka8 kf8 kt8 kw8 kc8) cI cJ cZ (a + 41) rf cn nm so sz dr mn fr tt wt co nu qi qc nf nt nw nc sa wo ln hw ro) (CG_RW (by omega)) ht6
  obtain ⟨fs14, hfs14⟩ := t_obj ht13 (rd_of RW_y)
  refine r_callV (pc := 982) (as := [.int (iv ((xs (Int.toNat (i + 1))).toInt)), .int (iv ((xs (Int.toNat (i + 2))).toInt))]) (st := [.int (iv v8)]) kL_105 rfl dL_law_982 hfs14 (zw_X12_part (d := d - 1) (x1 := ((xs (Int.toNat (i + 1))).toInt)) (x2 := ((xs (Int.toNat (i + 2))).toInt)) (by omega) hrk hwr9 ht13 (by omega) (by omega) (fun _ _ _ h => h)) rfl (by omega) (Nat.le_of_ble_eq_true rfl) (by omega) (by omega) rfl (fun r8 hp9 n10 hq11 => ?_)
  obtain ⟨hnn10, rf9, v9, ht12, hrr8, f0, f1, f2, f3, f4, f5, f6⟩ := hq11
  subst n10 r8
  have hm9 := HM.ext hE8 hmR
  have hv9 := HV.ext hE8 hvR
  have her : rv8 = rf9 := hA8.trans f3.symm
  have hcmp : v8 = v9 := rd_q2 her a1 a2 a3 f4 f5 f6
  have her2 := her.symm
  subst her2
  rw [← CG_RW (by omega)] at ht12
  have hv9r : -2147483648 ≤ v9 ∧ v9 ≤ 2147483647 := by omega
  change Rn _ _ _ 985 _ [.int (iv v9), .int (iv v8)] _ _ _ _ _
  refine t_icmp_eq (pc := 985) (tgt := 1077) dL_law_985 (by decide) (by omega) (by omega) (fun c985 => ?_) (fun c985 => ?_)
  · refine Rn.pick (lv' := [(0, .ref b), (1, .ref a), (2, .ref (a + 41)), (3, .int (iv i))]) [0, 1, 2, 3] rfl ?_
    exact kk _ _ _ _ ⟨Γ8, rf9, cn, nm, so, sz, dr, mn, fr, tt, wt, co, nu, qi, qc, nf, nt, nw, nc, sa, wo, ln, hw, ro, th, dn, dd, da, df, dt, dw, dc, kn8, kd8, ka8, kf8, kt8, kw8, kc8, ht12, (EK.swapW hk9), f0, (DQ_r hdq f1), hm9, hv9, hwr9, by omega, by omega, by omega⟩
  · exfalso
    omega
set_option maxHeartbeats 4000000 in
set_option maxRecDepth 100000 in
theorem lk_20 {D : va_G} {cI cJ cZ cT : ClassId} {lo b L : Nat} {xs : Nat → Int32} {hp : MH} {n d kr wr a : Nat} {i : Int} {Po : Option Value → MH → Nat → Prop} (hd : 60 ≤ d) (hL : L ≤ 3584) (hi : 0 ≤ i ∧ i + 7 ≤ (L : Int)) (hP : ∀ (v : Int) (hp : MH) (n : Nat), Po (some (.int (iv v))) hp n) (h : LK cI cJ cZ cT a L i hp n kr wr) (kk : ∀ (hp1 : MH) (n1 kr1 wr1 : Nat), LK cI cJ cZ cT a L (i + 7) hp1 n1 kr1 wr1 → Rn (gG D cI cJ cZ cT lo b L xs) mL_law d 1077 [(0, .ref b), (1, .ref a), (2, .ref (a + 41)), (3, .int (iv i))] [] hp1 n1 kr1 wr1 Po) : Rn (gG D cI cJ cZ cT lo b L xs) mL_law d 990 [(0, .ref b), (1, .ref a), (2, .ref (a + 41)), (3, .int (iv i))] [] hp n kr wr Po := by
  obtain ⟨Γ, rf, cn, nm, so, sz, dr, mn, fr, tt, wt, co, nu, qi, qc, nf, nt, nw, nc, sa, wo, ln, hw, ro, th, dn, dd, da, df, dt, dw, dc, kn, kd, ka, kf, kt, kw, kc, ht, hk, hrk, hdq, hm, hv, hwr9, hna, hkr, hwr⟩ := h
  have hmR := HM.same (fun q hq => (RW_o hq).symm : ∀ q : Nat, (q < a + 41 ∨ a + 41 + 43 ≤ q) → Γ q = (RW Γ cI cJ cZ (a + 41) rf cn nm so sz dr mn fr tt wt co nu qi qc nf nt nw nc sa wo ln hw ro) q) hm
  have hvR := HV.same (fun q hq => (RW_o hq).symm : ∀ q : Nat, (q < a + 41 ∨ a + 41 + 43 ≤ q) → Γ q = (RW Γ cI cJ cZ (a + 41) rf cn nm so sz dr mn fr tt wt co nu qi qc nf nt nw nc sa wo ln hw ro) q) hv
  have hcn9 := hk.1
  have hrv : -2147483648 ≤ rf ∧ rf ≤ 2147483647 := hrk.2.2.2.2.2.2.2.2.2.2.2.1
  refine r_aload_n (pc := 990) dL_law_990 (i := 1) rfl rfl ?_
  refine r_aload_n (pc := 991) dL_law_991 (i := 0) rfl rfl ?_
  refine r_iload_n (pc := 992) dL_law_992 (i := 3) rfl rfl ?_
  refine r_iconst (pc := 993) (v := iv 1) dL_law_993 (by decide) ?_
  refine r_iadd (pc := 994) (v := iv (i + 1)) dL_law_994 (iv_add _ _) ?_
  refine w_sld (pc := 995) (v := iv ((xs (Int.toNat (i + 1))).toInt)) dL_law_995 (iv_in (L := L) (by omega) (by omega)) (by rw [iv_clamp (by omega) (by omega)]; exact (iv_of _).symm) ?_
  have lo995 := iv_lo (xs (Int.toNat (i + 1)))
  have hi995 := iv_hi (xs (Int.toNat (i + 1)))
  refine r_aload_n (pc := 996) dL_law_996 (i := 0) rfl rfl ?_
  refine r_iload_n (pc := 997) dL_law_997 (i := 3) rfl rfl ?_
  refine r_iconst (pc := 998) (v := iv 2) dL_law_998 (by decide) ?_
  refine r_iadd (pc := 999) (v := iv (i + 2)) dL_law_999 (iv_add _ _) ?_
  refine w_sld (pc := 1000) (v := iv ((xs (Int.toNat (i + 2))).toInt)) dL_law_1000 (iv_in (L := L) (by omega) (by omega)) (by rw [iv_clamp (by omega) (by omega)]; exact (iv_of _).symm) ?_
  have lo1000 := iv_lo (xs (Int.toNat (i + 2)))
  have hi1000 := iv_hi (xs (Int.toNat (i + 2)))
  obtain ⟨fs7, hfs7⟩ := t_obj ht (rd_of CG_0)
  refine r_callV (pc := 1001) (as := [.int (iv ((xs (Int.toNat (i + 1))).toInt)), .int (iv ((xs (Int.toNat (i + 2))).toInt))]) (st := []) kL_106 rfl dL_law_1001 hfs7 (y_X11_members (d := d - 1) (x1 := ((xs (Int.toNat (i + 1))).toInt)) (x2 := ((xs (Int.toNat (i + 2))).toInt)) (by omega) hk hmR hrv (by omega) ht (by omega) (by omega)) rfl (by omega) (Nat.le_of_ble_eq_true rfl) (by omega) (by omega) rfl (fun r1 hp2 n3 hq4 => ?_)
  obtain ⟨hnn3, Γ8, rv8, kn8, kd8, ka8, kf8, kt8, kw8, kc8, hE8, ht5, hk8, hrv8, v8, hrr1, hA8, a1, a2⟩ := hq4
  subst r1
  have ex8 := RW_x hE8
  have ht6 := Tw_eq (Γ1 := (CG (RW Γ8 cI cJ cZ (a + 41) rf cn nm so sz dr mn fr tt wt co nu qi qc nf nt nw nc sa wo ln hw ro) cI cJ cZ cT a cn rv8 th dn dd da df dt dw dc kn8 kd8 ka8 kf8 kt8 kw8 kc8)) (by rw [ex8]) ht5
  have hk9 := hk8
  rw [← ex8] at hk9
  change Rn _ _ _ 1004 _ [.int (iv v8)] _ _ _ _ _
  refine r_aload_n (pc := 1004) dL_law_1004 (i := 2) rfl rfl ?_
  refine r_aload_n (pc := 1005) dL_law_1005 (i := 0) rfl rfl ?_
  refine r_iload_n (pc := 1006) dL_law_1006 (i := 3) rfl rfl ?_
  refine r_iconst (pc := 1007) (v := iv 1) dL_law_1007 (by decide) ?_
  refine r_iadd (pc := 1008) (v := iv (i + 1)) dL_law_1008 (iv_add _ _) ?_
  refine w_sld (pc := 1009) (v := iv ((xs (Int.toNat (i + 1))).toInt)) dL_law_1009 (iv_in (L := L) (by omega) (by omega)) (by rw [iv_clamp (by omega) (by omega)]; exact (iv_of _).symm) ?_
  have lo1009 := iv_lo (xs (Int.toNat (i + 1)))
  have hi1009 := iv_hi (xs (Int.toNat (i + 1)))
  refine r_aload_n (pc := 1010) dL_law_1010 (i := 0) rfl rfl ?_
  refine r_iload_n (pc := 1011) dL_law_1011 (i := 3) rfl rfl ?_
  refine r_iconst (pc := 1012) (v := iv 2) dL_law_1012 (by decide) ?_
  refine r_iadd (pc := 1013) (v := iv (i + 2)) dL_law_1013 (iv_add _ _) ?_
  refine w_sld (pc := 1014) (v := iv ((xs (Int.toNat (i + 2))).toInt)) dL_law_1014 (iv_in (L := L) (by omega) (by omega)) (by rw [iv_clamp (by omega) (by omega)]; exact (iv_of _).symm) ?_
  have lo1014 := iv_lo (xs (Int.toNat (i + 2)))
  have hi1014 := iv_hi (xs (Int.toNat (i + 2)))
  have ht13 := Tw_eq (Γ1 := RW (CG Γ8 cI cJ cZ cT a cn rv8 th dn dd da df dt dw dc kn8 kd8 ka8 kf8 kt8 kw8 kc8) cI cJ cZ (a + 41) rf cn nm so sz dr mn fr tt wt co nu qi qc nf nt nw nc sa wo ln hw ro) (CG_RW (by omega)) ht6
  obtain ⟨fs14, hfs14⟩ := t_obj ht13 (rd_of RW_y)
  refine r_callV (pc := 1015) (as := [.int (iv ((xs (Int.toNat (i + 1))).toInt)), .int (iv ((xs (Int.toNat (i + 2))).toInt))]) (st := [.int (iv v8)]) kL_109 rfl dL_law_1015 hfs14 (zw_X12_members (d := d - 1) (x1 := ((xs (Int.toNat (i + 1))).toInt)) (x2 := ((xs (Int.toNat (i + 2))).toInt)) (by omega) hrk hwr9 ht13 (by omega) (by omega) (fun _ _ _ h => h)) rfl (by omega) (Nat.le_of_ble_eq_true rfl) (by omega) (by omega) rfl (fun r8 hp9 n10 hq11 => ?_)
  obtain ⟨hnn10, rf9, v9, ht12, hrr8, f0, f1, f2, f3, f4, f5⟩ := hq11
  subst n10 r8
  have hm9 := HM.ext hE8 hmR
  have hv9 := HV.ext hE8 hvR
  have her : rv8 = rf9 := hA8.trans f3.symm
  have hcmp : v8 = v9 := rd_qM her a1 a2 f4 f5
  have her2 := her.symm
  subst her2
  rw [← CG_RW (by omega)] at ht12
  have hv9r : -2147483648 ≤ v9 ∧ v9 ≤ 2147483647 := by omega
  change Rn _ _ _ 1018 _ [.int (iv v9), .int (iv v8)] _ _ _ _ _
  refine t_icmp_eq (pc := 1018) (tgt := 1077) dL_law_1018 (by decide) (by omega) (by omega) (fun c1018 => ?_) (fun c1018 => ?_)
  · refine Rn.pick (lv' := [(0, .ref b), (1, .ref a), (2, .ref (a + 41)), (3, .int (iv i))]) [0, 1, 2, 3] rfl ?_
    exact kk _ _ _ _ ⟨Γ8, rf9, cn, nm, so, sz, dr, mn, fr, tt, wt, co, nu, qi, qc, nf, nt, nw, nc, sa, wo, ln, hw, ro, th, dn, dd, da, df, dt, dw, dc, kn8, kd8, ka8, kf8, kt8, kw8, kc8, ht12, (EK.swapW hk9), f0, (DQ_r hdq f1), hm9, hv9, hwr9, by omega, by omega, by omega⟩
  · exfalso
    omega
set_option maxHeartbeats 4000000 in
set_option maxRecDepth 100000 in
theorem lk_21 {D : va_G} {cI cJ cZ cT : ClassId} {lo b L : Nat} {xs : Nat → Int32} {hp : MH} {n d kr wr a : Nat} {i : Int} {Po : Option Value → MH → Nat → Prop} (hd : 60 ≤ d) (hL : L ≤ 3584) (hi : 0 ≤ i ∧ i + 7 ≤ (L : Int)) (hP : ∀ (v : Int) (hp : MH) (n : Nat), Po (some (.int (iv v))) hp n) (h : LK cI cJ cZ cT a L i hp n kr wr) (kk : ∀ (hp1 : MH) (n1 kr1 wr1 : Nat), LK cI cJ cZ cT a L (i + 7) hp1 n1 kr1 wr1 → Rn (gG D cI cJ cZ cT lo b L xs) mL_law d 1077 [(0, .ref b), (1, .ref a), (2, .ref (a + 41)), (3, .int (iv i))] [] hp1 n1 kr1 wr1 Po) : Rn (gG D cI cJ cZ cT lo b L xs) mL_law d 1023 [(0, .ref b), (1, .ref a), (2, .ref (a + 41)), (3, .int (iv i))] [] hp n kr wr Po := by
  obtain ⟨Γ, rf, cn, nm, so, sz, dr, mn, fr, tt, wt, co, nu, qi, qc, nf, nt, nw, nc, sa, wo, ln, hw, ro, th, dn, dd, da, df, dt, dw, dc, kn, kd, ka, kf, kt, kw, kc, ht, hk, hrk, hdq, hm, hv, hwr9, hna, hkr, hwr⟩ := h
  have hmR := HM.same (fun q hq => (RW_o hq).symm : ∀ q : Nat, (q < a + 41 ∨ a + 41 + 43 ≤ q) → Γ q = (RW Γ cI cJ cZ (a + 41) rf cn nm so sz dr mn fr tt wt co nu qi qc nf nt nw nc sa wo ln hw ro) q) hm
  have hvR := HV.same (fun q hq => (RW_o hq).symm : ∀ q : Nat, (q < a + 41 ∨ a + 41 + 43 ≤ q) → Γ q = (RW Γ cI cJ cZ (a + 41) rf cn nm so sz dr mn fr tt wt co nu qi qc nf nt nw nc sa wo ln hw ro) q) hv
  have hcn9 := hk.1
  have hrv : -2147483648 ≤ rf ∧ rf ≤ 2147483647 := hrk.2.2.2.2.2.2.2.2.2.2.2.1
  refine r_aload_n (pc := 1023) dL_law_1023 (i := 1) rfl rfl ?_
  refine r_aload_n (pc := 1024) dL_law_1024 (i := 0) rfl rfl ?_
  refine r_iload_n (pc := 1025) dL_law_1025 (i := 3) rfl rfl ?_
  refine r_iconst (pc := 1026) (v := iv 1) dL_law_1026 (by decide) ?_
  refine r_iadd (pc := 1027) (v := iv (i + 1)) dL_law_1027 (iv_add _ _) ?_
  refine w_sld (pc := 1028) (v := iv ((xs (Int.toNat (i + 1))).toInt)) dL_law_1028 (iv_in (L := L) (by omega) (by omega)) (by rw [iv_clamp (by omega) (by omega)]; exact (iv_of _).symm) ?_
  have lo1028 := iv_lo (xs (Int.toNat (i + 1)))
  have hi1028 := iv_hi (xs (Int.toNat (i + 1)))
  refine r_aload_n (pc := 1029) dL_law_1029 (i := 0) rfl rfl ?_
  refine r_iload_n (pc := 1030) dL_law_1030 (i := 3) rfl rfl ?_
  refine r_iconst (pc := 1031) (v := iv 2) dL_law_1031 (by decide) ?_
  refine r_iadd (pc := 1032) (v := iv (i + 2)) dL_law_1032 (iv_add _ _) ?_
  refine w_sld (pc := 1033) (v := iv ((xs (Int.toNat (i + 2))).toInt)) dL_law_1033 (iv_in (L := L) (by omega) (by omega)) (by rw [iv_clamp (by omega) (by omega)]; exact (iv_of _).symm) ?_
  have lo1033 := iv_lo (xs (Int.toNat (i + 2)))
  have hi1033 := iv_hi (xs (Int.toNat (i + 2)))
  refine r_aload_n (pc := 1034) dL_law_1034 (i := 0) rfl rfl ?_
  refine r_iload_n (pc := 1035) dL_law_1035 (i := 3) rfl rfl ?_
  refine r_iconst (pc := 1036) (v := iv 3) dL_law_1036 (by decide) ?_
  refine r_iadd (pc := 1037) (v := iv (i + 3)) dL_law_1037 (iv_add _ _) ?_
  refine w_sld (pc := 1038) (v := iv ((xs (Int.toNat (i + 3))).toInt)) dL_law_1038 (iv_in (L := L) (by omega) (by omega)) (by rw [iv_clamp (by omega) (by omega)]; exact (iv_of _).symm) ?_
  have lo1038 := iv_lo (xs (Int.toNat (i + 3)))
  have hi1038 := iv_hi (xs (Int.toNat (i + 3)))
  refine r_aload_n (pc := 1039) dL_law_1039 (i := 0) rfl rfl ?_
  refine r_iload_n (pc := 1040) dL_law_1040 (i := 3) rfl rfl ?_
  refine r_iconst (pc := 1041) (v := iv 4) dL_law_1041 (by decide) ?_
  refine r_iadd (pc := 1042) (v := iv (i + 4)) dL_law_1042 (iv_add _ _) ?_
  refine w_sld (pc := 1043) (v := iv ((xs (Int.toNat (i + 4))).toInt)) dL_law_1043 (iv_in (L := L) (by omega) (by omega)) (by rw [iv_clamp (by omega) (by omega)]; exact (iv_of _).symm) ?_
  have lo1043 := iv_lo (xs (Int.toNat (i + 4)))
  have hi1043 := iv_hi (xs (Int.toNat (i + 4)))
  obtain ⟨fs7, hfs7⟩ := t_obj ht (rd_of CG_0)
  refine r_callV (pc := 1044) (as := [.int (iv ((xs (Int.toNat (i + 1))).toInt)), .int (iv ((xs (Int.toNat (i + 2))).toInt)), .int (iv ((xs (Int.toNat (i + 3))).toInt)), .int (iv ((xs (Int.toNat (i + 4))).toInt))]) (st := []) kL_110 rfl dL_law_1044 hfs7 (y_X11_ask (d := d - 1) (x1 := ((xs (Int.toNat (i + 1))).toInt)) (x2 := ((xs (Int.toNat (i + 2))).toInt)) (x3 := ((xs (Int.toNat (i + 3))).toInt)) (x4 := ((xs (Int.toNat (i + 4))).toInt)) (by omega) hk hmR hrv (by omega) ht (by omega) (by omega) (by omega) (by omega)) rfl (by omega) (Nat.le_of_ble_eq_true rfl) (by omega) (by omega) rfl (fun r1 hp2 n3 hq4 => ?_)
  obtain ⟨hnn3, Γ8, rv8, kn8, kd8, ka8, kf8, kt8, kw8, kc8, hE8, ht5, hk8, hrv8, v8, hrr1, hA8⟩ := hq4
  subst r1
  have ex8 := RW_x hE8
  have ht6 := Tw_eq (Γ1 := (CG (RW Γ8 cI cJ cZ (a + 41) rf cn nm so sz dr mn fr tt wt co nu qi qc nf nt nw nc sa wo ln hw ro) cI cJ cZ cT a cn rv8 th dn dd da df dt dw dc kn8 kd8 ka8 kf8 kt8 kw8 kc8)) (by rw [ex8]) ht5
  have hk9 := hk8
  rw [← ex8] at hk9
  change Rn _ _ _ 1047 _ [.long v8] _ _ _ _ _
  refine r_aload_n (pc := 1047) dL_law_1047 (i := 2) rfl rfl ?_
  refine r_aload_n (pc := 1048) dL_law_1048 (i := 0) rfl rfl ?_
  refine r_iload_n (pc := 1049) dL_law_1049 (i := 3) rfl rfl ?_
  refine r_iconst (pc := 1050) (v := iv 1) dL_law_1050 (by decide) ?_
  refine r_iadd (pc := 1051) (v := iv (i + 1)) dL_law_1051 (iv_add _ _) ?_
  refine w_sld (pc := 1052) (v := iv ((xs (Int.toNat (i + 1))).toInt)) dL_law_1052 (iv_in (L := L) (by omega) (by omega)) (by rw [iv_clamp (by omega) (by omega)]; exact (iv_of _).symm) ?_
  have lo1052 := iv_lo (xs (Int.toNat (i + 1)))
  have hi1052 := iv_hi (xs (Int.toNat (i + 1)))
  refine r_aload_n (pc := 1053) dL_law_1053 (i := 0) rfl rfl ?_
  refine r_iload_n (pc := 1054) dL_law_1054 (i := 3) rfl rfl ?_
  refine r_iconst (pc := 1055) (v := iv 2) dL_law_1055 (by decide) ?_
  refine r_iadd (pc := 1056) (v := iv (i + 2)) dL_law_1056 (iv_add _ _) ?_
  refine w_sld (pc := 1057) (v := iv ((xs (Int.toNat (i + 2))).toInt)) dL_law_1057 (iv_in (L := L) (by omega) (by omega)) (by rw [iv_clamp (by omega) (by omega)]; exact (iv_of _).symm) ?_
  have lo1057 := iv_lo (xs (Int.toNat (i + 2)))
  have hi1057 := iv_hi (xs (Int.toNat (i + 2)))
  refine r_aload_n (pc := 1058) dL_law_1058 (i := 0) rfl rfl ?_
  refine r_iload_n (pc := 1059) dL_law_1059 (i := 3) rfl rfl ?_
  refine r_iconst (pc := 1060) (v := iv 3) dL_law_1060 (by decide) ?_
  refine r_iadd (pc := 1061) (v := iv (i + 3)) dL_law_1061 (iv_add _ _) ?_
  refine w_sld (pc := 1062) (v := iv ((xs (Int.toNat (i + 3))).toInt)) dL_law_1062 (iv_in (L := L) (by omega) (by omega)) (by rw [iv_clamp (by omega) (by omega)]; exact (iv_of _).symm) ?_
  have lo1062 := iv_lo (xs (Int.toNat (i + 3)))
  have hi1062 := iv_hi (xs (Int.toNat (i + 3)))
  refine r_aload_n (pc := 1063) dL_law_1063 (i := 0) rfl rfl ?_
  refine r_iload_n (pc := 1064) dL_law_1064 (i := 3) rfl rfl ?_
  refine r_iconst (pc := 1065) (v := iv 4) dL_law_1065 (by decide) ?_
  refine r_iadd (pc := 1066) (v := iv (i + 4)) dL_law_1066 (iv_add _ _) ?_
  refine w_sld (pc := 1067) (v := iv ((xs (Int.toNat (i + 4))).toInt)) dL_law_1067 (iv_in (L := L) (by omega) (by omega)) (by rw [iv_clamp (by omega) (by omega)]; exact (iv_of _).symm) ?_
  have lo1067 := iv_lo (xs (Int.toNat (i + 4)))
  have hi1067 := iv_hi (xs (Int.toNat (i + 4)))
  have ht13 := Tw_eq (Γ1 := RW (CG Γ8 cI cJ cZ cT a cn rv8 th dn dd da df dt dw dc kn8 kd8 ka8 kf8 kt8 kw8 kc8) cI cJ cZ (a + 41) rf cn nm so sz dr mn fr tt wt co nu qi qc nf nt nw nc sa wo ln hw ro) (CG_RW (by omega)) ht6
  obtain ⟨fs14, hfs14⟩ := t_obj ht13 (rd_of RW_y)
  refine r_callV (pc := 1068) (as := [.int (iv ((xs (Int.toNat (i + 1))).toInt)), .int (iv ((xs (Int.toNat (i + 2))).toInt)), .int (iv ((xs (Int.toNat (i + 3))).toInt)), .int (iv ((xs (Int.toNat (i + 4))).toInt))]) (st := [.long v8]) kL_114 rfl dL_law_1068 hfs14 (zw_X12_ask (d := d - 1) (x1 := ((xs (Int.toNat (i + 1))).toInt)) (x2 := ((xs (Int.toNat (i + 2))).toInt)) (x3 := ((xs (Int.toNat (i + 3))).toInt)) (x4 := ((xs (Int.toNat (i + 4))).toInt)) (by omega) hrk ht13 (by omega) (by omega) (by omega) (by omega)) rfl (by omega) (Nat.le_of_ble_eq_true rfl) (by omega) (by omega) rfl (fun r8 hp9 n10 hq11 => ?_)
  obtain ⟨hnn10, rf9, cn9, nm9, so9, sz9, dr9, mn9, fr9, tt9, wt9, co9, nu9, qi9, qc9, nf9, nt9, nw9, nc9, sa9, wo9, ln9, hw9, ro9, v9, ht12, hrr8, f0, f1, f2, f3⟩ := hq11
  subst n10 r8
  have hm9 := HM.ext hE8 hmR
  have hv9 := HV.ext hE8 hvR
  have her : rv8 = rf9 := hA8.trans f2.symm
  have her2 := her.symm
  subst her2
  obtain ⟨s10, s11, s12, s1, s2, s3, s4, s5, s6, s7, s8, s9, s13, s14, s15, s16, s17⟩ := f3
  subst s10 s11 s12 s1 s2 s3 s4 s5 s6 s7 s8 s9 s13 s14 s15 s16 s17
  rw [← CG_RW (by omega)] at ht12
  change Rn _ _ _ 1071 _ [.long v9, .long v8] _ _ _ _ _
  refine r_lcmp (pc := 1071) dL_law_1071 ?_
  refine t_lif_eq (pc := 1072) (tgt := 1077) dL_law_1072 (by decide) (fun c1072 => ?_) (fun c1072 => ?_)
  · refine Rn.pick (lv' := [(0, .ref b), (1, .ref a), (2, .ref (a + 41)), (3, .int (iv i))]) [0, 1, 2, 3] rfl ?_
    exact kk _ _ _ _ ⟨Γ8, rf9, cn9, nm9, so9, sz9, dr9, mn9, fr9, tt9, wt9, co9, nu9, qi9, qc9, nf9, nt9, nw9, nc9, sa9, wo9, ln9, hw9, ro9, th, dn, dd, da, df, dt, dw, dc, kn8, kd8, ka8, kf8, kt8, kw8, kc8, ht12, (EK.swapW hk9), f0, (DQ_r hdq f1), hm9, hv9, hwr9, by omega, by omega, by omega⟩
  · refine r_iconst (pc := 1075) (v := iv 0) dL_law_1075 (by decide) ?_
    exact r_zret (pc := 1076) dL_law_1076 rfl (iv_nar (by omega)) (hP _ _ _)
