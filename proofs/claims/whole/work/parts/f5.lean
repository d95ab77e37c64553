def qw_X12_refuse (Γ : TG) (cI cJ cZ : ClassId) (y n : Nat) (rf cn nm : Int) (so sz dr mn fr tt wt co : Nat → Int) (nu : Nat → Int64) (qi qc nf nt nw nc : Nat → Int) (sa : Nat → Int) (wo : Nat → Int64) (ln : Nat → Int) (hw : Nat → Int64) (ro : Nat → Int) (x1 : Int) : Option Value → MH → Nat → Prop := fun r hp1 n1 => n1 = n ∧ Tw (RW Γ cI cJ cZ y x1 cn nm so sz dr mn fr tt wt co nu qi qc nf nt nw nc sa wo ln hw ro) hp1 ∧ r = some (.int (iv x1))
set_option maxHeartbeats 4000000 in
set_option maxRecDepth 100000 in
theorem sw_X12_refuse {D : va_G} {cI cJ cZ cT : ClassId} {lo b L : Nat} {xs : Nat → Int32} {hp : MH} {n d : Nat} {Γ : TG} {y : Nat} {rf cn nm : Int} {so sz dr mn fr tt wt co : Nat → Int} {nu : Nat → Int64} {qi qc nf nt nw nc : Nat → Int} {sa : Nat → Int} {wo : Nat → Int64} {ln : Nat → Int} {hw : Nat → Int64} {ro : Nat → Int} {x1 : Int} (hd0 : 0 ≤ d) (ht : Tw (RW Γ cI cJ cZ y rf cn nm so sz dr mn fr tt wt co nu qi qc nf nt nw nc sa wo ln hw ro) hp) (hx1 : (-2147483648) ≤ x1 ∧ x1 ≤ 2147483647) : Mt (gG D cI cJ cZ cT lo b L xs) mX12_refuse d 0 0 [.ref y, .int (iv x1)] hp n (qw_X12_refuse Γ cI cJ cZ y n rf cn nm so sz dr mn fr tt wt co nu qi qc nf nt nw nc sa wo ln hw ro x1) := by
  refine Mt.of rfl (Nat.le_of_ble_eq_true rfl) ?_
  refine Rn.pick (lv' := [(0, .ref y), (1, .int (iv x1))]) [0, 1] rfl ?_
  refine r_aload_n (pc := 0) dX12_refuse_0 (i := 0) rfl rfl ?_
  refine r_iload_n (pc := 1) dX12_refuse_1 (i := 1) rfl rfl ?_
  refine t_putX (pc := 2) (ty := .int) ht RW_y fX12_142 tyX12 tyX12_ok nmX12 (by decide +kernel) (Or.inl rfl) dX12_refuse_2 (Nat.le_of_ble_eq_true rfl) rfl rfl rfl (fun hp1 ht2 => ?_)
  have ht3 := RWw_rf ht2
  refine r_iload_n (pc := 5) dX12_refuse_5 (i := 1) rfl rfl ?_
  exact r_iret (pc := 6) dX12_refuse_6 rfl ⟨rfl, ht3, rfl⟩
def qw_X12_isThere (Γ : TG) (cI cJ cZ : ClassId) (y n : Nat) (rf cn nm : Int) (so sz dr mn fr tt wt co : Nat → Int) (nu : Nat → Int64) (qi qc nf nt nw nc : Nat → Int) (sa : Nat → Int) (wo : Nat → Int64) (ln : Nat → Int) (hw : Nat → Int64) (ro : Nat → Int) (x1 : Int) : Option Value → MH → Nat → Prop := fun r hp1 n1 => n1 = n ∧ ∃ (b : Int), Tw (RW Γ cI cJ cZ y rf cn nm so sz dr mn fr tt wt co nu qi qc nf nt nw nc sa wo ln hw ro) hp1 ∧ r = some (.int (iv b)) ∧ ((b = 1 ∧ 0 ≤ x1 ∧ x1 < cn) ∨ (b = 0 ∧ ¬ (0 ≤ x1 ∧ x1 < cn)))
set_option maxHeartbeats 4000000 in
set_option maxRecDepth 100000 in
theorem sw_X12_isThere {D : va_G} {cI cJ cZ cT : ClassId} {lo b L : Nat} {xs : Nat → Int32} {hp : MH} {n d : Nat} {Γ : TG} {y : Nat} {rf cn nm : Int} {so sz dr mn fr tt wt co : Nat → Int} {nu : Nat → Int64} {qi qc nf nt nw nc : Nat → Int} {sa : Nat → Int} {wo : Nat → Int64} {ln : Nat → Int} {hw : Nat → Int64} {ro : Nat → Int} {x1 : Int} (hd0 : 0 ≤ d) (hcn : 0 ≤ cn ∧ cn ≤ 120) (ht : Tw (RW Γ cI cJ cZ y rf cn nm so sz dr mn fr tt wt co nu qi qc nf nt nw nc sa wo ln hw ro) hp) (hx1 : (-2147483648) ≤ x1 ∧ x1 ≤ 2147483647) : Mt (gG D cI cJ cZ cT lo b L xs) mX12_isThere d 0 0 [.ref y, .int (iv x1)] hp n (qw_X12_isThere Γ cI cJ cZ y n rf cn nm so sz dr mn fr tt wt co nu qi qc nf nt nw nc sa wo ln hw ro x1) := by
  refine Mt.of rfl (Nat.le_of_ble_eq_true rfl) ?_
  refine Rn.pick (lv' := [(0, .ref y), (1, .int (iv x1))]) [0, 1] rfl ?_
  refine r_iload_n (pc := 0) dX12_isThere_0 (i := 1) rfl rfl ?_
  refine t_if_lt (pc := 1) (tgt := 16) dX12_isThere_1 (by decide) (by omega) (fun c1 => ?_) (fun c1 => ?_)
  · refine r_iconst (pc := 16) (v := iv 0) dX12_isThere_16 (by decide) ?_
    exact r_zret (pc := 17) dX12_isThere_17 rfl (iv_nar (by omega)) ⟨rfl, 0, ht, rfl, (by omega)⟩
  · refine r_iload_n (pc := 4) dX12_isThere_4 (i := 1) rfl rfl ?_
    refine r_aload_n (pc := 5) dX12_isThere_5 (i := 0) rfl rfl ?_
    refine t_getE (pc := 6) (.int (iv cn)) ht (rd_of RW_y) fX12_146 dX12_isThere_6 rfl ?_
    refine t_icmp_ge (pc := 9) (tgt := 16) dX12_isThere_9 (by decide) (by omega) (by omega) (fun c9 => ?_) (fun c9 => ?_)
    · refine r_iconst (pc := 16) (v := iv 0) dX12_isThere_16 (by decide) ?_
      exact r_zret (pc := 17) dX12_isThere_17 rfl (iv_nar (by omega)) ⟨rfl, 0, ht, rfl, (by omega)⟩
    · refine r_iconst (pc := 12) (v := iv 1) dX12_isThere_12 (by decide) ?_
      refine r_goto (pc := 13) (tgt := 17) dX12_isThere_13 (by decide) ?_
      exact r_zret (pc := 17) dX12_isThere_17 rfl (iv_nar (by omega)) ⟨rfl, 1, ht, rfl, (by omega)⟩
def qw_X12_has (Γ : TG) (cI cJ cZ : ClassId) (y n : Nat) (rf cn nm : Int) (so sz dr mn fr tt wt co : Nat → Int) (nu : Nat → Int64) (qi qc nf nt nw nc : Nat → Int) (sa : Nat → Int) (wo : Nat → Int64) (ln : Nat → Int) (hw : Nat → Int64) (ro : Nat → Int) (x1 x2 : Int) : Option Value → MH → Nat → Prop := fun r hp1 n1 => n1 = n ∧ ∃ (v : Int) (b : Int), Tw (RW Γ cI cJ cZ y v cn nm so sz dr mn fr tt wt co nu qi qc nf nt nw nc sa wo ln hw ro) hp1 ∧ r = some (.int (iv b)) ∧ (-2 ≤ v ∧ v ≤ 0 ∧ (b = 0 ∨ b = 1)) ∧ ((b = 1 ∧ v = 0 ∧ 0 ≤ x1 ∧ x1 < cn ∧ so (Int.toNat x1) = x2) ∨ (b = 0 ∧ v = -1 ∧ ¬ (0 ≤ x1 ∧ x1 < cn)) ∨ (b = 0 ∧ v = -2 ∧ 0 ≤ x1 ∧ x1 < cn ∧ so (Int.toNat x1) ≠ x2))
set_option maxHeartbeats 4000000 in
set_option maxRecDepth 100000 in
theorem sw_X12_has {D : va_G} {cI cJ cZ cT : ClassId} {lo b L : Nat} {xs : Nat → Int32} {hp : MH} {n d : Nat} {Γ : TG} {y : Nat} {rf cn nm : Int} {so sz dr mn fr tt wt co : Nat → Int} {nu : Nat → Int64} {qi qc nf nt nw nc : Nat → Int} {sa : Nat → Int} {wo : Nat → Int64} {ln : Nat → Int} {hw : Nat → Int64} {ro : Nat → Int} {x1 x2 : Int} (hd0 : 1 ≤ d) (hcn : 0 ≤ cn ∧ cn ≤ 120) (hR_sorts : Rfx 121 0 4 so) (ht : Tw (RW Γ cI cJ cZ y rf cn nm so sz dr mn fr tt wt co nu qi qc nf nt nw nc sa wo ln hw ro) hp) (hx1 : (-2147483648) ≤ x1 ∧ x1 ≤ 2147483647) (hx2 : 1 ≤ x2 ∧ x2 ≤ 4) : Mt (gG D cI cJ cZ cT lo b L xs) mX12_has d 0 0 [.ref y, .int (iv x1), .int (iv x2)] hp n (qw_X12_has Γ cI cJ cZ y n rf cn nm so sz dr mn fr tt wt co nu qi qc nf nt nw nc sa wo ln hw ro x1 x2) := by
  refine Mt.of rfl (Nat.le_of_ble_eq_true rfl) ?_
  refine Rn.pick (lv' := [(0, .ref y), (1, .int (iv x1)), (2, .int (iv x2))]) [0, 1, 2] rfl ?_
  refine r_aload_n (pc := 0) dX12_has_0 (i := 0) rfl rfl ?_
  refine r_aload_n (pc := 1) dX12_has_1 (i := 0) rfl rfl ?_
  refine r_iload_n (pc := 2) dX12_has_2 (i := 1) rfl rfl ?_
  obtain ⟨fs5, hfs5⟩ := t_obj ht (rd_of RW_y)
  refine r_callV (pc := 3) (as := [.int (iv x1)]) (st := [.ref y]) kX12_149 rfl dX12_has_3 hfs5 (sw_X12_isThere (d := d - 1) (x1 := x1) (by omega) (by omega) ht (by omega)) rfl (by omega) (Nat.le_of_ble_eq_true rfl) (Nat.zero_le _) (Nat.zero_le _) rfl (fun r2 hp1 n3 hq4 => ?_)
  obtain ⟨hnn3, b_8, ht6, hrr2, hhq40⟩ := hq4
  subst n3 r2
  have hhq40 : (b_8 = 1 ∧ 0 ≤ x1 ∧ x1 < cn) ∨ (b_8 = 0 ∧ ¬ (0 ≤ x1 ∧ x1 < cn)) := hhq40
  change Rn _ _ _ 6 _ [.int (iv b_8), .ref y] _ _ _ _ _
  refine t_if_ne (pc := 6) (tgt := 13) dX12_has_6 (by decide) (by omega) (fun c6 => ?_) (fun c6 => ?_)
  · refine r_aload_n (pc := 13) dX12_has_13 (i := 0) rfl rfl ?_
    refine t_getE (pc := 14) (.ref (y + 1)) ht6 (rd_of RW_y) fX12_7 dX12_has_14 rfl ?_
    refine r_iload_n (pc := 17) dX12_has_17 (i := 1) rfl rfl ?_
    refine t_ialdX (pc := 18) (t0 := 0) ht6 (rd_of RW_sorts) dX12_has_18 rfl (by decide) (by omega) (fun b9 => ?_)
    have rb9 := (show Rfx 121 0 4 so by assumption) (Int.toNat x1) (by omega)
    refine r_iload_n (pc := 19) dX12_has_19 (i := 2) rfl rfl ?_
    refine t_icmp_eq (pc := 20) (tgt := 28) dX12_has_20 (by decide) (by omega) (by omega) (fun c20 => ?_) (fun c20 => ?_)
    · refine r_iconst (pc := 28) (v := iv 0) dX12_has_28 (by decide) ?_
      refine t_putX (pc := 29) (ty := .int) ht6 RW_y fX12_142 tyX12 tyX12_ok nmX12 (by decide +kernel) (Or.inl rfl) dX12_has_29 (Nat.le_of_ble_eq_true rfl) rfl rfl rfl (fun hp10 ht11 => ?_)
      have ht12 := RWw_rf ht11
      refine r_aload_n (pc := 32) dX12_has_32 (i := 0) rfl rfl ?_
      refine t_getE (pc := 33) (.int (iv 0)) ht12 (rd_of RW_y) fX12_142 dX12_has_33 rfl ?_
      refine t_if_ne (pc := 36) (tgt := 43) dX12_has_36 (by decide) (by omega) (fun c36 => ?_) (fun c36 => ?_)
      · refine r_iconst (pc := 43) (v := iv 0) dX12_has_43 (by decide) ?_
        exact r_zret (pc := 44) dX12_has_44 rfl (iv_nar (by omega)) ⟨rfl, 0, 0, ht12, rfl, (by omega), (by omega)⟩
      · refine r_iconst (pc := 39) (v := iv 1) dX12_has_39 (by decide) ?_
        refine r_goto (pc := 40) (tgt := 44) dX12_has_40 (by decide) ?_
        exact r_zret (pc := 44) dX12_has_44 rfl (iv_nar (by omega)) ⟨rfl, 0, 1, ht12, rfl, (by omega), (by omega)⟩
    · refine r_bipush (pc := 23) (v := iv (-2)) dX12_has_23 (by decide) ?_
      refine r_goto (pc := 25) (tgt := 29) dX12_has_25 (by decide) ?_
      refine t_putX (pc := 29) (ty := .int) ht6 RW_y fX12_142 tyX12 tyX12_ok nmX12 (by decide +kernel) (Or.inl rfl) dX12_has_29 (Nat.le_of_ble_eq_true rfl) rfl rfl rfl (fun hp13 ht14 => ?_)
      have ht15 := RWw_rf ht14
      refine r_aload_n (pc := 32) dX12_has_32 (i := 0) rfl rfl ?_
      refine t_getE (pc := 33) (.int (iv (-2))) ht15 (rd_of RW_y) fX12_142 dX12_has_33 rfl ?_
      refine t_if_ne (pc := 36) (tgt := 43) dX12_has_36 (by decide) (by omega) (fun c36 => ?_) (fun c36 => ?_)
      · refine r_iconst (pc := 43) (v := iv 0) dX12_has_43 (by decide) ?_
        exact r_zret (pc := 44) dX12_has_44 rfl (iv_nar (by omega)) ⟨rfl, (-2), 0, ht15, rfl, (by omega), (by omega)⟩
      · refine r_iconst (pc := 39) (v := iv 1) dX12_has_39 (by decide) ?_
        refine r_goto (pc := 40) (tgt := 44) dX12_has_40 (by decide) ?_
        exact r_zret (pc := 44) dX12_has_44 rfl (iv_nar (by omega)) ⟨rfl, (-2), 1, ht15, rfl, (by omega), (by omega)⟩
  · refine r_iconst (pc := 9) (v := iv (-1)) dX12_has_9 (by decide) ?_
    refine r_goto (pc := 10) (tgt := 29) dX12_has_10 (by decide) ?_
    refine t_putX (pc := 29) (ty := .int) ht6 RW_y fX12_142 tyX12 tyX12_ok nmX12 (by decide +kernel) (Or.inl rfl) dX12_has_29 (Nat.le_of_ble_eq_true rfl) rfl rfl rfl (fun hp16 ht17 => ?_)
    have ht18 := RWw_rf ht17
    refine r_aload_n (pc := 32) dX12_has_32 (i := 0) rfl rfl ?_
    refine t_getE (pc := 33) (.int (iv (-1))) ht18 (rd_of RW_y) fX12_142 dX12_has_33 rfl ?_
    refine t_if_ne (pc := 36) (tgt := 43) dX12_has_36 (by decide) (by omega) (fun c36 => ?_) (fun c36 => ?_)
    · refine r_iconst (pc := 43) (v := iv 0) dX12_has_43 (by decide) ?_
      exact r_zret (pc := 44) dX12_has_44 rfl (iv_nar (by omega)) ⟨rfl, (-1), 0, ht18, rfl, (by omega), (by omega)⟩
    · refine r_iconst (pc := 39) (v := iv 1) dX12_has_39 (by decide) ?_
      refine r_goto (pc := 40) (tgt := 44) dX12_has_40 (by decide) ?_
      exact r_zret (pc := 44) dX12_has_44 rfl (iv_nar (by omega)) ⟨rfl, (-1), 1, ht18, rfl, (by omega), (by omega)⟩
def qw_X12_haveTwo (Γ : TG) (cI cJ cZ : ClassId) (y n : Nat) (rf cn nm : Int) (so sz dr mn fr tt wt co : Nat → Int) (nu : Nat → Int64) (qi qc nf nt nw nc : Nat → Int) (sa : Nat → Int) (wo : Nat → Int64) (ln : Nat → Int) (hw : Nat → Int64) (ro : Nat → Int) (x1 x2 x3 x4 : Int) : Option Value → MH → Nat → Prop := fun r hp1 n1 => n1 = n ∧ ∃ (v : Int) (b : Int), Tw (RW Γ cI cJ cZ y v cn nm so sz dr mn fr tt wt co nu qi qc nf nt nw nc sa wo ln hw ro) hp1 ∧ r = some (.int (iv b)) ∧ (-2 ≤ v ∧ v ≤ 0 ∧ (b = 0 ∨ b = 1)) ∧ ((b = 1 ∧ v = 0 ∧ 0 ≤ x1 ∧ x1 < cn ∧ 0 ≤ x3 ∧ x3 < cn ∧ so (Int.toNat x1) = x2 ∧ so (Int.toNat x3) = x4) ∨ (b = 0 ∧ v = -1 ∧ ¬ (0 ≤ x1 ∧ x1 < cn ∧ 0 ≤ x3 ∧ x3 < cn)) ∨ (b = 0 ∧ v = -2 ∧ 0 ≤ x1 ∧ x1 < cn ∧ 0 ≤ x3 ∧ x3 < cn ∧ ¬ (so (Int.toNat x1) = x2 ∧ so (Int.toNat x3) = x4)))
set_option maxHeartbeats 4000000 in
set_option maxRecDepth 100000 in
theorem sw_X12_haveTwo {D : va_G} {cI cJ cZ cT : ClassId} {lo b L : Nat} {xs : Nat → Int32} {hp : MH} {n d : Nat} {Γ : TG} {y : Nat} {rf cn nm : Int} {so sz dr mn fr tt wt co : Nat → Int} {nu : Nat → Int64} {qi qc nf nt nw nc : Nat → Int} {sa : Nat → Int} {wo : Nat → Int64} {ln : Nat → Int} {hw : Nat → Int64} {ro : Nat → Int} {x1 x2 x3 x4 : Int} (hd0 : 1 ≤ d) (hcn : 0 ≤ cn ∧ cn ≤ 120) (hR_sorts : Rfx 121 0 4 so) (ht : Tw (RW Γ cI cJ cZ y rf cn nm so sz dr mn fr tt wt co nu qi qc nf nt nw nc sa wo ln hw ro) hp) (hx1 : (-2147483648) ≤ x1 ∧ x1 ≤ 2147483647) (hx2 : 1 ≤ x2 ∧ x2 ≤ 4) (hx3 : (-2147483648) ≤ x3 ∧ x3 ≤ 2147483647) (hx4 : 1 ≤ x4 ∧ x4 ≤ 4) : Mt (gG D cI cJ cZ cT lo b L xs) mX12_haveTwo d 0 0 [.ref y, .int (iv x1), .int (iv x2), .int (iv x3), .int (iv x4)] hp n (qw_X12_haveTwo Γ cI cJ cZ y n rf cn nm so sz dr mn fr tt wt co nu qi qc nf nt nw nc sa wo ln hw ro x1 x2 x3 x4) := by
  refine Mt.of rfl (Nat.le_of_ble_eq_true rfl) ?_
  refine Rn.pick (lv' := [(0, .ref y), (1, .int (iv x1)), (2, .int (iv x2)), (3, .int (iv x3)), (4, .int (iv x4))]) [0, 1, 2, 3, 4] rfl ?_
  refine r_aload_n (pc := 0) dX12_haveTwo_0 (i := 0) rfl rfl ?_
  refine r_aload_n (pc := 1) dX12_haveTwo_1 (i := 0) rfl rfl ?_
  refine r_iload_n (pc := 2) dX12_haveTwo_2 (i := 1) rfl rfl ?_
  obtain ⟨fs5, hfs5⟩ := t_obj ht (rd_of RW_y)
  refine r_callV (pc := 3) (as := [.int (iv x1)]) (st := [.ref y]) kX12_149 rfl dX12_haveTwo_3 hfs5 (sw_X12_isThere (d := d - 1) (x1 := x1) (by omega) (by omega) ht (by omega)) rfl (by omega) (Nat.le_of_ble_eq_true rfl) (Nat.zero_le _) (Nat.zero_le _) rfl (fun r2 hp1 n3 hq4 => ?_)
  obtain ⟨hnn3, b_8, ht6, hrr2, hhq40⟩ := hq4
  subst n3 r2
  have hhq40 : (b_8 = 1 ∧ 0 ≤ x1 ∧ x1 < cn) ∨ (b_8 = 0 ∧ ¬ (0 ≤ x1 ∧ x1 < cn)) := hhq40
  change Rn _ _ _ 6 _ [.int (iv b_8), .ref y] _ _ _ _ _
  refine t_if_eq (pc := 6) (tgt := 17) dX12_haveTwo_6 (by decide) (by omega) (fun c6 => ?_) (fun c6 => ?_)
  · refine r_iconst (pc := 17) (v := iv (-1)) dX12_haveTwo_17 (by decide) ?_
    refine r_goto (pc := 18) (tgt := 48) dX12_haveTwo_18 (by decide) ?_
    refine t_putX (pc := 48) (ty := .int) ht6 RW_y fX12_142 tyX12 tyX12_ok nmX12 (by decide +kernel) (Or.inl rfl) dX12_haveTwo_48 (Nat.le_of_ble_eq_true rfl) rfl rfl rfl (fun hp9 ht10 => ?_)
    have ht11 := RWw_rf ht10
    refine r_aload_n (pc := 51) dX12_haveTwo_51 (i := 0) rfl rfl ?_
    refine t_getE (pc := 52) (.int (iv (-1))) ht11 (rd_of RW_y) fX12_142 dX12_haveTwo_52 rfl ?_
    refine t_if_ne (pc := 55) (tgt := 62) dX12_haveTwo_55 (by decide) (by omega) (fun c55 => ?_) (fun c55 => ?_)
    · refine r_iconst (pc := 62) (v := iv 0) dX12_haveTwo_62 (by decide) ?_
      exact r_zret (pc := 63) dX12_haveTwo_63 rfl (iv_nar (by omega)) ⟨rfl, (-1), 0, ht11, rfl, (by omega), (by omega)⟩
    · refine r_iconst (pc := 58) (v := iv 1) dX12_haveTwo_58 (by decide) ?_
      refine r_goto (pc := 59) (tgt := 63) dX12_haveTwo_59 (by decide) ?_
      exact r_zret (pc := 63) dX12_haveTwo_63 rfl (iv_nar (by omega)) ⟨rfl, (-1), 1, ht11, rfl, (by omega), (by omega)⟩
  · refine r_aload_n (pc := 9) dX12_haveTwo_9 (i := 0) rfl rfl ?_
    refine r_iload_n (pc := 10) dX12_haveTwo_10 (i := 3) rfl rfl ?_
    obtain ⟨fs16, hfs16⟩ := t_obj ht6 (rd_of RW_y)
    refine r_callV (pc := 11) (as := [.int (iv x3)]) (st := [.ref y]) kX12_149 rfl dX12_haveTwo_11 hfs16 (sw_X12_isThere (d := d - 1) (x1 := x3) (by omega) (by omega) ht6 (by omega)) rfl (by omega) (Nat.le_of_ble_eq_true rfl) (Nat.zero_le _) (Nat.zero_le _) rfl (fun r13 hp12 n14 hq15 => ?_)
    obtain ⟨hnn14, b_19, ht17, hrr13, hhq150⟩ := hq15
    subst n14 r13
    have hhq150 : (b_19 = 1 ∧ 0 ≤ x3 ∧ x3 < cn) ∨ (b_19 = 0 ∧ ¬ (0 ≤ x3 ∧ x3 < cn)) := hhq150
    change Rn _ _ _ 14 _ [.int (iv b_19), .ref y] _ _ _ _ _
    refine t_if_ne (pc := 14) (tgt := 21) dX12_haveTwo_14 (by decide) (by omega) (fun c14 => ?_) (fun c14 => ?_)
    · refine r_aload_n (pc := 21) dX12_haveTwo_21 (i := 0) rfl rfl ?_
      refine t_getE (pc := 22) (.ref (y + 1)) ht17 (rd_of RW_y) fX12_7 dX12_haveTwo_22 rfl ?_
      refine r_iload_n (pc := 25) dX12_haveTwo_25 (i := 1) rfl rfl ?_
      refine t_ialdX (pc := 26) (t0 := 0) ht17 (rd_of RW_sorts) dX12_haveTwo_26 rfl (by decide) (by omega) (fun b20 => ?_)
      have rb20 := (show Rfx 121 0 4 so by assumption) (Int.toNat x1) (by omega)
      refine r_iload_n (pc := 27) dX12_haveTwo_27 (i := 2) rfl rfl ?_
      refine t_icmp_ne (pc := 28) (tgt := 42) dX12_haveTwo_28 (by decide) (by omega) (by omega) (fun c28 => ?_) (fun c28 => ?_)
      · refine r_bipush (pc := 42) (v := iv (-2)) dX12_haveTwo_42 (by decide) ?_
        refine r_goto (pc := 44) (tgt := 48) dX12_haveTwo_44 (by decide) ?_
        refine t_putX (pc := 48) (ty := .int) ht17 RW_y fX12_142 tyX12 tyX12_ok nmX12 (by decide +kernel) (Or.inl rfl) dX12_haveTwo_48 (Nat.le_of_ble_eq_true rfl) rfl rfl rfl (fun hp21 ht22 => ?_)
        have ht23 := RWw_rf ht22
        refine r_aload_n (pc := 51) dX12_haveTwo_51 (i := 0) rfl rfl ?_
        refine t_getE (pc := 52) (.int (iv (-2))) ht23 (rd_of RW_y) fX12_142 dX12_haveTwo_52 rfl ?_
        refine t_if_ne (pc := 55) (tgt := 62) dX12_haveTwo_55 (by decide) (by omega) (fun c55 => ?_) (fun c55 => ?_)
        · refine r_iconst (pc := 62) (v := iv 0) dX12_haveTwo_62 (by decide) ?_
          exact r_zret (pc := 63) dX12_haveTwo_63 rfl (iv_nar (by omega)) ⟨rfl, (-2), 0, ht23, rfl, (by omega), (by omega)⟩
        · refine r_iconst (pc := 58) (v := iv 1) dX12_haveTwo_58 (by decide) ?_
          refine r_goto (pc := 59) (tgt := 63) dX12_haveTwo_59 (by decide) ?_
          exact r_zret (pc := 63) dX12_haveTwo_63 rfl (iv_nar (by omega)) ⟨rfl, (-2), 1, ht23, rfl, (by omega), (by omega)⟩
      · refine r_aload_n (pc := 31) dX12_haveTwo_31 (i := 0) rfl rfl ?_
        refine t_getE (pc := 32) (.ref (y + 1)) ht17 (rd_of RW_y) fX12_7 dX12_haveTwo_32 rfl ?_
        refine r_iload_n (pc := 35) dX12_haveTwo_35 (i := 3) rfl rfl ?_
        refine t_ialdX (pc := 36) (t0 := 0) ht17 (rd_of RW_sorts) dX12_haveTwo_36 rfl (by decide) (by omega) (fun b24 => ?_)
        have rb24 := (show Rfx 121 0 4 so by assumption) (Int.toNat x3) (by omega)
        refine r_iload (pc := 37) dX12_haveTwo_37 rfl ?_
        refine t_icmp_eq (pc := 39) (tgt := 47) dX12_haveTwo_39 (by decide) (by omega) (by omega) (fun c39 => ?_) (fun c39 => ?_)
        · refine r_iconst (pc := 47) (v := iv 0) dX12_haveTwo_47 (by decide) ?_
          refine t_putX (pc := 48) (ty := .int) ht17 RW_y fX12_142 tyX12 tyX12_ok nmX12 (by decide +kernel) (Or.inl rfl) dX12_haveTwo_48 (Nat.le_of_ble_eq_true rfl) rfl rfl rfl (fun hp25 ht26 => ?_)
          have ht27 := RWw_rf ht26
          refine r_aload_n (pc := 51) dX12_haveTwo_51 (i := 0) rfl rfl ?_
          refine t_getE (pc := 52) (.int (iv 0)) ht27 (rd_of RW_y) fX12_142 dX12_haveTwo_52 rfl ?_
          refine t_if_ne (pc := 55) (tgt := 62) dX12_haveTwo_55 (by decide) (by omega) (fun c55 => ?_) (fun c55 => ?_)
          · refine r_iconst (pc := 62) (v := iv 0) dX12_haveTwo_62 (by decide) ?_
            exact r_zret (pc := 63) dX12_haveTwo_63 rfl (iv_nar (by omega)) ⟨rfl, 0, 0, ht27, rfl, (by omega), (by omega)⟩
          · refine r_iconst (pc := 58) (v := iv 1) dX12_haveTwo_58 (by decide) ?_
            refine r_goto (pc := 59) (tgt := 63) dX12_haveTwo_59 (by decide) ?_
            exact r_zret (pc := 63) dX12_haveTwo_63 rfl (iv_nar (by omega)) ⟨rfl, 0, 1, ht27, rfl, (by omega), (by omega)⟩
        · refine r_bipush (pc := 42) (v := iv (-2)) dX12_haveTwo_42 (by decide) ?_
          refine r_goto (pc := 44) (tgt := 48) dX12_haveTwo_44 (by decide) ?_
          refine t_putX (pc := 48) (ty := .int) ht17 RW_y fX12_142 tyX12 tyX12_ok nmX12 (by decide +kernel) (Or.inl rfl) dX12_haveTwo_48 (Nat.le_of_ble_eq_true rfl) rfl rfl rfl (fun hp28 ht29 => ?_)
          have ht30 := RWw_rf ht29
          refine r_aload_n (pc := 51) dX12_haveTwo_51 (i := 0) rfl rfl ?_
          refine t_getE (pc := 52) (.int (iv (-2))) ht30 (rd_of RW_y) fX12_142 dX12_haveTwo_52 rfl ?_
          refine t_if_ne (pc := 55) (tgt := 62) dX12_haveTwo_55 (by decide) (by omega) (fun c55 => ?_) (fun c55 => ?_)
          · refine r_iconst (pc := 62) (v := iv 0) dX12_haveTwo_62 (by decide) ?_
            exact r_zret (pc := 63) dX12_haveTwo_63 rfl (iv_nar (by omega)) ⟨rfl, (-2), 0, ht30, rfl, (by omega), (by omega)⟩
          · refine r_iconst (pc := 58) (v := iv 1) dX12_haveTwo_58 (by decide) ?_
            refine r_goto (pc := 59) (tgt := 63) dX12_haveTwo_59 (by decide) ?_
            exact r_zret (pc := 63) dX12_haveTwo_63 rfl (iv_nar (by omega)) ⟨rfl, (-2), 1, ht30, rfl, (by omega), (by omega)⟩
    · refine r_iconst (pc := 17) (v := iv (-1)) dX12_haveTwo_17 (by decide) ?_
      refine r_goto (pc := 18) (tgt := 48) dX12_haveTwo_18 (by decide) ?_
      refine t_putX (pc := 48) (ty := .int) ht17 RW_y fX12_142 tyX12 tyX12_ok nmX12 (by decide +kernel) (Or.inl rfl) dX12_haveTwo_48 (Nat.le_of_ble_eq_true rfl) rfl rfl rfl (fun hp31 ht32 => ?_)
      have ht33 := RWw_rf ht32
      refine r_aload_n (pc := 51) dX12_haveTwo_51 (i := 0) rfl rfl ?_
      refine t_getE (pc := 52) (.int (iv (-1))) ht33 (rd_of RW_y) fX12_142 dX12_haveTwo_52 rfl ?_
      refine t_if_ne (pc := 55) (tgt := 62) dX12_haveTwo_55 (by decide) (by omega) (fun c55 => ?_) (fun c55 => ?_)
      · refine r_iconst (pc := 62) (v := iv 0) dX12_haveTwo_62 (by decide) ?_
        exact r_zret (pc := 63) dX12_haveTwo_63 rfl (iv_nar (by omega)) ⟨rfl, (-1), 0, ht33, rfl, (by omega), (by omega)⟩
      · refine r_iconst (pc := 58) (v := iv 1) dX12_haveTwo_58 (by decide) ?_
        refine r_goto (pc := 59) (tgt := 63) dX12_haveTwo_59 (by decide) ?_
        exact r_zret (pc := 63) dX12_haveTwo_63 rfl (iv_nar (by omega)) ⟨rfl, (-1), 1, ht33, rfl, (by omega), (by omega)⟩
def qw_X12_ask (Γ : TG) (cI cJ cZ : ClassId) (y n : Nat) (rf cn nm : Int) (so sz dr mn fr tt wt co : Nat → Int) (nu : Nat → Int64) (qi qc nf nt nw nc : Nat → Int) (sa : Nat → Int) (wo : Nat → Int64) (ln : Nat → Int) (hw : Nat → Int64) (ro : Nat → Int) (x1 x2 x3 x4 : Int) : Option Value → MH → Nat → Prop := fun r hp1 n1 => n1 = n ∧ ∃ (rf' : Int) (cn' : Int) (nm' : Int) (so' : Nat → Int) (sz' : Nat → Int) (dr' : Nat → Int) (mn' : Nat → Int) (fr' : Nat → Int) (tt' : Nat → Int) (wt' : Nat → Int) (co' : Nat → Int) (nu' : Nat → Int64) (qi' : Nat → Int) (qc' : Nat → Int) (nf' : Nat → Int) (nt' : Nat → Int) (nw' : Nat → Int) (nc' : Nat → Int) (sa' : Nat → Int) (wo' : Nat → Int64) (ln' : Nat → Int) (hw' : Nat → Int64) (ro' : Nat → Int) (v' : Int64), Tw (RW Γ cI cJ cZ y rf' cn' nm' so' sz' dr' mn' fr' tt' wt' co' nu' qi' qc' nf' nt' nw' nc' sa' wo' ln' hw' ro') hp1 ∧ r = some (.long v') ∧ (RK rf' cn' nm' so' sz' dr' mn' fr' tt' wt' co' nu' qi' qc' nf' nt' nw' nc') ∧ (dfE sz dr mn fr tt wt co sz' dr' mn' fr' tt' wt' co') ∧ (rf' = hdQ (x2 = 16 ∨ x2 = 17) (dn2 cn so x1 1 x4 1 (x2 = 17 ∧ (x3 < 0 ∨ (sz (Int.toNat x1)) ≤ x3))) (dn1 cn so x1 1 (x2 < 0 ∨ 17 < x2 ∨ ((x2 = 0 ∨ x2 = 2) ∧ (x3 < 0 ∨ (sz (Int.toNat x1)) ≤ x3)) ∨ (x2 = 11 ∧ (x3 < 0 ∨ (mn (Int.toNat x1)) ≤ x3)) ∨ (12 ≤ x2 ∧ x2 ≤ 15 ∧ (x3 < 0 ∨ (sz (Int.toNat x1)) ≤ x3 ∨ x4 < 0 ∨ (sz (Int.toNat x1)) ≤ x4 ∨ x3 = x4))))) ∧ (cn' = cn ∧ so' = so ∧ sz' = sz ∧ dr' = dr ∧ mn' = mn ∧ fr' = fr ∧ tt' = tt ∧ wt' = wt ∧ co' = co ∧ nu' = nu ∧ qi' = qi ∧ qc' = qc ∧ sa' = sa ∧ wo' = wo ∧ ln' = ln ∧ hw' = hw ∧ ro' = ro)
set_option maxHeartbeats 4000000 in
set_option maxRecDepth 100000 in
theorem zw_X12_ask {D : va_G} {cI cJ cZ cT : ClassId} {lo b L : Nat} {xs : Nat → Int32} {hp : MH} {n d : Nat} {Γ : TG} {y : Nat} {rf cn nm : Int} {so sz dr mn fr tt wt co : Nat → Int} {nu : Nat → Int64} {qi qc nf nt nw nc : Nat → Int} {sa : Nat → Int} {wo : Nat → Int64} {ln : Nat → Int} {hw : Nat → Int64} {ro : Nat → Int} {x1 x2 x3 x4 : Int} (hd0 : 5 ≤ d) (hk : RK rf cn nm so sz dr mn fr tt wt co nu qi qc nf nt nw nc) (ht : Tw (RW Γ cI cJ cZ y rf cn nm so sz dr mn fr tt wt co nu qi qc nf nt nw nc sa wo ln hw ro) hp) (hx1 : (-2147483648) ≤ x1 ∧ x1 ≤ 2147483647) (hx2 : (-2147483648) ≤ x2 ∧ x2 ≤ 2147483647) (hx3 : (-2147483648) ≤ x3 ∧ x3 ≤ 2147483647) (hx4 : (-2147483648) ≤ x4 ∧ x4 ≤ 2147483647) : Mt (gG D cI cJ cZ cT lo b L xs) mX12_ask d 0 0 [.ref y, .int (iv x1), .int (iv x2), .int (iv x3), .int (iv x4)] hp n (qw_X12_ask Γ cI cJ cZ y n rf cn nm so sz dr mn fr tt wt co nu qi qc nf nt nw nc sa wo ln hw ro x1 x2 x3 x4) := by
  refine Mt.of rfl (Nat.le_of_ble_eq_true rfl) ?_
  refine Rn.pick (lv' := [(0, .ref y), (1, .int (iv x1)), (2, .int (iv x2)), (3, .int (iv x3)), (4, .int (iv x4))]) [0, 1, 2, 3, 4] rfl ?_
  obtain ⟨hR_sorts, hR_sizes, hR_directs, hR_many, hR_from, hR_to, hR_weight, hR_cost, hR_inPart, hR_partCount, hcn, hrf, hnm, hdf, hgr, hpa, hsz⟩ := id hk
  refine r_iload_n (pc := 0) dX12_ask_0 (i := 2) rfl rfl ?_
  refine r_bipush (pc := 1) (v := iv 16) dX12_ask_1 (by decide) ?_
  have B17 : ∀ hp17 : MH, Tw (RW Γ cI cJ cZ y rf cn nm so sz dr mn fr tt wt co nu qi qc nf nt nw nc sa wo ln hw ro) hp17 → ∀  (u17_0 : Int), 0 ≤ u17_0 ∧ u17_0 ≤ 1 ∧ ((u17_0 = 1 ∧ (x2 = 16 ∨ x2 = 17)) ∨ (u17_0 = 0 ∧ ¬ (x2 = 16 ∨ x2 = 17))) → Rn (gG D cI cJ cZ cT lo b L xs) mX12_ask d 17 [(0, .ref y), (1, .int (iv x1)), (2, .int (iv x2)), (3, .int (iv x3)), (4, .int (iv x4))] [.int (iv u17_0)] hp17 n 0 0 (qw_X12_ask Γ cI cJ cZ y n rf cn nm so sz dr mn fr tt wt co nu qi qc nf nt nw nc sa wo ln hw ro x1 x2 x3 x4) := by
    intro hp17 ht17 u17_0 hf17
    refine r_istore (pc := 17) (lv' := [(5, .int (iv u17_0)), (0, .ref y), (1, .int (iv x1)), (2, .int (iv x2)), (3, .int (iv x3)), (4, .int (iv x4))]) dX12_ask_17 (by decide) rfl ?_
    refine r_iload (pc := 19) dX12_ask_19 rfl ?_
    have B50 : ∀ rf50 : Int, ∀ hp50 : MH, Tw (RW Γ cI cJ cZ y rf50 cn nm so sz dr mn fr tt wt co nu qi qc nf nt nw nc sa wo ln hw ro) hp50 → 0 ≤ x1 ∧ x1 ≤ 119 ∧ -2147483648 ≤ rf50 ∧ rf50 ≤ 2147483647 ∧ x1 < cn ∧ so (Int.toNat x1) = 1 ∧ ((x2 = 16 ∨ x2 = 17) → 0 ≤ x4 ∧ x4 < cn) ∧ ((x2 = 16 ∨ x2 = 17) → so (Int.toNat x4) = 1) ∧ rf50 = 0 → Rn (gG D cI cJ cZ cT lo b L xs) mX12_ask d 50 [(0, .ref y), (1, .int (iv x1)), (2, .int (iv x2)), (3, .int (iv x3)), (4, .int (iv x4))] [] hp50 n 0 0 (qw_X12_ask Γ cI cJ cZ y n rf cn nm so sz dr mn fr tt wt co nu qi qc nf nt nw nc sa wo ln hw ro x1 x2 x3 x4) := by
      intro rf50 hp50 ht50 hf50
      refine r_aload_n (pc := 50) dX12_ask_50 (i := 0) rfl rfl ?_
      have rsz45 := hR_sizes (Int.toNat x1) (by omega)
      have rsy45 := hsz x1 (by omega) (by omega)
      have hen := hgr x1 (by omega) (by omega) (by omega)
      have hEn : enP fr tt mn sz x1 := hen.2
      have rmn45 := hR_many (Int.toNat x1) (by omega)
      refine t_getE (pc := 51) (.ref (y + 2)) ht50 (rd_of RW_y) fX12_13 dX12_ask_51 rfl ?_
      refine r_iload_n (pc := 54) dX12_ask_54 (i := 1) rfl rfl ?_
      refine t_ialdX (pc := 55) (t0 := 0) ht50 (rd_of RW_sizes) dX12_ask_55 rfl (by decide) (by omega) (fun b1 => ?_)
      have rb1 := (show Rfx 121 0 16 sz by assumption) (Int.toNat x1) (by omega)
      refine r_istore (pc := 56) (lv' := [(6, .int (iv (sz (Int.toNat x1)))), (0, .ref y), (1, .int (iv x1)), (2, .int (iv x2)), (3, .int (iv x3)), (4, .int (iv x4))]) dX12_ask_56 (by decide) rfl ?_
      refine r_iload_n (pc := 58) dX12_ask_58 (i := 2) rfl rfl ?_
      refine r_bipush (pc := 59) (v := iv 12) dX12_ask_59 (by decide) ?_
      have B75 : ∀ hp75 : MH, Tw (RW Γ cI cJ cZ y rf50 cn nm so sz dr mn fr tt wt co nu qi qc nf nt nw nc sa wo ln hw ro) hp75 → ∀  (u75_0 : Int), 0 ≤ u75_0 ∧ u75_0 ≤ 1 ∧ ((u75_0 = 1 ∧ 12 ≤ x2 ∧ x2 ≤ 15) ∨ (u75_0 = 0 ∧ ¬ (12 ≤ x2 ∧ x2 ≤ 15))) → Rn (gG D cI cJ cZ cT lo b L xs) mX12_ask d 75 [(0, .ref y), (1, .int (iv x1)), (2, .int (iv x2)), (3, .int (iv x3)), (4, .int (iv x4)), (6, .int (iv (sz (Int.toNat x1))))] [.int (iv u75_0)] hp75 n 0 0 (qw_X12_ask Γ cI cJ cZ y n rf cn nm so sz dr mn fr tt wt co nu qi qc nf nt nw nc sa wo ln hw ro x1 x2 x3 x4) := by
        intro hp75 ht75 u75_0 hf75
        refine r_istore (pc := 75) (lv' := [(7, .int (iv u75_0)), (0, .ref y), (1, .int (iv x1)), (2, .int (iv x2)), (3, .int (iv x3)), (4, .int (iv x4)), (6, .int (iv (sz (Int.toNat x1))))]) dX12_ask_75 (by decide) rfl ?_
        refine r_iload_n (pc := 77) dX12_ask_77 (i := 2) rfl rfl ?_
        have B102 : ∀ hp102 : MH, Tw (RW Γ cI cJ cZ y rf50 cn nm so sz dr mn fr tt wt co nu qi qc nf nt nw nc sa wo ln hw ro) hp102 → ∀  (u102_0 : Int), 0 ≤ u102_0 ∧ u102_0 ≤ 1 ∧ ((u102_0 = 1 ∧ (x2 = 0 ∨ x2 = 2 ∨ (12 ≤ x2 ∧ x2 ≤ 15) ∨ x2 = 17)) ∨ (u102_0 = 0 ∧ ¬ (x2 = 0 ∨ x2 = 2 ∨ (12 ≤ x2 ∧ x2 ≤ 15) ∨ x2 = 17))) → Rn (gG D cI cJ cZ cT lo b L xs) mX12_ask d 102 [(0, .ref y), (1, .int (iv x1)), (2, .int (iv x2)), (3, .int (iv x3)), (4, .int (iv x4)), (6, .int (iv (sz (Int.toNat x1)))), (7, .int (iv u75_0))] [.int (iv u102_0)] hp102 n 0 0 (qw_X12_ask Γ cI cJ cZ y n rf cn nm so sz dr mn fr tt wt co nu qi qc nf nt nw nc sa wo ln hw ro x1 x2 x3 x4) := by
          intro hp102 ht102 u102_0 hf102
          refine r_istore (pc := 102) (lv' := [(8, .int (iv u102_0)), (0, .ref y), (1, .int (iv x1)), (2, .int (iv x2)), (3, .int (iv x3)), (4, .int (iv x4)), (6, .int (iv (sz (Int.toNat x1)))), (7, .int (iv u75_0))]) dX12_ask_102 (by decide) rfl ?_
          refine r_iload_n (pc := 104) dX12_ask_104 (i := 2) rfl rfl ?_
          have B172 : ∀ hp172 : MH, Tw (RW Γ cI cJ cZ y rf50 cn nm so sz dr mn fr tt wt co nu qi qc nf nt nw nc sa wo ln hw ro) hp172 → ((x2 < 0 ∨ 17 < x2 ∨ ((x2 = 0 ∨ x2 = 2 ∨ (12 ≤ x2 ∧ x2 ≤ 15) ∨ x2 = 17) ∧ (x3 < 0 ∨ (sz (Int.toNat x1)) ≤ x3)) ∨ (12 ≤ x2 ∧ x2 ≤ 15 ∧ (x4 < 0 ∨ (sz (Int.toNat x1)) ≤ x4 ∨ x3 = x4)) ∨ (x2 = 11 ∧ (x3 < 0 ∨ (mn (Int.toNat x1)) ≤ x3)))) → Rn (gG D cI cJ cZ cT lo b L xs) mX12_ask d 172 [(0, .ref y)] [] hp172 n 0 0 (qw_X12_ask Γ cI cJ cZ y n rf cn nm so sz dr mn fr tt wt co nu qi qc nf nt nw nc sa wo ln hw ro x1 x2 x3 x4) := by
            intro hp172 ht172 hf172
            refine r_aload_n (pc := 172) dX12_ask_172 (i := 0) rfl rfl ?_
            refine r_bipush (pc := 173) (v := iv (-3)) dX12_ask_173 (by decide) ?_
            obtain ⟨fs6, hfs6⟩ := t_obj ht172 (rd_of RW_y)
            refine r_callV (pc := 175) (as := [.int (iv (-3))]) (st := []) kX12_153 rfl dX12_ask_175 hfs6 (sw_X12_refuse (d := d - 1) (x1 := (-3)) (by omega) ht172 (by omega)) rfl (by omega) (Nat.le_of_ble_eq_true rfl) (Nat.zero_le _) (Nat.zero_le _) rfl (fun r3 hp2 n4 hq5 => ?_)
            obtain ⟨hnn4, ht7, hrr3⟩ := hq5
            subst n4 r3
            change Rn _ _ _ 178 _ [.int (iv (-3))] _ _ _ _ _
            refine r_pop (pc := 178) dX12_ask_178 rfl ?_
            refine r_lconst (pc := 179) (v := 0) dX12_ask_179 (by decide) ?_
            exact r_lret (pc := 180) dX12_ask_180 rfl ⟨rfl, (-3), cn, nm, so, sz, dr, mn, fr, tt, wt, co, nu, qi, qc, nf, nt, nw, nc, sa, wo, ln, hw, ro, (0 : Int64), ht7, rfl, (by (first | assumption | exact RK_set hk (by omega) (by omega))), (by (first | assumption | exact df_r _ _ _ _ _ _ _)), (by (by_cases h9 : x2 = 16 ∨ x2 = 17 <;> first | (rw [hdQ_y h9]; exact dn2_b (by omega) (by omega) (by omega)) | (rw [hdQ_n h9]; exact dn1_b (by omega) (by omega) (by omega)))), (by exact ⟨rfl, rfl, rfl, rfl, rfl, rfl, rfl, rfl, rfl, rfl, rfl, rfl, rfl, rfl, rfl, rfl, rfl⟩)⟩
          refine t_if_lt (pc := 105) (tgt := 172) dX12_ask_105 (by decide) (by omega) (fun c105 => ?_) (fun c105 => ?_)
          · refine Rn.pick (lv' := [(0, .ref y)]) [1] rfl ?_
            exact B172 _ ht102 (by omega)
          · refine r_iload_n (pc := 108) dX12_ask_108 (i := 2) rfl rfl ?_
            refine r_bipush (pc := 109) (v := iv 17) dX12_ask_109 (by decide) ?_
            refine t_icmp_gt (pc := 111) (tgt := 172) dX12_ask_111 (by decide) (by omega) (by omega) (fun c111 => ?_) (fun c111 => ?_)
            · refine Rn.pick (lv' := [(0, .ref y)]) [1] rfl ?_
              exact B172 _ ht102 (by omega)
            · refine r_iload (pc := 114) dX12_ask_114 rfl ?_
              have B129 : ∀ hp129 : MH, Tw (RW Γ cI cJ cZ y rf50 cn nm so sz dr mn fr tt wt co nu qi qc nf nt nw nc sa wo ln hw ro) hp129 → ((x2 = 0 ∨ x2 = 2 ∨ (12 ≤ x2 ∧ x2 ≤ 15) ∨ x2 = 17) → 0 ≤ x3 ∧ x3 < (sz (Int.toNat x1))) ∧ 0 ≤ x2 ∧ x2 ≤ 17 → Rn (gG D cI cJ cZ cT lo b L xs) mX12_ask d 129 [(0, .ref y), (1, .int (iv x1)), (2, .int (iv x2)), (3, .int (iv x3)), (4, .int (iv x4)), (6, .int (iv (sz (Int.toNat x1)))), (7, .int (iv u75_0))] [] hp129 n 0 0 (qw_X12_ask Γ cI cJ cZ y n rf cn nm so sz dr mn fr tt wt co nu qi qc nf nt nw nc sa wo ln hw ro x1 x2 x3 x4) := by
                intro hp129 ht129 hf129
                refine r_iload (pc := 129) dX12_ask_129 rfl ?_
                have B152 : ∀ hp152 : MH, Tw (RW Γ cI cJ cZ y rf50 cn nm so sz dr mn fr tt wt co nu qi qc nf nt nw nc sa wo ln hw ro) hp152 → ((x2 = 0 ∨ x2 = 2 ∨ (12 ≤ x2 ∧ x2 ≤ 15) ∨ x2 = 17) → 0 ≤ x3 ∧ x3 < (sz (Int.toNat x1))) ∧ ((12 ≤ x2 ∧ x2 ≤ 15) → 0 ≤ x4 ∧ x4 < (sz (Int.toNat x1)) ∧ x3 ≠ x4) ∧ 0 ≤ x2 ∧ x2 ≤ 17 → Rn (gG D cI cJ cZ cT lo b L xs) mX12_ask d 152 [(0, .ref y), (1, .int (iv x1)), (2, .int (iv x2)), (3, .int (iv x3)), (4, .int (iv x4)), (6, .int (iv (sz (Int.toNat x1))))] [] hp152 n 0 0 (qw_X12_ask Γ cI cJ cZ y n rf cn nm so sz dr mn fr tt wt co nu qi qc nf nt nw nc sa wo ln hw ro x1 x2 x3 x4) := by
                  intro hp152 ht152 hf152
                  refine r_iload_n (pc := 152) dX12_ask_152 (i := 2) rfl rfl ?_
                  refine r_bipush (pc := 153) (v := iv 11) dX12_ask_153 (by decide) ?_
                  have B181 : ∀ hp181 : MH, Tw (RW Γ cI cJ cZ y rf50 cn nm so sz dr mn fr tt wt co nu qi qc nf nt nw nc sa wo ln hw ro) hp181 → ((x2 = 0 ∨ x2 = 2 ∨ (12 ≤ x2 ∧ x2 ≤ 15) ∨ x2 = 17) → 0 ≤ x3 ∧ x3 < (sz (Int.toNat x1))) ∧ ((12 ≤ x2 ∧ x2 ≤ 15) → 0 ≤ x4 ∧ x4 < (sz (Int.toNat x1)) ∧ x3 ≠ x4) ∧ (x2 = 11 → 0 ≤ x3 ∧ x3 < (mn (Int.toNat x1))) ∧ 0 ≤ x2 ∧ x2 ≤ 17 → Rn (gG D cI cJ cZ cT lo b L xs) mX12_ask d 181 [(0, .ref y), (1, .int (iv x1)), (2, .int (iv x2)), (3, .int (iv x3)), (4, .int (iv x4)), (6, .int (iv (sz (Int.toNat x1))))] [] hp181 n 0 0 (qw_X12_ask Γ cI cJ cZ y n rf cn nm so sz dr mn fr tt wt co nu qi qc nf nt nw nc sa wo ln hw ro x1 x2 x3 x4) := by
                    intro hp181 ht181 hf181
                    refine r_aload_n (pc := 181) dX12_ask_181 (i := 0) rfl rfl ?_
                    refine r_iload_n (pc := 182) dX12_ask_182 (i := 1) rfl rfl ?_
                    refine r_iconst (pc := 183) (v := iv (-1)) dX12_ask_183 (by decide) ?_
                    refine t_callVV (pc := 184) (as := [.int (iv x1), .int (iv (-1))]) (st := []) ht181 (rd_of RW_y) kX12_234 rfl dX12_ask_184 (t_X12_joinsOf (d := d - 1) (x1 := x1) (x2 := (-1)) (by omega) (rd_of RW_y) (rd_xr (rd_of RW_many) (show Rfx 121 0 60 mn by assumption)) (rd_xr (rd_of RW_from) (show Rfx 7260 0 15 fr by assumption)) (rd_xr (rd_of RW_to) (show Rfx 7260 0 15 tt by assumption)) RW_beside ht181 (by omega) (by omega)) rfl (by omega) (Nat.le_of_ble_eq_true rfl) rfl (fun hp9 ht10 => ?_)
                    refine r_iload_n (pc := 187) dX12_ask_187 (i := 2) rfl rfl ?_
                    by_cases c12 : x2 = 0
                    · refine r_tableIn (pc := 188) (off := 80) (tgt := 268) dX12_ask_188 (by rw [iv_toInt (by omega) (by omega)]; omega) (by rw [iv_toInt (by omega) (by omega)]; omega) (by rw [iv_toInt (by omega) (by omega), c12]; decide) (by decide) ?_
                      refine r_aload_n (pc := 268) dX12_ask_268 (i := 0) rfl rfl ?_
                      refine r_iload_n (pc := 269) dX12_ask_269 (i := 1) rfl rfl ?_
                      refine r_iload_n (pc := 270) dX12_ask_270 (i := 3) rfl rfl ?_
                      refine t_callVJ (pc := 271) (as := [.int (iv x1), .int (iv x3)]) (st := []) ht10 (rd_of RW_y) kX12_310 rfl dX12_ask_271 (t_X12_order (d := d - 1) (x1 := x1) (x2 := x3) (by omega) (rd_of RW_y) (rd_xr (rd_of RW_sizes) (show Rfx 121 0 16 sz by assumption)) (rd_xr (rd_of RW_directs) (show Rfx 121 0 1 dr by assumption)) (rd_xr (rd_of RW_many) (show Rfx 121 0 60 mn by assumption)) (rd_xr (rd_of RW_from) (show Rfx 7260 0 15 fr by assumption)) (rd_xr (rd_of RW_to) (show Rfx 7260 0 15 tt by assumption)) ht10 (by omega) (by omega)) rfl (by omega) (Nat.le_of_ble_eq_true rfl) rfl (fun hp13 y15 ht14 _ => ?_)
                      exact r_lret (pc := 274) dX12_ask_274 rfl ⟨rfl, rf50, cn, nm, so, sz, dr, mn, fr, tt, wt, co, nu, qi, qc, nf, nt, nw, nc, sa, wo, ln, hw, ro, y15, ht14, rfl, (by (first | assumption | exact RK_set hk (by omega) (by omega))), (by (first | assumption | exact df_r _ _ _ _ _ _ _)), (by (by_cases h9 : x2 = 16 ∨ x2 = 17 <;> first | (rw [hdQ_y h9]; exact dn2_m (by omega) (by omega) (by omega)) | (rw [hdQ_n h9]; exact dn1_m (by omega) (by omega) (by omega)))), (by exact ⟨rfl, rfl, rfl, rfl, rfl, rfl, rfl, rfl, rfl, rfl, rfl, rfl, rfl, rfl, rfl, rfl, rfl⟩)⟩
                    by_cases c16 : x2 = 1
                    · refine r_tableIn (pc := 188) (off := 87) (tgt := 275) dX12_ask_188 (by rw [iv_toInt (by omega) (by omega)]; omega) (by rw [iv_toInt (by omega) (by omega)]; omega) (by rw [iv_toInt (by omega) (by omega), c16]; decide) (by decide) ?_
                      refine r_aload_n (pc := 275) dX12_ask_275 (i := 0) rfl rfl ?_
                      refine r_iload_n (pc := 276) dX12_ask_276 (i := 1) rfl rfl ?_
                      refine t_callVJ (pc := 277) (as := [.int (iv x1)]) (st := []) ht10 (rd_of RW_y) kX12_314 rfl dX12_ask_277 (t_X12_ring (d := d - 1) (x1 := x1) (by omega) (rd_of RW_y) (rd_xr (rd_of RW_directs) (show Rfx 121 0 1 dr by assumption)) (rd_xr (rd_of RW_many) (show Rfx 121 0 60 mn by assumption)) (rd_xr (rd_of RW_from) (show Rfx 7260 0 15 fr by assumption)) (rd_xr (rd_of RW_to) (show Rfx 7260 0 15 tt by assumption)) ht10 (by omega)) rfl (by omega) (Nat.le_of_ble_eq_true rfl) rfl (fun hp17 y19 ht18 _ => ?_)
                      exact r_lret (pc := 280) dX12_ask_280 rfl ⟨rfl, rf50, cn, nm, so, sz, dr, mn, fr, tt, wt, co, nu, qi, qc, nf, nt, nw, nc, sa, wo, ln, hw, ro, y19, ht18, rfl, (by (first | assumption | exact RK_set hk (by omega) (by omega))), (by (first | assumption | exact df_r _ _ _ _ _ _ _)), (by (by_cases h9 : x2 = 16 ∨ x2 = 17 <;> first | (rw [hdQ_y h9]; exact dn2_m (by omega) (by omega) (by omega)) | (rw [hdQ_n h9]; exact dn1_m (by omega) (by omega) (by omega)))), (by exact ⟨rfl, rfl, rfl, rfl, rfl, rfl, rfl, rfl, rfl, rfl, rfl, rfl, rfl, rfl, rfl, rfl, rfl⟩)⟩
                    by_cases c20 : x2 = 2
                    · refine r_tableIn (pc := 188) (off := 93) (tgt := 281) dX12_ask_188 (by rw [iv_toInt (by omega) (by omega)]; omega) (by rw [iv_toInt (by omega) (by omega)]; omega) (by rw [iv_toInt (by omega) (by omega), c20]; decide) (by decide) ?_
                      refine r_aload_n (pc := 281) dX12_ask_281 (i := 0) rfl rfl ?_
                      refine r_iload_n (pc := 282) dX12_ask_282 (i := 1) rfl rfl ?_
                      refine r_iload_n (pc := 283) dX12_ask_283 (i := 3) rfl rfl ?_
                      refine t_callVJ (pc := 284) (as := [.int (iv x1), .int (iv x3)]) (st := []) ht10 (rd_of RW_y) kX12_318 rfl dX12_ask_284 (t_X12_side (d := d - 1) (x1 := x1) (x2 := x3) (by omega) (rd_of RW_y) (rd_xr (rd_of RW_sizes) (show Rfx 121 0 16 sz by assumption)) (rd_xr (rd_of RW_many) (show Rfx 121 0 60 mn by assumption)) (rd_xr (rd_of RW_from) (show Rfx 7260 0 15 fr by assumption)) (rd_xr (rd_of RW_to) (show Rfx 7260 0 15 tt by assumption)) (rd_of RW_beside) ht10 (by omega) (by omega)) rfl (by omega) (Nat.le_of_ble_eq_true rfl) rfl (fun hp21 y23 ht22 _ => ?_)
                      exact r_lret (pc := 287) dX12_ask_287 rfl ⟨rfl, rf50, cn, nm, so, sz, dr, mn, fr, tt, wt, co, nu, qi, qc, nf, nt, nw, nc, sa, wo, ln, hw, ro, y23, ht22, rfl, (by (first | assumption | exact RK_set hk (by omega) (by omega))), (by (first | assumption | exact df_r _ _ _ _ _ _ _)), (by (by_cases h9 : x2 = 16 ∨ x2 = 17 <;> first | (rw [hdQ_y h9]; exact dn2_m (by omega) (by omega) (by omega)) | (rw [hdQ_n h9]; exact dn1_m (by omega) (by omega) (by omega)))), (by exact ⟨rfl, rfl, rfl, rfl, rfl, rfl, rfl, rfl, rfl, rfl, rfl, rfl, rfl, rfl, rfl, rfl, rfl⟩)⟩
                    by_cases c24 : x2 = 3
                    · refine r_tableIn (pc := 188) (off := 100) (tgt := 288) dX12_ask_188 (by rw [iv_toInt (by omega) (by omega)]; omega) (by rw [iv_toInt (by omega) (by omega)]; omega) (by rw [iv_toInt (by omega) (by omega), c24]; decide) (by decide) ?_
                      refine r_aload_n (pc := 288) dX12_ask_288 (i := 0) rfl rfl ?_
                      refine r_iload (pc := 289) dX12_ask_289 rfl ?_
                      refine r_iconst (pc := 291) (v := iv 1) dX12_ask_291 (by decide) ?_
                      refine t_callVJ (pc := 292) (as := [.int (iv (sz (Int.toNat x1))), .int (iv 1)]) (st := []) ht10 (rd_of RW_y) kX12_321 rfl dX12_ask_292 (t_X12_clique (d := d - 1) (x1 := sz (Int.toNat x1)) (x2 := 1) (by omega) (rd_of RW_y) (rd_of RW_beside) ht10 (by omega) (by omega)) rfl (by omega) (Nat.le_of_ble_eq_true rfl) rfl (fun hp25 y27 ht26 _ => ?_)
                      exact r_lret (pc := 295) dX12_ask_295 rfl ⟨rfl, rf50, cn, nm, so, sz, dr, mn, fr, tt, wt, co, nu, qi, qc, nf, nt, nw, nc, sa, wo, ln, hw, ro, y27, ht26, rfl, (by (first | assumption | exact RK_set hk (by omega) (by omega))), (by (first | assumption | exact df_r _ _ _ _ _ _ _)), (by (by_cases h9 : x2 = 16 ∨ x2 = 17 <;> first | (rw [hdQ_y h9]; exact dn2_m (by omega) (by omega) (by omega)) | (rw [hdQ_n h9]; exact dn1_m (by omega) (by omega) (by omega)))), (by exact ⟨rfl, rfl, rfl, rfl, rfl, rfl, rfl, rfl, rfl, rfl, rfl, rfl, rfl, rfl, rfl, rfl, rfl⟩)⟩
                    by_cases c28 : x2 = 4
                    · refine r_tableIn (pc := 188) (off := 108) (tgt := 296) dX12_ask_188 (by rw [iv_toInt (by omega) (by omega)]; omega) (by rw [iv_toInt (by omega) (by omega)]; omega) (by rw [iv_toInt (by omega) (by omega), c28]; decide) (by decide) ?_
                      refine r_aload_n (pc := 296) dX12_ask_296 (i := 0) rfl rfl ?_
                      refine r_iload (pc := 297) dX12_ask_297 rfl ?_
                      refine r_iconst (pc := 299) (v := iv 0) dX12_ask_299 (by decide) ?_
                      refine t_callVJ (pc := 300) (as := [.int (iv (sz (Int.toNat x1))), .int (iv 0)]) (st := []) ht10 (rd_of RW_y) kX12_321 rfl dX12_ask_300 (t_X12_clique (d := d - 1) (x1 := sz (Int.toNat x1)) (x2 := 0) (by omega) (rd_of RW_y) (rd_of RW_beside) ht10 (by omega) (by omega)) rfl (by omega) (Nat.le_of_ble_eq_true rfl) rfl (fun hp29 y31 ht30 _ => ?_)
                      exact r_lret (pc := 303) dX12_ask_303 rfl ⟨rfl, rf50, cn, nm, so, sz, dr, mn, fr, tt, wt, co, nu, qi, qc, nf, nt, nw, nc, sa, wo, ln, hw, ro, y31, ht30, rfl, (by (first | assumption | exact RK_set hk (by omega) (by omega))), (by (first | assumption | exact df_r _ _ _ _ _ _ _)), (by (by_cases h9 : x2 = 16 ∨ x2 = 17 <;> first | (rw [hdQ_y h9]; exact dn2_m (by omega) (by omega) (by omega)) | (rw [hdQ_n h9]; exact dn1_m (by omega) (by omega) (by omega)))), (by exact ⟨rfl, rfl, rfl, rfl, rfl, rfl, rfl, rfl, rfl, rfl, rfl, rfl, rfl, rfl, rfl, rfl, rfl⟩)⟩
                    by_cases c32 : x2 = 5
                    · refine r_tableIn (pc := 188) (off := 116) (tgt := 304) dX12_ask_188 (by rw [iv_toInt (by omega) (by omega)]; omega) (by rw [iv_toInt (by omega) (by omega)]; omega) (by rw [iv_toInt (by omega) (by omega), c32]; decide) (by decide) ?_
                      refine r_aload_n (pc := 304) dX12_ask_304 (i := 0) rfl rfl ?_
                      refine r_iload (pc := 305) dX12_ask_305 rfl ?_
                      refine t_callVJ (pc := 307) (as := [.int (iv (sz (Int.toNat x1)))]) (st := []) ht10 (rd_of RW_y) kX12_325 rfl dX12_ask_307 (t_X12_colours (d := d - 1) (x1 := sz (Int.toNat x1)) (by omega) (rd_of RW_y) (rd_of RW_beside) RW_solid RW_least ht10 (by omega)) rfl (by omega) (Nat.le_of_ble_eq_true rfl) rfl (fun hp33 y35 ht34 _ => ?_)
                      exact r_lret (pc := 310) dX12_ask_310 rfl ⟨rfl, rf50, cn, nm, so, sz, dr, mn, fr, tt, wt, co, nu, qi, qc, nf, nt, nw, nc, sa, wo, ln, hw, ro, y35, ht34, rfl, (by (first | assumption | exact RK_set hk (by omega) (by omega))), (by (first | assumption | exact df_r _ _ _ _ _ _ _)), (by (by_cases h9 : x2 = 16 ∨ x2 = 17 <;> first | (rw [hdQ_y h9]; exact dn2_m (by omega) (by omega) (by omega)) | (rw [hdQ_n h9]; exact dn1_m (by omega) (by omega) (by omega)))), (by exact ⟨rfl, rfl, rfl, rfl, rfl, rfl, rfl, rfl, rfl, rfl, rfl, rfl, rfl, rfl, rfl, rfl, rfl⟩)⟩
                    by_cases c36 : x2 = 6
                    · refine r_tableIn (pc := 188) (off := 123) (tgt := 311) dX12_ask_188 (by rw [iv_toInt (by omega) (by omega)]; omega) (by rw [iv_toInt (by omega) (by omega)]; omega) (by rw [iv_toInt (by omega) (by omega), c36]; decide) (by decide) ?_
                      refine r_aload_n (pc := 311) dX12_ask_311 (i := 0) rfl rfl ?_
                      refine r_iload (pc := 312) dX12_ask_312 rfl ?_
                      refine t_callVJ (pc := 314) (as := [.int (iv (sz (Int.toNat x1)))]) (st := []) ht10 (rd_of RW_y) kX12_328 rfl dX12_ask_314 (t_X12_width (d := d - 1) (x1 := sz (Int.toNat x1)) (by omega) (rd_of RW_y) (rd_of RW_beside) RW_least ht10 (by omega)) rfl (by omega) (Nat.le_of_ble_eq_true rfl) rfl (fun hp37 y39 ht38 _ => ?_)
                      exact r_lret (pc := 317) dX12_ask_317 rfl ⟨rfl, rf50, cn, nm, so, sz, dr, mn, fr, tt, wt, co, nu, qi, qc, nf, nt, nw, nc, sa, wo, ln, hw, ro, y39, ht38, rfl, (by (first | assumption | exact RK_set hk (by omega) (by omega))), (by (first | assumption | exact df_r _ _ _ _ _ _ _)), (by (by_cases h9 : x2 = 16 ∨ x2 = 17 <;> first | (rw [hdQ_y h9]; exact dn2_m (by omega) (by omega) (by omega)) | (rw [hdQ_n h9]; exact dn1_m (by omega) (by omega) (by omega)))), (by exact ⟨rfl, rfl, rfl, rfl, rfl, rfl, rfl, rfl, rfl, rfl, rfl, rfl, rfl, rfl, rfl, rfl, rfl⟩)⟩
                    by_cases c40 : x2 = 7
                    · refine r_tableIn (pc := 188) (off := 130) (tgt := 318) dX12_ask_188 (by rw [iv_toInt (by omega) (by omega)]; omega) (by rw [iv_toInt (by omega) (by omega)]; omega) (by rw [iv_toInt (by omega) (by omega), c40]; decide) (by decide) ?_
                      refine r_aload_n (pc := 318) dX12_ask_318 (i := 0) rfl rfl ?_
                      refine r_iconst (pc := 319) (v := iv 1) dX12_ask_319 (by decide) ?_
                      refine r_iload (pc := 320) dX12_ask_320 rfl ?_
                      obtain ⟨z41, hz41, bz41⟩ := shl_1 0 16 (sz (Int.toNat x1)) (by omega) (by omega) (by decide)
                      refine r_ishl (pc := 322) (v := iv z41) dX12_ask_322 hz41 ?_
                      refine r_iconst (pc := 323) (v := iv 1) dX12_ask_323 (by decide) ?_
                      refine r_isub (pc := 324) (v := iv (z41 - 1)) dX12_ask_324 (iv_sub _ _) ?_
                      refine r_iload (pc := 325) dX12_ask_325 rfl ?_
                      refine t_callVJ (pc := 327) (as := [.int (iv (z41 - 1)), .int (iv (sz (Int.toNat x1)))]) (st := []) ht10 (rd_of RW_y) kX12_331 rfl dX12_ask_327 (t_X12_pairs (d := d - 1) (x1 := z41 - 1) (x2 := sz (Int.toNat x1)) (by omega) (rd_of RW_y) (rd_of RW_beside) RW_least ht10 (by omega) (by omega)) rfl (by omega) (Nat.le_of_ble_eq_true rfl) rfl (fun hp42 y44 ht43 _ => ?_)
                      exact r_lret (pc := 330) dX12_ask_330 rfl ⟨rfl, rf50, cn, nm, so, sz, dr, mn, fr, tt, wt, co, nu, qi, qc, nf, nt, nw, nc, sa, wo, ln, hw, ro, y44, ht43, rfl, (by (first | assumption | exact RK_set hk (by omega) (by omega))), (by (first | assumption | exact df_r _ _ _ _ _ _ _)), (by (by_cases h9 : x2 = 16 ∨ x2 = 17 <;> first | (rw [hdQ_y h9]; exact dn2_m (by omega) (by omega) (by omega)) | (rw [hdQ_n h9]; exact dn1_m (by omega) (by omega) (by omega)))), (by exact ⟨rfl, rfl, rfl, rfl, rfl, rfl, rfl, rfl, rfl, rfl, rfl, rfl, rfl, rfl, rfl, rfl, rfl⟩)⟩
                    by_cases c45 : x2 = 8
                    · refine r_tableIn (pc := 188) (off := 143) (tgt := 331) dX12_ask_188 (by rw [iv_toInt (by omega) (by omega)]; omega) (by rw [iv_toInt (by omega) (by omega)]; omega) (by rw [iv_toInt (by omega) (by omega), c45]; decide) (by decide) ?_
                      refine r_aload_n (pc := 331) dX12_ask_331 (i := 0) rfl rfl ?_
                      refine r_iload (pc := 332) dX12_ask_332 rfl ?_
                      refine t_callVJ (pc := 334) (as := [.int (iv (sz (Int.toNat x1)))]) (st := []) ht10 (rd_of RW_y) kX12_334 rfl dX12_ask_334 (t_X12_missed (d := d - 1) (x1 := sz (Int.toNat x1)) (by omega) (rd_of RW_y) (rd_of RW_beside) RW_least ht10 (by omega)) rfl (by omega) (Nat.le_of_ble_eq_true rfl) rfl (fun hp46 y48 ht47 _ => ?_)
                      exact r_lret (pc := 337) dX12_ask_337 rfl ⟨rfl, rf50, cn, nm, so, sz, dr, mn, fr, tt, wt, co, nu, qi, qc, nf, nt, nw, nc, sa, wo, ln, hw, ro, y48, ht47, rfl, (by (first | assumption | exact RK_set hk (by omega) (by omega))), (by (first | assumption | exact df_r _ _ _ _ _ _ _)), (by (by_cases h9 : x2 = 16 ∨ x2 = 17 <;> first | (rw [hdQ_y h9]; exact dn2_m (by omega) (by omega) (by omega)) | (rw [hdQ_n h9]; exact dn1_m (by omega) (by omega) (by omega)))), (by exact ⟨rfl, rfl, rfl, rfl, rfl, rfl, rfl, rfl, rfl, rfl, rfl, rfl, rfl, rfl, rfl, rfl, rfl⟩)⟩
                    by_cases c49 : x2 = 9
                    · refine r_tableIn (pc := 188) (off := 150) (tgt := 338) dX12_ask_188 (by rw [iv_toInt (by omega) (by omega)]; omega) (by rw [iv_toInt (by omega) (by omega)]; omega) (by rw [iv_toInt (by omega) (by omega), c49]; decide) (by decide) ?_
                      refine r_aload_n (pc := 338) dX12_ask_338 (i := 0) rfl rfl ?_
                      refine r_iload_n (pc := 339) dX12_ask_339 (i := 1) rfl rfl ?_
                      refine t_callVJ (pc := 340) (as := [.int (iv x1)]) (st := []) ht10 (rd_of RW_y) kX12_337 rfl dX12_ask_340 (t_X12_trees (d := d - 1) (x1 := x1) (by omega) (rd_of RW_y) (rd_xr (rd_of RW_sizes) (show Rfx 121 0 16 sz by assumption)) (rd_xr (rd_of RW_many) (show Rfx 121 0 60 mn by assumption)) (rd_xr (rd_of RW_from) (show Rfx 7260 0 15 fr by assumption)) (rd_xr (rd_of RW_to) (show Rfx 7260 0 15 tt by assumption)) RW_spans ht10 (by omega)) rfl (by omega) (Nat.le_of_ble_eq_true rfl) rfl (fun hp50 y52 ht51 _ => ?_)
                      exact r_lret (pc := 343) dX12_ask_343 rfl ⟨rfl, rf50, cn, nm, so, sz, dr, mn, fr, tt, wt, co, nu, qi, qc, nf, nt, nw, nc, sa, wo, ln, hw, ro, y52, ht51, rfl, (by (first | assumption | exact RK_set hk (by omega) (by omega))), (by (first | assumption | exact df_r _ _ _ _ _ _ _)), (by (by_cases h9 : x2 = 16 ∨ x2 = 17 <;> first | (rw [hdQ_y h9]; exact dn2_m (by omega) (by omega) (by omega)) | (rw [hdQ_n h9]; exact dn1_m (by omega) (by omega) (by omega)))), (by exact ⟨rfl, rfl, rfl, rfl, rfl, rfl, rfl, rfl, rfl, rfl, rfl, rfl, rfl, rfl, rfl, rfl, rfl⟩)⟩
                    by_cases c53 : x2 = 10
                    · refine r_tableIn (pc := 188) (off := 156) (tgt := 344) dX12_ask_188 (by rw [iv_toInt (by omega) (by omega)]; omega) (by rw [iv_toInt (by omega) (by omega)]; omega) (by rw [iv_toInt (by omega) (by omega), c53]; decide) (by decide) ?_
                      refine r_aload_n (pc := 344) dX12_ask_344 (i := 0) rfl rfl ?_
                      refine r_iload_n (pc := 345) dX12_ask_345 (i := 1) rfl rfl ?_
                      refine r_iconst (pc := 346) (v := iv (-1)) dX12_ask_346 (by decide) ?_
                      refine t_callVJ (pc := 347) (as := [.int (iv x1), .int (iv (-1))]) (st := []) ht10 (rd_of RW_y) kX12_340 rfl dX12_ask_347 (t_X12_light (d := d - 1) (x1 := x1) (x2 := (-1)) (by omega) (rd_of RW_y) (rd_xr (rd_of RW_sizes) (show Rfx 121 0 16 sz by assumption)) (rd_xr (rd_of RW_many) (show Rfx 121 0 60 mn by assumption)) (rd_xr (rd_of RW_from) (show Rfx 7260 0 15 fr by assumption)) (rd_xr (rd_of RW_to) (show Rfx 7260 0 15 tt by assumption)) (rd_xr (rd_of RW_weight) (show Rfx 7260 (-1000) 1000 wt by assumption)) RW_joinedWith ht10 (by omega) (by omega)) rfl (by omega) (Nat.le_of_ble_eq_true rfl) rfl (fun hp54 y56 ht55 _ => ?_)
                      exact r_lret (pc := 350) dX12_ask_350 rfl ⟨rfl, rf50, cn, nm, so, sz, dr, mn, fr, tt, wt, co, nu, qi, qc, nf, nt, nw, nc, sa, wo, ln, hw, ro, y56, ht55, rfl, (by (first | assumption | exact RK_set hk (by omega) (by omega))), (by (first | assumption | exact df_r _ _ _ _ _ _ _)), (by (by_cases h9 : x2 = 16 ∨ x2 = 17 <;> first | (rw [hdQ_y h9]; exact dn2_m (by omega) (by omega) (by omega)) | (rw [hdQ_n h9]; exact dn1_m (by omega) (by omega) (by omega)))), (by exact ⟨rfl, rfl, rfl, rfl, rfl, rfl, rfl, rfl, rfl, rfl, rfl, rfl, rfl, rfl, rfl, rfl, rfl⟩)⟩
                    by_cases c57 : x2 = 11
                    · refine r_tableIn (pc := 188) (off := 163) (tgt := 351) dX12_ask_188 (by rw [iv_toInt (by omega) (by omega)]; omega) (by rw [iv_toInt (by omega) (by omega)]; omega) (by rw [iv_toInt (by omega) (by omega), c57]; decide) (by decide) ?_
                      refine r_aload_n (pc := 351) dX12_ask_351 (i := 0) rfl rfl ?_
                      refine r_iload_n (pc := 352) dX12_ask_352 (i := 1) rfl rfl ?_
                      refine r_iload_n (pc := 353) dX12_ask_353 (i := 3) rfl rfl ?_
                      refine t_callVJ (pc := 354) (as := [.int (iv x1), .int (iv x3)]) (st := []) ht10 (rd_of RW_y) kX12_340 rfl dX12_ask_354 (t_X12_light (d := d - 1) (x1 := x1) (x2 := x3) (by omega) (rd_of RW_y) (rd_xr (rd_of RW_sizes) (show Rfx 121 0 16 sz by assumption)) (rd_xr (rd_of RW_many) (show Rfx 121 0 60 mn by assumption)) (rd_xr (rd_of RW_from) (show Rfx 7260 0 15 fr by assumption)) (rd_xr (rd_of RW_to) (show Rfx 7260 0 15 tt by assumption)) (rd_xr (rd_of RW_weight) (show Rfx 7260 (-1000) 1000 wt by assumption)) RW_joinedWith ht10 (by omega) (by omega)) rfl (by omega) (Nat.le_of_ble_eq_true rfl) rfl (fun hp58 y60 ht59 _ => ?_)
                      exact r_lret (pc := 357) dX12_ask_357 rfl ⟨rfl, rf50, cn, nm, so, sz, dr, mn, fr, tt, wt, co, nu, qi, qc, nf, nt, nw, nc, sa, wo, ln, hw, ro, y60, ht59, rfl, (by (first | assumption | exact RK_set hk (by omega) (by omega))), (by (first | assumption | exact df_r _ _ _ _ _ _ _)), (by (by_cases h9 : x2 = 16 ∨ x2 = 17 <;> first | (rw [hdQ_y h9]; exact dn2_m (by omega) (by omega) (by omega)) | (rw [hdQ_n h9]; exact dn1_m (by omega) (by omega) (by omega)))), (by exact ⟨rfl, rfl, rfl, rfl, rfl, rfl, rfl, rfl, rfl, rfl, rfl, rfl, rfl, rfl, rfl, rfl, rfl⟩)⟩
                    by_cases c61 : x2 = 12
                    · refine r_tableIn (pc := 188) (off := 170) (tgt := 358) dX12_ask_188 (by rw [iv_toInt (by omega) (by omega)]; omega) (by rw [iv_toInt (by omega) (by omega)]; omega) (by rw [iv_toInt (by omega) (by omega), c61]; decide) (by decide) ?_
                      refine r_aload_n (pc := 358) dX12_ask_358 (i := 0) rfl rfl ?_
                      refine r_iload_n (pc := 359) dX12_ask_359 (i := 1) rfl rfl ?_
                      refine r_iload_n (pc := 360) dX12_ask_360 (i := 3) rfl rfl ?_
                      refine r_iload (pc := 361) dX12_ask_361 rfl ?_
                      refine r_iconst (pc := 363) (v := iv 0) dX12_ask_363 (by decide) ?_
                      refine t_callVJ (pc := 364) (as := [.int (iv x1), .int (iv x3), .int (iv x4), .int (iv 0)]) (st := []) ht10 (rd_of RW_y) kX12_343 rfl dX12_ask_364 (t_X12_cut (d := d - 1) (x1 := x1) (x2 := x3) (x3 := x4) (x4 := 0) (by omega) (rd_of RW_y) (rd_xr (rd_of RW_sizes) (show Rfx 121 0 16 sz by assumption)) (rd_xr (rd_of RW_directs) (show Rfx 121 0 1 dr by assumption)) (rd_xr (rd_of RW_many) (show Rfx 121 0 60 mn by assumption)) (rd_xr (rd_of RW_from) (show Rfx 7260 0 15 fr by assumption)) (rd_xr (rd_of RW_to) (show Rfx 7260 0 15 tt by assumption)) (rd_xr (rd_of RW_weight) (show Rfx 7260 (-1000) 1000 wt by assumption)) ht10 (by omega) (by omega) (by omega) (by omega)) rfl (by omega) (Nat.le_of_ble_eq_true rfl) rfl (fun hp62 y64 ht63 _ => ?_)
                      exact r_lret (pc := 367) dX12_ask_367 rfl ⟨rfl, rf50, cn, nm, so, sz, dr, mn, fr, tt, wt, co, nu, qi, qc, nf, nt, nw, nc, sa, wo, ln, hw, ro, y64, ht63, rfl, (by (first | assumption | exact RK_set hk (by omega) (by omega))), (by (first | assumption | exact df_r _ _ _ _ _ _ _)), (by (by_cases h9 : x2 = 16 ∨ x2 = 17 <;> first | (rw [hdQ_y h9]; exact dn2_m (by omega) (by omega) (by omega)) | (rw [hdQ_n h9]; exact dn1_m (by omega) (by omega) (by omega)))), (by exact ⟨rfl, rfl, rfl, rfl, rfl, rfl, rfl, rfl, rfl, rfl, rfl, rfl, rfl, rfl, rfl, rfl, rfl⟩)⟩
                    by_cases c65 : x2 = 13
                    · refine r_tableIn (pc := 188) (off := 180) (tgt := 368) dX12_ask_188 (by rw [iv_toInt (by omega) (by omega)]; omega) (by rw [iv_toInt (by omega) (by omega)]; omega) (by rw [iv_toInt (by omega) (by omega), c65]; decide) (by decide) ?_
                      refine r_aload_n (pc := 368) dX12_ask_368 (i := 0) rfl rfl ?_
                      refine r_iload_n (pc := 369) dX12_ask_369 (i := 1) rfl rfl ?_
                      refine r_iload_n (pc := 370) dX12_ask_370 (i := 3) rfl rfl ?_
                      refine r_iload (pc := 371) dX12_ask_371 rfl ?_
                      refine t_callVJ (pc := 373) (as := [.int (iv x1), .int (iv x3), .int (iv x4)]) (st := []) ht10 (rd_of RW_y) kX12_347 rfl dX12_ask_373 (t_X12_cutSet (d := d - 1) (x1 := x1) (x2 := x3) (x3 := x4) (by omega) (rd_of RW_y) (rd_xr (rd_of RW_sizes) (show Rfx 121 0 16 sz by assumption)) (rd_xr (rd_of RW_directs) (show Rfx 121 0 1 dr by assumption)) (rd_xr (rd_of RW_many) (show Rfx 121 0 60 mn by assumption)) (rd_xr (rd_of RW_from) (show Rfx 7260 0 15 fr by assumption)) (rd_xr (rd_of RW_to) (show Rfx 7260 0 15 tt by assumption)) (rd_xr (rd_of RW_weight) (show Rfx 7260 (-1000) 1000 wt by assumption)) ht10 (by omega) (by omega) (by omega)) rfl (by omega) (Nat.le_of_ble_eq_true rfl) rfl (fun hp66 y68 ht67 _ => ?_)
                      exact r_lret (pc := 376) dX12_ask_376 rfl ⟨rfl, rf50, cn, nm, so, sz, dr, mn, fr, tt, wt, co, nu, qi, qc, nf, nt, nw, nc, sa, wo, ln, hw, ro, y68, ht67, rfl, (by (first | assumption | exact RK_set hk (by omega) (by omega))), (by (first | assumption | exact df_r _ _ _ _ _ _ _)), (by (by_cases h9 : x2 = 16 ∨ x2 = 17 <;> first | (rw [hdQ_y h9]; exact dn2_m (by omega) (by omega) (by omega)) | (rw [hdQ_n h9]; exact dn1_m (by omega) (by omega) (by omega)))), (by exact ⟨rfl, rfl, rfl, rfl, rfl, rfl, rfl, rfl, rfl, rfl, rfl, rfl, rfl, rfl, rfl, rfl, rfl⟩)⟩
                    by_cases c69 : x2 = 14
                    · refine r_tableIn (pc := 188) (off := 189) (tgt := 377) dX12_ask_188 (by rw [iv_toInt (by omega) (by omega)]; omega) (by rw [iv_toInt (by omega) (by omega)]; omega) (by rw [iv_toInt (by omega) (by omega), c69]; decide) (by decide) ?_
                      refine r_aload_n (pc := 377) dX12_ask_377 (i := 0) rfl rfl ?_
                      refine r_iload_n (pc := 378) dX12_ask_378 (i := 1) rfl rfl ?_
                      refine r_iload_n (pc := 379) dX12_ask_379 (i := 3) rfl rfl ?_
                      refine r_iload (pc := 380) dX12_ask_380 rfl ?_
                      refine t_callVJ (pc := 382) (as := [.int (iv x1), .int (iv x3), .int (iv x4)]) (st := []) ht10 (rd_of RW_y) kX12_350 rfl dX12_ask_382 (t_X12_pricex (d := d - 1) (x1 := x1) (x2 := x3) (x3 := x4) (by omega) (rd_of RW_y) (rd_of RW_from) (show Rfx 7260 0 15 fr by assumption) (rd_of RW_to) (show Rfx 7260 0 15 tt by assumption) (rd_of RW_weight) (show Rfx 7260 (-1000) 1000 wt by assumption) (rd_of RW_cost) (show Rfx 7260 (-1000) 1000 co by assumption) (rd_of RW_directs) (show Rfx 121 0 1 dr by assumption) (rd_of RW_many) (show Rfx 121 0 60 mn by assumption) (rd_of RW_sizes) (show Rfx 121 0 16 sz by assumption) RW_gone RW_dear RW_by RW_ahead ht10 (by omega) (by omega) (by omega) (by assumption) (by omega) (by omega) (by omega)) rfl (by omega) (Nat.le_of_ble_eq_true rfl) rfl (fun hp70 y72 ht71 _ => ?_)
                      exact r_lret (pc := 385) dX12_ask_385 rfl ⟨rfl, rf50, cn, nm, so, sz, dr, mn, fr, tt, wt, co, nu, qi, qc, nf, nt, nw, nc, sa, wo, ln, hw, ro, y72, ht71, rfl, (by (first | assumption | exact RK_set hk (by omega) (by omega))), (by (first | assumption | exact df_r _ _ _ _ _ _ _)), (by (by_cases h9 : x2 = 16 ∨ x2 = 17 <;> first | (rw [hdQ_y h9]; exact dn2_m (by omega) (by omega) (by omega)) | (rw [hdQ_n h9]; exact dn1_m (by omega) (by omega) (by omega)))), (by exact ⟨rfl, rfl, rfl, rfl, rfl, rfl, rfl, rfl, rfl, rfl, rfl, rfl, rfl, rfl, rfl, rfl, rfl⟩)⟩
                    by_cases c73 : x2 = 15
                    · refine r_tableIn (pc := 188) (off := 198) (tgt := 386) dX12_ask_188 (by rw [iv_toInt (by omega) (by omega)]; omega) (by rw [iv_toInt (by omega) (by omega)]; omega) (by rw [iv_toInt (by omega) (by omega), c73]; decide) (by decide) ?_
                      refine r_aload_n (pc := 386) dX12_ask_386 (i := 0) rfl rfl ?_
                      refine r_iload_n (pc := 387) dX12_ask_387 (i := 1) rfl rfl ?_
                      refine r_iload_n (pc := 388) dX12_ask_388 (i := 3) rfl rfl ?_
                      refine r_iload (pc := 389) dX12_ask_389 rfl ?_
                      refine r_iconst (pc := 391) (v := iv 1) dX12_ask_391 (by decide) ?_
                      refine t_callVJ (pc := 392) (as := [.int (iv x1), .int (iv x3), .int (iv x4), .int (iv 1)]) (st := []) ht10 (rd_of RW_y) kX12_343 rfl dX12_ask_392 (t_X12_cut (d := d - 1) (x1 := x1) (x2 := x3) (x3 := x4) (x4 := 1) (by omega) (rd_of RW_y) (rd_xr (rd_of RW_sizes) (show Rfx 121 0 16 sz by assumption)) (rd_xr (rd_of RW_directs) (show Rfx 121 0 1 dr by assumption)) (rd_xr (rd_of RW_many) (show Rfx 121 0 60 mn by assumption)) (rd_xr (rd_of RW_from) (show Rfx 7260 0 15 fr by assumption)) (rd_xr (rd_of RW_to) (show Rfx 7260 0 15 tt by assumption)) (rd_xr (rd_of RW_weight) (show Rfx 7260 (-1000) 1000 wt by assumption)) ht10 (by omega) (by omega) (by omega) (by omega)) rfl (by omega) (Nat.le_of_ble_eq_true rfl) rfl (fun hp74 y76 ht75 _ => ?_)
                      exact r_lret (pc := 395) dX12_ask_395 rfl ⟨rfl, rf50, cn, nm, so, sz, dr, mn, fr, tt, wt, co, nu, qi, qc, nf, nt, nw, nc, sa, wo, ln, hw, ro, y76, ht75, rfl, (by (first | assumption | exact RK_set hk (by omega) (by omega))), (by (first | assumption | exact df_r _ _ _ _ _ _ _)), (by (by_cases h9 : x2 = 16 ∨ x2 = 17 <;> first | (rw [hdQ_y h9]; exact dn2_m (by omega) (by omega) (by omega)) | (rw [hdQ_n h9]; exact dn1_m (by omega) (by omega) (by omega)))), (by exact ⟨rfl, rfl, rfl, rfl, rfl, rfl, rfl, rfl, rfl, rfl, rfl, rfl, rfl, rfl, rfl, rfl, rfl⟩)⟩
                    refine r_tableOut (pc := 188) (tgt := 396) dX12_ask_188 (by rw [iv_toInt (by omega) (by omega)]; omega) (by decide) ?_
                    refine r_aload_n (pc := 396) dX12_ask_396 (i := 0) rfl rfl ?_
                    refine r_iload_n (pc := 397) dX12_ask_397 (i := 1) rfl rfl ?_
                    refine r_iload (pc := 398) dX12_ask_398 rfl ?_
                    refine r_iload_n (pc := 400) dX12_ask_400 (i := 2) rfl rfl ?_
                    refine r_bipush (pc := 401) (v := iv 16) dX12_ask_401 (by decide) ?_
                    have B411 : ∀ hp411 : MH, Tw (RW Γ cI cJ cZ y rf50 cn nm so sz dr mn fr tt wt co nu qi qc nf nt nw nc sa wo ln hw ro) hp411 → ∀  (u411_3 : Int), 0 ≤ u411_3 ∧ u411_3 ≤ 1 ∧ ((u411_3 = 1 ∧ x2 = 16) ∨ (u411_3 = 0 ∧ x2 = 17)) → Rn (gG D cI cJ cZ cT lo b L xs) mX12_ask d 411 [(3, .int (iv x3))] [.int (iv u411_3), .int (iv x4), .int (iv x1), .ref y] hp411 n 0 0 (qw_X12_ask Γ cI cJ cZ y n rf cn nm so sz dr mn fr tt wt co nu qi qc nf nt nw nc sa wo ln hw ro x1 x2 x3 x4) := by
                      intro hp411 ht411 u411_3 hf411
                      refine r_iload_n (pc := 411) dX12_ask_411 (i := 3) rfl rfl ?_
                      refine t_callVJ (pc := 412) (as := [.int (iv x1), .int (iv x4), .int (iv u411_3), .int (iv x3)]) (st := []) ht411 (rd_of RW_y) kX12_353 rfl dX12_ask_412 (t_X12_alikex (d := d - 1) (x1 := x1) (x2 := x4) (x3 := u411_3) (x4 := x3) (by omega) (rd_of RW_y) (rd_xr (rd_of RW_sizes) (show Rfx 121 0 16 sz by assumption)) (rd_xr (rd_of RW_directs) (show Rfx 121 0 1 dr by assumption)) (rd_xr (rd_of RW_many) (show Rfx 121 0 60 mn by assumption)) (rd_xr (rd_of RW_from) (show Rfx 7260 0 15 fr by assumption)) (rd_xr (rd_of RW_to) (show Rfx 7260 0 15 tt by assumption)) (rd_xr (rd_of RW_weight) (show Rfx 7260 (-1000) 1000 wt by assumption)) (rd_xr (rd_of RW_cost) (show Rfx 7260 (-1000) 1000 co by assumption)) RW_image ht411 (by omega) (by omega) (by omega) (by omega) (by omega)) rfl (by omega) (Nat.le_of_ble_eq_true rfl) rfl (fun hp77 y79 ht78 _ => ?_)
                      exact r_lret (pc := 415) dX12_ask_415 rfl ⟨rfl, rf50, cn, nm, so, sz, dr, mn, fr, tt, wt, co, nu, qi, qc, nf, nt, nw, nc, sa, wo, ln, hw, ro, y79, ht78, rfl, (by (first | assumption | exact RK_set hk (by omega) (by omega))), (by (first | assumption | exact df_r _ _ _ _ _ _ _)), (by (by_cases h9 : x2 = 16 ∨ x2 = 17 <;> first | (rw [hdQ_y h9]; exact dn2_m (by omega) (by omega) (by omega)) | (rw [hdQ_n h9]; exact dn1_m (by omega) (by omega) (by omega)))), (by exact ⟨rfl, rfl, rfl, rfl, rfl, rfl, rfl, rfl, rfl, rfl, rfl, rfl, rfl, rfl, rfl, rfl, rfl⟩)⟩
                    refine t_icmp_ne (pc := 403) (tgt := 410) dX12_ask_403 (by decide) (by omega) (by omega) (fun c403 => ?_) (fun c403 => ?_)
                    · refine r_iconst (pc := 410) (v := iv 0) dX12_ask_410 (by decide) ?_
                      refine Rn.pick (lv' := [(3, .int (iv x3))]) [3] rfl ?_
                      exact B411 _ ht10 0 ⟨by omega, by omega, by omega⟩
                    · refine r_iconst (pc := 406) (v := iv 1) dX12_ask_406 (by decide) ?_
                      refine r_goto (pc := 407) (tgt := 411) dX12_ask_407 (by decide) ?_
                      refine Rn.pick (lv' := [(3, .int (iv x3))]) [3] rfl ?_
                      exact B411 _ ht10 1 ⟨by omega, by omega, by omega⟩
                  refine t_icmp_ne (pc := 155) (tgt := 181) dX12_ask_155 (by decide) (by omega) (by omega) (fun c155 => ?_) (fun c155 => ?_)
                  · refine Rn.pick (lv' := [(0, .ref y), (1, .int (iv x1)), (2, .int (iv x2)), (3, .int (iv x3)), (4, .int (iv x4)), (6, .int (iv (sz (Int.toNat x1))))]) [0, 1, 2, 3, 4, 5] rfl ?_
                    exact B181 _ ht152 ⟨by omega, by omega, by omega, by omega, by omega⟩
                  · refine r_iload_n (pc := 158) dX12_ask_158 (i := 3) rfl rfl ?_
                    refine t_if_lt (pc := 159) (tgt := 172) dX12_ask_159 (by decide) (by omega) (fun c159 => ?_) (fun c159 => ?_)
                    · refine Rn.pick (lv' := [(0, .ref y)]) [0] rfl ?_
                      exact B172 _ ht152 (by omega)
                    · refine r_iload_n (pc := 162) dX12_ask_162 (i := 3) rfl rfl ?_
                      refine r_aload_n (pc := 163) dX12_ask_163 (i := 0) rfl rfl ?_
                      refine t_getE (pc := 164) (.ref (y + 4)) ht152 (rd_of RW_y) fX12_20 dX12_ask_164 rfl ?_
                      refine r_iload_n (pc := 167) dX12_ask_167 (i := 1) rfl rfl ?_
                      refine t_ialdX (pc := 168) (t0 := 0) ht152 (rd_of RW_many) dX12_ask_168 rfl (by decide) (by omega) (fun b80 => ?_)
                      have rb80 := (show Rfx 121 0 60 mn by assumption) (Int.toNat x1) (by omega)
                      refine t_icmp_lt (pc := 169) (tgt := 181) dX12_ask_169 (by decide) (by omega) (by omega) (fun c169 => ?_) (fun c169 => ?_)
                      · refine Rn.pick (lv' := [(0, .ref y), (1, .int (iv x1)), (2, .int (iv x2)), (3, .int (iv x3)), (4, .int (iv x4)), (6, .int (iv (sz (Int.toNat x1))))]) [0, 1, 2, 3, 4, 5] rfl ?_
                        exact B181 _ ht152 ⟨by omega, by omega, by omega, by omega, by omega⟩
                      · refine Rn.pick (lv' := [(0, .ref y)]) [0] rfl ?_
                        exact B172 _ ht152 (by omega)
                refine t_if_eq (pc := 131) (tgt := 152) dX12_ask_131 (by decide) (by omega) (fun c131 => ?_) (fun c131 => ?_)
                · refine Rn.pick (lv' := [(0, .ref y), (1, .int (iv x1)), (2, .int (iv x2)), (3, .int (iv x3)), (4, .int (iv x4)), (6, .int (iv (sz (Int.toNat x1))))]) [0, 1, 2, 3, 4, 5] rfl ?_
                  exact B152 _ ht129 ⟨by omega, by omega, by omega, by omega⟩
                · refine r_iload (pc := 134) dX12_ask_134 rfl ?_
                  refine t_if_lt (pc := 136) (tgt := 172) dX12_ask_136 (by decide) (by omega) (fun c136 => ?_) (fun c136 => ?_)
                  · refine Rn.pick (lv' := [(0, .ref y)]) [0] rfl ?_
                    exact B172 _ ht129 (by omega)
                  · refine r_iload (pc := 139) dX12_ask_139 rfl ?_
                    refine r_iload (pc := 141) dX12_ask_141 rfl ?_
                    refine t_icmp_ge (pc := 143) (tgt := 172) dX12_ask_143 (by decide) (by omega) (by omega) (fun c143 => ?_) (fun c143 => ?_)
                    · refine Rn.pick (lv' := [(0, .ref y)]) [0] rfl ?_
                      exact B172 _ ht129 (by omega)
                    · refine r_iload_n (pc := 146) dX12_ask_146 (i := 3) rfl rfl ?_
                      refine r_iload (pc := 147) dX12_ask_147 rfl ?_
                      refine t_icmp_eq (pc := 149) (tgt := 172) dX12_ask_149 (by decide) (by omega) (by omega) (fun c149 => ?_) (fun c149 => ?_)
                      · refine Rn.pick (lv' := [(0, .ref y)]) [0] rfl ?_
                        exact B172 _ ht129 (by omega)
                      · refine Rn.pick (lv' := [(0, .ref y), (1, .int (iv x1)), (2, .int (iv x2)), (3, .int (iv x3)), (4, .int (iv x4)), (6, .int (iv (sz (Int.toNat x1))))]) [0, 1, 2, 3, 4, 5] rfl ?_
                        exact B152 _ ht129 ⟨by omega, by omega, by omega, by omega⟩
              refine t_if_eq (pc := 116) (tgt := 129) dX12_ask_116 (by decide) (by omega) (fun c116 => ?_) (fun c116 => ?_)
              · refine Rn.pick (lv' := [(0, .ref y), (1, .int (iv x1)), (2, .int (iv x2)), (3, .int (iv x3)), (4, .int (iv x4)), (6, .int (iv (sz (Int.toNat x1)))), (7, .int (iv u75_0))]) [1, 2, 3, 4, 5, 6, 7] rfl ?_
                exact B129 _ ht102 ⟨by omega, by omega, by omega⟩
              · refine r_iload_n (pc := 119) dX12_ask_119 (i := 3) rfl rfl ?_
                refine t_if_lt (pc := 120) (tgt := 172) dX12_ask_120 (by decide) (by omega) (fun c120 => ?_) (fun c120 => ?_)
                · refine Rn.pick (lv' := [(0, .ref y)]) [1] rfl ?_
                  exact B172 _ ht102 (by omega)
                · refine r_iload_n (pc := 123) dX12_ask_123 (i := 3) rfl rfl ?_
                  refine r_iload (pc := 124) dX12_ask_124 rfl ?_
                  refine t_icmp_ge (pc := 126) (tgt := 172) dX12_ask_126 (by decide) (by omega) (by omega) (fun c126 => ?_) (fun c126 => ?_)
                  · refine Rn.pick (lv' := [(0, .ref y)]) [1] rfl ?_
                    exact B172 _ ht102 (by omega)
                  · refine Rn.pick (lv' := [(0, .ref y), (1, .int (iv x1)), (2, .int (iv x2)), (3, .int (iv x3)), (4, .int (iv x4)), (6, .int (iv (sz (Int.toNat x1)))), (7, .int (iv u75_0))]) [1, 2, 3, 4, 5, 6, 7] rfl ?_
                    exact B129 _ ht102 ⟨by omega, by omega, by omega⟩
        have B97 : ∀ hp97 : MH, Tw (RW Γ cI cJ cZ y rf50 cn nm so sz dr mn fr tt wt co nu qi qc nf nt nw nc sa wo ln hw ro) hp97 → (x2 = 0 ∨ x2 = 2 ∨ (12 ≤ x2 ∧ x2 ≤ 15) ∨ x2 = 17) → Rn (gG D cI cJ cZ cT lo b L xs) mX12_ask d 97 [(0, .ref y), (1, .int (iv x1)), (2, .int (iv x2)), (3, .int (iv x3)), (4, .int (iv x4)), (6, .int (iv (sz (Int.toNat x1)))), (7, .int (iv u75_0))] [] hp97 n 0 0 (qw_X12_ask Γ cI cJ cZ y n rf cn nm so sz dr mn fr tt wt co nu qi qc nf nt nw nc sa wo ln hw ro x1 x2 x3 x4) := by
          intro hp97 ht97 hf97
          refine r_iconst (pc := 97) (v := iv 1) dX12_ask_97 (by decide) ?_
          refine r_goto (pc := 98) (tgt := 102) dX12_ask_98 (by decide) ?_
          refine Rn.pick (lv' := [(0, .ref y), (1, .int (iv x1)), (2, .int (iv x2)), (3, .int (iv x3)), (4, .int (iv x4)), (6, .int (iv (sz (Int.toNat x1)))), (7, .int (iv u75_0))]) [0, 1, 2, 3, 4, 5, 6] rfl ?_
          exact B102 _ ht97 1 ⟨by omega, by omega, by omega⟩
        refine t_if_eq (pc := 78) (tgt := 97) dX12_ask_78 (by decide) (by omega) (fun c78 => ?_) (fun c78 => ?_)
        · refine Rn.pick (lv' := [(0, .ref y), (1, .int (iv x1)), (2, .int (iv x2)), (3, .int (iv x3)), (4, .int (iv x4)), (6, .int (iv (sz (Int.toNat x1)))), (7, .int (iv u75_0))]) [1, 2, 3, 4, 5, 6, 0] rfl ?_
          exact B97 _ ht75 (by omega)
        · refine r_iload_n (pc := 81) dX12_ask_81 (i := 2) rfl rfl ?_
          refine r_iconst (pc := 82) (v := iv 2) dX12_ask_82 (by decide) ?_
          refine t_icmp_eq (pc := 83) (tgt := 97) dX12_ask_83 (by decide) (by omega) (by omega) (fun c83 => ?_) (fun c83 => ?_)
          · refine Rn.pick (lv' := [(0, .ref y), (1, .int (iv x1)), (2, .int (iv x2)), (3, .int (iv x3)), (4, .int (iv x4)), (6, .int (iv (sz (Int.toNat x1)))), (7, .int (iv u75_0))]) [1, 2, 3, 4, 5, 6, 0] rfl ?_
            exact B97 _ ht75 (by omega)
          · refine r_iload (pc := 86) dX12_ask_86 rfl ?_
            refine t_if_ne (pc := 88) (tgt := 97) dX12_ask_88 (by decide) (by omega) (fun c88 => ?_) (fun c88 => ?_)
            · refine Rn.pick (lv' := [(0, .ref y), (1, .int (iv x1)), (2, .int (iv x2)), (3, .int (iv x3)), (4, .int (iv x4)), (6, .int (iv (sz (Int.toNat x1)))), (7, .int (iv u75_0))]) [1, 2, 3, 4, 5, 6, 0] rfl ?_
              exact B97 _ ht75 (by omega)
            · refine r_iload_n (pc := 91) dX12_ask_91 (i := 2) rfl rfl ?_
              refine r_bipush (pc := 92) (v := iv 17) dX12_ask_92 (by decide) ?_
              refine t_icmp_ne (pc := 94) (tgt := 101) dX12_ask_94 (by decide) (by omega) (by omega) (fun c94 => ?_) (fun c94 => ?_)
              · refine r_iconst (pc := 101) (v := iv 0) dX12_ask_101 (by decide) ?_
                refine Rn.pick (lv' := [(0, .ref y), (1, .int (iv x1)), (2, .int (iv x2)), (3, .int (iv x3)), (4, .int (iv x4)), (6, .int (iv (sz (Int.toNat x1)))), (7, .int (iv u75_0))]) [1, 2, 3, 4, 5, 6, 0] rfl ?_
                exact B102 _ ht75 0 ⟨by omega, by omega, by omega⟩
              · refine Rn.pick (lv' := [(0, .ref y), (1, .int (iv x1)), (2, .int (iv x2)), (3, .int (iv x3)), (4, .int (iv x4)), (6, .int (iv (sz (Int.toNat x1)))), (7, .int (iv u75_0))]) [1, 2, 3, 4, 5, 6, 0] rfl ?_
                exact B97 _ ht75 (by omega)
      have B74 : ∀ hp74 : MH, Tw (RW Γ cI cJ cZ y rf50 cn nm so sz dr mn fr tt wt co nu qi qc nf nt nw nc sa wo ln hw ro) hp74 → ¬ (12 ≤ x2 ∧ x2 ≤ 15) → Rn (gG D cI cJ cZ cT lo b L xs) mX12_ask d 74 [(0, .ref y), (1, .int (iv x1)), (2, .int (iv x2)), (3, .int (iv x3)), (4, .int (iv x4)), (6, .int (iv (sz (Int.toNat x1))))] [] hp74 n 0 0 (qw_X12_ask Γ cI cJ cZ y n rf cn nm so sz dr mn fr tt wt co nu qi qc nf nt nw nc sa wo ln hw ro x1 x2 x3 x4) := by
        intro hp74 ht74 hf74
        refine r_iconst (pc := 74) (v := iv 0) dX12_ask_74 (by decide) ?_
        refine Rn.pick (lv' := [(0, .ref y), (1, .int (iv x1)), (2, .int (iv x2)), (3, .int (iv x3)), (4, .int (iv x4)), (6, .int (iv (sz (Int.toNat x1))))]) [0, 1, 2, 3, 4, 5] rfl ?_
        exact B75 _ ht74 0 ⟨by omega, by omega, by omega⟩
      refine t_icmp_lt (pc := 61) (tgt := 74) dX12_ask_61 (by decide) (by omega) (by omega) (fun c61 => ?_) (fun c61 => ?_)
      · refine Rn.pick (lv' := [(0, .ref y), (1, .int (iv x1)), (2, .int (iv x2)), (3, .int (iv x3)), (4, .int (iv x4)), (6, .int (iv (sz (Int.toNat x1))))]) [1, 2, 3, 4, 5, 0] rfl ?_
        exact B74 _ ht50 (by omega)
      · refine r_iload_n (pc := 64) dX12_ask_64 (i := 2) rfl rfl ?_
        refine r_bipush (pc := 65) (v := iv 15) dX12_ask_65 (by decide) ?_
        refine t_icmp_gt (pc := 67) (tgt := 74) dX12_ask_67 (by decide) (by omega) (by omega) (fun c67 => ?_) (fun c67 => ?_)
        · refine Rn.pick (lv' := [(0, .ref y), (1, .int (iv x1)), (2, .int (iv x2)), (3, .int (iv x3)), (4, .int (iv x4)), (6, .int (iv (sz (Int.toNat x1))))]) [1, 2, 3, 4, 5, 0] rfl ?_
          exact B74 _ ht50 (by omega)
        · refine r_iconst (pc := 70) (v := iv 1) dX12_ask_70 (by decide) ?_
          refine r_goto (pc := 71) (tgt := 75) dX12_ask_71 (by decide) ?_
          refine Rn.pick (lv' := [(0, .ref y), (1, .int (iv x1)), (2, .int (iv x2)), (3, .int (iv x3)), (4, .int (iv x4)), (6, .int (iv (sz (Int.toNat x1))))]) [1, 2, 3, 4, 5, 0] rfl ?_
          exact B75 _ ht50 1 ⟨by omega, by omega, by omega⟩
    have B48 : ∀ rf48 : Int, ∀ hp48 : MH, Tw (RW Γ cI cJ cZ y rf48 cn nm so sz dr mn fr tt wt co nu qi qc nf nt nw nc sa wo ln hw ro) hp48 → -2147483648 ≤ rf48 ∧ rf48 ≤ 2147483647 ∧ (rf48 = hdQ (x2 = 16 ∨ x2 = 17) (dn2 cn so x1 1 x4 1 (x2 = 17 ∧ (x3 < 0 ∨ (sz (Int.toNat x1)) ≤ x3))) (dn1 cn so x1 1 (x2 < 0 ∨ 17 < x2 ∨ ((x2 = 0 ∨ x2 = 2) ∧ (x3 < 0 ∨ (sz (Int.toNat x1)) ≤ x3)) ∨ (x2 = 11 ∧ (x3 < 0 ∨ (mn (Int.toNat x1)) ≤ x3)) ∨ (12 ≤ x2 ∧ x2 ≤ 15 ∧ (x3 < 0 ∨ (sz (Int.toNat x1)) ≤ x3 ∨ x4 < 0 ∨ (sz (Int.toNat x1)) ≤ x4 ∨ x3 = x4))))) → Rn (gG D cI cJ cZ cT lo b L xs) mX12_ask d 48 [] [] hp48 n 0 0 (qw_X12_ask Γ cI cJ cZ y n rf cn nm so sz dr mn fr tt wt co nu qi qc nf nt nw nc sa wo ln hw ro x1 x2 x3 x4) := by
      intro rf48 hp48 ht48 hf48
      obtain ⟨hf48_0, hf48_1, ha48_2⟩ := hf48
      refine r_lconst (pc := 48) (v := 0) dX12_ask_48 (by decide) ?_
      exact r_lret (pc := 49) dX12_ask_49 rfl ⟨rfl, rf48, cn, nm, so, sz, dr, mn, fr, tt, wt, co, nu, qi, qc, nf, nt, nw, nc, sa, wo, ln, hw, ro, (0 : Int64), ht48, rfl, (by (first | assumption | exact RK_set hk (by omega) (by omega))), (by (first | assumption | exact df_r _ _ _ _ _ _ _)), (by assumption), (by exact ⟨rfl, rfl, rfl, rfl, rfl, rfl, rfl, rfl, rfl, rfl, rfl, rfl, rfl, rfl, rfl, rfl, rfl⟩)⟩
    refine t_if_eq (pc := 21) (tgt := 39) dX12_ask_21 (by decide) (by omega) (fun c21 => ?_) (fun c21 => ?_)
    · refine r_aload_n (pc := 39) dX12_ask_39 (i := 0) rfl rfl ?_
      refine r_iload_n (pc := 40) dX12_ask_40 (i := 1) rfl rfl ?_
      refine r_iconst (pc := 41) (v := iv 1) dX12_ask_41 (by decide) ?_
      obtain ⟨fs85, hfs85⟩ := t_obj ht17 (rd_of RW_y)
      refine r_callV (pc := 42) (as := [.int (iv x1), .int (iv 1)]) (st := []) kX12_183 rfl dX12_ask_42 hfs85 (sw_X12_has (d := d - 1) (x1 := x1) (x2 := 1) (by omega) (by omega) (by assumption) ht17 (by omega) (by omega)) rfl (by omega) (Nat.le_of_ble_eq_true rfl) (Nat.zero_le _) (Nat.zero_le _) rfl (fun r82 hp81 n83 hq84 => ?_)
      obtain ⟨hnn83, v_88, b_89, ht86, hrr82, hhq840, hhq841⟩ := hq84
      subst n83 r82
      have hhq840 : -2 ≤ v_88 ∧ v_88 ≤ 0 ∧ (b_89 = 0 ∨ b_89 = 1) := hhq840
      have hhq841 : (b_89 = 1 ∧ v_88 = 0 ∧ 0 ≤ x1 ∧ x1 < cn ∧ so (Int.toNat x1) = 1) ∨ (b_89 = 0 ∧ v_88 = -1 ∧ ¬ (0 ≤ x1 ∧ x1 < cn)) ∨ (b_89 = 0 ∧ v_88 = -2 ∧ 0 ≤ x1 ∧ x1 < cn ∧ so (Int.toNat x1) ≠ 1) := hhq841
      change Rn _ _ _ 45 _ [.int (iv b_89)] _ _ _ _ _
      refine t_if_ne (pc := 45) (tgt := 50) dX12_ask_45 (by decide) (by omega) (fun c45 => ?_) (fun c45 => ?_)
      · have rsz45 := hR_sizes (Int.toNat x1) (by omega)
        have rsy45 := hsz x1 (by omega) (by omega)
        have hen := hgr x1 (by omega) (by omega) (by omega)
        have rmn45 := hR_many (Int.toNat x1) (by omega)
        refine Rn.pick (lv' := [(0, .ref y), (1, .int (iv x1)), (2, .int (iv x2)), (3, .int (iv x3)), (4, .int (iv x4))]) [1, 2, 3, 4, 5] rfl ?_
        exact B50 v_88 _ ht86 ⟨by omega, by omega, by omega, by omega, by omega, by omega, by omega, by omega, by omega⟩
      · refine Rn.pick (lv' := []) [] rfl ?_
        exact B48 v_88 _ ht86 ⟨by omega, by omega, by (first | (rw [hdQ_y (by omega)]; exact dn2_r (by omega)) | (rw [hdQ_n (by omega)]; exact dn1_r (by omega)))⟩
    · refine r_aload_n (pc := 24) dX12_ask_24 (i := 0) rfl rfl ?_
      refine r_iload_n (pc := 25) dX12_ask_25 (i := 1) rfl rfl ?_
      refine r_iconst (pc := 26) (v := iv 1) dX12_ask_26 (by decide) ?_
      refine r_iload (pc := 27) dX12_ask_27 rfl ?_
      refine r_iconst (pc := 29) (v := iv 1) dX12_ask_29 (by decide) ?_
      obtain ⟨fs94, hfs94⟩ := t_obj ht17 (rd_of RW_y)
      refine r_callV (pc := 30) (as := [.int (iv x1), .int (iv 1), .int (iv x4), .int (iv 1)]) (st := []) kX12_209 rfl dX12_ask_30 hfs94 (sw_X12_haveTwo (d := d - 1) (x1 := x1) (x2 := 1) (x3 := x4) (x4 := 1) (by omega) (by omega) (by assumption) ht17 (by omega) (by omega) (by omega) (by omega)) rfl (by omega) (Nat.le_of_ble_eq_true rfl) (Nat.zero_le _) (Nat.zero_le _) rfl (fun r91 hp90 n92 hq93 => ?_)
      obtain ⟨hnn92, v_97, b_98, ht95, hrr91, hhq930, hhq931⟩ := hq93
      subst n92 r91
      have hhq930 : -2 ≤ v_97 ∧ v_97 ≤ 0 ∧ (b_98 = 0 ∨ b_98 = 1) := hhq930
      have hhq931 : (b_98 = 1 ∧ v_97 = 0 ∧ 0 ≤ x1 ∧ x1 < cn ∧ 0 ≤ x4 ∧ x4 < cn ∧ so (Int.toNat x1) = 1 ∧ so (Int.toNat x4) = 1) ∨ (b_98 = 0 ∧ v_97 = -1 ∧ ¬ (0 ≤ x1 ∧ x1 < cn ∧ 0 ≤ x4 ∧ x4 < cn)) ∨ (b_98 = 0 ∧ v_97 = -2 ∧ 0 ≤ x1 ∧ x1 < cn ∧ 0 ≤ x4 ∧ x4 < cn ∧ ¬ (so (Int.toNat x1) = 1 ∧ so (Int.toNat x4) = 1)) := hhq931
      change Rn _ _ _ 33 _ [.int (iv b_98)] _ _ _ _ _
      refine t_if_ne (pc := 33) (tgt := 50) dX12_ask_33 (by decide) (by omega) (fun c33 => ?_) (fun c33 => ?_)
      · have rsz33 := hR_sizes (Int.toNat x1) (by omega)
        have rsy33 := hsz x1 (by omega) (by omega)
        have hen := hgr x1 (by omega) (by omega) (by omega)
        have rmn33 := hR_many (Int.toNat x1) (by omega)
        have rsw33 := hR_sizes (Int.toNat x4) (by omega)
        have rsx33 := hsz x4 (by omega) (by omega)
        refine Rn.pick (lv' := [(0, .ref y), (1, .int (iv x1)), (2, .int (iv x2)), (3, .int (iv x3)), (4, .int (iv x4))]) [1, 2, 3, 4, 5] rfl ?_
        exact B50 v_97 _ ht95 ⟨by omega, by omega, by omega, by omega, by omega, by omega, by omega, by omega, by omega⟩
      · refine r_goto (pc := 36) (tgt := 48) dX12_ask_36 (by decide) ?_
        refine Rn.pick (lv' := []) [] rfl ?_
        exact B48 v_97 _ ht95 ⟨by omega, by omega, by (first | (rw [hdQ_y (by omega)]; exact dn2_r (by omega)) | (rw [hdQ_n (by omega)]; exact dn1_r (by omega)))⟩
  have B12 : ∀ hp12 : MH, Tw (RW Γ cI cJ cZ y rf cn nm so sz dr mn fr tt wt co nu qi qc nf nt nw nc sa wo ln hw ro) hp12 → 16 ≤ x2 ∧ x2 ≤ 17 → Rn (gG D cI cJ cZ cT lo b L xs) mX12_ask d 12 [(0, .ref y), (1, .int (iv x1)), (2, .int (iv x2)), (3, .int (iv x3)), (4, .int (iv x4))] [] hp12 n 0 0 (qw_X12_ask Γ cI cJ cZ y n rf cn nm so sz dr mn fr tt wt co nu qi qc nf nt nw nc sa wo ln hw ro x1 x2 x3 x4) := by
    intro hp12 ht12 hf12
    refine r_iconst (pc := 12) (v := iv 1) dX12_ask_12 (by decide) ?_
    refine r_goto (pc := 13) (tgt := 17) dX12_ask_13 (by decide) ?_
    refine Rn.pick (lv' := [(0, .ref y), (1, .int (iv x1)), (2, .int (iv x2)), (3, .int (iv x3)), (4, .int (iv x4))]) [0, 1, 2, 3, 4] rfl ?_
    exact B17 _ ht12 1 ⟨by omega, by omega, by omega⟩
  refine t_icmp_eq (pc := 3) (tgt := 12) dX12_ask_3 (by decide) (by omega) (by omega) (fun c3 => ?_) (fun c3 => ?_)
  · refine Rn.pick (lv' := [(0, .ref y), (1, .int (iv x1)), (2, .int (iv x2)), (3, .int (iv x3)), (4, .int (iv x4))]) [0, 1, 2, 3, 4] rfl ?_
    exact B12 _ ht ⟨by omega, by omega⟩
  · refine r_iload_n (pc := 6) dX12_ask_6 (i := 2) rfl rfl ?_
    refine r_bipush (pc := 7) (v := iv 17) dX12_ask_7 (by decide) ?_
    refine t_icmp_ne (pc := 9) (tgt := 16) dX12_ask_9 (by decide) (by omega) (by omega) (fun c9 => ?_) (fun c9 => ?_)
    · refine r_iconst (pc := 16) (v := iv 0) dX12_ask_16 (by decide) ?_
      refine Rn.pick (lv' := [(0, .ref y), (1, .int (iv x1)), (2, .int (iv x2)), (3, .int (iv x3)), (4, .int (iv x4))]) [0, 1, 2, 3, 4] rfl ?_
      exact B17 _ ht 0 ⟨by omega, by omega, by omega⟩
    · refine Rn.pick (lv' := [(0, .ref y), (1, .int (iv x1)), (2, .int (iv x2)), (3, .int (iv x3)), (4, .int (iv x4))]) [0, 1, 2, 3, 4] rfl ?_
      exact B12 _ ht ⟨by omega, by omega⟩
