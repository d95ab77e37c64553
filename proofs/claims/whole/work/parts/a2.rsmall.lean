def kjF (g f0 : Nat → Int64) (p k : Nat) : Nat → Int64 := fun i => if p ≤ i ∧ i < p + k then g (i - p) else f0 i
theorem kjF_0 (g f0 : Nat → Int64) (p : Nat) : kjF g f0 p 0 = f0 := by
  funext i; unfold kjF; rw [if_neg (by omega)]
theorem kjF_in {g f0 : Nat → Int64} {p k i : Nat} (h : p ≤ i ∧ i < p + k) : kjF g f0 p k i = g (i - p) := by unfold kjF; rw [if_pos h]
theorem kjF_out {g f0 : Nat → Int64} {p k i : Nat} (h : ¬ (p ≤ i ∧ i < p + k)) : kjF g f0 p k i = f0 i := by unfold kjF; rw [if_neg h]
theorem kjF_up {f g f0 : Nat → Int64} {p : Nat} {k : Int} {i : Nat} {v : Int64} (h : f = kjF g f0 p k.toNat) (hk : 0 ≤ k) (hi : i = p + k.toNat) (hv : v = g k.toNat) : fuj f i v = kjF g f0 p (k + 1).toNat := by
  have e : (k + 1).toNat = k.toNat + 1 := by omega
  rw [e]; subst h hi hv
  funext q
  by_cases hq : q = p + k.toNat
  · subst hq; rw [fuj_s, kjF_in (by omega)]; congr 1; omega
  · rw [fuj_o _ _ hq]; unfold kjF
    by_cases hr : p ≤ q ∧ q < p + k.toNat
    · rw [if_pos hr, if_pos (by omega)]
    · rw [if_neg hr, if_neg (by omega)]
set_option maxHeartbeats 4000000 in
set_option maxRecDepth 100000 in
theorem x_X12_refuse {D : va_G} {cI cJ cZ cT : ClassId} {lo b L : Nat} {xs : Nat → Int32} {hp : MH} {n d : Nat} {Γ : TG} {y : Nat} {rf cn nm : Int} {so sz dr mn fr tt wt co : Nat → Int} {nu : Nat → Int64} {sa : Nat → Int} {wo : Nat → Int64} {ln : Nat → Int} {hw : Nat → Int64} {ro qi qc nf nt nw nc : Nat → Int} {cl nx : Nat → Int64} {ie be sd bl : Nat → Int} {bs wy ra rb : Nat → Int64} {lb bg os js ls : Nat → Int} {sp : Nat → Int64} {jw go : Nat → Int} {de : Nat → Int64} {yb ah im : Nat → Int} {x1 : Int} {Po9 : Option Value → MH → Nat → Prop} (hd0 : 0 ≤ d) (ht : Tw (RX Γ cI cJ cZ y rf cn nm so sz dr mn fr tt wt co nu sa wo ln hw ro qi qc nf nt nw nc cl nx ie be sd bl bs wy ra rb lb bg os js ls sp jw go de yb ah im) hp) (hx1 : (-2147483648) ≤ x1 ∧ x1 ≤ 2147483647) (hPo : ∀ r hp1 n1, (n1 = n ∧ Tw (RX Γ cI cJ cZ y x1 cn nm so sz dr mn fr tt wt co nu sa wo ln hw ro qi qc nf nt nw nc cl nx ie be sd bl bs wy ra rb lb bg os js ls sp jw go de yb ah im) hp1 ∧ r = some (.int (iv x1))) → Po9 r hp1 n1) : Mt (gG D cI cJ cZ cT lo b L xs) mX12_refuse d 0 0 [.ref y, .int (iv x1)] hp n Po9 := by
  refine Mt.of rfl (Nat.le_of_ble_eq_true rfl) ?_
  refine Rn.pick (lv' := [(0, .ref y), (1, .int (iv x1))]) [0, 1] rfl ?_
  refine r_aload_n (pc := 0) dX12_refuse_0 (i := 0) rfl rfl ?_
  refine r_iload_n (pc := 1) dX12_refuse_1 (i := 1) rfl rfl ?_
  refine t_putX (pc := 2) (ty := .int) ht RX_y fX12_142 tyX12 tyX12_ok nmX12 (by decide +kernel) (Or.inl rfl) dX12_refuse_2 (Nat.le_of_ble_eq_true rfl) rfl rfl rfl (fun hp1 ht2 => ?_)
  have ht3 := RXw_rf ht2
  refine r_iload_n (pc := 5) dX12_refuse_5 (i := 1) rfl rfl ?_
  exact r_iret (pc := 6) dX12_refuse_6 rfl (hPo _ _ _ ⟨rfl, ht3, rfl⟩)
set_option maxHeartbeats 4000000 in
set_option maxRecDepth 100000 in
theorem x_X12_isThere {D : va_G} {cI cJ cZ cT : ClassId} {lo b L : Nat} {xs : Nat → Int32} {hp : MH} {n d : Nat} {Γ : TG} {y : Nat} {rf cn nm : Int} {so sz dr mn fr tt wt co : Nat → Int} {nu : Nat → Int64} {sa : Nat → Int} {wo : Nat → Int64} {ln : Nat → Int} {hw : Nat → Int64} {ro qi qc nf nt nw nc : Nat → Int} {cl nx : Nat → Int64} {ie be sd bl : Nat → Int} {bs wy ra rb : Nat → Int64} {lb bg os js ls : Nat → Int} {sp : Nat → Int64} {jw go : Nat → Int} {de : Nat → Int64} {yb ah im : Nat → Int} {x1 : Int} {Po9 : Option Value → MH → Nat → Prop} (hd0 : 0 ≤ d) (hcn : 0 ≤ cn ∧ cn ≤ 120) (ht : Tw (RX Γ cI cJ cZ y rf cn nm so sz dr mn fr tt wt co nu sa wo ln hw ro qi qc nf nt nw nc cl nx ie be sd bl bs wy ra rb lb bg os js ls sp jw go de yb ah im) hp) (hx1 : (-2147483648) ≤ x1 ∧ x1 ≤ 2147483647) (hPo : ∀ r hp1 n1, (n1 = n ∧ ∃ (b : Int), Tw (RX Γ cI cJ cZ y rf cn nm so sz dr mn fr tt wt co nu sa wo ln hw ro qi qc nf nt nw nc cl nx ie be sd bl bs wy ra rb lb bg os js ls sp jw go de yb ah im) hp1 ∧ r = some (.int (iv b)) ∧ ((b = 1 ∧ 0 ≤ x1 ∧ x1 < cn) ∨ (b = 0 ∧ ¬ (0 ≤ x1 ∧ x1 < cn)))) → Po9 r hp1 n1) : Mt (gG D cI cJ cZ cT lo b L xs) mX12_isThere d 0 0 [.ref y, .int (iv x1)] hp n Po9 := by
  refine Mt.of rfl (Nat.le_of_ble_eq_true rfl) ?_
  refine Rn.pick (lv' := [(0, .ref y), (1, .int (iv x1))]) [0, 1] rfl ?_
  refine r_iload_n (pc := 0) dX12_isThere_0 (i := 1) rfl rfl ?_
  refine t_if_lt (pc := 1) (tgt := 16) dX12_isThere_1 (by decide) (by omega) (fun c1 => ?_) (fun c1 => ?_)
  · refine r_iconst (pc := 16) (v := iv 0) dX12_isThere_16 (by decide) ?_
    exact r_zret (pc := 17) dX12_isThere_17 rfl (iv_nar (by omega)) (hPo _ _ _ ⟨rfl, 0, ht, rfl, (by omega)⟩)
  · refine r_iload_n (pc := 4) dX12_isThere_4 (i := 1) rfl rfl ?_
    refine r_aload_n (pc := 5) dX12_isThere_5 (i := 0) rfl rfl ?_
    refine t_getE (pc := 6) (.int (iv cn)) ht (rd_of RX_y) fX12_146 dX12_isThere_6 rfl ?_
    refine t_icmp_ge (pc := 9) (tgt := 16) dX12_isThere_9 (by decide) (by omega) (by omega) (fun c9 => ?_) (fun c9 => ?_)
    · refine r_iconst (pc := 16) (v := iv 0) dX12_isThere_16 (by decide) ?_
      exact r_zret (pc := 17) dX12_isThere_17 rfl (iv_nar (by omega)) (hPo _ _ _ ⟨rfl, 0, ht, rfl, (by omega)⟩)
    · refine r_iconst (pc := 12) (v := iv 1) dX12_isThere_12 (by decide) ?_
      refine r_goto (pc := 13) (tgt := 17) dX12_isThere_13 (by decide) ?_
      exact r_zret (pc := 17) dX12_isThere_17 rfl (iv_nar (by omega)) (hPo _ _ _ ⟨rfl, 1, ht, rfl, (by omega)⟩)
set_option maxHeartbeats 4000000 in
set_option maxRecDepth 100000 in
theorem x_X12_has {D : va_G} {cI cJ cZ cT : ClassId} {lo b L : Nat} {xs : Nat → Int32} {hp : MH} {n d : Nat} {Γ : TG} {y : Nat} {rf cn nm : Int} {so sz dr mn fr tt wt co : Nat → Int} {nu : Nat → Int64} {sa : Nat → Int} {wo : Nat → Int64} {ln : Nat → Int} {hw : Nat → Int64} {ro qi qc nf nt nw nc : Nat → Int} {cl nx : Nat → Int64} {ie be sd bl : Nat → Int} {bs wy ra rb : Nat → Int64} {lb bg os js ls : Nat → Int} {sp : Nat → Int64} {jw go : Nat → Int} {de : Nat → Int64} {yb ah im : Nat → Int} {x1 x2 : Int} {Po9 : Option Value → MH → Nat → Prop} (hd0 : 1 ≤ d) (hcn : 0 ≤ cn ∧ cn ≤ 120) (hR_sorts : Rfx 121 0 4 so) (ht : Tw (RX Γ cI cJ cZ y rf cn nm so sz dr mn fr tt wt co nu sa wo ln hw ro qi qc nf nt nw nc cl nx ie be sd bl bs wy ra rb lb bg os js ls sp jw go de yb ah im) hp) (hx1 : (-2147483648) ≤ x1 ∧ x1 ≤ 2147483647) (hx2 : 1 ≤ x2 ∧ x2 ≤ 4) (hPo : ∀ r hp1 n1, (n1 = n ∧ ∃ (v : Int) (b : Int), Tw (RX Γ cI cJ cZ y v cn nm so sz dr mn fr tt wt co nu sa wo ln hw ro qi qc nf nt nw nc cl nx ie be sd bl bs wy ra rb lb bg os js ls sp jw go de yb ah im) hp1 ∧ r = some (.int (iv b)) ∧ (-2 ≤ v ∧ v ≤ 0 ∧ (b = 0 ∨ b = 1)) ∧ ((b = 1 ∧ v = 0 ∧ 0 ≤ x1 ∧ x1 < cn ∧ so (Int.toNat x1) = x2) ∨ (b = 0 ∧ v = -1 ∧ ¬ (0 ≤ x1 ∧ x1 < cn)) ∨ (b = 0 ∧ v = -2 ∧ 0 ≤ x1 ∧ x1 < cn ∧ so (Int.toNat x1) ≠ x2))) → Po9 r hp1 n1) : Mt (gG D cI cJ cZ cT lo b L xs) mX12_has d 0 0 [.ref y, .int (iv x1), .int (iv x2)] hp n Po9 := by
  refine Mt.of rfl (Nat.le_of_ble_eq_true rfl) ?_
  refine Rn.pick (lv' := [(0, .ref y), (1, .int (iv x1)), (2, .int (iv x2))]) [0, 1, 2] rfl ?_
  refine r_aload_n (pc := 0) dX12_has_0 (i := 0) rfl rfl ?_
  refine r_aload_n (pc := 1) dX12_has_1 (i := 0) rfl rfl ?_
  refine r_iload_n (pc := 2) dX12_has_2 (i := 1) rfl rfl ?_
  obtain ⟨fs5, hfs5⟩ := t_obj ht (rd_of RX_y)
  refine r_callV (pc := 3) (as := [.int (iv x1)]) (st := [.ref y]) kX12_149 rfl dX12_has_3 hfs5 (x_X12_isThere (d := d - 1) (x1 := x1) (by omega) (by omega) ht (by omega) (fun _ _ _ h => h)) rfl (by omega) (Nat.le_of_ble_eq_true rfl) (Nat.zero_le _) (Nat.zero_le _) rfl (fun r2 hp1 n3 hq4 => ?_)
  obtain ⟨hnn3, b_7, ht6, hrr2, hhq40⟩ := hq4
  subst n3 r2
  have hhq40 : (b_7 = 1 ∧ 0 ≤ x1 ∧ x1 < cn) ∨ (b_7 = 0 ∧ ¬ (0 ≤ x1 ∧ x1 < cn)) := hhq40
  change Rn _ _ _ 6 _ [.int (iv b_7), .ref y] _ _ _ _ _
  refine t_if_ne (pc := 6) (tgt := 13) dX12_has_6 (by decide) (by omega) (fun c6 => ?_) (fun c6 => ?_)
  · refine r_aload_n (pc := 13) dX12_has_13 (i := 0) rfl rfl ?_
    refine t_getE (pc := 14) (.ref (y + 1)) ht6 (rd_of RX_y) fX12_7 dX12_has_14 rfl ?_
    refine r_iload_n (pc := 17) dX12_has_17 (i := 1) rfl rfl ?_
    refine t_ialdX (pc := 18) (t0 := 0) ht6 (rd_of RX_sorts) dX12_has_18 rfl (by decide) (by omega) (fun b8 => ?_)
    have rb8 := (show Rfx 121 0 4 so by assumption) (Int.toNat x1) (by omega)
    refine r_iload_n (pc := 19) dX12_has_19 (i := 2) rfl rfl ?_
    refine t_icmp_eq (pc := 20) (tgt := 28) dX12_has_20 (by decide) (by omega) (by omega) (fun c20 => ?_) (fun c20 => ?_)
    · refine r_iconst (pc := 28) (v := iv 0) dX12_has_28 (by decide) ?_
      refine t_putX (pc := 29) (ty := .int) ht6 RX_y fX12_142 tyX12 tyX12_ok nmX12 (by decide +kernel) (Or.inl rfl) dX12_has_29 (Nat.le_of_ble_eq_true rfl) rfl rfl rfl (fun hp9 ht10 => ?_)
      have ht11 := RXw_rf ht10
      refine r_aload_n (pc := 32) dX12_has_32 (i := 0) rfl rfl ?_
      refine t_getE (pc := 33) (.int (iv 0)) ht11 (rd_of RX_y) fX12_142 dX12_has_33 rfl ?_
      refine t_if_ne (pc := 36) (tgt := 43) dX12_has_36 (by decide) (by omega) (fun c36 => ?_) (fun c36 => ?_)
      · refine r_iconst (pc := 43) (v := iv 0) dX12_has_43 (by decide) ?_
        exact r_zret (pc := 44) dX12_has_44 rfl (iv_nar (by omega)) (hPo _ _ _ ⟨rfl, 0, 0, ht11, rfl, (by omega), (by omega)⟩)
      · refine r_iconst (pc := 39) (v := iv 1) dX12_has_39 (by decide) ?_
        refine r_goto (pc := 40) (tgt := 44) dX12_has_40 (by decide) ?_
        exact r_zret (pc := 44) dX12_has_44 rfl (iv_nar (by omega)) (hPo _ _ _ ⟨rfl, 0, 1, ht11, rfl, (by omega), (by omega)⟩)
    · refine r_bipush (pc := 23) (v := iv (-2)) dX12_has_23 (by decide) ?_
      refine r_goto (pc := 25) (tgt := 29) dX12_has_25 (by decide) ?_
      refine t_putX (pc := 29) (ty := .int) ht6 RX_y fX12_142 tyX12 tyX12_ok nmX12 (by decide +kernel) (Or.inl rfl) dX12_has_29 (Nat.le_of_ble_eq_true rfl) rfl rfl rfl (fun hp12 ht13 => ?_)
      have ht14 := RXw_rf ht13
      refine r_aload_n (pc := 32) dX12_has_32 (i := 0) rfl rfl ?_
      refine t_getE (pc := 33) (.int (iv (-2))) ht14 (rd_of RX_y) fX12_142 dX12_has_33 rfl ?_
      refine t_if_ne (pc := 36) (tgt := 43) dX12_has_36 (by decide) (by omega) (fun c36 => ?_) (fun c36 => ?_)
      · refine r_iconst (pc := 43) (v := iv 0) dX12_has_43 (by decide) ?_
        exact r_zret (pc := 44) dX12_has_44 rfl (iv_nar (by omega)) (hPo _ _ _ ⟨rfl, (-2), 0, ht14, rfl, (by omega), (by omega)⟩)
      · refine r_iconst (pc := 39) (v := iv 1) dX12_has_39 (by decide) ?_
        refine r_goto (pc := 40) (tgt := 44) dX12_has_40 (by decide) ?_
        exact r_zret (pc := 44) dX12_has_44 rfl (iv_nar (by omega)) (hPo _ _ _ ⟨rfl, (-2), 1, ht14, rfl, (by omega), (by omega)⟩)
  · refine r_iconst (pc := 9) (v := iv (-1)) dX12_has_9 (by decide) ?_
    refine r_goto (pc := 10) (tgt := 29) dX12_has_10 (by decide) ?_
    refine t_putX (pc := 29) (ty := .int) ht6 RX_y fX12_142 tyX12 tyX12_ok nmX12 (by decide +kernel) (Or.inl rfl) dX12_has_29 (Nat.le_of_ble_eq_true rfl) rfl rfl rfl (fun hp15 ht16 => ?_)
    have ht17 := RXw_rf ht16
    refine r_aload_n (pc := 32) dX12_has_32 (i := 0) rfl rfl ?_
    refine t_getE (pc := 33) (.int (iv (-1))) ht17 (rd_of RX_y) fX12_142 dX12_has_33 rfl ?_
    refine t_if_ne (pc := 36) (tgt := 43) dX12_has_36 (by decide) (by omega) (fun c36 => ?_) (fun c36 => ?_)
    · refine r_iconst (pc := 43) (v := iv 0) dX12_has_43 (by decide) ?_
      exact r_zret (pc := 44) dX12_has_44 rfl (iv_nar (by omega)) (hPo _ _ _ ⟨rfl, (-1), 0, ht17, rfl, (by omega), (by omega)⟩)
    · refine r_iconst (pc := 39) (v := iv 1) dX12_has_39 (by decide) ?_
      refine r_goto (pc := 40) (tgt := 44) dX12_has_40 (by decide) ?_
      exact r_zret (pc := 44) dX12_has_44 rfl (iv_nar (by omega)) (hPo _ _ _ ⟨rfl, (-1), 1, ht17, rfl, (by omega), (by omega)⟩)
set_option maxHeartbeats 4000000 in
set_option maxRecDepth 100000 in
theorem x_X12_haveTwo {D : va_G} {cI cJ cZ cT : ClassId} {lo b L : Nat} {xs : Nat → Int32} {hp : MH} {n d : Nat} {Γ : TG} {y : Nat} {rf cn nm : Int} {so sz dr mn fr tt wt co : Nat → Int} {nu : Nat → Int64} {sa : Nat → Int} {wo : Nat → Int64} {ln : Nat → Int} {hw : Nat → Int64} {ro qi qc nf nt nw nc : Nat → Int} {cl nx : Nat → Int64} {ie be sd bl : Nat → Int} {bs wy ra rb : Nat → Int64} {lb bg os js ls : Nat → Int} {sp : Nat → Int64} {jw go : Nat → Int} {de : Nat → Int64} {yb ah im : Nat → Int} {x1 x2 x3 x4 : Int} {Po9 : Option Value → MH → Nat → Prop} (hd0 : 1 ≤ d) (hcn : 0 ≤ cn ∧ cn ≤ 120) (hR_sorts : Rfx 121 0 4 so) (ht : Tw (RX Γ cI cJ cZ y rf cn nm so sz dr mn fr tt wt co nu sa wo ln hw ro qi qc nf nt nw nc cl nx ie be sd bl bs wy ra rb lb bg os js ls sp jw go de yb ah im) hp) (hx1 : (-2147483648) ≤ x1 ∧ x1 ≤ 2147483647) (hx2 : 1 ≤ x2 ∧ x2 ≤ 4) (hx3 : (-2147483648) ≤ x3 ∧ x3 ≤ 2147483647) (hx4 : 1 ≤ x4 ∧ x4 ≤ 4) (hPo : ∀ r hp1 n1, (n1 = n ∧ ∃ (v : Int) (b : Int), Tw (RX Γ cI cJ cZ y v cn nm so sz dr mn fr tt wt co nu sa wo ln hw ro qi qc nf nt nw nc cl nx ie be sd bl bs wy ra rb lb bg os js ls sp jw go de yb ah im) hp1 ∧ r = some (.int (iv b)) ∧ (-2 ≤ v ∧ v ≤ 0 ∧ (b = 0 ∨ b = 1)) ∧ ((b = 1 ∧ v = 0 ∧ 0 ≤ x1 ∧ x1 < cn ∧ 0 ≤ x3 ∧ x3 < cn ∧ so (Int.toNat x1) = x2 ∧ so (Int.toNat x3) = x4) ∨ (b = 0 ∧ v = -1 ∧ ¬ (0 ≤ x1 ∧ x1 < cn ∧ 0 ≤ x3 ∧ x3 < cn)) ∨ (b = 0 ∧ v = -2 ∧ 0 ≤ x1 ∧ x1 < cn ∧ 0 ≤ x3 ∧ x3 < cn ∧ ¬ (so (Int.toNat x1) = x2 ∧ so (Int.toNat x3) = x4)))) → Po9 r hp1 n1) : Mt (gG D cI cJ cZ cT lo b L xs) mX12_haveTwo d 0 0 [.ref y, .int (iv x1), .int (iv x2), .int (iv x3), .int (iv x4)] hp n Po9 := by
  refine Mt.of rfl (Nat.le_of_ble_eq_true rfl) ?_
  refine Rn.pick (lv' := [(0, .ref y), (1, .int (iv x1)), (2, .int (iv x2)), (3, .int (iv x3)), (4, .int (iv x4))]) [0, 1, 2, 3, 4] rfl ?_
  refine r_aload_n (pc := 0) dX12_haveTwo_0 (i := 0) rfl rfl ?_
  refine r_aload_n (pc := 1) dX12_haveTwo_1 (i := 0) rfl rfl ?_
  refine r_iload_n (pc := 2) dX12_haveTwo_2 (i := 1) rfl rfl ?_
  obtain ⟨fs5, hfs5⟩ := t_obj ht (rd_of RX_y)
  refine r_callV (pc := 3) (as := [.int (iv x1)]) (st := [.ref y]) kX12_149 rfl dX12_haveTwo_3 hfs5 (x_X12_isThere (d := d - 1) (x1 := x1) (by omega) (by omega) ht (by omega) (fun _ _ _ h => h)) rfl (by omega) (Nat.le_of_ble_eq_true rfl) (Nat.zero_le _) (Nat.zero_le _) rfl (fun r2 hp1 n3 hq4 => ?_)
  obtain ⟨hnn3, b_7, ht6, hrr2, hhq40⟩ := hq4
  subst n3 r2
  have hhq40 : (b_7 = 1 ∧ 0 ≤ x1 ∧ x1 < cn) ∨ (b_7 = 0 ∧ ¬ (0 ≤ x1 ∧ x1 < cn)) := hhq40
  change Rn _ _ _ 6 _ [.int (iv b_7), .ref y] _ _ _ _ _
  refine t_if_eq (pc := 6) (tgt := 17) dX12_haveTwo_6 (by decide) (by omega) (fun c6 => ?_) (fun c6 => ?_)
  · refine r_iconst (pc := 17) (v := iv (-1)) dX12_haveTwo_17 (by decide) ?_
    refine r_goto (pc := 18) (tgt := 48) dX12_haveTwo_18 (by decide) ?_
    refine t_putX (pc := 48) (ty := .int) ht6 RX_y fX12_142 tyX12 tyX12_ok nmX12 (by decide +kernel) (Or.inl rfl) dX12_haveTwo_48 (Nat.le_of_ble_eq_true rfl) rfl rfl rfl (fun hp8 ht9 => ?_)
    have ht10 := RXw_rf ht9
    refine r_aload_n (pc := 51) dX12_haveTwo_51 (i := 0) rfl rfl ?_
    refine t_getE (pc := 52) (.int (iv (-1))) ht10 (rd_of RX_y) fX12_142 dX12_haveTwo_52 rfl ?_
    refine t_if_ne (pc := 55) (tgt := 62) dX12_haveTwo_55 (by decide) (by omega) (fun c55 => ?_) (fun c55 => ?_)
    · refine r_iconst (pc := 62) (v := iv 0) dX12_haveTwo_62 (by decide) ?_
      exact r_zret (pc := 63) dX12_haveTwo_63 rfl (iv_nar (by omega)) (hPo _ _ _ ⟨rfl, (-1), 0, ht10, rfl, (by omega), (by omega)⟩)
    · refine r_iconst (pc := 58) (v := iv 1) dX12_haveTwo_58 (by decide) ?_
      refine r_goto (pc := 59) (tgt := 63) dX12_haveTwo_59 (by decide) ?_
      exact r_zret (pc := 63) dX12_haveTwo_63 rfl (iv_nar (by omega)) (hPo _ _ _ ⟨rfl, (-1), 1, ht10, rfl, (by omega), (by omega)⟩)
  · refine r_aload_n (pc := 9) dX12_haveTwo_9 (i := 0) rfl rfl ?_
    refine r_iload_n (pc := 10) dX12_haveTwo_10 (i := 3) rfl rfl ?_
    obtain ⟨fs15, hfs15⟩ := t_obj ht6 (rd_of RX_y)
    refine r_callV (pc := 11) (as := [.int (iv x3)]) (st := [.ref y]) kX12_149 rfl dX12_haveTwo_11 hfs15 (x_X12_isThere (d := d - 1) (x1 := x3) (by omega) (by omega) ht6 (by omega) (fun _ _ _ h => h)) rfl (by omega) (Nat.le_of_ble_eq_true rfl) (Nat.zero_le _) (Nat.zero_le _) rfl (fun r12 hp11 n13 hq14 => ?_)
    obtain ⟨hnn13, b_17, ht16, hrr12, hhq140⟩ := hq14
    subst n13 r12
    have hhq140 : (b_17 = 1 ∧ 0 ≤ x3 ∧ x3 < cn) ∨ (b_17 = 0 ∧ ¬ (0 ≤ x3 ∧ x3 < cn)) := hhq140
    change Rn _ _ _ 14 _ [.int (iv b_17), .ref y] _ _ _ _ _
    refine t_if_ne (pc := 14) (tgt := 21) dX12_haveTwo_14 (by decide) (by omega) (fun c14 => ?_) (fun c14 => ?_)
    · refine r_aload_n (pc := 21) dX12_haveTwo_21 (i := 0) rfl rfl ?_
      refine t_getE (pc := 22) (.ref (y + 1)) ht16 (rd_of RX_y) fX12_7 dX12_haveTwo_22 rfl ?_
      refine r_iload_n (pc := 25) dX12_haveTwo_25 (i := 1) rfl rfl ?_
      refine t_ialdX (pc := 26) (t0 := 0) ht16 (rd_of RX_sorts) dX12_haveTwo_26 rfl (by decide) (by omega) (fun b18 => ?_)
      have rb18 := (show Rfx 121 0 4 so by assumption) (Int.toNat x1) (by omega)
      refine r_iload_n (pc := 27) dX12_haveTwo_27 (i := 2) rfl rfl ?_
      refine t_icmp_ne (pc := 28) (tgt := 42) dX12_haveTwo_28 (by decide) (by omega) (by omega) (fun c28 => ?_) (fun c28 => ?_)
      · refine r_bipush (pc := 42) (v := iv (-2)) dX12_haveTwo_42 (by decide) ?_
        refine r_goto (pc := 44) (tgt := 48) dX12_haveTwo_44 (by decide) ?_
        refine t_putX (pc := 48) (ty := .int) ht16 RX_y fX12_142 tyX12 tyX12_ok nmX12 (by decide +kernel) (Or.inl rfl) dX12_haveTwo_48 (Nat.le_of_ble_eq_true rfl) rfl rfl rfl (fun hp19 ht20 => ?_)
        have ht21 := RXw_rf ht20
        refine r_aload_n (pc := 51) dX12_haveTwo_51 (i := 0) rfl rfl ?_
        refine t_getE (pc := 52) (.int (iv (-2))) ht21 (rd_of RX_y) fX12_142 dX12_haveTwo_52 rfl ?_
        refine t_if_ne (pc := 55) (tgt := 62) dX12_haveTwo_55 (by decide) (by omega) (fun c55 => ?_) (fun c55 => ?_)
        · refine r_iconst (pc := 62) (v := iv 0) dX12_haveTwo_62 (by decide) ?_
          exact r_zret (pc := 63) dX12_haveTwo_63 rfl (iv_nar (by omega)) (hPo _ _ _ ⟨rfl, (-2), 0, ht21, rfl, (by omega), (by omega)⟩)
        · refine r_iconst (pc := 58) (v := iv 1) dX12_haveTwo_58 (by decide) ?_
          refine r_goto (pc := 59) (tgt := 63) dX12_haveTwo_59 (by decide) ?_
          exact r_zret (pc := 63) dX12_haveTwo_63 rfl (iv_nar (by omega)) (hPo _ _ _ ⟨rfl, (-2), 1, ht21, rfl, (by omega), (by omega)⟩)
      · refine r_aload_n (pc := 31) dX12_haveTwo_31 (i := 0) rfl rfl ?_
        refine t_getE (pc := 32) (.ref (y + 1)) ht16 (rd_of RX_y) fX12_7 dX12_haveTwo_32 rfl ?_
        refine r_iload_n (pc := 35) dX12_haveTwo_35 (i := 3) rfl rfl ?_
        refine t_ialdX (pc := 36) (t0 := 0) ht16 (rd_of RX_sorts) dX12_haveTwo_36 rfl (by decide) (by omega) (fun b22 => ?_)
        have rb22 := (show Rfx 121 0 4 so by assumption) (Int.toNat x3) (by omega)
        refine r_iload (pc := 37) dX12_haveTwo_37 rfl ?_
        refine t_icmp_eq (pc := 39) (tgt := 47) dX12_haveTwo_39 (by decide) (by omega) (by omega) (fun c39 => ?_) (fun c39 => ?_)
        · refine r_iconst (pc := 47) (v := iv 0) dX12_haveTwo_47 (by decide) ?_
          refine t_putX (pc := 48) (ty := .int) ht16 RX_y fX12_142 tyX12 tyX12_ok nmX12 (by decide +kernel) (Or.inl rfl) dX12_haveTwo_48 (Nat.le_of_ble_eq_true rfl) rfl rfl rfl (fun hp23 ht24 => ?_)
          have ht25 := RXw_rf ht24
          refine r_aload_n (pc := 51) dX12_haveTwo_51 (i := 0) rfl rfl ?_
          refine t_getE (pc := 52) (.int (iv 0)) ht25 (rd_of RX_y) fX12_142 dX12_haveTwo_52 rfl ?_
          refine t_if_ne (pc := 55) (tgt := 62) dX12_haveTwo_55 (by decide) (by omega) (fun c55 => ?_) (fun c55 => ?_)
          · refine r_iconst (pc := 62) (v := iv 0) dX12_haveTwo_62 (by decide) ?_
            exact r_zret (pc := 63) dX12_haveTwo_63 rfl (iv_nar (by omega)) (hPo _ _ _ ⟨rfl, 0, 0, ht25, rfl, (by omega), (by omega)⟩)
          · refine r_iconst (pc := 58) (v := iv 1) dX12_haveTwo_58 (by decide) ?_
            refine r_goto (pc := 59) (tgt := 63) dX12_haveTwo_59 (by decide) ?_
            exact r_zret (pc := 63) dX12_haveTwo_63 rfl (iv_nar (by omega)) (hPo _ _ _ ⟨rfl, 0, 1, ht25, rfl, (by omega), (by omega)⟩)
        · refine r_bipush (pc := 42) (v := iv (-2)) dX12_haveTwo_42 (by decide) ?_
          refine r_goto (pc := 44) (tgt := 48) dX12_haveTwo_44 (by decide) ?_
          refine t_putX (pc := 48) (ty := .int) ht16 RX_y fX12_142 tyX12 tyX12_ok nmX12 (by decide +kernel) (Or.inl rfl) dX12_haveTwo_48 (Nat.le_of_ble_eq_true rfl) rfl rfl rfl (fun hp26 ht27 => ?_)
          have ht28 := RXw_rf ht27
          refine r_aload_n (pc := 51) dX12_haveTwo_51 (i := 0) rfl rfl ?_
          refine t_getE (pc := 52) (.int (iv (-2))) ht28 (rd_of RX_y) fX12_142 dX12_haveTwo_52 rfl ?_
          refine t_if_ne (pc := 55) (tgt := 62) dX12_haveTwo_55 (by decide) (by omega) (fun c55 => ?_) (fun c55 => ?_)
          · refine r_iconst (pc := 62) (v := iv 0) dX12_haveTwo_62 (by decide) ?_
            exact r_zret (pc := 63) dX12_haveTwo_63 rfl (iv_nar (by omega)) (hPo _ _ _ ⟨rfl, (-2), 0, ht28, rfl, (by omega), (by omega)⟩)
          · refine r_iconst (pc := 58) (v := iv 1) dX12_haveTwo_58 (by decide) ?_
            refine r_goto (pc := 59) (tgt := 63) dX12_haveTwo_59 (by decide) ?_
            exact r_zret (pc := 63) dX12_haveTwo_63 rfl (iv_nar (by omega)) (hPo _ _ _ ⟨rfl, (-2), 1, ht28, rfl, (by omega), (by omega)⟩)
    · refine r_iconst (pc := 17) (v := iv (-1)) dX12_haveTwo_17 (by decide) ?_
      refine r_goto (pc := 18) (tgt := 48) dX12_haveTwo_18 (by decide) ?_
      refine t_putX (pc := 48) (ty := .int) ht16 RX_y fX12_142 tyX12 tyX12_ok nmX12 (by decide +kernel) (Or.inl rfl) dX12_haveTwo_48 (Nat.le_of_ble_eq_true rfl) rfl rfl rfl (fun hp29 ht30 => ?_)
      have ht31 := RXw_rf ht30
      refine r_aload_n (pc := 51) dX12_haveTwo_51 (i := 0) rfl rfl ?_
      refine t_getE (pc := 52) (.int (iv (-1))) ht31 (rd_of RX_y) fX12_142 dX12_haveTwo_52 rfl ?_
      refine t_if_ne (pc := 55) (tgt := 62) dX12_haveTwo_55 (by decide) (by omega) (fun c55 => ?_) (fun c55 => ?_)
      · refine r_iconst (pc := 62) (v := iv 0) dX12_haveTwo_62 (by decide) ?_
        exact r_zret (pc := 63) dX12_haveTwo_63 rfl (iv_nar (by omega)) (hPo _ _ _ ⟨rfl, (-1), 0, ht31, rfl, (by omega), (by omega)⟩)
      · refine r_iconst (pc := 58) (v := iv 1) dX12_haveTwo_58 (by decide) ?_
        refine r_goto (pc := 59) (tgt := 63) dX12_haveTwo_59 (by decide) ?_
        exact r_zret (pc := 63) dX12_haveTwo_63 rfl (iv_nar (by omega)) (hPo _ _ _ ⟨rfl, (-1), 1, ht31, rfl, (by omega), (by omega)⟩)
set_option maxHeartbeats 4000000 in
set_option maxRecDepth 100000 in
theorem x_X12_keep {D : va_G} {cI cJ cZ cT : ClassId} {lo b L : Nat} {xs : Nat → Int32} {hp : MH} {n d : Nat} {Γ : TG} {y : Nat} {rf cn nm : Int} {so sz dr mn fr tt wt co : Nat → Int} {nu : Nat → Int64} {sa : Nat → Int} {wo : Nat → Int64} {ln : Nat → Int} {hw : Nat → Int64} {ro qi qc nf nt nw nc : Nat → Int} {cl nx : Nat → Int64} {ie be sd bl : Nat → Int} {bs wy ra rb : Nat → Int64} {lb bg os js ls : Nat → Int} {sp : Nat → Int64} {jw go : Nat → Int} {de : Nat → Int64} {yb ah im : Nat → Int} {x1 : Int} {Po9 : Option Value → MH → Nat → Prop} (hd0 : 1 ≤ d) (hcn : 0 ≤ cn ∧ cn ≤ 120) (hR_sorts : Rfx 121 0 4 so) (hrf : -2147483648 ≤ rf ∧ rf ≤ 2147483647) (ht : Tw (RX Γ cI cJ cZ y rf cn nm so sz dr mn fr tt wt co nu sa wo ln hw ro qi qc nf nt nw nc cl nx ie be sd bl bs wy ra rb lb bg os js ls sp jw go de yb ah im) hp) (hx1 : 1 ≤ x1 ∧ x1 ≤ 4) (hPo : ∀ r hp1 n1, (n1 = n ∧ ∃ (v : Int) (c1 : Int) (s1 : Nat → Int) (h : Int), Tw (RX Γ cI cJ cZ y v c1 nm s1 sz dr mn fr tt wt co nu sa wo ln hw ro qi qc nf nt nw nc cl nx ie be sd bl bs wy ra rb lb bg os js ls sp jw go de yb ah im) hp1 ∧ r = some (.int (iv h)) ∧ (-4 ≤ h ∧ h ≤ 119 ∧ 0 ≤ c1 ∧ c1 ≤ 120 ∧ -2147483648 ≤ v ∧ v ≤ 2147483647) ∧ ((cn = 120 ∧ h = -4 ∧ v = -4 ∧ c1 = cn) ∨ (cn < 120 ∧ h = cn ∧ v = rf ∧ c1 = cn + 1)) ∧ (cn = 120 → s1 = so) ∧ (cn < 120 → s1 = fup so (Int.toNat cn) x1)) → Po9 r hp1 n1) : Mt (gG D cI cJ cZ cT lo b L xs) mX12_keep d 0 0 [.ref y, .int (iv x1)] hp n Po9 := by
  refine Mt.of rfl (Nat.le_of_ble_eq_true rfl) ?_
  refine Rn.pick (lv' := [(0, .ref y), (1, .int (iv x1))]) [0, 1] rfl ?_
  refine r_aload_n (pc := 0) dX12_keep_0 (i := 0) rfl rfl ?_
  refine t_getE (pc := 1) (.int (iv cn)) ht (rd_of RX_y) fX12_146 dX12_keep_1 rfl ?_
  refine r_bipush (pc := 4) (v := iv 120) dX12_keep_4 (by decide) ?_
  refine t_icmp_ne (pc := 6) (tgt := 16) dX12_keep_6 (by decide) (by omega) (by omega) (fun c6 => ?_) (fun c6 => ?_)
  · refine r_aload_n (pc := 16) dX12_keep_16 (i := 0) rfl rfl ?_
    refine t_getE (pc := 17) (.ref (y + 1)) ht (rd_of RX_y) fX12_7 dX12_keep_17 rfl ?_
    refine r_aload_n (pc := 20) dX12_keep_20 (i := 0) rfl rfl ?_
    refine t_getE (pc := 21) (.int (iv cn)) ht (rd_of RX_y) fX12_146 dX12_keep_21 rfl ?_
    refine r_iload_n (pc := 24) dX12_keep_24 (i := 1) rfl rfl ?_
    refine t_iastX (pc := 25) (t0 := 0) ht RX_sorts dX12_keep_25 rfl (by decide) (by omega) (by omega) (fun hp1 ht2 => ?_)
    have ht3 := RXw_so ht2
    have hqht3 : Rfx 121 0 4 (fup so (Int.toNat cn) x1) := Rfx_up (by assumption) (by omega)
    refine r_aload_n (pc := 26) dX12_keep_26 (i := 0) rfl rfl ?_
    refine r_dup (pc := 27) dX12_keep_27 rfl ?_
    refine t_getE (pc := 28) (.int (iv cn)) ht3 (rd_of RX_y) fX12_146 dX12_keep_28 rfl ?_
    refine r_iconst (pc := 31) (v := iv 1) dX12_keep_31 (by decide) ?_
    refine r_iadd (pc := 32) (v := iv (cn + 1)) dX12_keep_32 (iv_add _ _) ?_
    refine t_putX (pc := 33) (ty := .int) ht3 RX_y fX12_146 tyX12 tyX12_ok nmX12 (by decide +kernel) (Or.inl rfl) dX12_keep_33 (Nat.le_of_ble_eq_true rfl) rfl rfl rfl (fun hp4 ht5 => ?_)
    have ht6 := RXw_cn ht5
    refine r_aload_n (pc := 36) dX12_keep_36 (i := 0) rfl rfl ?_
    refine t_getE (pc := 37) (.int (iv (cn + 1))) ht6 (rd_of RX_y) fX12_146 dX12_keep_37 rfl ?_
    refine r_iconst (pc := 40) (v := iv 1) dX12_keep_40 (by decide) ?_
    refine r_isub (pc := 41) (v := iv ((cn + 1) - 1)) dX12_keep_41 (iv_sub _ _) ?_
    exact r_iret (pc := 42) dX12_keep_42 rfl (hPo _ _ _ ⟨rfl, rf, (cn + 1), (fup so (Int.toNat cn) x1), ((cn + 1) - 1), ht6, rfl, (by omega), (by omega), (by (first | (intro h9; exfalso; omega) | (intro _; rfl))), (by (first | (intro h9; exfalso; omega) | (intro _; rfl)))⟩)
  · refine r_aload_n (pc := 9) dX12_keep_9 (i := 0) rfl rfl ?_
    refine r_bipush (pc := 10) (v := iv (-4)) dX12_keep_10 (by decide) ?_
    obtain ⟨fs11, hfs11⟩ := t_obj ht (rd_of RX_y)
    refine r_callV (pc := 12) (as := [.int (iv (-4))]) (st := []) kX12_153 rfl dX12_keep_12 hfs11 (x_X12_refuse (d := d - 1) (x1 := (-4)) (by omega) ht (by omega) (fun _ _ _ h => h)) rfl (by omega) (Nat.le_of_ble_eq_true rfl) (Nat.zero_le _) (Nat.zero_le _) rfl (fun r8 hp7 n9 hq10 => ?_)
    obtain ⟨hnn9, ht12, hrr8⟩ := hq10
    subst n9 r8
    change Rn _ _ _ 15 _ [.int (iv (-4))] _ _ _ _ _
    exact r_iret (pc := 15) dX12_keep_15 rfl (hPo _ _ _ ⟨rfl, (-4), cn, so, (-4), ht12, rfl, (by omega), (by omega), (by (first | (intro h9; exfalso; omega) | (intro _; rfl))), (by (first | (intro h9; exfalso; omega) | (intro _; rfl)))⟩)
set_option maxHeartbeats 4000000 in
set_option maxRecDepth 100000 in
theorem x_X12_add {D : va_G} {cI cJ cZ cT : ClassId} {lo b L : Nat} {xs : Nat → Int32} {hp : MH} {n d : Nat} {Γ : TG} {y : Nat} {rf cn nm : Int} {so sz dr mn fr tt wt co : Nat → Int} {nu : Nat → Int64} {sa : Nat → Int} {wo : Nat → Int64} {ln : Nat → Int} {hw : Nat → Int64} {ro qi qc nf nt nw nc : Nat → Int} {cl nx : Nat → Int64} {ie be sd bl : Nat → Int} {bs wy ra rb : Nat → Int64} {lb bg os js ls : Nat → Int} {sp : Nat → Int64} {jw go : Nat → Int} {de : Nat → Int64} {yb ah im : Nat → Int} {x1 x2 x3 x4 x5 : Int} {Po9 : Option Value → MH → Nat → Prop} (hd0 : 1 ≤ d) (hR_many : Rfx 121 0 60 mn) (hR_from : Rfx 7260 0 15 fr) (hR_to : Rfx 7260 0 15 tt) (hR_weight : Rfx 7260 (-1000) 1000 wt) (hR_cost : Rfx 7260 (-1000) 1000 co) (ht : Tw (RX Γ cI cJ cZ y rf cn nm so sz dr mn fr tt wt co nu sa wo ln hw ro qi qc nf nt nw nc cl nx ie be sd bl bs wy ra rb lb bg os js ls sp jw go de yb ah im) hp) (hx1 : 0 ≤ x1 ∧ x1 ≤ 120) (hx2 : 0 ≤ x2 ∧ x2 ≤ 15) (hx3 : 0 ≤ x3 ∧ x3 ≤ 15) (hx4 : (-1000) ≤ x4 ∧ x4 ≤ 1000) (hx5 : (-1000) ≤ x5 ∧ x5 ≤ 1000) (hm9 : mn (Int.toNat x1) ≤ 59) (hPo : ∀ r hp1 n1, (n1 = n ∧ Tw (RX Γ cI cJ cZ y rf cn nm so sz dr (fup mn (Int.toNat x1) (mn (Int.toNat x1) + 1)) (fup fr (Int.toNat (60 * x1 + mn (Int.toNat x1))) x2) (fup tt (Int.toNat (60 * x1 + mn (Int.toNat x1))) x3) (fup wt (Int.toNat (60 * x1 + mn (Int.toNat x1))) x4) (fup co (Int.toNat (60 * x1 + mn (Int.toNat x1))) x5) nu sa wo ln hw ro qi qc nf nt nw nc cl nx ie be sd bl bs wy ra rb lb bg os js ls sp jw go de yb ah im) hp1 ∧ r = none) → Po9 r hp1 n1) : Mt (gG D cI cJ cZ cT lo b L xs) mX12_add d 0 0 [.ref y, .int (iv x1), .int (iv x2), .int (iv x3), .int (iv x4), .int (iv x5)] hp n Po9 := by
  refine Mt.of rfl (Nat.le_of_ble_eq_true rfl) ?_
  refine Rn.pick (lv' := [(0, .ref y), (1, .int (iv x1)), (2, .int (iv x2)), (3, .int (iv x3)), (4, .int (iv x4)), (5, .int (iv x5))]) [0, 1, 2, 3, 4, 5] rfl ?_
  have rmn := hR_many (Int.toNat x1) (by omega)
  refine r_iload_n (pc := 0) dX12_add_0 (i := 1) rfl rfl ?_
  refine r_aload_n (pc := 1) dX12_add_1 (i := 0) rfl rfl ?_
  refine t_getE (pc := 2) (.ref (y + 4)) ht (rd_of RX_y) fX12_20 dX12_add_2 rfl ?_
  refine r_iload_n (pc := 5) dX12_add_5 (i := 1) rfl rfl ?_
  refine t_ialdX (pc := 6) (t0 := 0) ht (rd_of RX_many) dX12_add_6 rfl (by decide) (by omega) (fun b1 => ?_)
  have rb1 := (show Rfx 121 0 60 mn by assumption) (Int.toNat x1) (by omega)
  refine t_callSI (pc := 7) (as := [.int (iv x1), .int (iv (mn (Int.toNat x1)))]) (st := []) kX12_157 dX12_add_7 (t_X12_at1x (d := d - 1) (x1 := x1) (x2 := mn (Int.toNat x1)) (by omega)  ht (by omega) (by omega)) rfl (by omega) (Nat.le_of_ble_eq_true rfl) rfl (fun hp2 y4 ht3 by4 => ?_)
  have ey4 : y4 = 60 * x1 + (mn (Int.toNat x1)) := by4
  subst ey4
  refine r_istore (pc := 10) (lv' := [(6, .int (iv (60 * x1 + (mn (Int.toNat x1))))), (0, .ref y), (1, .int (iv x1)), (2, .int (iv x2)), (3, .int (iv x3)), (4, .int (iv x4)), (5, .int (iv x5))]) dX12_add_10 (by decide) rfl ?_
  refine r_aload_n (pc := 12) dX12_add_12 (i := 0) rfl rfl ?_
  refine t_getE (pc := 13) (.ref (y + 5)) ht3 (rd_of RX_y) fX12_23 dX12_add_13 rfl ?_
  refine r_iload (pc := 16) dX12_add_16 rfl ?_
  refine r_iload_n (pc := 18) dX12_add_18 (i := 2) rfl rfl ?_
  refine t_iastX (pc := 19) (t0 := 0) ht3 RX_from dX12_add_19 rfl (by decide) (by omega) (by omega) (fun hp5 ht6 => ?_)
  have ht7 := RXw_fr ht6
  have hqht7 : Rfx 7260 0 15 (fup fr (Int.toNat (60 * x1 + (mn (Int.toNat x1)))) x2) := Rfx_up (by assumption) (by omega)
  refine r_aload_n (pc := 20) dX12_add_20 (i := 0) rfl rfl ?_
  refine t_getE (pc := 21) (.ref (y + 6)) ht7 (rd_of RX_y) fX12_26 dX12_add_21 rfl ?_
  refine r_iload (pc := 24) dX12_add_24 rfl ?_
  refine r_iload_n (pc := 26) dX12_add_26 (i := 3) rfl rfl ?_
  refine t_iastX (pc := 27) (t0 := 0) ht7 RX_to dX12_add_27 rfl (by decide) (by omega) (by omega) (fun hp8 ht9 => ?_)
  have ht10 := RXw_tt ht9
  have hqht10 : Rfx 7260 0 15 (fup tt (Int.toNat (60 * x1 + (mn (Int.toNat x1)))) x3) := Rfx_up (by assumption) (by omega)
  refine r_aload_n (pc := 28) dX12_add_28 (i := 0) rfl rfl ?_
  refine t_getE (pc := 29) (.ref (y + 7)) ht10 (rd_of RX_y) fX12_29 dX12_add_29 rfl ?_
  refine r_iload (pc := 32) dX12_add_32 rfl ?_
  refine r_iload (pc := 34) dX12_add_34 rfl ?_
  refine t_iastX (pc := 36) (t0 := 0) ht10 RX_weight dX12_add_36 rfl (by decide) (by omega) (by omega) (fun hp11 ht12 => ?_)
  have ht13 := RXw_wt ht12
  have hqht13 : Rfx 7260 (-1000) 1000 (fup wt (Int.toNat (60 * x1 + (mn (Int.toNat x1)))) x4) := Rfx_up (by assumption) (by omega)
  refine r_aload_n (pc := 37) dX12_add_37 (i := 0) rfl rfl ?_
  refine t_getE (pc := 38) (.ref (y + 8)) ht13 (rd_of RX_y) fX12_32 dX12_add_38 rfl ?_
  refine r_iload (pc := 41) dX12_add_41 rfl ?_
  refine r_iload (pc := 43) dX12_add_43 rfl ?_
  refine t_iastX (pc := 45) (t0 := 0) ht13 RX_cost dX12_add_45 rfl (by decide) (by omega) (by omega) (fun hp14 ht15 => ?_)
  have ht16 := RXw_co ht15
  have hqht16 : Rfx 7260 (-1000) 1000 (fup co (Int.toNat (60 * x1 + (mn (Int.toNat x1)))) x5) := Rfx_up (by assumption) (by omega)
  refine r_aload_n (pc := 46) dX12_add_46 (i := 0) rfl rfl ?_
  refine t_getE (pc := 47) (.ref (y + 4)) ht16 (rd_of RX_y) fX12_20 dX12_add_47 rfl ?_
  refine r_iload_n (pc := 50) dX12_add_50 (i := 1) rfl rfl ?_
  refine r_dup2_11 (pc := 51) dX12_add_51 rfl rfl ?_
  refine t_ialdX (pc := 52) (t0 := 0) ht16 (rd_of RX_many) dX12_add_52 rfl (by decide) (by omega) (fun b17 => ?_)
  have rb17 := (show Rfx 121 0 60 mn by assumption) (Int.toNat x1) (by omega)
  refine r_iconst (pc := 53) (v := iv 1) dX12_add_53 (by decide) ?_
  refine r_iadd (pc := 54) (v := iv ((mn (Int.toNat x1)) + 1)) dX12_add_54 (iv_add _ _) ?_
  refine t_iastX (pc := 55) (t0 := 0) ht16 RX_many dX12_add_55 rfl (by decide) (by omega) (by omega) (fun hp18 ht19 => ?_)
  have ht20 := RXw_mn ht19
  have hqht20 : Rfx 121 0 60 (fup mn (Int.toNat x1) ((mn (Int.toNat x1)) + 1)) := Rfx_up (by assumption) (by omega)
  exact r_vret (pc := 56) dX12_add_56 rfl (hPo _ _ _ ⟨rfl, ht20, rfl⟩)
set_option maxHeartbeats 4000000 in
set_option maxRecDepth 100000 in
theorem x_X12_put {D : va_G} {cI cJ cZ cT : ClassId} {lo b L : Nat} {xs : Nat → Int32} {hp : MH} {n d : Nat} {Γ : TG} {y : Nat} {rf cn nm : Int} {so sz dr mn fr tt wt co : Nat → Int} {nu : Nat → Int64} {sa : Nat → Int} {wo : Nat → Int64} {ln : Nat → Int} {hw : Nat → Int64} {ro qi qc nf nt nw nc : Nat → Int} {cl nx : Nat → Int64} {ie be sd bl : Nat → Int} {bs wy ra rb : Nat → Int64} {lb bg os js ls : Nat → Int} {sp : Nat → Int64} {jw go : Nat → Int} {de : Nat → Int64} {yb ah im : Nat → Int} {x1 x2 x3 x4 : Int} {Po9 : Option Value → MH → Nat → Prop} (hd0 : 0 ≤ d) (hnm : 0 ≤ nm ∧ nm ≤ 400) (ht : Tw (RX Γ cI cJ cZ y rf cn nm so sz dr mn fr tt wt co nu sa wo ln hw ro qi qc nf nt nw nc cl nx ie be sd bl bs wy ra rb lb bg os js ls sp jw go de yb ah im) hp) (hx1 : (-2147483648) ≤ x1 ∧ x1 ≤ 2147483647) (hx2 : (-2147483648) ≤ x2 ∧ x2 ≤ 2147483647) (hx3 : (-2147483648) ≤ x3 ∧ x3 ≤ 2147483647) (hx4 : (-2147483648) ≤ x4 ∧ x4 ≤ 2147483647) (hn9 : 0 ≤ nm ∧ nm < 300) (hPo : ∀ r hp1 n1, (n1 = n ∧ Tw (RX Γ cI cJ cZ y rf cn (nm + 1) so sz dr mn fr tt wt co nu sa wo ln hw ro qi qc (fup nf (Int.toNat nm) x1) (fup nt (Int.toNat nm) x2) (fup nw (Int.toNat nm) x3) (fup nc (Int.toNat nm) x4) cl nx ie be sd bl bs wy ra rb lb bg os js ls sp jw go de yb ah im) hp1 ∧ r = none) → Po9 r hp1 n1) : Mt (gG D cI cJ cZ cT lo b L xs) mX12_put d 0 0 [.ref y, .int (iv x1), .int (iv x2), .int (iv x3), .int (iv x4)] hp n Po9 := by
  refine Mt.of rfl (Nat.le_of_ble_eq_true rfl) ?_
  refine Rn.pick (lv' := [(0, .ref y), (1, .int (iv x1)), (2, .int (iv x2)), (3, .int (iv x3)), (4, .int (iv x4))]) [0, 1, 2, 3, 4] rfl ?_
  refine r_aload_n (pc := 0) dX12_put_0 (i := 0) rfl rfl ?_
  refine t_getE (pc := 1) (.int (iv nm)) ht (rd_of RX_y) fX12_165 dX12_put_1 rfl ?_
  refine r_sipush (pc := 4) (v := iv 300) dX12_put_4 (by decide) ?_
  refine t_icmp_ge (pc := 7) (tgt := 51) dX12_put_7 (by decide) (by omega) (by omega) (fun c7 => ?_) (fun c7 => ?_)
  · exfalso
    omega
  · refine r_aload_n (pc := 10) dX12_put_10 (i := 0) rfl rfl ?_
    refine t_getE (pc := 11) (.ref (y + 17)) ht (rd_of RX_y) fX12_60 dX12_put_11 rfl ?_
    refine r_aload_n (pc := 14) dX12_put_14 (i := 0) rfl rfl ?_
    refine t_getE (pc := 15) (.int (iv nm)) ht (rd_of RX_y) fX12_165 dX12_put_15 rfl ?_
    refine r_iload_n (pc := 18) dX12_put_18 (i := 1) rfl rfl ?_
    refine t_iastX (pc := 19) (t0 := 0) ht RX_nf dX12_put_19 rfl (by decide) (by omega) (by omega) (fun hp1 ht2 => ?_)
    have ht3 := RXw_nf ht2
    refine r_aload_n (pc := 20) dX12_put_20 (i := 0) rfl rfl ?_
    refine t_getE (pc := 21) (.ref (y + 18)) ht3 (rd_of RX_y) fX12_63 dX12_put_21 rfl ?_
    refine r_aload_n (pc := 24) dX12_put_24 (i := 0) rfl rfl ?_
    refine t_getE (pc := 25) (.int (iv nm)) ht3 (rd_of RX_y) fX12_165 dX12_put_25 rfl ?_
    refine r_iload_n (pc := 28) dX12_put_28 (i := 2) rfl rfl ?_
    refine t_iastX (pc := 29) (t0 := 0) ht3 RX_nt dX12_put_29 rfl (by decide) (by omega) (by omega) (fun hp4 ht5 => ?_)
    have ht6 := RXw_nt ht5
    refine r_aload_n (pc := 30) dX12_put_30 (i := 0) rfl rfl ?_
    refine t_getE (pc := 31) (.ref (y + 19)) ht6 (rd_of RX_y) fX12_66 dX12_put_31 rfl ?_
    refine r_aload_n (pc := 34) dX12_put_34 (i := 0) rfl rfl ?_
    refine t_getE (pc := 35) (.int (iv nm)) ht6 (rd_of RX_y) fX12_165 dX12_put_35 rfl ?_
    refine r_iload_n (pc := 38) dX12_put_38 (i := 3) rfl rfl ?_
    refine t_iastX (pc := 39) (t0 := 0) ht6 RX_nw dX12_put_39 rfl (by decide) (by omega) (by omega) (fun hp7 ht8 => ?_)
    have ht9 := RXw_nw ht8
    refine r_aload_n (pc := 40) dX12_put_40 (i := 0) rfl rfl ?_
    refine t_getE (pc := 41) (.ref (y + 20)) ht9 (rd_of RX_y) fX12_69 dX12_put_41 rfl ?_
    refine r_aload_n (pc := 44) dX12_put_44 (i := 0) rfl rfl ?_
    refine t_getE (pc := 45) (.int (iv nm)) ht9 (rd_of RX_y) fX12_165 dX12_put_45 rfl ?_
    refine r_iload (pc := 48) dX12_put_48 rfl ?_
    refine t_iastX (pc := 50) (t0 := 0) ht9 RX_nc dX12_put_50 rfl (by decide) (by omega) (by omega) (fun hp10 ht11 => ?_)
    have ht12 := RXw_nc ht11
    refine r_aload_n (pc := 51) dX12_put_51 (i := 0) rfl rfl ?_
    refine r_dup (pc := 52) dX12_put_52 rfl ?_
    refine t_getE (pc := 53) (.int (iv nm)) ht12 (rd_of RX_y) fX12_165 dX12_put_53 rfl ?_
    refine r_iconst (pc := 56) (v := iv 1) dX12_put_56 (by decide) ?_
    refine r_iadd (pc := 57) (v := iv (nm + 1)) dX12_put_57 (iv_add _ _) ?_
    refine t_putX (pc := 58) (ty := .int) ht12 RX_y fX12_165 tyX12 tyX12_ok nmX12 (by decide +kernel) (Or.inl rfl) dX12_put_58 (Nat.le_of_ble_eq_true rfl) rfl rfl rfl (fun hp13 ht14 => ?_)
    have ht15 := RXw_nm ht14
    exact r_vret (pc := 61) dX12_put_61 rfl (hPo _ _ _ ⟨rfl, ht15, rfl⟩)
set_option maxHeartbeats 4000000 in
set_option maxRecDepth 100000 in
theorem x_X12_copyArcs {D : va_G} {cI cJ cZ cT : ClassId} {lo b L : Nat} {xs : Nat → Int32} {hp : MH} {n d : Nat} {Γ : TG} {y : Nat} {rf cn nm : Int} {so sz dr mn fr tt wt co : Nat → Int} {nu : Nat → Int64} {sa : Nat → Int} {wo : Nat → Int64} {ln : Nat → Int} {hw : Nat → Int64} {ro qi qc nf nt nw nc : Nat → Int} {cl nx : Nat → Int64} {ie be sd bl : Nat → Int} {bs wy ra rb : Nat → Int64} {lb bg os js ls : Nat → Int} {sp : Nat → Int64} {jw go : Nat → Int} {de : Nat → Int64} {yb ah im : Nat → Int} {x1 x2 : Int} {Po9 : Option Value → MH → Nat → Prop} (hd0 : 1 ≤ d) (hR_many : Rfx 121 0 60 mn) (hR_from : Rfx 7260 0 15 fr) (hR_to : Rfx 7260 0 15 tt) (hR_weight : Rfx 7260 (-1000) 1000 wt) (hR_cost : Rfx 7260 (-1000) 1000 co) (hnm : 0 ≤ nm ∧ nm ≤ 400) (ht : Tw (RX Γ cI cJ cZ y rf cn nm so sz dr mn fr tt wt co nu sa wo ln hw ro qi qc nf nt nw nc cl nx ie be sd bl bs wy ra rb lb bg os js ls sp jw go de yb ah im) hp) (hx1 : 0 ≤ x1 ∧ x1 ≤ 120) (hx2 : 0 ≤ x2 ∧ x2 ≤ 16) (hn9 : 0 ≤ nm ∧ nm + mn (Int.toNat x1) ≤ 200) (hPo : ∀ r hp1 n1, (n1 = n ∧ ∃ (nf1 : Nat → Int) (nt1 : Nat → Int) (nw1 : Nat → Int) (nc1 : Nat → Int) (m1 : Int), Tw (RX Γ cI cJ cZ y rf cn m1 so sz dr mn fr tt wt co nu sa wo ln hw ro qi qc nf1 nt1 nw1 nc1 cl nx ie be sd bl bs wy ra rb lb bg os js ls sp jw go de yb ah im) hp1 ∧ r = none ∧ (m1 = nm + mn (Int.toNat x1)) ∧ (nf1 = kcF (fun i : Nat => fr (Int.toNat (60 * x1 + (i : Int))) + x2) nf (Int.toNat nm) (Int.toNat (mn (Int.toNat x1)))) ∧ (nt1 = kcF (fun i : Nat => tt (Int.toNat (60 * x1 + (i : Int))) + x2) nt (Int.toNat nm) (Int.toNat (mn (Int.toNat x1)))) ∧ (nw1 = kcF (fun i : Nat => wt (Int.toNat (60 * x1 + (i : Int)))) nw (Int.toNat nm) (Int.toNat (mn (Int.toNat x1)))) ∧ (nc1 = kcF (fun i : Nat => co (Int.toNat (60 * x1 + (i : Int)))) nc (Int.toNat nm) (Int.toNat (mn (Int.toNat x1))))) → Po9 r hp1 n1) : Mt (gG D cI cJ cZ cT lo b L xs) mX12_copyArcs d 0 0 [.ref y, .int (iv x1), .int (iv x2)] hp n Po9 := by
  refine Mt.of rfl (Nat.le_of_ble_eq_true rfl) ?_
  refine Rn.pick (lv' := [(0, .ref y), (1, .int (iv x1)), (2, .int (iv x2))]) [0, 1, 2] rfl ?_
  have rmn := hR_many (Int.toNat x1) (by omega)
  refine r_iconst (pc := 0) (v := iv 0) dX12_copyArcs_0 (by decide) ?_
  refine r_istore_n (pc := 1) (lv' := [(3, .int (iv 0)), (0, .ref y), (1, .int (iv x1)), (2, .int (iv x2))]) dX12_copyArcs_1 (i := 3) rfl (by decide) rfl ?_
  have B2 : ∀ k : Nat, ∀ nm2 : Int, ∀ nf2 : Nat → Int, ∀ nt2 : Nat → Int, ∀ nw2 : Nat → Int, ∀ nc2 : Nat → Int, ∀ hp2 : MH, Tw (RX Γ cI cJ cZ y rf cn nm2 so sz dr mn fr tt wt co nu sa wo ln hw ro qi qc nf2 nt2 nw2 nc2 cl nx ie be sd bl bs wy ra rb lb bg os js ls sp jw go de yb ah im) hp2 → ∀  (v2_3 : Int), 0 ≤ v2_3 ∧ v2_3 ≤ 60 ∧ (0 ≤ nm2) ∧ (nm2 ≤ 400) ∧ (v2_3 ≤ mn (Int.toNat x1)) ∧ (nm2 = nm + v2_3) ∧ (nf2 = kcF (fun i : Nat => fr (Int.toNat (60 * x1 + (i : Int))) + x2) nf (Int.toNat nm) (Int.toNat v2_3)) ∧ (nt2 = kcF (fun i : Nat => tt (Int.toNat (60 * x1 + (i : Int))) + x2) nt (Int.toNat nm) (Int.toNat v2_3)) ∧ (nw2 = kcF (fun i : Nat => wt (Int.toNat (60 * x1 + (i : Int)))) nw (Int.toNat nm) (Int.toNat v2_3)) ∧ (nc2 = kcF (fun i : Nat => co (Int.toNat (60 * x1 + (i : Int)))) nc (Int.toNat nm) (Int.toNat v2_3)) → 60 - v2_3 ≤ (k : Int) → Rn (gG D cI cJ cZ cT lo b L xs) mX12_copyArcs d 2 [(0, .ref y), (1, .int (iv x1)), (2, .int (iv x2)), (3, .int (iv v2_3))] [] hp2 n 0 0 Po9 := by
    refine lpS _ ?_
    intro k2 ih2 nm2 nf2 nt2 nw2 nc2 hp2 ht2 v2_3 hf2 hm2
    obtain ⟨hf2_0, hf2_1, hf2_2, hf2_3, hf2_4, hf2_5, ha2_6, ha2_7, ha2_8, ha2_9⟩ := hf2
    refine r_iload_n (pc := 2) dX12_copyArcs_2 (i := 3) rfl rfl ?_
    refine r_aload_n (pc := 3) dX12_copyArcs_3 (i := 0) rfl rfl ?_
    refine t_getE (pc := 4) (.ref (y + 4)) ht2 (rd_of RX_y) fX12_20 dX12_copyArcs_4 rfl ?_
    refine r_iload_n (pc := 7) dX12_copyArcs_7 (i := 1) rfl rfl ?_
    refine t_ialdX (pc := 8) (t0 := 0) ht2 (rd_of RX_many) dX12_copyArcs_8 rfl (by decide) (by omega) (fun b1 => ?_)
    have rb1 := (show Rfx 121 0 60 mn by assumption) (Int.toNat x1) (by omega)
    refine t_icmp_ge (pc := 9) (tgt := 61) dX12_copyArcs_9 (by decide) (by omega) (by omega) (fun c9 => ?_) (fun c9 => ?_)
    · exact r_vret (pc := 61) dX12_copyArcs_61 rfl (hPo _ _ _ ⟨rfl, nf2, nt2, nw2, nc2, nm2, ht2, rfl, (by omega), (by have e9 : v2_3 = mn (Int.toNat x1) := (by omega); rw [← e9]; assumption), (by have e9 : v2_3 = mn (Int.toNat x1) := (by omega); rw [← e9]; assumption), (by have e9 : v2_3 = mn (Int.toNat x1) := (by omega); rw [← e9]; assumption), (by have e9 : v2_3 = mn (Int.toNat x1) := (by omega); rw [← e9]; assumption)⟩)
    · refine r_iload_n (pc := 12) dX12_copyArcs_12 (i := 1) rfl rfl ?_
      refine r_iload_n (pc := 13) dX12_copyArcs_13 (i := 3) rfl rfl ?_
      refine t_callSI (pc := 14) (as := [.int (iv x1), .int (iv v2_3)]) (st := []) kX12_157 dX12_copyArcs_14 (t_X12_at1x (d := d - 1) (x1 := x1) (x2 := v2_3) (by omega)  ht2 (by omega) (by omega)) rfl (by omega) (Nat.le_of_ble_eq_true rfl) rfl (fun hp2 y4 ht3 by4 => ?_)
      have ey4 : y4 = 60 * x1 + v2_3 := by4
      subst ey4
      refine r_istore (pc := 17) (lv' := [(4, .int (iv (60 * x1 + v2_3))), (0, .ref y), (1, .int (iv x1)), (2, .int (iv x2)), (3, .int (iv v2_3))]) dX12_copyArcs_17 (by decide) rfl ?_
      refine r_aload_n (pc := 19) dX12_copyArcs_19 (i := 0) rfl rfl ?_
      refine r_aload_n (pc := 20) dX12_copyArcs_20 (i := 0) rfl rfl ?_
      refine t_getE (pc := 21) (.ref (y + 5)) ht3 (rd_of RX_y) fX12_23 dX12_copyArcs_21 rfl ?_
      refine r_iload (pc := 24) dX12_copyArcs_24 rfl ?_
      refine t_ialdX (pc := 26) (t0 := 0) ht3 (rd_of RX_from) dX12_copyArcs_26 rfl (by decide) (by omega) (fun b5 => ?_)
      have rb5 := (show Rfx 7260 0 15 fr by assumption) (Int.toNat (60 * x1 + v2_3)) (by omega)
      refine r_iload_n (pc := 27) dX12_copyArcs_27 (i := 2) rfl rfl ?_
      refine r_iadd (pc := 28) (v := iv ((fr (Int.toNat (60 * x1 + v2_3))) + x2)) dX12_copyArcs_28 (iv_add _ _) ?_
      refine r_aload_n (pc := 29) dX12_copyArcs_29 (i := 0) rfl rfl ?_
      refine t_getE (pc := 30) (.ref (y + 6)) ht3 (rd_of RX_y) fX12_26 dX12_copyArcs_30 rfl ?_
      refine r_iload (pc := 33) dX12_copyArcs_33 rfl ?_
      refine t_ialdX (pc := 35) (t0 := 0) ht3 (rd_of RX_to) dX12_copyArcs_35 rfl (by decide) (by omega) (fun b6 => ?_)
      have rb6 := (show Rfx 7260 0 15 tt by assumption) (Int.toNat (60 * x1 + v2_3)) (by omega)
      refine r_iload_n (pc := 36) dX12_copyArcs_36 (i := 2) rfl rfl ?_
      refine r_iadd (pc := 37) (v := iv ((tt (Int.toNat (60 * x1 + v2_3))) + x2)) dX12_copyArcs_37 (iv_add _ _) ?_
      refine r_aload_n (pc := 38) dX12_copyArcs_38 (i := 0) rfl rfl ?_
      refine t_getE (pc := 39) (.ref (y + 7)) ht3 (rd_of RX_y) fX12_29 dX12_copyArcs_39 rfl ?_
      refine r_iload (pc := 42) dX12_copyArcs_42 rfl ?_
      refine t_ialdX (pc := 44) (t0 := 0) ht3 (rd_of RX_weight) dX12_copyArcs_44 rfl (by decide) (by omega) (fun b7 => ?_)
      have rb7 := (show Rfx 7260 (-1000) 1000 wt by assumption) (Int.toNat (60 * x1 + v2_3)) (by omega)
      refine r_aload_n (pc := 45) dX12_copyArcs_45 (i := 0) rfl rfl ?_
      refine t_getE (pc := 46) (.ref (y + 8)) ht3 (rd_of RX_y) fX12_32 dX12_copyArcs_46 rfl ?_
      refine r_iload (pc := 49) dX12_copyArcs_49 rfl ?_
      refine t_ialdX (pc := 51) (t0 := 0) ht3 (rd_of RX_cost) dX12_copyArcs_51 rfl (by decide) (by omega) (fun b8 => ?_)
      have rb8 := (show Rfx 7260 (-1000) 1000 co by assumption) (Int.toNat (60 * x1 + v2_3)) (by omega)
      obtain ⟨fs13, hfs13⟩ := t_obj ht3 (rd_of RX_y)
      refine r_callV (pc := 52) (as := [.int (iv ((fr (Int.toNat (60 * x1 + v2_3))) + x2)), .int (iv ((tt (Int.toNat (60 * x1 + v2_3))) + x2)), .int (iv (wt (Int.toNat (60 * x1 + v2_3)))), .int (iv (co (Int.toNat (60 * x1 + v2_3))))]) (st := []) kX12_171 rfl dX12_copyArcs_52 hfs13 (x_X12_put (d := d - 1) (x1 := (fr (Int.toNat (60 * x1 + v2_3))) + x2) (x2 := (tt (Int.toNat (60 * x1 + v2_3))) + x2) (x3 := wt (Int.toNat (60 * x1 + v2_3))) (x4 := co (Int.toNat (60 * x1 + v2_3))) (by omega) (by omega) ht3 (by omega) (by omega) (by omega) (by omega) (by omega) (fun _ _ _ h => h)) rfl (by omega) (Nat.le_of_ble_eq_true rfl) (Nat.zero_le _) (Nat.zero_le _) rfl (fun r10 hp9 n11 hq12 => ?_)
      obtain ⟨hnn11, ht14, hrr10⟩ := hq12
      subst n11 r10
      change Rn _ _ _ 55 _ [] _ _ _ _ _
      refine r_iinc (pc := 55) (v := iv (v2_3 + 1)) (lv' := [(3, .int (iv (v2_3 + 1))), (4, .int (iv (60 * x1 + v2_3))), (0, .ref y), (1, .int (iv x1)), (2, .int (iv x2))]) dX12_copyArcs_55 rfl (iv_add _ _) (by decide) rfl ?_
      refine r_goto (pc := 58) (tgt := 2) dX12_copyArcs_58 (by decide) ?_
      refine Rn.pick (lv' := [(0, .ref y), (1, .int (iv x1)), (2, .int (iv x2)), (3, .int (iv (v2_3 + 1)))]) [2, 3, 4, 0] rfl ?_
      exact ih2 (Int.toNat (60 - (v2_3 + 1))) (by omega) (nm2 + 1) (fup nf2 (Int.toNat nm2) ((fr (Int.toNat (60 * x1 + v2_3))) + x2)) (fup nt2 (Int.toNat nm2) ((tt (Int.toNat (60 * x1 + v2_3))) + x2)) (fup nw2 (Int.toNat nm2) (wt (Int.toNat (60 * x1 + v2_3)))) (fup nc2 (Int.toNat nm2) (co (Int.toNat (60 * x1 + v2_3)))) _ ht14 (v2_3 + 1) ⟨by omega, by omega, by omega, by omega, by omega, by omega, by (first | exact (kcF_0 _ _ _).symm | exact kcF_up (by assumption) (by omega) (by omega) (by show _ = fr (Int.toNat (60 * x1 + ((Int.toNat v2_3 : Nat) : Int))) + x2; rw [Int.toNat_of_nonneg (by omega)])), by (first | exact (kcF_0 _ _ _).symm | exact kcF_up (by assumption) (by omega) (by omega) (by show _ = tt (Int.toNat (60 * x1 + ((Int.toNat v2_3 : Nat) : Int))) + x2; rw [Int.toNat_of_nonneg (by omega)])), by (first | exact (kcF_0 _ _ _).symm | exact kcF_up (by assumption) (by omega) (by omega) (by show _ = wt (Int.toNat (60 * x1 + ((Int.toNat v2_3 : Nat) : Int))); rw [Int.toNat_of_nonneg (by omega)])), by (first | exact (kcF_0 _ _ _).symm | exact kcF_up (by assumption) (by omega) (by omega) (by show _ = co (Int.toNat (60 * x1 + ((Int.toNat v2_3 : Nat) : Int))); rw [Int.toNat_of_nonneg (by omega)]))⟩ (by omega)
  refine Rn.pick (lv' := [(0, .ref y), (1, .int (iv x1)), (2, .int (iv x2)), (3, .int (iv 0))]) [1, 2, 3, 0] rfl ?_
  exact B2 (Int.toNat (60 - 0)) nm nf nt nw nc _ ht 0 ⟨by omega, by omega, by omega, by omega, by omega, by omega, by (first | exact (kcF_0 _ _ _).symm | exact kcF_up (by assumption) (by omega) (by omega) (by show _ = fr (Int.toNat (60 * x1 + ((Int.toNat v2_3 : Nat) : Int))) + x2; rw [Int.toNat_of_nonneg (by omega)])), by (first | exact (kcF_0 _ _ _).symm | exact kcF_up (by assumption) (by omega) (by omega) (by show _ = tt (Int.toNat (60 * x1 + ((Int.toNat v2_3 : Nat) : Int))) + x2; rw [Int.toNat_of_nonneg (by omega)])), by (first | exact (kcF_0 _ _ _).symm | exact kcF_up (by assumption) (by omega) (by omega) (by show _ = wt (Int.toNat (60 * x1 + ((Int.toNat v2_3 : Nat) : Int))); rw [Int.toNat_of_nonneg (by omega)])), by (first | exact (kcF_0 _ _ _).symm | exact kcF_up (by assumption) (by omega) (by omega) (by show _ = co (Int.toNat (60 * x1 + ((Int.toNat v2_3 : Nat) : Int))); rw [Int.toNat_of_nonneg (by omega)]))⟩ (by omega)
set_option maxHeartbeats 4000000 in
set_option maxRecDepth 100000 in
theorem x_X12_made {D : va_G} {cI cJ cZ cT : ClassId} {lo b L : Nat} {xs : Nat → Int32} {hp : MH} {n d : Nat} {Γ : TG} {y : Nat} {rf cn nm : Int} {so sz dr mn fr tt wt co : Nat → Int} {nu : Nat → Int64} {sa : Nat → Int} {wo : Nat → Int64} {ln : Nat → Int} {hw : Nat → Int64} {ro qi qc nf nt nw nc : Nat → Int} {cl nx : Nat → Int64} {ie be sd bl : Nat → Int} {bs wy ra rb : Nat → Int64} {lb bg os js ls : Nat → Int} {sp : Nat → Int64} {jw go : Nat → Int} {de : Nat → Int64} {yb ah im : Nat → Int} {x1 x2 : Int} {Po9 : Option Value → MH → Nat → Prop} (hd0 : 2 ≤ d) (hk : RK rf cn nm so sz dr mn fr tt wt co nu qi qc nf nt nw nc) (ht : Tw (RX Γ cI cJ cZ y rf cn nm so sz dr mn fr tt wt co nu sa wo ln hw ro qi qc nf nt nw nc cl nx ie be sd bl bs wy ra rb lb bg os js ls sp jw go de yb ah im) hp) (hx1 : 1 ≤ x1 ∧ x1 ≤ 16) (hx2 : 0 ≤ x2 ∧ x2 ≤ 1) (hal : nm ≤ 60 → arP nf nt nw nc nm x1) (hPo : ∀ r hp1 n1, (n1 = n ∧ ∃ (h : Int) (v : Int) (c1 : Int) (s1 : Nat → Int) (z1 : Nat → Int) (d1 : Nat → Int) (m1 : Nat → Int) (f1 : Nat → Int) (t1 : Nat → Int) (w1 : Nat → Int) (o1 : Nat → Int), Tw (RX Γ cI cJ cZ y v c1 nm s1 z1 d1 m1 f1 t1 w1 o1 nu sa wo ln hw ro qi qc nf nt nw nc cl nx ie be sd bl bs wy ra rb lb bg os js ls sp jw go de yb ah im) hp1 ∧ r = some (.int (iv h)) ∧ ((60 < nm ∨ cn = 120) → h = -4 ∧ v = -4 ∧ c1 = cn) ∧ ((60 < nm ∨ cn = 120) → s1 = so ∧ z1 = sz ∧ d1 = dr ∧ m1 = mn ∧ f1 = fr ∧ t1 = tt ∧ w1 = wt ∧ o1 = co) ∧ (nm ≤ 60 ∧ cn < 120 → h = cn ∧ v = rf ∧ c1 = cn + 1) ∧ (nm ≤ 60 ∧ cn < 120 → s1 = fup so (Int.toNat cn) 1 ∧ z1 = fup sz (Int.toNat cn) x1 ∧ d1 = fup dr (Int.toNat cn) x2 ∧ m1 = fup mn (Int.toNat cn) nm ∧ f1 = kcF nf fr (Int.toNat (60 * cn)) (Int.toNat nm) ∧ t1 = kcF nt tt (Int.toNat (60 * cn)) (Int.toNat nm) ∧ w1 = kcF nw wt (Int.toNat (60 * cn)) (Int.toNat nm) ∧ o1 = kcF nc co (Int.toNat (60 * cn)) (Int.toNat nm))) → Po9 r hp1 n1) : Mt (gG D cI cJ cZ cT lo b L xs) mX12_made d 0 0 [.ref y, .int (iv x1), .int (iv x2)] hp n Po9 := by
  refine Mt.of rfl (Nat.le_of_ble_eq_true rfl) ?_
  refine Rn.pick (lv' := [(0, .ref y), (1, .int (iv x1)), (2, .int (iv x2))]) [0, 1, 2] rfl ?_
  obtain ⟨hR_sorts, hR_sizes, hR_directs, hR_many, hR_from, hR_to, hR_weight, hR_cost, hR_inPart, hR_partCount, hcn, hrf, hnm, hdf, hgr, hpa, hsz⟩ := id hk
  refine r_aload_n (pc := 0) dX12_made_0 (i := 0) rfl rfl ?_
  refine t_getE (pc := 1) (.int (iv nm)) ht (rd_of RX_y) fX12_165 dX12_made_1 rfl ?_
  refine r_bipush (pc := 4) (v := iv 60) dX12_made_4 (by decide) ?_
  refine t_icmp_le (pc := 6) (tgt := 16) dX12_made_6 (by decide) (by omega) (by omega) (fun c6 => ?_) (fun c6 => ?_)
  · refine r_aload_n (pc := 16) dX12_made_16 (i := 0) rfl rfl ?_
    refine r_iconst (pc := 17) (v := iv 1) dX12_made_17 (by decide) ?_
    obtain ⟨fs5, hfs5⟩ := t_obj ht (rd_of RX_y)
    refine r_callV (pc := 18) (as := [.int (iv 1)]) (st := []) kX12_168 rfl dX12_made_18 hfs5 (x_X12_keep (d := d - 1) (x1 := 1) (by omega) (by omega) (by assumption) (by omega) ht (by omega) (fun _ _ _ h => h)) rfl (by omega) (Nat.le_of_ble_eq_true rfl) (Nat.zero_le _) (Nat.zero_le _) rfl (fun r2 hp1 n3 hq4 => ?_)
    obtain ⟨hnn3, v_7, c1_8, s1_9, h_10, ht6, hrr2, hhq40, hhq41, hhq42, hhq43⟩ := hq4
    subst n3 r2
    have hhq40 : -4 ≤ h_10 ∧ h_10 ≤ 119 ∧ 0 ≤ c1_8 ∧ c1_8 ≤ 120 ∧ -2147483648 ≤ v_7 ∧ v_7 ≤ 2147483647 := hhq40
    have hhq41 : (cn = 120 ∧ h_10 = -4 ∧ v_7 = -4 ∧ c1_8 = cn) ∨ (cn < 120 ∧ h_10 = cn ∧ v_7 = rf ∧ c1_8 = cn + 1) := hhq41
    have hhq42 : cn = 120 → s1_9 = so := hhq42
    have hhq43 : cn < 120 → s1_9 = fup so (Int.toNat cn) 1 := hhq43
    change Rn _ _ _ 21 _ [.int (iv h_10)] _ _ _ _ _
    refine r_istore_n (pc := 21) (lv' := [(3, .int (iv h_10)), (0, .ref y), (1, .int (iv x1)), (2, .int (iv x2))]) dX12_made_21 (i := 3) rfl (by decide) rfl ?_
    refine r_iload_n (pc := 22) dX12_made_22 (i := 3) rfl rfl ?_
    refine t_if_ge (pc := 23) (tgt := 28) dX12_made_23 (by decide) (by omega) (fun c23 => ?_) (fun c23 => ?_)
    · have ek : cn < 120 ∧ h_10 = cn ∧ v_7 = rf ∧ c1_8 = cn + 1 := by omega
      have es : s1_9 = fup so (Int.toNat cn) 1 := hhq43 (by omega)
      rw [ek.2.2.1, ek.2.2.2, es] at ht6
      have hRso : Rfx 121 0 4 (fup so (Int.toNat cn) 1) := Rfx_up (by assumption) (by omega)
      refine r_aload_n (pc := 28) dX12_made_28 (i := 0) rfl rfl ?_
      refine t_getE (pc := 29) (.ref (y + 2)) ht6 (rd_of RX_y) fX12_13 dX12_made_29 rfl ?_
      refine r_iload_n (pc := 32) dX12_made_32 (i := 3) rfl rfl ?_
      refine r_iload_n (pc := 33) dX12_made_33 (i := 1) rfl rfl ?_
      refine t_iastX (pc := 34) (t0 := 0) ht6 RX_sizes dX12_made_34 rfl (by decide) (by omega) (by omega) (fun hp11 ht12 => ?_)
      have ht13 := RXw_sz ht12
      have hqht13 : Rfx 121 0 16 (fup sz (Int.toNat h_10) x1) := Rfx_up (by assumption) (by omega)
      refine r_aload_n (pc := 35) dX12_made_35 (i := 0) rfl rfl ?_
      refine t_getE (pc := 36) (.ref (y + 3)) ht13 (rd_of RX_y) fX12_16 dX12_made_36 rfl ?_
      refine r_iload_n (pc := 39) dX12_made_39 (i := 3) rfl rfl ?_
      refine r_iload_n (pc := 40) dX12_made_40 (i := 2) rfl rfl ?_
      refine t_zastX (pc := 41) (t0 := 2) ht13 RX_directs dX12_made_41 rfl (by decide) (by omega) (by omega) (fun hp14 ht15 => ?_)
      have ht16 := RXw_dr ht15
      have hqht16 : Rfx 121 0 1 (fup dr (Int.toNat h_10) x2) := Rfx_up (by assumption) (by omega)
      refine r_aload_n (pc := 42) dX12_made_42 (i := 0) rfl rfl ?_
      refine t_getE (pc := 43) (.ref (y + 4)) ht16 (rd_of RX_y) fX12_20 dX12_made_43 rfl ?_
      refine r_iload_n (pc := 46) dX12_made_46 (i := 3) rfl rfl ?_
      refine r_iconst (pc := 47) (v := iv 0) dX12_made_47 (by decide) ?_
      refine t_iastX (pc := 48) (t0 := 0) ht16 RX_many dX12_made_48 rfl (by decide) (by omega) (by omega) (fun hp17 ht18 => ?_)
      have ht19 := RXw_mn ht18
      have hqht19 : Rfx 121 0 60 (fup mn (Int.toNat h_10) 0) := Rfx_up (by assumption) (by omega)
      refine r_iconst (pc := 49) (v := iv 0) dX12_made_49 (by decide) ?_
      refine r_istore (pc := 50) (lv' := [(4, .int (iv 0)), (3, .int (iv h_10)), (0, .ref y), (1, .int (iv x1)), (2, .int (iv x2))]) dX12_made_50 (by decide) rfl ?_
      have B52 : ∀ k : Nat, ∀ mn52 : Nat → Int, ∀ fr52 : Nat → Int, ∀ tt52 : Nat → Int, ∀ wt52 : Nat → Int, ∀ co52 : Nat → Int, ∀ hp52 : MH, Tw (RX Γ cI cJ cZ y rf (cn + 1) nm (fup so (Int.toNat cn) 1) (fup sz (Int.toNat h_10) x1) (fup dr (Int.toNat h_10) x2) mn52 fr52 tt52 wt52 co52 nu sa wo ln hw ro qi qc nf nt nw nc cl nx ie be sd bl bs wy ra rb lb bg os js ls sp jw go de yb ah im) hp52 → ∀  (v52_4 : Int), 0 ≤ v52_4 ∧ v52_4 ≤ 60 ∧ (Rfx 121 0 60 mn52) ∧ (Rfx 7260 0 15 fr52) ∧ (Rfx 7260 0 15 tt52) ∧ (Rfx 7260 (-1000) 1000 wt52) ∧ (Rfx 7260 (-1000) 1000 co52) ∧ (v52_4 ≤ nm) ∧ (mn52 = fup mn (Int.toNat h_10) v52_4) ∧ (fr52 = kcF nf fr (Int.toNat (60 * h_10)) (Int.toNat v52_4)) ∧ (tt52 = kcF nt tt (Int.toNat (60 * h_10)) (Int.toNat v52_4)) ∧ (wt52 = kcF nw wt (Int.toNat (60 * h_10)) (Int.toNat v52_4)) ∧ (co52 = kcF nc co (Int.toNat (60 * h_10)) (Int.toNat v52_4)) → 60 - v52_4 ≤ (k : Int) → Rn (gG D cI cJ cZ cT lo b L xs) mX12_made d 52 [(0, .ref y), (3, .int (iv h_10)), (4, .int (iv v52_4))] [] hp52 n 0 0 Po9 := by
        refine lpS _ ?_
        intro k52 ih52 mn52 fr52 tt52 wt52 co52 hp52 ht52 v52_4 hf52 hm52
        obtain ⟨hf52_0, hf52_1, ha52_2, ha52_3, ha52_4, ha52_5, ha52_6, hf52_7, ha52_8, ha52_9, ha52_10, ha52_11, ha52_12⟩ := hf52
        refine r_iload (pc := 52) dX12_made_52 rfl ?_
        have hmv : mn52 (Int.toNat h_10) = v52_4 := by rw [(show mn52 = fup mn (Int.toNat h_10) v52_4 by assumption), fup_s]
        refine r_aload_n (pc := 54) dX12_made_54 (i := 0) rfl rfl ?_
        refine t_getE (pc := 55) (.int (iv nm)) ht52 (rd_of RX_y) fX12_165 dX12_made_55 rfl ?_
        refine t_icmp_ge (pc := 58) (tgt := 100) dX12_made_58 (by decide) (by omega) (by omega) (fun c58 => ?_) (fun c58 => ?_)
        · refine r_iload_n (pc := 100) dX12_made_100 (i := 3) rfl rfl ?_
          exact r_iret (pc := 101) dX12_made_101 rfl (hPo _ _ _ ⟨rfl, h_10, rf, (cn + 1), (fup so (Int.toNat cn) 1), (fup sz (Int.toNat h_10) x1), (fup dr (Int.toNat h_10) x2), mn52, fr52, tt52, wt52, co52, ht52, rfl, (by omega), (by (first | (intro h9; exfalso; omega) | (intro _; exact ⟨rfl, rfl, rfl, rfl, rfl, rfl, rfl, rfl⟩))), (by omega), (by (intro h9; have e1 : h_10 = cn := (by omega); have e2 : v52_4 = nm := (by omega); exact ⟨rfl, by rw [e1], by rw [e1], by rw [(show mn52 = fup mn (Int.toNat h_10) v52_4 by assumption), e1, e2], by rw [(show fr52 = kcF nf fr (Int.toNat (60 * h_10)) (Int.toNat v52_4) by assumption), e1, e2], by rw [(show tt52 = kcF nt tt (Int.toNat (60 * h_10)) (Int.toNat v52_4) by assumption), e1, e2], by rw [(show wt52 = kcF nw wt (Int.toNat (60 * h_10)) (Int.toNat v52_4) by assumption), e1, e2], by rw [(show co52 = kcF nc co (Int.toNat (60 * h_10)) (Int.toNat v52_4) by assumption), e1, e2]⟩))⟩)
        · refine r_aload_n (pc := 61) dX12_made_61 (i := 0) rfl rfl ?_
          have har := hal (by omega) v52_4 (by omega) (by omega)
          refine r_iload_n (pc := 62) dX12_made_62 (i := 3) rfl rfl ?_
          refine r_aload_n (pc := 63) dX12_made_63 (i := 0) rfl rfl ?_
          refine t_getE (pc := 64) (.ref (y + 17)) ht52 (rd_of RX_y) fX12_60 dX12_made_64 rfl ?_
          refine r_iload (pc := 67) dX12_made_67 rfl ?_
          refine t_ialdX (pc := 69) (t0 := 0) ht52 (rd_of RX_nf) dX12_made_69 rfl (by decide) (by omega) (fun b20 => ?_)
          refine r_aload_n (pc := 70) dX12_made_70 (i := 0) rfl rfl ?_
          refine t_getE (pc := 71) (.ref (y + 18)) ht52 (rd_of RX_y) fX12_63 dX12_made_71 rfl ?_
          refine r_iload (pc := 74) dX12_made_74 rfl ?_
          refine t_ialdX (pc := 76) (t0 := 0) ht52 (rd_of RX_nt) dX12_made_76 rfl (by decide) (by omega) (fun b21 => ?_)
          refine r_aload_n (pc := 77) dX12_made_77 (i := 0) rfl rfl ?_
          refine t_getE (pc := 78) (.ref (y + 19)) ht52 (rd_of RX_y) fX12_66 dX12_made_78 rfl ?_
          refine r_iload (pc := 81) dX12_made_81 rfl ?_
          refine t_ialdX (pc := 83) (t0 := 0) ht52 (rd_of RX_nw) dX12_made_83 rfl (by decide) (by omega) (fun b22 => ?_)
          refine r_aload_n (pc := 84) dX12_made_84 (i := 0) rfl rfl ?_
          refine t_getE (pc := 85) (.ref (y + 20)) ht52 (rd_of RX_y) fX12_69 dX12_made_85 rfl ?_
          refine r_iload (pc := 88) dX12_made_88 rfl ?_
          refine t_ialdX (pc := 90) (t0 := 0) ht52 (rd_of RX_nc) dX12_made_90 rfl (by decide) (by omega) (fun b23 => ?_)
          obtain ⟨fs28, hfs28⟩ := t_obj ht52 (rd_of RX_y)
          refine r_callV (pc := 91) (as := [.int (iv h_10), .int (iv (nf (Int.toNat v52_4))), .int (iv (nt (Int.toNat v52_4))), .int (iv (nw (Int.toNat v52_4))), .int (iv (nc (Int.toNat v52_4)))]) (st := []) kX12_161 rfl dX12_made_91 hfs28 (x_X12_add (d := d - 1) (x1 := h_10) (x2 := nf (Int.toNat v52_4)) (x3 := nt (Int.toNat v52_4)) (x4 := nw (Int.toNat v52_4)) (x5 := nc (Int.toNat v52_4)) (by omega) (by assumption) (by assumption) (by assumption) (by assumption) (by assumption) ht52 (by omega) (by omega) (by omega) (by omega) (by omega) (by omega) (fun _ _ _ h => h)) rfl (by omega) (Nat.le_of_ble_eq_true rfl) (Nat.zero_le _) (Nat.zero_le _) rfl (fun r25 hp24 n26 hq27 => ?_)
          obtain ⟨hnn26, ht29, hrr25⟩ := hq27
          subst n26 r25
          have hqR30 : Rfx 7260 0 15 (fup fr52 (Int.toNat (60 * h_10 + mn52 (Int.toNat h_10))) (nf (Int.toNat v52_4))) := Rfx_up (by assumption) (by omega)
          have hqR31 : Rfx 7260 0 15 (fup tt52 (Int.toNat (60 * h_10 + mn52 (Int.toNat h_10))) (nt (Int.toNat v52_4))) := Rfx_up (by assumption) (by omega)
          have hqR32 : Rfx 7260 (-1000) 1000 (fup wt52 (Int.toNat (60 * h_10 + mn52 (Int.toNat h_10))) (nw (Int.toNat v52_4))) := Rfx_up (by assumption) (by omega)
          have hqR33 : Rfx 7260 (-1000) 1000 (fup co52 (Int.toNat (60 * h_10 + mn52 (Int.toNat h_10))) (nc (Int.toNat v52_4))) := Rfx_up (by assumption) (by omega)
          have hqR34 : Rfx 121 0 60 (fup mn52 (Int.toNat h_10) (mn52 (Int.toNat h_10) + 1)) := Rfx_up (by assumption) (by omega)
          change Rn _ _ _ 94 _ [] _ _ _ _ _
          refine r_iinc (pc := 94) (v := iv (v52_4 + 1)) (lv' := [(4, .int (iv (v52_4 + 1))), (0, .ref y), (3, .int (iv h_10))]) dX12_made_94 rfl (iv_add _ _) (by decide) rfl ?_
          refine r_goto (pc := 97) (tgt := 52) dX12_made_97 (by decide) ?_
          refine Rn.pick (lv' := [(0, .ref y), (3, .int (iv h_10)), (4, .int (iv (v52_4 + 1)))]) [1, 2, 0] rfl ?_
          exact ih52 (Int.toNat (60 - (v52_4 + 1))) (by omega) (fup mn52 (Int.toNat h_10) (mn52 (Int.toNat h_10) + 1)) (fup fr52 (Int.toNat (60 * h_10 + mn52 (Int.toNat h_10))) (nf (Int.toNat v52_4))) (fup tt52 (Int.toNat (60 * h_10 + mn52 (Int.toNat h_10))) (nt (Int.toNat v52_4))) (fup wt52 (Int.toNat (60 * h_10 + mn52 (Int.toNat h_10))) (nw (Int.toNat v52_4))) (fup co52 (Int.toNat (60 * h_10 + mn52 (Int.toNat h_10))) (nc (Int.toNat v52_4))) _ ht29 (v52_4 + 1) ⟨by omega, by omega, by assumption, by assumption, by assumption, by assumption, by assumption, by omega, by (first | rfl | exact mn_up (by assumption)), by (first | exact (kcF_0 _ _ _).symm | exact kcF_up (by assumption) (by omega) (by omega) rfl), by (first | exact (kcF_0 _ _ _).symm | exact kcF_up (by assumption) (by omega) (by omega) rfl), by (first | exact (kcF_0 _ _ _).symm | exact kcF_up (by assumption) (by omega) (by omega) rfl), by (first | exact (kcF_0 _ _ _).symm | exact kcF_up (by assumption) (by omega) (by omega) rfl)⟩ (by omega)
      refine Rn.pick (lv' := [(0, .ref y), (3, .int (iv h_10)), (4, .int (iv 0))]) [2, 1, 0] rfl ?_
      exact B52 (Int.toNat (60 - 0)) (fup mn (Int.toNat h_10) 0) fr tt wt co _ ht19 0 ⟨by omega, by omega, by assumption, by assumption, by assumption, by assumption, by assumption, by omega, by (first | rfl | exact mn_up (by assumption)), by (first | exact (kcF_0 _ _ _).symm | exact kcF_up (by assumption) (by omega) (by omega) rfl), by (first | exact (kcF_0 _ _ _).symm | exact kcF_up (by assumption) (by omega) (by omega) rfl), by (first | exact (kcF_0 _ _ _).symm | exact kcF_up (by assumption) (by omega) (by omega) rfl), by (first | exact (kcF_0 _ _ _).symm | exact kcF_up (by assumption) (by omega) (by omega) rfl)⟩ (by omega)
    · have ek : cn = 120 ∧ h_10 = -4 ∧ v_7 = -4 ∧ c1_8 = cn := by omega
      have es : s1_9 = so := hhq42 (by omega)
      rw [ek.2.2.1, ek.2.2.2, es] at ht6
      refine r_iload_n (pc := 26) dX12_made_26 (i := 3) rfl rfl ?_
      exact r_iret (pc := 27) dX12_made_27 rfl (hPo _ _ _ ⟨rfl, h_10, (-4), cn, so, sz, dr, mn, fr, tt, wt, co, ht6, rfl, (by omega), (by (first | (intro h9; exfalso; omega) | (intro _; exact ⟨rfl, rfl, rfl, rfl, rfl, rfl, rfl, rfl⟩))), (by omega), (by (intro h9; exfalso; omega))⟩)
  · refine r_aload_n (pc := 9) dX12_made_9 (i := 0) rfl rfl ?_
    refine r_bipush (pc := 10) (v := iv (-4)) dX12_made_10 (by decide) ?_
    obtain ⟨fs39, hfs39⟩ := t_obj ht (rd_of RX_y)
    refine r_callV (pc := 12) (as := [.int (iv (-4))]) (st := []) kX12_153 rfl dX12_made_12 hfs39 (x_X12_refuse (d := d - 1) (x1 := (-4)) (by omega) ht (by omega) (fun _ _ _ h => h)) rfl (by omega) (Nat.le_of_ble_eq_true rfl) (Nat.zero_le _) (Nat.zero_le _) rfl (fun r36 hp35 n37 hq38 => ?_)
    obtain ⟨hnn37, ht40, hrr36⟩ := hq38
    subst n37 r36
    change Rn _ _ _ 15 _ [.int (iv (-4))] _ _ _ _ _
    exact r_iret (pc := 15) dX12_made_15 rfl (hPo _ _ _ ⟨rfl, (-4), (-4), cn, so, sz, dr, mn, fr, tt, wt, co, ht40, rfl, (by omega), (by (first | (intro h9; exfalso; omega) | (intro _; exact ⟨rfl, rfl, rfl, rfl, rfl, rfl, rfl, rfl⟩))), (by omega), (by (intro h9; exfalso; omega))⟩)
set_option maxHeartbeats 4000000 in
set_option maxRecDepth 100000 in
theorem x_X12_isNode {D : va_G} {cI cJ cZ cT : ClassId} {lo b L : Nat} {xs : Nat → Int32} {hp : MH} {n d : Nat} {Γ : TG} {y : Nat} {rf cn nm : Int} {so sz dr mn fr tt wt co : Nat → Int} {nu : Nat → Int64} {sa : Nat → Int} {wo : Nat → Int64} {ln : Nat → Int} {hw : Nat → Int64} {ro qi qc nf nt nw nc : Nat → Int} {cl nx : Nat → Int64} {ie be sd bl : Nat → Int} {bs wy ra rb : Nat → Int64} {lb bg os js ls : Nat → Int} {sp : Nat → Int64} {jw go : Nat → Int} {de : Nat → Int64} {yb ah im : Nat → Int} {x1 x2 : Int} {Po9 : Option Value → MH → Nat → Prop} (hd0 : 1 ≤ d) (hR_sizes : Rfx 121 0 16 sz) (hrf : -2147483648 ≤ rf ∧ rf ≤ 2147483647) (ht : Tw (RX Γ cI cJ cZ y rf cn nm so sz dr mn fr tt wt co nu sa wo ln hw ro qi qc nf nt nw nc cl nx ie be sd bl bs wy ra rb lb bg os js ls sp jw go de yb ah im) hp) (hx1 : 0 ≤ x1 ∧ x1 ≤ 120) (hx2 : (-2147483648) ≤ x2 ∧ x2 ≤ 2147483647) (hPo : ∀ r hp1 n1, (n1 = n ∧ ∃ (v : Int) (b : Int), Tw (RX Γ cI cJ cZ y v cn nm so sz dr mn fr tt wt co nu sa wo ln hw ro qi qc nf nt nw nc cl nx ie be sd bl bs wy ra rb lb bg os js ls sp jw go de yb ah im) hp1 ∧ r = some (.int (iv b)) ∧ ((b = 1 ∧ v = rf ∧ 0 ≤ x2 ∧ x2 < sz (Int.toNat x1)) ∨ (b = 0 ∧ v = -3 ∧ ¬ (0 ≤ x2 ∧ x2 < sz (Int.toNat x1))))) → Po9 r hp1 n1) : Mt (gG D cI cJ cZ cT lo b L xs) mX12_isNode d 0 0 [.ref y, .int (iv x1), .int (iv x2)] hp n Po9 := by
  refine Mt.of rfl (Nat.le_of_ble_eq_true rfl) ?_
  refine Rn.pick (lv' := [(0, .ref y), (1, .int (iv x1)), (2, .int (iv x2))]) [0, 1, 2] rfl ?_
  refine r_iload_n (pc := 0) dX12_isNode_0 (i := 2) rfl rfl ?_
  refine t_if_lt (pc := 1) (tgt := 14) dX12_isNode_1 (by decide) (by omega) (fun c1 => ?_) (fun c1 => ?_)
  · refine r_aload_n (pc := 14) dX12_isNode_14 (i := 0) rfl rfl ?_
    refine r_bipush (pc := 15) (v := iv (-3)) dX12_isNode_15 (by decide) ?_
    obtain ⟨fs5, hfs5⟩ := t_obj ht (rd_of RX_y)
    refine r_callV (pc := 17) (as := [.int (iv (-3))]) (st := []) kX12_153 rfl dX12_isNode_17 hfs5 (x_X12_refuse (d := d - 1) (x1 := (-3)) (by omega) ht (by omega) (fun _ _ _ h => h)) rfl (by omega) (Nat.le_of_ble_eq_true rfl) (Nat.zero_le _) (Nat.zero_le _) rfl (fun r2 hp1 n3 hq4 => ?_)
    obtain ⟨hnn3, ht6, hrr2⟩ := hq4
    subst n3 r2
    change Rn _ _ _ 20 _ [.int (iv (-3))] _ _ _ _ _
    refine r_pop (pc := 20) dX12_isNode_20 rfl ?_
    refine r_iconst (pc := 21) (v := iv 0) dX12_isNode_21 (by decide) ?_
    exact r_zret (pc := 22) dX12_isNode_22 rfl (iv_nar (by omega)) (hPo _ _ _ ⟨rfl, (-3), 0, ht6, rfl, (by omega)⟩)
  · refine r_iload_n (pc := 4) dX12_isNode_4 (i := 2) rfl rfl ?_
    refine r_aload_n (pc := 5) dX12_isNode_5 (i := 0) rfl rfl ?_
    refine t_getE (pc := 6) (.ref (y + 2)) ht (rd_of RX_y) fX12_13 dX12_isNode_6 rfl ?_
    refine r_iload_n (pc := 9) dX12_isNode_9 (i := 1) rfl rfl ?_
    refine t_ialdX (pc := 10) (t0 := 0) ht (rd_of RX_sizes) dX12_isNode_10 rfl (by decide) (by omega) (fun b7 => ?_)
    have rb7 := (show Rfx 121 0 16 sz by assumption) (Int.toNat x1) (by omega)
    refine t_icmp_lt (pc := 11) (tgt := 23) dX12_isNode_11 (by decide) (by omega) (by omega) (fun c11 => ?_) (fun c11 => ?_)
    · refine r_iconst (pc := 23) (v := iv 1) dX12_isNode_23 (by decide) ?_
      exact r_zret (pc := 24) dX12_isNode_24 rfl (iv_nar (by omega)) (hPo _ _ _ ⟨rfl, rf, 1, ht, rfl, (by omega)⟩)
    · refine r_aload_n (pc := 14) dX12_isNode_14 (i := 0) rfl rfl ?_
      refine r_bipush (pc := 15) (v := iv (-3)) dX12_isNode_15 (by decide) ?_
      obtain ⟨fs12, hfs12⟩ := t_obj ht (rd_of RX_y)
      refine r_callV (pc := 17) (as := [.int (iv (-3))]) (st := []) kX12_153 rfl dX12_isNode_17 hfs12 (x_X12_refuse (d := d - 1) (x1 := (-3)) (by omega) ht (by omega) (fun _ _ _ h => h)) rfl (by omega) (Nat.le_of_ble_eq_true rfl) (Nat.zero_le _) (Nat.zero_le _) rfl (fun r9 hp8 n10 hq11 => ?_)
      obtain ⟨hnn10, ht13, hrr9⟩ := hq11
      subst n10 r9
      change Rn _ _ _ 20 _ [.int (iv (-3))] _ _ _ _ _
      refine r_pop (pc := 20) dX12_isNode_20 rfl ?_
      refine r_iconst (pc := 21) (v := iv 0) dX12_isNode_21 (by decide) ?_
      exact r_zret (pc := 22) dX12_isNode_22 rfl (iv_nar (by omega)) (hPo _ _ _ ⟨rfl, (-3), 0, ht13, rfl, (by omega)⟩)
set_option maxHeartbeats 4000000 in
set_option maxRecDepth 100000 in
theorem x_X12_madeColumn {D : va_G} {cI cJ cZ cT : ClassId} {lo b L : Nat} {xs : Nat → Int32} {hp : MH} {n d : Nat} {Γ : TG} {y : Nat} {rf cn nm : Int} {so sz dr mn fr tt wt co : Nat → Int} {nu : Nat → Int64} {sa : Nat → Int} {wo : Nat → Int64} {ln : Nat → Int} {hw : Nat → Int64} {ro qi qc nf nt nw nc : Nat → Int} {cl nx : Nat → Int64} {ie be sd bl : Nat → Int} {bs wy ra rb : Nat → Int64} {lb bg os js ls : Nat → Int} {sp : Nat → Int64} {jw go : Nat → Int} {de : Nat → Int64} {yb ah im : Nat → Int} {x1 : Int} {Po9 : Option Value → MH → Nat → Prop} (hd0 : 2 ≤ d) (hcn : 0 ≤ cn ∧ cn ≤ 120) (hR_sorts : Rfx 121 0 4 so) (hrf : -2147483648 ≤ rf ∧ rf ≤ 2147483647) (hR_sizes : Rfx 121 0 16 sz) (ht : Tw (RX Γ cI cJ cZ y rf cn nm so sz dr mn fr tt wt co nu sa wo ln hw ro qi qc nf nt nw nc cl nx ie be sd bl bs wy ra rb lb bg os js ls sp jw go de yb ah im) hp) (hx1 : 1 ≤ x1 ∧ x1 ≤ 16) (hPo : ∀ r hp1 n1, (n1 = n ∧ ∃ (h : Int) (v : Int) (c1 : Int) (s1 : Nat → Int) (z1 : Nat → Int) (u1 : Nat → Int64), Tw (RX Γ cI cJ cZ y v c1 nm s1 z1 dr mn fr tt wt co u1 sa wo ln hw ro qi qc nf nt nw nc cl nx ie be sd bl bs wy ra rb lb bg os js ls sp jw go de yb ah im) hp1 ∧ r = some (.int (iv h)) ∧ (cn = 120 → h = -4 ∧ v = -4 ∧ c1 = cn) ∧ (cn = 120 → s1 = so ∧ z1 = sz) ∧ (cn < 120 → h = cn ∧ v = rf ∧ c1 = cn + 1) ∧ (cn < 120 → s1 = fup so (Int.toNat cn) 2 ∧ z1 = fup sz (Int.toNat cn) x1) ∧ (cn = 120 → u1 = nu) ∧ (cn < 120 → u1 = kjF cl nu (Int.toNat (16 * cn)) (Int.toNat x1))) → Po9 r hp1 n1) : Mt (gG D cI cJ cZ cT lo b L xs) mX12_madeColumn d 0 0 [.ref y, .int (iv x1)] hp n Po9 := by
  refine Mt.of rfl (Nat.le_of_ble_eq_true rfl) ?_
  refine Rn.pick (lv' := [(0, .ref y), (1, .int (iv x1))]) [0, 1] rfl ?_
  refine r_aload_n (pc := 0) dX12_madeColumn_0 (i := 0) rfl rfl ?_
  refine r_iconst (pc := 1) (v := iv 2) dX12_madeColumn_1 (by decide) ?_
  obtain ⟨fs5, hfs5⟩ := t_obj ht (rd_of RX_y)
  refine r_callV (pc := 2) (as := [.int (iv 2)]) (st := []) kX12_168 rfl dX12_madeColumn_2 hfs5 (x_X12_keep (d := d - 1) (x1 := 2) (by omega) (by omega) (by assumption) (by omega) ht (by omega) (fun _ _ _ h => h)) rfl (by omega) (Nat.le_of_ble_eq_true rfl) (Nat.zero_le _) (Nat.zero_le _) rfl (fun r2 hp1 n3 hq4 => ?_)
  obtain ⟨hnn3, v_7, c1_8, s1_9, h_10, ht6, hrr2, hhq40, hhq41, hhq42, hhq43⟩ := hq4
  subst n3 r2
  have hhq40 : -4 ≤ h_10 ∧ h_10 ≤ 119 ∧ 0 ≤ c1_8 ∧ c1_8 ≤ 120 ∧ -2147483648 ≤ v_7 ∧ v_7 ≤ 2147483647 := hhq40
  have hhq41 : (cn = 120 ∧ h_10 = -4 ∧ v_7 = -4 ∧ c1_8 = cn) ∨ (cn < 120 ∧ h_10 = cn ∧ v_7 = rf ∧ c1_8 = cn + 1) := hhq41
  have hhq42 : cn = 120 → s1_9 = so := hhq42
  have hhq43 : cn < 120 → s1_9 = fup so (Int.toNat cn) 2 := hhq43
  change Rn _ _ _ 5 _ [.int (iv h_10)] _ _ _ _ _
  refine r_istore_n (pc := 5) (lv' := [(2, .int (iv h_10)), (0, .ref y), (1, .int (iv x1))]) dX12_madeColumn_5 (i := 2) rfl (by decide) rfl ?_
  refine r_iload_n (pc := 6) dX12_madeColumn_6 (i := 2) rfl rfl ?_
  refine t_if_lt (pc := 7) (tgt := 47) dX12_madeColumn_7 (by decide) (by omega) (fun c7 => ?_) (fun c7 => ?_)
  · have ek : cn = 120 ∧ h_10 = -4 ∧ v_7 = -4 ∧ c1_8 = cn := by omega
    have es : s1_9 = so := hhq42 (by omega)
    rw [ek.2.2.1, ek.2.2.2, es] at ht6
    refine r_iload_n (pc := 47) dX12_madeColumn_47 (i := 2) rfl rfl ?_
    exact r_iret (pc := 48) dX12_madeColumn_48 rfl (hPo _ _ _ ⟨rfl, h_10, (-4), cn, so, sz, nu, ht6, rfl, (by omega), (by (first | (intro h9; exfalso; omega) | (intro _; exact ⟨rfl, rfl⟩))), (by omega), (by (first | (intro h9; exfalso; omega) | (intro h9; have e1 : h_10 = cn := (by omega); exact ⟨rfl, by rw [e1]⟩))), (by (first | (intro h9; exfalso; omega) | (intro _; rfl))), (by (first | (intro h9; exfalso; omega) | (intro h9; have e1 : h_10 = cn := (by omega); have e2 : v19_3 = x1 := (by omega); rw [← e1, ← e2]; assumption)))⟩)
  · have ek : cn < 120 ∧ h_10 = cn ∧ v_7 = rf ∧ c1_8 = cn + 1 := by omega
    have es : s1_9 = fup so (Int.toNat cn) 2 := hhq43 (by omega)
    rw [ek.2.2.1, ek.2.2.2, es] at ht6
    have hRso : Rfx 121 0 4 (fup so (Int.toNat cn) 2) := Rfx_up (by assumption) (by omega)
    refine r_aload_n (pc := 10) dX12_madeColumn_10 (i := 0) rfl rfl ?_
    refine t_getE (pc := 11) (.ref (y + 2)) ht6 (rd_of RX_y) fX12_13 dX12_madeColumn_11 rfl ?_
    refine r_iload_n (pc := 14) dX12_madeColumn_14 (i := 2) rfl rfl ?_
    refine r_iload_n (pc := 15) dX12_madeColumn_15 (i := 1) rfl rfl ?_
    refine t_iastX (pc := 16) (t0 := 0) ht6 RX_sizes dX12_madeColumn_16 rfl (by decide) (by omega) (by omega) (fun hp11 ht12 => ?_)
    have ht13 := RXw_sz ht12
    have hqht13 : Rfx 121 0 16 (fup sz (Int.toNat h_10) x1) := Rfx_up (by assumption) (by omega)
    refine r_iconst (pc := 17) (v := iv 0) dX12_madeColumn_17 (by decide) ?_
    refine r_istore_n (pc := 18) (lv' := [(3, .int (iv 0)), (2, .int (iv h_10)), (0, .ref y), (1, .int (iv x1))]) dX12_madeColumn_18 (i := 3) rfl (by decide) rfl ?_
    have B19 : ∀ k : Nat, ∀ nu19 : Nat → Int64, ∀ hp19 : MH, Tw (RX Γ cI cJ cZ y rf (cn + 1) nm (fup so (Int.toNat cn) 2) (fup sz (Int.toNat h_10) x1) dr mn fr tt wt co nu19 sa wo ln hw ro qi qc nf nt nw nc cl nx ie be sd bl bs wy ra rb lb bg os js ls sp jw go de yb ah im) hp19 → ∀  (v19_3 : Int), 0 ≤ v19_3 ∧ v19_3 ≤ 16 ∧ (v19_3 ≤ x1) ∧ (nu19 = kjF cl nu (Int.toNat (16 * h_10)) (Int.toNat v19_3)) → 16 - v19_3 ≤ (k : Int) → Rn (gG D cI cJ cZ cT lo b L xs) mX12_madeColumn d 19 [(0, .ref y), (1, .int (iv x1)), (2, .int (iv h_10)), (3, .int (iv v19_3))] [] hp19 n 0 0 Po9 := by
      refine lpS _ ?_
      intro k19 ih19 nu19 hp19 ht19 v19_3 hf19 hm19
      obtain ⟨hf19_0, hf19_1, hf19_2, ha19_3⟩ := hf19
      refine r_iload_n (pc := 19) dX12_madeColumn_19 (i := 3) rfl rfl ?_
      refine r_iload_n (pc := 20) dX12_madeColumn_20 (i := 1) rfl rfl ?_
      refine t_icmp_ge (pc := 21) (tgt := 47) dX12_madeColumn_21 (by decide) (by omega) (by omega) (fun c21 => ?_) (fun c21 => ?_)
      · refine r_iload_n (pc := 47) dX12_madeColumn_47 (i := 2) rfl rfl ?_
        exact r_iret (pc := 48) dX12_madeColumn_48 rfl (hPo _ _ _ ⟨rfl, h_10, rf, (cn + 1), (fup so (Int.toNat cn) 2), (fup sz (Int.toNat h_10) x1), nu19, ht19, rfl, (by omega), (by (first | (intro h9; exfalso; omega) | (intro _; exact ⟨rfl, rfl⟩))), (by omega), (by (first | (intro h9; exfalso; omega) | (intro h9; have e1 : h_10 = cn := (by omega); exact ⟨rfl, by rw [e1]⟩))), (by (first | (intro h9; exfalso; omega) | (intro _; rfl))), (by (first | (intro h9; exfalso; omega) | (intro h9; have e1 : h_10 = cn := (by omega); have e2 : v19_3 = x1 := (by omega); rw [← e1, ← e2]; assumption)))⟩)
      · refine r_aload_n (pc := 24) dX12_madeColumn_24 (i := 0) rfl rfl ?_
        refine t_getE (pc := 25) (.ref (y + 9)) ht19 (rd_of RX_y) fX12_35 dX12_madeColumn_25 rfl ?_
        refine r_bipush (pc := 28) (v := iv 16) dX12_madeColumn_28 (by decide) ?_
        refine r_iload_n (pc := 30) dX12_madeColumn_30 (i := 2) rfl rfl ?_
        refine r_imul (pc := 31) (v := iv (16 * h_10)) dX12_madeColumn_31 (iv_mul _ _) ?_
        refine r_iload_n (pc := 32) dX12_madeColumn_32 (i := 3) rfl rfl ?_
        refine r_iadd (pc := 33) (v := iv ((16 * h_10) + v19_3)) dX12_madeColumn_33 (iv_add _ _) ?_
        refine r_aload_n (pc := 34) dX12_madeColumn_34 (i := 0) rfl rfl ?_
        refine t_getE (pc := 35) (.ref (y + 21)) ht19 (rd_of RX_y) fX12_72 dX12_madeColumn_35 rfl ?_
        refine r_iload_n (pc := 38) dX12_madeColumn_38 (i := 3) rfl rfl ?_
        refine t_laldX (pc := 39) (t0 := 1) ht19 (rd_of RX_column) dX12_madeColumn_39 rfl (by decide) (by omega) ?_
        refine t_lastX (pc := 40) (t0 := 1) ht19 RX_numbers dX12_madeColumn_40 rfl (by decide) (by omega) (fun hp14 ht15 => ?_)
        have ht16 := RXw_nu ht15
        refine r_iinc (pc := 41) (v := iv (v19_3 + 1)) (lv' := [(3, .int (iv (v19_3 + 1))), (0, .ref y), (1, .int (iv x1)), (2, .int (iv h_10))]) dX12_madeColumn_41 rfl (iv_add _ _) (by decide) rfl ?_
        refine r_goto (pc := 44) (tgt := 19) dX12_madeColumn_44 (by decide) ?_
        refine Rn.pick (lv' := [(0, .ref y), (1, .int (iv x1)), (2, .int (iv h_10)), (3, .int (iv (v19_3 + 1)))]) [1, 2, 3, 0] rfl ?_
        exact ih19 (Int.toNat (16 - (v19_3 + 1))) (by omega) (fuj nu19 (Int.toNat ((16 * h_10) + v19_3)) (cl (Int.toNat v19_3))) _ ht16 (v19_3 + 1) ⟨by omega, by omega, by omega, by (first | exact (kjF_0 _ _ _).symm | exact kjF_up (by assumption) (by omega) (by omega) rfl)⟩ (by omega)
    refine Rn.pick (lv' := [(0, .ref y), (1, .int (iv x1)), (2, .int (iv h_10)), (3, .int (iv 0))]) [2, 3, 1, 0] rfl ?_
    exact B19 (Int.toNat (16 - 0)) nu _ ht13 0 ⟨by omega, by omega, by omega, by (first | exact (kjF_0 _ _ _).symm | exact kjF_up (by assumption) (by omega) (by omega) rfl)⟩ (by omega)
