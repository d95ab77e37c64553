def kcF (g f0 : Nat → Int) (p k : Nat) : Nat → Int := fun i => if p ≤ i ∧ i < p + k then g (i - p) else f0 i
theorem kcF_0 (g f0 : Nat → Int) (p : Nat) : kcF g f0 p 0 = f0 := by
  funext i; unfold kcF; rw [if_neg (by omega)]
theorem kcF_in {g f0 : Nat → Int} {p k i : Nat} (h : p ≤ i ∧ i < p + k) : kcF g f0 p k i = g (i - p) := by unfold kcF; rw [if_pos h]
theorem kcF_out {g f0 : Nat → Int} {p k i : Nat} (h : ¬ (p ≤ i ∧ i < p + k)) : kcF g f0 p k i = f0 i := by unfold kcF; rw [if_neg h]
theorem kcF_up {f g f0 : Nat → Int} {p : Nat} {k : Int} {i : Nat} {v : Int} (h : f = kcF g f0 p k.toNat) (hk : 0 ≤ k) (hi : i = p + k.toNat) (hv : v = g k.toNat) : fup f i v = kcF g f0 p (k + 1).toNat := by
  have e : (k + 1).toNat = k.toNat + 1 := by omega
  rw [e]; subst h hi hv
  funext q
  by_cases hq : q = p + k.toNat
  · subst hq; rw [fup_s, kcF_in (by omega)]; congr 1; omega
  · rw [fup_o _ _ hq]; unfold kcF
    by_cases hr : p ≤ q ∧ q < p + k.toNat
    · rw [if_pos hr, if_pos (by omega)]
    · rw [if_neg hr, if_neg (by omega)]
theorem fup_fup (f : Nat → Int) (i : Nat) (v w : Int) : fup (fup f i v) i w = fup f i w := by
  funext q; by_cases hq : q = i
  · subst hq; rw [fup_s, fup_s]
  · rw [fup_o _ _ hq, fup_o _ _ hq, fup_o _ _ hq]
def arP (nf nt nw nc : Nat → Int) (m N : Int) : Prop := ∀ k : Int, 0 ≤ k → k < m → (0 ≤ nf k.toNat ∧ nf k.toNat < N) ∧ (0 ≤ nt k.toNat ∧ nt k.toNat < N) ∧ (-1000 ≤ nw k.toNat ∧ nw k.toNat ≤ 1000) ∧ (-1000 ≤ nc k.toNat ∧ nc k.toNat ≤ 1000)
theorem ar_up {nf nt nw nc : Nat → Int} {m N a b w c : Int} (h : arP nf nt nw nc m N) (hm : 0 ≤ m) (ha : 0 ≤ a ∧ a < N) (hb : 0 ≤ b ∧ b < N) (hw : -1000 ≤ w ∧ w ≤ 1000) (hc : -1000 ≤ c ∧ c ≤ 1000) : arP (fup nf m.toNat a) (fup nt m.toNat b) (fup nw m.toNat w) (fup nc m.toNat c) (m + 1) N := by
  intro k h0 h1
  by_cases hk : k = m
  · subst hk; rw [fup_s, fup_s, fup_s, fup_s]; exact ⟨ha, hb, hw, hc⟩
  · have hne : k.toNat ≠ m.toNat := by omega
    rw [fup_o _ _ hne, fup_o _ _ hne, fup_o _ _ hne, fup_o _ _ hne]; exact h k h0 (by omega)
theorem Rfx_cp {L : Nat} {lo hi : Int} {f g : Nat → Int} {p k : Nat} (h : Rfx L lo hi f) (hg : ∀ i, i < k → lo ≤ g i ∧ g i ≤ hi) : Rfx L lo hi (kcF g f p k) := by
  intro i hi
  by_cases hr : p ≤ i ∧ i < p + k
  · rw [kcF_in hr]; exact hg _ (by omega)
  · rw [kcF_out hr]; exact h i hi
theorem kc_p {P : Int → Prop} {f : Nat → Int} {g f0 : Nat → Int} {p k : Nat} (h : f = kcF g f0 p k) (hg : ∀ i, i < k → P (g i)) {i : Nat} (hi : p ≤ i ∧ i < p + k) : P (f i) := by rw [h, kcF_in hi]; exact hg _ (by omega)
def q_X12_refuse (Γ : TG) (cI cJ cZ : ClassId) (y n : Nat) (rf cn nm : Int) (so sz dr mn fr tt wt co : Nat → Int) (nu : Nat → Int64) (qi qc nf nt nw nc : Nat → Int) (x1 : Int) : Option Value → MH → Nat → Prop := fun r hp1 n1 => n1 = n ∧ Tw (RG Γ cI cJ cZ y x1 cn nm so sz dr mn fr tt wt co nu qi qc nf nt nw nc) hp1 ∧ r = some (.int (iv x1))
set_option maxHeartbeats 4000000 in
set_option maxRecDepth 100000 in
theorem s_X12_refuse {D : va_G} {cI cJ cZ cT : ClassId} {lo b L : Nat} {xs : Nat → Int32} {hp : MH} {n d : Nat} {Γ : TG} {y : Nat} {rf cn nm : Int} {so sz dr mn fr tt wt co : Nat → Int} {nu : Nat → Int64} {qi qc nf nt nw nc : Nat → Int} {x1 : Int} (hd0 : 0 ≤ d) (ht : Tw (RG Γ cI cJ cZ y rf cn nm so sz dr mn fr tt wt co nu qi qc nf nt nw nc) hp) (hx1 : (-2147483648) ≤ x1 ∧ x1 ≤ 2147483647) : Mt (gG D cI cJ cZ cT lo b L xs) mX12_refuse d 0 0 [.ref y, .int (iv x1)] hp n (q_X12_refuse Γ cI cJ cZ y n rf cn nm so sz dr mn fr tt wt co nu qi qc nf nt nw nc x1) := by
  refine Mt.of rfl (Nat.le_of_ble_eq_true rfl) ?_
  refine Rn.pick (lv' := [(0, .ref y), (1, .int (iv x1))]) [0, 1] rfl ?_
  refine r_aload_n (pc := 0) dX12_refuse_0 (i := 0) rfl rfl ?_
  refine r_iload_n (pc := 1) dX12_refuse_1 (i := 1) rfl rfl ?_
  refine t_putX (pc := 2) (ty := .int) ht RG_y fX12_142 tyX12 tyX12_ok nmX12 (by decide +kernel) (Or.inl rfl) dX12_refuse_2 (Nat.le_of_ble_eq_true rfl) rfl rfl rfl (fun hp1 ht2 => ?_)
  have ht3 := RGw_rf ht2
  refine r_iload_n (pc := 5) dX12_refuse_5 (i := 1) rfl rfl ?_
  exact r_iret (pc := 6) dX12_refuse_6 rfl ⟨rfl, ht3, rfl⟩
def q_X12_isThere (Γ : TG) (cI cJ cZ : ClassId) (y n : Nat) (rf cn nm : Int) (so sz dr mn fr tt wt co : Nat → Int) (nu : Nat → Int64) (qi qc nf nt nw nc : Nat → Int) (x1 : Int) : Option Value → MH → Nat → Prop := fun r hp1 n1 => n1 = n ∧ ∃ (b : Int), Tw (RG Γ cI cJ cZ y rf cn nm so sz dr mn fr tt wt co nu qi qc nf nt nw nc) hp1 ∧ r = some (.int (iv b)) ∧ ((b = 1 ∧ 0 ≤ x1 ∧ x1 < cn) ∨ (b = 0 ∧ ¬ (0 ≤ x1 ∧ x1 < cn)))
set_option maxHeartbeats 4000000 in
set_option maxRecDepth 100000 in
theorem s_X12_isThere {D : va_G} {cI cJ cZ cT : ClassId} {lo b L : Nat} {xs : Nat → Int32} {hp : MH} {n d : Nat} {Γ : TG} {y : Nat} {rf cn nm : Int} {so sz dr mn fr tt wt co : Nat → Int} {nu : Nat → Int64} {qi qc nf nt nw nc : Nat → Int} {x1 : Int} (hd0 : 0 ≤ d) (hcn : 0 ≤ cn ∧ cn ≤ 120) (ht : Tw (RG Γ cI cJ cZ y rf cn nm so sz dr mn fr tt wt co nu qi qc nf nt nw nc) hp) (hx1 : (-2147483648) ≤ x1 ∧ x1 ≤ 2147483647) : Mt (gG D cI cJ cZ cT lo b L xs) mX12_isThere d 0 0 [.ref y, .int (iv x1)] hp n (q_X12_isThere Γ cI cJ cZ y n rf cn nm so sz dr mn fr tt wt co nu qi qc nf nt nw nc x1) := by
  refine Mt.of rfl (Nat.le_of_ble_eq_true rfl) ?_
  refine Rn.pick (lv' := [(0, .ref y), (1, .int (iv x1))]) [0, 1] rfl ?_
  refine r_iload_n (pc := 0) dX12_isThere_0 (i := 1) rfl rfl ?_
  refine t_if_lt (pc := 1) (tgt := 16) dX12_isThere_1 (by decide) (by omega) (fun c1 => ?_) (fun c1 => ?_)
  · refine r_iconst (pc := 16) (v := iv 0) dX12_isThere_16 (by decide) ?_
    exact r_zret (pc := 17) dX12_isThere_17 rfl (iv_nar (by omega)) ⟨rfl, 0, ht, rfl, (by omega)⟩
  · refine r_iload_n (pc := 4) dX12_isThere_4 (i := 1) rfl rfl ?_
    refine r_aload_n (pc := 5) dX12_isThere_5 (i := 0) rfl rfl ?_
    refine t_getE (pc := 6) (.int (iv cn)) ht (rd_of RG_y) fX12_146 dX12_isThere_6 rfl ?_
    refine t_icmp_ge (pc := 9) (tgt := 16) dX12_isThere_9 (by decide) (by omega) (by omega) (fun c9 => ?_) (fun c9 => ?_)
    · refine r_iconst (pc := 16) (v := iv 0) dX12_isThere_16 (by decide) ?_
      exact r_zret (pc := 17) dX12_isThere_17 rfl (iv_nar (by omega)) ⟨rfl, 0, ht, rfl, (by omega)⟩
    · refine r_iconst (pc := 12) (v := iv 1) dX12_isThere_12 (by decide) ?_
      refine r_goto (pc := 13) (tgt := 17) dX12_isThere_13 (by decide) ?_
      exact r_zret (pc := 17) dX12_isThere_17 rfl (iv_nar (by omega)) ⟨rfl, 1, ht, rfl, (by omega)⟩
def q_X12_has (Γ : TG) (cI cJ cZ : ClassId) (y n : Nat) (rf cn nm : Int) (so sz dr mn fr tt wt co : Nat → Int) (nu : Nat → Int64) (qi qc nf nt nw nc : Nat → Int) (x1 x2 : Int) : Option Value → MH → Nat → Prop := fun r hp1 n1 => n1 = n ∧ ∃ (v : Int) (b : Int), Tw (RG Γ cI cJ cZ y v cn nm so sz dr mn fr tt wt co nu qi qc nf nt nw nc) hp1 ∧ r = some (.int (iv b)) ∧ (-2 ≤ v ∧ v ≤ 0 ∧ (b = 0 ∨ b = 1)) ∧ ((b = 1 ∧ v = 0 ∧ 0 ≤ x1 ∧ x1 < cn ∧ so (Int.toNat x1) = x2) ∨ (b = 0 ∧ v = -1 ∧ ¬ (0 ≤ x1 ∧ x1 < cn)) ∨ (b = 0 ∧ v = -2 ∧ 0 ≤ x1 ∧ x1 < cn ∧ so (Int.toNat x1) ≠ x2))
set_option maxHeartbeats 4000000 in
set_option maxRecDepth 100000 in
theorem s_X12_has {D : va_G} {cI cJ cZ cT : ClassId} {lo b L : Nat} {xs : Nat → Int32} {hp : MH} {n d : Nat} {Γ : TG} {y : Nat} {rf cn nm : Int} {so sz dr mn fr tt wt co : Nat → Int} {nu : Nat → Int64} {qi qc nf nt nw nc : Nat → Int} {x1 x2 : Int} (hd0 : 1 ≤ d) (hcn : 0 ≤ cn ∧ cn ≤ 120) (hR_sorts : Rfx 121 0 4 so) (ht : Tw (RG Γ cI cJ cZ y rf cn nm so sz dr mn fr tt wt co nu qi qc nf nt nw nc) hp) (hx1 : (-2147483648) ≤ x1 ∧ x1 ≤ 2147483647) (hx2 : 1 ≤ x2 ∧ x2 ≤ 4) : Mt (gG D cI cJ cZ cT lo b L xs) mX12_has d 0 0 [.ref y, .int (iv x1), .int (iv x2)] hp n (q_X12_has Γ cI cJ cZ y n rf cn nm so sz dr mn fr tt wt co nu qi qc nf nt nw nc x1 x2) := by
  refine Mt.of rfl (Nat.le_of_ble_eq_true rfl) ?_
  refine Rn.pick (lv' := [(0, .ref y), (1, .int (iv x1)), (2, .int (iv x2))]) [0, 1, 2] rfl ?_
  refine r_aload_n (pc := 0) dX12_has_0 (i := 0) rfl rfl ?_
  refine r_aload_n (pc := 1) dX12_has_1 (i := 0) rfl rfl ?_
  refine r_iload_n (pc := 2) dX12_has_2 (i := 1) rfl rfl ?_
  obtain ⟨fs5, hfs5⟩ := t_obj ht (rd_of RG_y)
  refine r_callV (pc := 3) (as := [.int (iv x1)]) (st := [.ref y]) kX12_149 rfl dX12_has_3 hfs5 (s_X12_isThere (d := d - 1) (x1 := x1) (by omega) (by omega) ht (by omega)) rfl (by omega) (Nat.le_of_ble_eq_true rfl) (Nat.zero_le _) (Nat.zero_le _) rfl (fun r2 hp1 n3 hq4 => ?_)
  obtain ⟨hnn3, b_8, ht6, hrr2, hhq40⟩ := hq4
  subst n3 r2
  have hhq40 : (b_8 = 1 ∧ 0 ≤ x1 ∧ x1 < cn) ∨ (b_8 = 0 ∧ ¬ (0 ≤ x1 ∧ x1 < cn)) := hhq40
  change Rn _ _ _ 6 _ [.int (iv b_8), .ref y] _ _ _ _ _
  refine t_if_ne (pc := 6) (tgt := 13) dX12_has_6 (by decide) (by omega) (fun c6 => ?_) (fun c6 => ?_)
  · refine r_aload_n (pc := 13) dX12_has_13 (i := 0) rfl rfl ?_
    refine t_getE (pc := 14) (.ref (y + 1)) ht6 (rd_of RG_y) fX12_7 dX12_has_14 rfl ?_
    refine r_iload_n (pc := 17) dX12_has_17 (i := 1) rfl rfl ?_
    refine t_ialdX (pc := 18) (t0 := 0) ht6 (rd_of RG_sorts) dX12_has_18 rfl (by decide) (by omega) (fun b9 => ?_)
    have rb9 := (show Rfx 121 0 4 so by assumption) (Int.toNat x1) (by omega)
    refine r_iload_n (pc := 19) dX12_has_19 (i := 2) rfl rfl ?_
    refine t_icmp_eq (pc := 20) (tgt := 28) dX12_has_20 (by decide) (by omega) (by omega) (fun c20 => ?_) (fun c20 => ?_)
    · refine r_iconst (pc := 28) (v := iv 0) dX12_has_28 (by decide) ?_
      refine t_putX (pc := 29) (ty := .int) ht6 RG_y fX12_142 tyX12 tyX12_ok nmX12 (by decide +kernel) (Or.inl rfl) dX12_has_29 (Nat.le_of_ble_eq_true rfl) rfl rfl rfl (fun hp10 ht11 => ?_)
      have ht12 := RGw_rf ht11
      refine r_aload_n (pc := 32) dX12_has_32 (i := 0) rfl rfl ?_
      refine t_getE (pc := 33) (.int (iv 0)) ht12 (rd_of RG_y) fX12_142 dX12_has_33 rfl ?_
      refine t_if_ne (pc := 36) (tgt := 43) dX12_has_36 (by decide) (by omega) (fun c36 => ?_) (fun c36 => ?_)
      · refine r_iconst (pc := 43) (v := iv 0) dX12_has_43 (by decide) ?_
        exact r_zret (pc := 44) dX12_has_44 rfl (iv_nar (by omega)) ⟨rfl, 0, 0, ht12, rfl, (by omega), (by omega)⟩
      · refine r_iconst (pc := 39) (v := iv 1) dX12_has_39 (by decide) ?_
        refine r_goto (pc := 40) (tgt := 44) dX12_has_40 (by decide) ?_
        exact r_zret (pc := 44) dX12_has_44 rfl (iv_nar (by omega)) ⟨rfl, 0, 1, ht12, rfl, (by omega), (by omega)⟩
    · refine r_bipush (pc := 23) (v := iv (-2)) dX12_has_23 (by decide) ?_
      refine r_goto (pc := 25) (tgt := 29) dX12_has_25 (by decide) ?_
      refine t_putX (pc := 29) (ty := .int) ht6 RG_y fX12_142 tyX12 tyX12_ok nmX12 (by decide +kernel) (Or.inl rfl) dX12_has_29 (Nat.le_of_ble_eq_true rfl) rfl rfl rfl (fun hp13 ht14 => ?_)
      have ht15 := RGw_rf ht14
      refine r_aload_n (pc := 32) dX12_has_32 (i := 0) rfl rfl ?_
      refine t_getE (pc := 33) (.int (iv (-2))) ht15 (rd_of RG_y) fX12_142 dX12_has_33 rfl ?_
      refine t_if_ne (pc := 36) (tgt := 43) dX12_has_36 (by decide) (by omega) (fun c36 => ?_) (fun c36 => ?_)
      · refine r_iconst (pc := 43) (v := iv 0) dX12_has_43 (by decide) ?_
        exact r_zret (pc := 44) dX12_has_44 rfl (iv_nar (by omega)) ⟨rfl, (-2), 0, ht15, rfl, (by omega), (by omega)⟩
      · refine r_iconst (pc := 39) (v := iv 1) dX12_has_39 (by decide) ?_
        refine r_goto (pc := 40) (tgt := 44) dX12_has_40 (by decide) ?_
        exact r_zret (pc := 44) dX12_has_44 rfl (iv_nar (by omega)) ⟨rfl, (-2), 1, ht15, rfl, (by omega), (by omega)⟩
  · refine r_iconst (pc := 9) (v := iv (-1)) dX12_has_9 (by decide) ?_
    refine r_goto (pc := 10) (tgt := 29) dX12_has_10 (by decide) ?_
    refine t_putX (pc := 29) (ty := .int) ht6 RG_y fX12_142 tyX12 tyX12_ok nmX12 (by decide +kernel) (Or.inl rfl) dX12_has_29 (Nat.le_of_ble_eq_true rfl) rfl rfl rfl (fun hp16 ht17 => ?_)
    have ht18 := RGw_rf ht17
    refine r_aload_n (pc := 32) dX12_has_32 (i := 0) rfl rfl ?_
    refine t_getE (pc := 33) (.int (iv (-1))) ht18 (rd_of RG_y) fX12_142 dX12_has_33 rfl ?_
    refine t_if_ne (pc := 36) (tgt := 43) dX12_has_36 (by decide) (by omega) (fun c36 => ?_) (fun c36 => ?_)
    · refine r_iconst (pc := 43) (v := iv 0) dX12_has_43 (by decide) ?_
      exact r_zret (pc := 44) dX12_has_44 rfl (iv_nar (by omega)) ⟨rfl, (-1), 0, ht18, rfl, (by omega), (by omega)⟩
    · refine r_iconst (pc := 39) (v := iv 1) dX12_has_39 (by decide) ?_
      refine r_goto (pc := 40) (tgt := 44) dX12_has_40 (by decide) ?_
      exact r_zret (pc := 44) dX12_has_44 rfl (iv_nar (by omega)) ⟨rfl, (-1), 1, ht18, rfl, (by omega), (by omega)⟩
def q_X12_haveTwo (Γ : TG) (cI cJ cZ : ClassId) (y n : Nat) (rf cn nm : Int) (so sz dr mn fr tt wt co : Nat → Int) (nu : Nat → Int64) (qi qc nf nt nw nc : Nat → Int) (x1 x2 x3 x4 : Int) : Option Value → MH → Nat → Prop := fun r hp1 n1 => n1 = n ∧ ∃ (v : Int) (b : Int), Tw (RG Γ cI cJ cZ y v cn nm so sz dr mn fr tt wt co nu qi qc nf nt nw nc) hp1 ∧ r = some (.int (iv b)) ∧ (-2 ≤ v ∧ v ≤ 0 ∧ (b = 0 ∨ b = 1)) ∧ ((b = 1 ∧ v = 0 ∧ 0 ≤ x1 ∧ x1 < cn ∧ 0 ≤ x3 ∧ x3 < cn ∧ so (Int.toNat x1) = x2 ∧ so (Int.toNat x3) = x4) ∨ (b = 0 ∧ v = -1 ∧ ¬ (0 ≤ x1 ∧ x1 < cn ∧ 0 ≤ x3 ∧ x3 < cn)) ∨ (b = 0 ∧ v = -2 ∧ 0 ≤ x1 ∧ x1 < cn ∧ 0 ≤ x3 ∧ x3 < cn ∧ ¬ (so (Int.toNat x1) = x2 ∧ so (Int.toNat x3) = x4)))
set_option maxHeartbeats 4000000 in
set_option maxRecDepth 100000 in
theorem s_X12_haveTwo {D : va_G} {cI cJ cZ cT : ClassId} {lo b L : Nat} {xs : Nat → Int32} {hp : MH} {n d : Nat} {Γ : TG} {y : Nat} {rf cn nm : Int} {so sz dr mn fr tt wt co : Nat → Int} {nu : Nat → Int64} {qi qc nf nt nw nc : Nat → Int} {x1 x2 x3 x4 : Int} (hd0 : 1 ≤ d) (hcn : 0 ≤ cn ∧ cn ≤ 120) (hR_sorts : Rfx 121 0 4 so) (ht : Tw (RG Γ cI cJ cZ y rf cn nm so sz dr mn fr tt wt co nu qi qc nf nt nw nc) hp) (hx1 : (-2147483648) ≤ x1 ∧ x1 ≤ 2147483647) (hx2 : 1 ≤ x2 ∧ x2 ≤ 4) (hx3 : (-2147483648) ≤ x3 ∧ x3 ≤ 2147483647) (hx4 : 1 ≤ x4 ∧ x4 ≤ 4) : Mt (gG D cI cJ cZ cT lo b L xs) mX12_haveTwo d 0 0 [.ref y, .int (iv x1), .int (iv x2), .int (iv x3), .int (iv x4)] hp n (q_X12_haveTwo Γ cI cJ cZ y n rf cn nm so sz dr mn fr tt wt co nu qi qc nf nt nw nc x1 x2 x3 x4) := by
  refine Mt.of rfl (Nat.le_of_ble_eq_true rfl) ?_
  refine Rn.pick (lv' := [(0, .ref y), (1, .int (iv x1)), (2, .int (iv x2)), (3, .int (iv x3)), (4, .int (iv x4))]) [0, 1, 2, 3, 4] rfl ?_
  refine r_aload_n (pc := 0) dX12_haveTwo_0 (i := 0) rfl rfl ?_
  refine r_aload_n (pc := 1) dX12_haveTwo_1 (i := 0) rfl rfl ?_
  refine r_iload_n (pc := 2) dX12_haveTwo_2 (i := 1) rfl rfl ?_
  obtain ⟨fs5, hfs5⟩ := t_obj ht (rd_of RG_y)
  refine r_callV (pc := 3) (as := [.int (iv x1)]) (st := [.ref y]) kX12_149 rfl dX12_haveTwo_3 hfs5 (s_X12_isThere (d := d - 1) (x1 := x1) (by omega) (by omega) ht (by omega)) rfl (by omega) (Nat.le_of_ble_eq_true rfl) (Nat.zero_le _) (Nat.zero_le _) rfl (fun r2 hp1 n3 hq4 => ?_)
  obtain ⟨hnn3, b_8, ht6, hrr2, hhq40⟩ := hq4
  subst n3 r2
  have hhq40 : (b_8 = 1 ∧ 0 ≤ x1 ∧ x1 < cn) ∨ (b_8 = 0 ∧ ¬ (0 ≤ x1 ∧ x1 < cn)) := hhq40
  change Rn _ _ _ 6 _ [.int (iv b_8), .ref y] _ _ _ _ _
  refine t_if_eq (pc := 6) (tgt := 17) dX12_haveTwo_6 (by decide) (by omega) (fun c6 => ?_) (fun c6 => ?_)
  · refine r_iconst (pc := 17) (v := iv (-1)) dX12_haveTwo_17 (by decide) ?_
    refine r_goto (pc := 18) (tgt := 48) dX12_haveTwo_18 (by decide) ?_
    refine t_putX (pc := 48) (ty := .int) ht6 RG_y fX12_142 tyX12 tyX12_ok nmX12 (by decide +kernel) (Or.inl rfl) dX12_haveTwo_48 (Nat.le_of_ble_eq_true rfl) rfl rfl rfl (fun hp9 ht10 => ?_)
    have ht11 := RGw_rf ht10
    refine r_aload_n (pc := 51) dX12_haveTwo_51 (i := 0) rfl rfl ?_
    refine t_getE (pc := 52) (.int (iv (-1))) ht11 (rd_of RG_y) fX12_142 dX12_haveTwo_52 rfl ?_
    refine t_if_ne (pc := 55) (tgt := 62) dX12_haveTwo_55 (by decide) (by omega) (fun c55 => ?_) (fun c55 => ?_)
    · refine r_iconst (pc := 62) (v := iv 0) dX12_haveTwo_62 (by decide) ?_
      exact r_zret (pc := 63) dX12_haveTwo_63 rfl (iv_nar (by omega)) ⟨rfl, (-1), 0, ht11, rfl, (by omega), (by omega)⟩
    · refine r_iconst (pc := 58) (v := iv 1) dX12_haveTwo_58 (by decide) ?_
      refine r_goto (pc := 59) (tgt := 63) dX12_haveTwo_59 (by decide) ?_
      exact r_zret (pc := 63) dX12_haveTwo_63 rfl (iv_nar (by omega)) ⟨rfl, (-1), 1, ht11, rfl, (by omega), (by omega)⟩
  · refine r_aload_n (pc := 9) dX12_haveTwo_9 (i := 0) rfl rfl ?_
    refine r_iload_n (pc := 10) dX12_haveTwo_10 (i := 3) rfl rfl ?_
    obtain ⟨fs16, hfs16⟩ := t_obj ht6 (rd_of RG_y)
    refine r_callV (pc := 11) (as := [.int (iv x3)]) (st := [.ref y]) kX12_149 rfl dX12_haveTwo_11 hfs16 (s_X12_isThere (d := d - 1) (x1 := x3) (by omega) (by omega) ht6 (by omega)) rfl (by omega) (Nat.le_of_ble_eq_true rfl) (Nat.zero_le _) (Nat.zero_le _) rfl (fun r13 hp12 n14 hq15 => ?_)
    obtain ⟨hnn14, b_19, ht17, hrr13, hhq150⟩ := hq15
    subst n14 r13
    have hhq150 : (b_19 = 1 ∧ 0 ≤ x3 ∧ x3 < cn) ∨ (b_19 = 0 ∧ ¬ (0 ≤ x3 ∧ x3 < cn)) := hhq150
    change Rn _ _ _ 14 _ [.int (iv b_19), .ref y] _ _ _ _ _
    refine t_if_ne (pc := 14) (tgt := 21) dX12_haveTwo_14 (by decide) (by omega) (fun c14 => ?_) (fun c14 => ?_)
    · refine r_aload_n (pc := 21) dX12_haveTwo_21 (i := 0) rfl rfl ?_
      refine t_getE (pc := 22) (.ref (y + 1)) ht17 (rd_of RG_y) fX12_7 dX12_haveTwo_22 rfl ?_
      refine r_iload_n (pc := 25) dX12_haveTwo_25 (i := 1) rfl rfl ?_
      refine t_ialdX (pc := 26) (t0 := 0) ht17 (rd_of RG_sorts) dX12_haveTwo_26 rfl (by decide) (by omega) (fun b20 => ?_)
      have rb20 := (show Rfx 121 0 4 so by assumption) (Int.toNat x1) (by omega)
      refine r_iload_n (pc := 27) dX12_haveTwo_27 (i := 2) rfl rfl ?_
      refine t_icmp_ne (pc := 28) (tgt := 42) dX12_haveTwo_28 (by decide) (by omega) (by omega) (fun c28 => ?_) (fun c28 => ?_)
      · refine r_bipush (pc := 42) (v := iv (-2)) dX12_haveTwo_42 (by decide) ?_
        refine r_goto (pc := 44) (tgt := 48) dX12_haveTwo_44 (by decide) ?_
        refine t_putX (pc := 48) (ty := .int) ht17 RG_y fX12_142 tyX12 tyX12_ok nmX12 (by decide +kernel) (Or.inl rfl) dX12_haveTwo_48 (Nat.le_of_ble_eq_true rfl) rfl rfl rfl (fun hp21 ht22 => ?_)
        have ht23 := RGw_rf ht22
        refine r_aload_n (pc := 51) dX12_haveTwo_51 (i := 0) rfl rfl ?_
        refine t_getE (pc := 52) (.int (iv (-2))) ht23 (rd_of RG_y) fX12_142 dX12_haveTwo_52 rfl ?_
        refine t_if_ne (pc := 55) (tgt := 62) dX12_haveTwo_55 (by decide) (by omega) (fun c55 => ?_) (fun c55 => ?_)
        · refine r_iconst (pc := 62) (v := iv 0) dX12_haveTwo_62 (by decide) ?_
          exact r_zret (pc := 63) dX12_haveTwo_63 rfl (iv_nar (by omega)) ⟨rfl, (-2), 0, ht23, rfl, (by omega), (by omega)⟩
        · refine r_iconst (pc := 58) (v := iv 1) dX12_haveTwo_58 (by decide) ?_
          refine r_goto (pc := 59) (tgt := 63) dX12_haveTwo_59 (by decide) ?_
          exact r_zret (pc := 63) dX12_haveTwo_63 rfl (iv_nar (by omega)) ⟨rfl, (-2), 1, ht23, rfl, (by omega), (by omega)⟩
      · refine r_aload_n (pc := 31) dX12_haveTwo_31 (i := 0) rfl rfl ?_
        refine t_getE (pc := 32) (.ref (y + 1)) ht17 (rd_of RG_y) fX12_7 dX12_haveTwo_32 rfl ?_
        refine r_iload_n (pc := 35) dX12_haveTwo_35 (i := 3) rfl rfl ?_
        refine t_ialdX (pc := 36) (t0 := 0) ht17 (rd_of RG_sorts) dX12_haveTwo_36 rfl (by decide) (by omega) (fun b24 => ?_)
        have rb24 := (show Rfx 121 0 4 so by assumption) (Int.toNat x3) (by omega)
        refine r_iload (pc := 37) dX12_haveTwo_37 rfl ?_
        refine t_icmp_eq (pc := 39) (tgt := 47) dX12_haveTwo_39 (by decide) (by omega) (by omega) (fun c39 => ?_) (fun c39 => ?_)
        · refine r_iconst (pc := 47) (v := iv 0) dX12_haveTwo_47 (by decide) ?_
          refine t_putX (pc := 48) (ty := .int) ht17 RG_y fX12_142 tyX12 tyX12_ok nmX12 (by decide +kernel) (Or.inl rfl) dX12_haveTwo_48 (Nat.le_of_ble_eq_true rfl) rfl rfl rfl (fun hp25 ht26 => ?_)
          have ht27 := RGw_rf ht26
          refine r_aload_n (pc := 51) dX12_haveTwo_51 (i := 0) rfl rfl ?_
          refine t_getE (pc := 52) (.int (iv 0)) ht27 (rd_of RG_y) fX12_142 dX12_haveTwo_52 rfl ?_
          refine t_if_ne (pc := 55) (tgt := 62) dX12_haveTwo_55 (by decide) (by omega) (fun c55 => ?_) (fun c55 => ?_)
          · refine r_iconst (pc := 62) (v := iv 0) dX12_haveTwo_62 (by decide) ?_
            exact r_zret (pc := 63) dX12_haveTwo_63 rfl (iv_nar (by omega)) ⟨rfl, 0, 0, ht27, rfl, (by omega), (by omega)⟩
          · refine r_iconst (pc := 58) (v := iv 1) dX12_haveTwo_58 (by decide) ?_
            refine r_goto (pc := 59) (tgt := 63) dX12_haveTwo_59 (by decide) ?_
            exact r_zret (pc := 63) dX12_haveTwo_63 rfl (iv_nar (by omega)) ⟨rfl, 0, 1, ht27, rfl, (by omega), (by omega)⟩
        · refine r_bipush (pc := 42) (v := iv (-2)) dX12_haveTwo_42 (by decide) ?_
          refine r_goto (pc := 44) (tgt := 48) dX12_haveTwo_44 (by decide) ?_
          refine t_putX (pc := 48) (ty := .int) ht17 RG_y fX12_142 tyX12 tyX12_ok nmX12 (by decide +kernel) (Or.inl rfl) dX12_haveTwo_48 (Nat.le_of_ble_eq_true rfl) rfl rfl rfl (fun hp28 ht29 => ?_)
          have ht30 := RGw_rf ht29
          refine r_aload_n (pc := 51) dX12_haveTwo_51 (i := 0) rfl rfl ?_
          refine t_getE (pc := 52) (.int (iv (-2))) ht30 (rd_of RG_y) fX12_142 dX12_haveTwo_52 rfl ?_
          refine t_if_ne (pc := 55) (tgt := 62) dX12_haveTwo_55 (by decide) (by omega) (fun c55 => ?_) (fun c55 => ?_)
          · refine r_iconst (pc := 62) (v := iv 0) dX12_haveTwo_62 (by decide) ?_
            exact r_zret (pc := 63) dX12_haveTwo_63 rfl (iv_nar (by omega)) ⟨rfl, (-2), 0, ht30, rfl, (by omega), (by omega)⟩
          · refine r_iconst (pc := 58) (v := iv 1) dX12_haveTwo_58 (by decide) ?_
            refine r_goto (pc := 59) (tgt := 63) dX12_haveTwo_59 (by decide) ?_
            exact r_zret (pc := 63) dX12_haveTwo_63 rfl (iv_nar (by omega)) ⟨rfl, (-2), 1, ht30, rfl, (by omega), (by omega)⟩
    · refine r_iconst (pc := 17) (v := iv (-1)) dX12_haveTwo_17 (by decide) ?_
      refine r_goto (pc := 18) (tgt := 48) dX12_haveTwo_18 (by decide) ?_
      refine t_putX (pc := 48) (ty := .int) ht17 RG_y fX12_142 tyX12 tyX12_ok nmX12 (by decide +kernel) (Or.inl rfl) dX12_haveTwo_48 (Nat.le_of_ble_eq_true rfl) rfl rfl rfl (fun hp31 ht32 => ?_)
      have ht33 := RGw_rf ht32
      refine r_aload_n (pc := 51) dX12_haveTwo_51 (i := 0) rfl rfl ?_
      refine t_getE (pc := 52) (.int (iv (-1))) ht33 (rd_of RG_y) fX12_142 dX12_haveTwo_52 rfl ?_
      refine t_if_ne (pc := 55) (tgt := 62) dX12_haveTwo_55 (by decide) (by omega) (fun c55 => ?_) (fun c55 => ?_)
      · refine r_iconst (pc := 62) (v := iv 0) dX12_haveTwo_62 (by decide) ?_
        exact r_zret (pc := 63) dX12_haveTwo_63 rfl (iv_nar (by omega)) ⟨rfl, (-1), 0, ht33, rfl, (by omega), (by omega)⟩
      · refine r_iconst (pc := 58) (v := iv 1) dX12_haveTwo_58 (by decide) ?_
        refine r_goto (pc := 59) (tgt := 63) dX12_haveTwo_59 (by decide) ?_
        exact r_zret (pc := 63) dX12_haveTwo_63 rfl (iv_nar (by omega)) ⟨rfl, (-1), 1, ht33, rfl, (by omega), (by omega)⟩
def q_X12_keep (Γ : TG) (cI cJ cZ : ClassId) (y n : Nat) (rf cn nm : Int) (so sz dr mn fr tt wt co : Nat → Int) (nu : Nat → Int64) (qi qc nf nt nw nc : Nat → Int) (x1 : Int) : Option Value → MH → Nat → Prop := fun r hp1 n1 => n1 = n ∧ ∃ (v : Int) (c1 : Int) (s1 : Nat → Int) (h : Int), Tw (RG Γ cI cJ cZ y v c1 nm s1 sz dr mn fr tt wt co nu qi qc nf nt nw nc) hp1 ∧ r = some (.int (iv h)) ∧ (-4 ≤ h ∧ h ≤ 119 ∧ 0 ≤ c1 ∧ c1 ≤ 120 ∧ -2147483648 ≤ v ∧ v ≤ 2147483647) ∧ ((cn = 120 ∧ h = -4 ∧ v = -4 ∧ c1 = cn) ∨ (cn < 120 ∧ h = cn ∧ v = rf ∧ c1 = cn + 1)) ∧ (cn = 120 → s1 = so) ∧ (cn < 120 → s1 = fup so (Int.toNat cn) x1)
set_option maxHeartbeats 4000000 in
set_option maxRecDepth 100000 in
theorem s_X12_keep {D : va_G} {cI cJ cZ cT : ClassId} {lo b L : Nat} {xs : Nat → Int32} {hp : MH} {n d : Nat} {Γ : TG} {y : Nat} {rf cn nm : Int} {so sz dr mn fr tt wt co : Nat → Int} {nu : Nat → Int64} {qi qc nf nt nw nc : Nat → Int} {x1 : Int} (hd0 : 1 ≤ d) (hcn : 0 ≤ cn ∧ cn ≤ 120) (hR_sorts : Rfx 121 0 4 so) (hrf : -2147483648 ≤ rf ∧ rf ≤ 2147483647) (ht : Tw (RG Γ cI cJ cZ y rf cn nm so sz dr mn fr tt wt co nu qi qc nf nt nw nc) hp) (hx1 : 1 ≤ x1 ∧ x1 ≤ 4) : Mt (gG D cI cJ cZ cT lo b L xs) mX12_keep d 0 0 [.ref y, .int (iv x1)] hp n (q_X12_keep Γ cI cJ cZ y n rf cn nm so sz dr mn fr tt wt co nu qi qc nf nt nw nc x1) := by
  refine Mt.of rfl (Nat.le_of_ble_eq_true rfl) ?_
  refine Rn.pick (lv' := [(0, .ref y), (1, .int (iv x1))]) [0, 1] rfl ?_
  refine r_aload_n (pc := 0) dX12_keep_0 (i := 0) rfl rfl ?_
  refine t_getE (pc := 1) (.int (iv cn)) ht (rd_of RG_y) fX12_146 dX12_keep_1 rfl ?_
  refine r_bipush (pc := 4) (v := iv 120) dX12_keep_4 (by decide) ?_
  refine t_icmp_ne (pc := 6) (tgt := 16) dX12_keep_6 (by decide) (by omega) (by omega) (fun c6 => ?_) (fun c6 => ?_)
  · refine r_aload_n (pc := 16) dX12_keep_16 (i := 0) rfl rfl ?_
    refine t_getE (pc := 17) (.ref (y + 1)) ht (rd_of RG_y) fX12_7 dX12_keep_17 rfl ?_
    refine r_aload_n (pc := 20) dX12_keep_20 (i := 0) rfl rfl ?_
    refine t_getE (pc := 21) (.int (iv cn)) ht (rd_of RG_y) fX12_146 dX12_keep_21 rfl ?_
    refine r_iload_n (pc := 24) dX12_keep_24 (i := 1) rfl rfl ?_
    refine t_iastX (pc := 25) (t0 := 0) ht RG_sorts dX12_keep_25 rfl (by decide) (by omega) (by omega) (fun hp1 ht2 => ?_)
    have ht3 := RGw_so ht2
    have hqht3 : Rfx 121 0 4 (fup so (Int.toNat cn) x1) := Rfx_up (by assumption) (by omega)
    refine r_aload_n (pc := 26) dX12_keep_26 (i := 0) rfl rfl ?_
    refine r_dup (pc := 27) dX12_keep_27 rfl ?_
    refine t_getE (pc := 28) (.int (iv cn)) ht3 (rd_of RG_y) fX12_146 dX12_keep_28 rfl ?_
    refine r_iconst (pc := 31) (v := iv 1) dX12_keep_31 (by decide) ?_
    refine r_iadd (pc := 32) (v := iv (cn + 1)) dX12_keep_32 (iv_add _ _) ?_
    refine t_putX (pc := 33) (ty := .int) ht3 RG_y fX12_146 tyX12 tyX12_ok nmX12 (by decide +kernel) (Or.inl rfl) dX12_keep_33 (Nat.le_of_ble_eq_true rfl) rfl rfl rfl (fun hp4 ht5 => ?_)
    have ht6 := RGw_cn ht5
    refine r_aload_n (pc := 36) dX12_keep_36 (i := 0) rfl rfl ?_
    refine t_getE (pc := 37) (.int (iv (cn + 1))) ht6 (rd_of RG_y) fX12_146 dX12_keep_37 rfl ?_
    refine r_iconst (pc := 40) (v := iv 1) dX12_keep_40 (by decide) ?_
    refine r_isub (pc := 41) (v := iv ((cn + 1) - 1)) dX12_keep_41 (iv_sub _ _) ?_
    exact r_iret (pc := 42) dX12_keep_42 rfl ⟨rfl, rf, (cn + 1), (fup so (Int.toNat cn) x1), ((cn + 1) - 1), ht6, rfl, (by omega), (by omega), (by (first | (intro h9; exfalso; omega) | (intro _; rfl))), (by (first | (intro h9; exfalso; omega) | (intro _; rfl)))⟩
  · refine r_aload_n (pc := 9) dX12_keep_9 (i := 0) rfl rfl ?_
    refine r_bipush (pc := 10) (v := iv (-4)) dX12_keep_10 (by decide) ?_
    obtain ⟨fs11, hfs11⟩ := t_obj ht (rd_of RG_y)
    refine r_callV (pc := 12) (as := [.int (iv (-4))]) (st := []) kX12_153 rfl dX12_keep_12 hfs11 (s_X12_refuse (d := d - 1) (x1 := (-4)) (by omega) ht (by omega)) rfl (by omega) (Nat.le_of_ble_eq_true rfl) (Nat.zero_le _) (Nat.zero_le _) rfl (fun r8 hp7 n9 hq10 => ?_)
    obtain ⟨hnn9, ht12, hrr8⟩ := hq10
    subst n9 r8
    change Rn _ _ _ 15 _ [.int (iv (-4))] _ _ _ _ _
    exact r_iret (pc := 15) dX12_keep_15 rfl ⟨rfl, (-4), cn, so, (-4), ht12, rfl, (by omega), (by omega), (by (first | (intro h9; exfalso; omega) | (intro _; rfl))), (by (first | (intro h9; exfalso; omega) | (intro _; rfl)))⟩
def q_X12_add (Γ : TG) (cI cJ cZ : ClassId) (y n : Nat) (rf cn nm : Int) (so sz dr mn fr tt wt co : Nat → Int) (nu : Nat → Int64) (qi qc nf nt nw nc : Nat → Int) (x1 x2 x3 x4 x5 : Int) : Option Value → MH → Nat → Prop := fun r hp1 n1 => n1 = n ∧ Tw (RG Γ cI cJ cZ y rf cn nm so sz dr (fup mn (Int.toNat x1) (mn (Int.toNat x1) + 1)) (fup fr (Int.toNat (60 * x1 + mn (Int.toNat x1))) x2) (fup tt (Int.toNat (60 * x1 + mn (Int.toNat x1))) x3) (fup wt (Int.toNat (60 * x1 + mn (Int.toNat x1))) x4) (fup co (Int.toNat (60 * x1 + mn (Int.toNat x1))) x5) nu qi qc nf nt nw nc) hp1 ∧ r = none
set_option maxHeartbeats 4000000 in
set_option maxRecDepth 100000 in
theorem s_X12_add {D : va_G} {cI cJ cZ cT : ClassId} {lo b L : Nat} {xs : Nat → Int32} {hp : MH} {n d : Nat} {Γ : TG} {y : Nat} {rf cn nm : Int} {so sz dr mn fr tt wt co : Nat → Int} {nu : Nat → Int64} {qi qc nf nt nw nc : Nat → Int} {x1 x2 x3 x4 x5 : Int} (hd0 : 1 ≤ d) (hR_many : Rfx 121 0 60 mn) (hR_from : Rfx 7260 0 15 fr) (hR_to : Rfx 7260 0 15 tt) (hR_weight : Rfx 7260 (-1000) 1000 wt) (hR_cost : Rfx 7260 (-1000) 1000 co) (ht : Tw (RG Γ cI cJ cZ y rf cn nm so sz dr mn fr tt wt co nu qi qc nf nt nw nc) hp) (hx1 : 0 ≤ x1 ∧ x1 ≤ 120) (hx2 : 0 ≤ x2 ∧ x2 ≤ 15) (hx3 : 0 ≤ x3 ∧ x3 ≤ 15) (hx4 : (-1000) ≤ x4 ∧ x4 ≤ 1000) (hx5 : (-1000) ≤ x5 ∧ x5 ≤ 1000) (hm9 : mn (Int.toNat x1) ≤ 59) : Mt (gG D cI cJ cZ cT lo b L xs) mX12_add d 0 0 [.ref y, .int (iv x1), .int (iv x2), .int (iv x3), .int (iv x4), .int (iv x5)] hp n (q_X12_add Γ cI cJ cZ y n rf cn nm so sz dr mn fr tt wt co nu qi qc nf nt nw nc x1 x2 x3 x4 x5) := by
  refine Mt.of rfl (Nat.le_of_ble_eq_true rfl) ?_
  refine Rn.pick (lv' := [(0, .ref y), (1, .int (iv x1)), (2, .int (iv x2)), (3, .int (iv x3)), (4, .int (iv x4)), (5, .int (iv x5))]) [0, 1, 2, 3, 4, 5] rfl ?_
  have rmn := hR_many (Int.toNat x1) (by omega)
  refine r_iload_n (pc := 0) dX12_add_0 (i := 1) rfl rfl ?_
  refine r_aload_n (pc := 1) dX12_add_1 (i := 0) rfl rfl ?_
  refine t_getE (pc := 2) (.ref (y + 4)) ht (rd_of RG_y) fX12_20 dX12_add_2 rfl ?_
  refine r_iload_n (pc := 5) dX12_add_5 (i := 1) rfl rfl ?_
  refine t_ialdX (pc := 6) (t0 := 0) ht (rd_of RG_many) dX12_add_6 rfl (by decide) (by omega) (fun b1 => ?_)
  have rb1 := (show Rfx 121 0 60 mn by assumption) (Int.toNat x1) (by omega)
  refine t_callSI (pc := 7) (as := [.int (iv x1), .int (iv (mn (Int.toNat x1)))]) (st := []) kX12_157 dX12_add_7 (t_X12_at1x (d := d - 1) (x1 := x1) (x2 := mn (Int.toNat x1)) (by omega)  ht (by omega) (by omega)) rfl (by omega) (Nat.le_of_ble_eq_true rfl) rfl (fun hp2 y4 ht3 by4 => ?_)
  have ey4 : y4 = 60 * x1 + (mn (Int.toNat x1)) := by4
  subst ey4
  refine r_istore (pc := 10) (lv' := [(6, .int (iv (60 * x1 + (mn (Int.toNat x1))))), (0, .ref y), (1, .int (iv x1)), (2, .int (iv x2)), (3, .int (iv x3)), (4, .int (iv x4)), (5, .int (iv x5))]) dX12_add_10 (by decide) rfl ?_
  refine r_aload_n (pc := 12) dX12_add_12 (i := 0) rfl rfl ?_
  refine t_getE (pc := 13) (.ref (y + 5)) ht3 (rd_of RG_y) fX12_23 dX12_add_13 rfl ?_
  refine r_iload (pc := 16) dX12_add_16 rfl ?_
  refine r_iload_n (pc := 18) dX12_add_18 (i := 2) rfl rfl ?_
  refine t_iastX (pc := 19) (t0 := 0) ht3 RG_from dX12_add_19 rfl (by decide) (by omega) (by omega) (fun hp5 ht6 => ?_)
  have ht7 := RGw_fr ht6
  have hqht7 : Rfx 7260 0 15 (fup fr (Int.toNat (60 * x1 + (mn (Int.toNat x1)))) x2) := Rfx_up (by assumption) (by omega)
  refine r_aload_n (pc := 20) dX12_add_20 (i := 0) rfl rfl ?_
  refine t_getE (pc := 21) (.ref (y + 6)) ht7 (rd_of RG_y) fX12_26 dX12_add_21 rfl ?_
  refine r_iload (pc := 24) dX12_add_24 rfl ?_
  refine r_iload_n (pc := 26) dX12_add_26 (i := 3) rfl rfl ?_
  refine t_iastX (pc := 27) (t0 := 0) ht7 RG_to dX12_add_27 rfl (by decide) (by omega) (by omega) (fun hp8 ht9 => ?_)
  have ht10 := RGw_tt ht9
  have hqht10 : Rfx 7260 0 15 (fup tt (Int.toNat (60 * x1 + (mn (Int.toNat x1)))) x3) := Rfx_up (by assumption) (by omega)
  refine r_aload_n (pc := 28) dX12_add_28 (i := 0) rfl rfl ?_
  refine t_getE (pc := 29) (.ref (y + 7)) ht10 (rd_of RG_y) fX12_29 dX12_add_29 rfl ?_
  refine r_iload (pc := 32) dX12_add_32 rfl ?_
  refine r_iload (pc := 34) dX12_add_34 rfl ?_
  refine t_iastX (pc := 36) (t0 := 0) ht10 RG_weight dX12_add_36 rfl (by decide) (by omega) (by omega) (fun hp11 ht12 => ?_)
  have ht13 := RGw_wt ht12
  have hqht13 : Rfx 7260 (-1000) 1000 (fup wt (Int.toNat (60 * x1 + (mn (Int.toNat x1)))) x4) := Rfx_up (by assumption) (by omega)
  refine r_aload_n (pc := 37) dX12_add_37 (i := 0) rfl rfl ?_
  refine t_getE (pc := 38) (.ref (y + 8)) ht13 (rd_of RG_y) fX12_32 dX12_add_38 rfl ?_
  refine r_iload (pc := 41) dX12_add_41 rfl ?_
  refine r_iload (pc := 43) dX12_add_43 rfl ?_
  refine t_iastX (pc := 45) (t0 := 0) ht13 RG_cost dX12_add_45 rfl (by decide) (by omega) (by omega) (fun hp14 ht15 => ?_)
  have ht16 := RGw_co ht15
  have hqht16 : Rfx 7260 (-1000) 1000 (fup co (Int.toNat (60 * x1 + (mn (Int.toNat x1)))) x5) := Rfx_up (by assumption) (by omega)
  refine r_aload_n (pc := 46) dX12_add_46 (i := 0) rfl rfl ?_
  refine t_getE (pc := 47) (.ref (y + 4)) ht16 (rd_of RG_y) fX12_20 dX12_add_47 rfl ?_
  refine r_iload_n (pc := 50) dX12_add_50 (i := 1) rfl rfl ?_
  refine r_dup2_11 (pc := 51) dX12_add_51 rfl rfl ?_
  refine t_ialdX (pc := 52) (t0 := 0) ht16 (rd_of RG_many) dX12_add_52 rfl (by decide) (by omega) (fun b17 => ?_)
  have rb17 := (show Rfx 121 0 60 mn by assumption) (Int.toNat x1) (by omega)
  refine r_iconst (pc := 53) (v := iv 1) dX12_add_53 (by decide) ?_
  refine r_iadd (pc := 54) (v := iv ((mn (Int.toNat x1)) + 1)) dX12_add_54 (iv_add _ _) ?_
  refine t_iastX (pc := 55) (t0 := 0) ht16 RG_many dX12_add_55 rfl (by decide) (by omega) (by omega) (fun hp18 ht19 => ?_)
  have ht20 := RGw_mn ht19
  have hqht20 : Rfx 121 0 60 (fup mn (Int.toNat x1) ((mn (Int.toNat x1)) + 1)) := Rfx_up (by assumption) (by omega)
  exact r_vret (pc := 56) dX12_add_56 rfl ⟨rfl, ht20, rfl⟩
def q_X12_put (Γ : TG) (cI cJ cZ : ClassId) (y n : Nat) (rf cn nm : Int) (so sz dr mn fr tt wt co : Nat → Int) (nu : Nat → Int64) (qi qc nf nt nw nc : Nat → Int) (x1 x2 x3 x4 : Int) : Option Value → MH → Nat → Prop := fun r hp1 n1 => n1 = n ∧ Tw (RG Γ cI cJ cZ y rf cn (nm + 1) so sz dr mn fr tt wt co nu qi qc (fup nf (Int.toNat nm) x1) (fup nt (Int.toNat nm) x2) (fup nw (Int.toNat nm) x3) (fup nc (Int.toNat nm) x4)) hp1 ∧ r = none
set_option maxHeartbeats 4000000 in
set_option maxRecDepth 100000 in
theorem s_X12_put {D : va_G} {cI cJ cZ cT : ClassId} {lo b L : Nat} {xs : Nat → Int32} {hp : MH} {n d : Nat} {Γ : TG} {y : Nat} {rf cn nm : Int} {so sz dr mn fr tt wt co : Nat → Int} {nu : Nat → Int64} {qi qc nf nt nw nc : Nat → Int} {x1 x2 x3 x4 : Int} (hd0 : 0 ≤ d) (ht : Tw (RG Γ cI cJ cZ y rf cn nm so sz dr mn fr tt wt co nu qi qc nf nt nw nc) hp) (hx1 : (-2147483648) ≤ x1 ∧ x1 ≤ 2147483647) (hx2 : (-2147483648) ≤ x2 ∧ x2 ≤ 2147483647) (hx3 : (-2147483648) ≤ x3 ∧ x3 ≤ 2147483647) (hx4 : (-2147483648) ≤ x4 ∧ x4 ≤ 2147483647) (hn9 : 0 ≤ nm ∧ nm < 300) : Mt (gG D cI cJ cZ cT lo b L xs) mX12_put d 0 0 [.ref y, .int (iv x1), .int (iv x2), .int (iv x3), .int (iv x4)] hp n (q_X12_put Γ cI cJ cZ y n rf cn nm so sz dr mn fr tt wt co nu qi qc nf nt nw nc x1 x2 x3 x4) := by
  refine Mt.of rfl (Nat.le_of_ble_eq_true rfl) ?_
  refine Rn.pick (lv' := [(0, .ref y), (1, .int (iv x1)), (2, .int (iv x2)), (3, .int (iv x3)), (4, .int (iv x4))]) [0, 1, 2, 3, 4] rfl ?_
  refine r_aload_n (pc := 0) dX12_put_0 (i := 0) rfl rfl ?_
  refine t_getE (pc := 1) (.int (iv nm)) ht (rd_of RG_y) fX12_165 dX12_put_1 rfl ?_
  refine r_sipush (pc := 4) (v := iv 300) dX12_put_4 (by decide) ?_
  refine t_icmp_ge (pc := 7) (tgt := 51) dX12_put_7 (by decide) (by omega) (by omega) (fun c7 => ?_) (fun c7 => ?_)
  · exfalso
    omega
  · refine r_aload_n (pc := 10) dX12_put_10 (i := 0) rfl rfl ?_
    refine t_getE (pc := 11) (.ref (y + 17)) ht (rd_of RG_y) fX12_60 dX12_put_11 rfl ?_
    refine r_aload_n (pc := 14) dX12_put_14 (i := 0) rfl rfl ?_
    refine t_getE (pc := 15) (.int (iv nm)) ht (rd_of RG_y) fX12_165 dX12_put_15 rfl ?_
    refine r_iload_n (pc := 18) dX12_put_18 (i := 1) rfl rfl ?_
    refine t_iastX (pc := 19) (t0 := 0) ht RG_nf dX12_put_19 rfl (by decide) (by omega) (by omega) (fun hp1 ht2 => ?_)
    have ht3 := RGw_nf ht2
    refine r_aload_n (pc := 20) dX12_put_20 (i := 0) rfl rfl ?_
    refine t_getE (pc := 21) (.ref (y + 18)) ht3 (rd_of RG_y) fX12_63 dX12_put_21 rfl ?_
    refine r_aload_n (pc := 24) dX12_put_24 (i := 0) rfl rfl ?_
    refine t_getE (pc := 25) (.int (iv nm)) ht3 (rd_of RG_y) fX12_165 dX12_put_25 rfl ?_
    refine r_iload_n (pc := 28) dX12_put_28 (i := 2) rfl rfl ?_
    refine t_iastX (pc := 29) (t0 := 0) ht3 RG_nt dX12_put_29 rfl (by decide) (by omega) (by omega) (fun hp4 ht5 => ?_)
    have ht6 := RGw_nt ht5
    refine r_aload_n (pc := 30) dX12_put_30 (i := 0) rfl rfl ?_
    refine t_getE (pc := 31) (.ref (y + 19)) ht6 (rd_of RG_y) fX12_66 dX12_put_31 rfl ?_
    refine r_aload_n (pc := 34) dX12_put_34 (i := 0) rfl rfl ?_
    refine t_getE (pc := 35) (.int (iv nm)) ht6 (rd_of RG_y) fX12_165 dX12_put_35 rfl ?_
    refine r_iload_n (pc := 38) dX12_put_38 (i := 3) rfl rfl ?_
    refine t_iastX (pc := 39) (t0 := 0) ht6 RG_nw dX12_put_39 rfl (by decide) (by omega) (by omega) (fun hp7 ht8 => ?_)
    have ht9 := RGw_nw ht8
    refine r_aload_n (pc := 40) dX12_put_40 (i := 0) rfl rfl ?_
    refine t_getE (pc := 41) (.ref (y + 20)) ht9 (rd_of RG_y) fX12_69 dX12_put_41 rfl ?_
    refine r_aload_n (pc := 44) dX12_put_44 (i := 0) rfl rfl ?_
    refine t_getE (pc := 45) (.int (iv nm)) ht9 (rd_of RG_y) fX12_165 dX12_put_45 rfl ?_
    refine r_iload (pc := 48) dX12_put_48 rfl ?_
    refine t_iastX (pc := 50) (t0 := 0) ht9 RG_nc dX12_put_50 rfl (by decide) (by omega) (by omega) (fun hp10 ht11 => ?_)
    have ht12 := RGw_nc ht11
    refine r_aload_n (pc := 51) dX12_put_51 (i := 0) rfl rfl ?_
    refine r_dup (pc := 52) dX12_put_52 rfl ?_
    refine t_getE (pc := 53) (.int (iv nm)) ht12 (rd_of RG_y) fX12_165 dX12_put_53 rfl ?_
    refine r_iconst (pc := 56) (v := iv 1) dX12_put_56 (by decide) ?_
    refine r_iadd (pc := 57) (v := iv (nm + 1)) dX12_put_57 (iv_add _ _) ?_
    refine t_putX (pc := 58) (ty := .int) ht12 RG_y fX12_165 tyX12 tyX12_ok nmX12 (by decide +kernel) (Or.inl rfl) dX12_put_58 (Nat.le_of_ble_eq_true rfl) rfl rfl rfl (fun hp13 ht14 => ?_)
    have ht15 := RGw_nm ht14
    exact r_vret (pc := 61) dX12_put_61 rfl ⟨rfl, ht15, rfl⟩
def q_X12_copyArcs (Γ : TG) (cI cJ cZ : ClassId) (y n : Nat) (rf cn nm : Int) (so sz dr mn fr tt wt co : Nat → Int) (nu : Nat → Int64) (qi qc nf nt nw nc : Nat → Int) (x1 x2 : Int) : Option Value → MH → Nat → Prop := fun r hp1 n1 => n1 = n ∧ ∃ (nf1 : Nat → Int) (nt1 : Nat → Int) (nw1 : Nat → Int) (nc1 : Nat → Int) (m1 : Int), Tw (RG Γ cI cJ cZ y rf cn m1 so sz dr mn fr tt wt co nu qi qc nf1 nt1 nw1 nc1) hp1 ∧ r = none ∧ (m1 = nm + mn (Int.toNat x1)) ∧ (nf1 = kcF (fun i : Nat => fr (Int.toNat (60 * x1 + (i : Int))) + x2) nf (Int.toNat nm) (Int.toNat (mn (Int.toNat x1)))) ∧ (nt1 = kcF (fun i : Nat => tt (Int.toNat (60 * x1 + (i : Int))) + x2) nt (Int.toNat nm) (Int.toNat (mn (Int.toNat x1)))) ∧ (nw1 = kcF (fun i : Nat => wt (Int.toNat (60 * x1 + (i : Int)))) nw (Int.toNat nm) (Int.toNat (mn (Int.toNat x1)))) ∧ (nc1 = kcF (fun i : Nat => co (Int.toNat (60 * x1 + (i : Int)))) nc (Int.toNat nm) (Int.toNat (mn (Int.toNat x1))))
set_option maxHeartbeats 4000000 in
set_option maxRecDepth 100000 in
theorem s_X12_copyArcs {D : va_G} {cI cJ cZ cT : ClassId} {lo b L : Nat} {xs : Nat → Int32} {hp : MH} {n d : Nat} {Γ : TG} {y : Nat} {rf cn nm : Int} {so sz dr mn fr tt wt co : Nat → Int} {nu : Nat → Int64} {qi qc nf nt nw nc : Nat → Int} {x1 x2 : Int} (hd0 : 1 ≤ d) (hR_many : Rfx 121 0 60 mn) (hR_from : Rfx 7260 0 15 fr) (hR_to : Rfx 7260 0 15 tt) (hR_weight : Rfx 7260 (-1000) 1000 wt) (hR_cost : Rfx 7260 (-1000) 1000 co) (ht : Tw (RG Γ cI cJ cZ y rf cn nm so sz dr mn fr tt wt co nu qi qc nf nt nw nc) hp) (hx1 : 0 ≤ x1 ∧ x1 ≤ 120) (hx2 : 0 ≤ x2 ∧ x2 ≤ 16) (hn9 : 0 ≤ nm ∧ nm + mn (Int.toNat x1) ≤ 200) : Mt (gG D cI cJ cZ cT lo b L xs) mX12_copyArcs d 0 0 [.ref y, .int (iv x1), .int (iv x2)] hp n (q_X12_copyArcs Γ cI cJ cZ y n rf cn nm so sz dr mn fr tt wt co nu qi qc nf nt nw nc x1 x2) := by
  refine Mt.of rfl (Nat.le_of_ble_eq_true rfl) ?_
  refine Rn.pick (lv' := [(0, .ref y), (1, .int (iv x1)), (2, .int (iv x2))]) [0, 1, 2] rfl ?_
  have rmn := hR_many (Int.toNat x1) (by omega)
  refine r_iconst (pc := 0) (v := iv 0) dX12_copyArcs_0 (by decide) ?_
  refine r_istore_n (pc := 1) (lv' := [(3, .int (iv 0)), (0, .ref y), (1, .int (iv x1)), (2, .int (iv x2))]) dX12_copyArcs_1 (i := 3) rfl (by decide) rfl ?_
  have B2 : ∀ k : Nat, ∀ nm2 : Int, ∀ nf2 : Nat → Int, ∀ nt2 : Nat → Int, ∀ nw2 : Nat → Int, ∀ nc2 : Nat → Int, ∀ hp2 : MH, Tw (RG Γ cI cJ cZ y rf cn nm2 so sz dr mn fr tt wt co nu qi qc nf2 nt2 nw2 nc2) hp2 → ∀  (v2_3 : Int), 0 ≤ v2_3 ∧ v2_3 ≤ 60 ∧ 0 ≤ nm2 ∧ nm2 ≤ 400 ∧ v2_3 ≤ mn (Int.toNat x1) ∧ nm2 = nm + v2_3 ∧ nf2 = kcF (fun i : Nat => fr (Int.toNat (60 * x1 + (i : Int))) + x2) nf (Int.toNat nm) (Int.toNat v2_3) ∧ nt2 = kcF (fun i : Nat => tt (Int.toNat (60 * x1 + (i : Int))) + x2) nt (Int.toNat nm) (Int.toNat v2_3) ∧ nw2 = kcF (fun i : Nat => wt (Int.toNat (60 * x1 + (i : Int)))) nw (Int.toNat nm) (Int.toNat v2_3) ∧ nc2 = kcF (fun i : Nat => co (Int.toNat (60 * x1 + (i : Int)))) nc (Int.toNat nm) (Int.toNat v2_3) → 60 - v2_3 ≤ (k : Int) → Rn (gG D cI cJ cZ cT lo b L xs) mX12_copyArcs d 2 [(0, .ref y), (1, .int (iv x1)), (2, .int (iv x2)), (3, .int (iv v2_3))] [] hp2 n 0 0 (q_X12_copyArcs Γ cI cJ cZ y n rf cn nm so sz dr mn fr tt wt co nu qi qc nf nt nw nc x1 x2) := by
    refine lpS _ ?_
    intro k2 ih2 nm2 nf2 nt2 nw2 nc2 hp2 ht2 v2_3 hf2 hm2
    obtain ⟨hf2_0, hf2_1, hf2_2, hf2_3, hf2_4, hf2_5, ha2_6, ha2_7, ha2_8, ha2_9⟩ := hf2
    refine r_iload_n (pc := 2) dX12_copyArcs_2 (i := 3) rfl rfl ?_
    refine r_aload_n (pc := 3) dX12_copyArcs_3 (i := 0) rfl rfl ?_
    refine t_getE (pc := 4) (.ref (y + 4)) ht2 (rd_of RG_y) fX12_20 dX12_copyArcs_4 rfl ?_
    refine r_iload_n (pc := 7) dX12_copyArcs_7 (i := 1) rfl rfl ?_
    refine t_ialdX (pc := 8) (t0 := 0) ht2 (rd_of RG_many) dX12_copyArcs_8 rfl (by decide) (by omega) (fun b1 => ?_)
    have rb1 := (show Rfx 121 0 60 mn by assumption) (Int.toNat x1) (by omega)
    refine t_icmp_ge (pc := 9) (tgt := 61) dX12_copyArcs_9 (by decide) (by omega) (by omega) (fun c9 => ?_) (fun c9 => ?_)
    · exact r_vret (pc := 61) dX12_copyArcs_61 rfl ⟨rfl, nf2, nt2, nw2, nc2, nm2, ht2, rfl, (by omega), (by have e9 : v2_3 = mn (Int.toNat x1) := (by omega); rw [← e9]; assumption), (by have e9 : v2_3 = mn (Int.toNat x1) := (by omega); rw [← e9]; assumption), (by have e9 : v2_3 = mn (Int.toNat x1) := (by omega); rw [← e9]; assumption), (by have e9 : v2_3 = mn (Int.toNat x1) := (by omega); rw [← e9]; assumption)⟩
    · refine r_iload_n (pc := 12) dX12_copyArcs_12 (i := 1) rfl rfl ?_
      refine r_iload_n (pc := 13) dX12_copyArcs_13 (i := 3) rfl rfl ?_
      refine t_callSI (pc := 14) (as := [.int (iv x1), .int (iv v2_3)]) (st := []) kX12_157 dX12_copyArcs_14 (t_X12_at1x (d := d - 1) (x1 := x1) (x2 := v2_3) (by omega)  ht2 (by omega) (by omega)) rfl (by omega) (Nat.le_of_ble_eq_true rfl) rfl (fun hp2 y4 ht3 by4 => ?_)
      have ey4 : y4 = 60 * x1 + v2_3 := by4
      subst ey4
      refine r_istore (pc := 17) (lv' := [(4, .int (iv (60 * x1 + v2_3))), (0, .ref y), (1, .int (iv x1)), (2, .int (iv x2)), (3, .int (iv v2_3))]) dX12_copyArcs_17 (by decide) rfl ?_
      refine r_aload_n (pc := 19) dX12_copyArcs_19 (i := 0) rfl rfl ?_
      refine r_aload_n (pc := 20) dX12_copyArcs_20 (i := 0) rfl rfl ?_
      refine t_getE (pc := 21) (.ref (y + 5)) ht3 (rd_of RG_y) fX12_23 dX12_copyArcs_21 rfl ?_
      refine r_iload (pc := 24) dX12_copyArcs_24 rfl ?_
      refine t_ialdX (pc := 26) (t0 := 0) ht3 (rd_of RG_from) dX12_copyArcs_26 rfl (by decide) (by omega) (fun b5 => ?_)
      have rb5 := (show Rfx 7260 0 15 fr by assumption) (Int.toNat (60 * x1 + v2_3)) (by omega)
      refine r_iload_n (pc := 27) dX12_copyArcs_27 (i := 2) rfl rfl ?_
      refine r_iadd (pc := 28) (v := iv ((fr (Int.toNat (60 * x1 + v2_3))) + x2)) dX12_copyArcs_28 (iv_add _ _) ?_
      refine r_aload_n (pc := 29) dX12_copyArcs_29 (i := 0) rfl rfl ?_
      refine t_getE (pc := 30) (.ref (y + 6)) ht3 (rd_of RG_y) fX12_26 dX12_copyArcs_30 rfl ?_
      refine r_iload (pc := 33) dX12_copyArcs_33 rfl ?_
      refine t_ialdX (pc := 35) (t0 := 0) ht3 (rd_of RG_to) dX12_copyArcs_35 rfl (by decide) (by omega) (fun b6 => ?_)
      have rb6 := (show Rfx 7260 0 15 tt by assumption) (Int.toNat (60 * x1 + v2_3)) (by omega)
      refine r_iload_n (pc := 36) dX12_copyArcs_36 (i := 2) rfl rfl ?_
      refine r_iadd (pc := 37) (v := iv ((tt (Int.toNat (60 * x1 + v2_3))) + x2)) dX12_copyArcs_37 (iv_add _ _) ?_
      refine r_aload_n (pc := 38) dX12_copyArcs_38 (i := 0) rfl rfl ?_
      refine t_getE (pc := 39) (.ref (y + 7)) ht3 (rd_of RG_y) fX12_29 dX12_copyArcs_39 rfl ?_
      refine r_iload (pc := 42) dX12_copyArcs_42 rfl ?_
      refine t_ialdX (pc := 44) (t0 := 0) ht3 (rd_of RG_weight) dX12_copyArcs_44 rfl (by decide) (by omega) (fun b7 => ?_)
      have rb7 := (show Rfx 7260 (-1000) 1000 wt by assumption) (Int.toNat (60 * x1 + v2_3)) (by omega)
      refine r_aload_n (pc := 45) dX12_copyArcs_45 (i := 0) rfl rfl ?_
      refine t_getE (pc := 46) (.ref (y + 8)) ht3 (rd_of RG_y) fX12_32 dX12_copyArcs_46 rfl ?_
      refine r_iload (pc := 49) dX12_copyArcs_49 rfl ?_
      refine t_ialdX (pc := 51) (t0 := 0) ht3 (rd_of RG_cost) dX12_copyArcs_51 rfl (by decide) (by omega) (fun b8 => ?_)
      have rb8 := (show Rfx 7260 (-1000) 1000 co by assumption) (Int.toNat (60 * x1 + v2_3)) (by omega)
      obtain ⟨fs13, hfs13⟩ := t_obj ht3 (rd_of RG_y)
      refine r_callV (pc := 52) (as := [.int (iv ((fr (Int.toNat (60 * x1 + v2_3))) + x2)), .int (iv ((tt (Int.toNat (60 * x1 + v2_3))) + x2)), .int (iv (wt (Int.toNat (60 * x1 + v2_3)))), .int (iv (co (Int.toNat (60 * x1 + v2_3))))]) (st := []) kX12_171 rfl dX12_copyArcs_52 hfs13 (s_X12_put (d := d - 1) (x1 := (fr (Int.toNat (60 * x1 + v2_3))) + x2) (x2 := (tt (Int.toNat (60 * x1 + v2_3))) + x2) (x3 := wt (Int.toNat (60 * x1 + v2_3))) (x4 := co (Int.toNat (60 * x1 + v2_3))) (by omega) ht3 (by omega) (by omega) (by omega) (by omega) (by omega)) rfl (by omega) (Nat.le_of_ble_eq_true rfl) (Nat.zero_le _) (Nat.zero_le _) rfl (fun r10 hp9 n11 hq12 => ?_)
      obtain ⟨hnn11, ht14, hrr10⟩ := hq12
      subst n11 r10
      change Rn _ _ _ 55 _ [] _ _ _ _ _
      refine r_iinc (pc := 55) (v := iv (v2_3 + 1)) (lv' := [(3, .int (iv (v2_3 + 1))), (4, .int (iv (60 * x1 + v2_3))), (0, .ref y), (1, .int (iv x1)), (2, .int (iv x2))]) dX12_copyArcs_55 rfl (iv_add _ _) (by decide) rfl ?_
      refine r_goto (pc := 58) (tgt := 2) dX12_copyArcs_58 (by decide) ?_
      refine Rn.pick (lv' := [(0, .ref y), (1, .int (iv x1)), (2, .int (iv x2)), (3, .int (iv (v2_3 + 1)))]) [2, 3, 4, 0] rfl ?_
      exact ih2 (Int.toNat (60 - (v2_3 + 1))) (by omega) (nm2 + 1) (fup nf2 (Int.toNat nm2) ((fr (Int.toNat (60 * x1 + v2_3))) + x2)) (fup nt2 (Int.toNat nm2) ((tt (Int.toNat (60 * x1 + v2_3))) + x2)) (fup nw2 (Int.toNat nm2) (wt (Int.toNat (60 * x1 + v2_3)))) (fup nc2 (Int.toNat nm2) (co (Int.toNat (60 * x1 + v2_3)))) _ ht14 (v2_3 + 1) ⟨by omega, by omega, by omega, by omega, by omega, by omega, by (first | exact (kcF_0 _ _ _).symm | exact kcF_up (by assumption) (by omega) (by omega) (by show _ = fr (Int.toNat (60 * x1 + ((Int.toNat v2_3 : Nat) : Int))) + x2; rw [Int.toNat_of_nonneg (by omega)])), by (first | exact (kcF_0 _ _ _).symm | exact kcF_up (by assumption) (by omega) (by omega) (by show _ = tt (Int.toNat (60 * x1 + ((Int.toNat v2_3 : Nat) : Int))) + x2; rw [Int.toNat_of_nonneg (by omega)])), by (first | exact (kcF_0 _ _ _).symm | exact kcF_up (by assumption) (by omega) (by omega) (by show _ = wt (Int.toNat (60 * x1 + ((Int.toNat v2_3 : Nat) : Int))); rw [Int.toNat_of_nonneg (by omega)])), by (first | exact (kcF_0 _ _ _).symm | exact kcF_up (by assumption) (by omega) (by omega) (by show _ = co (Int.toNat (60 * x1 + ((Int.toNat v2_3 : Nat) : Int))); rw [Int.toNat_of_nonneg (by omega)]))⟩ (by omega)
  refine Rn.pick (lv' := [(0, .ref y), (1, .int (iv x1)), (2, .int (iv x2)), (3, .int (iv 0))]) [1, 2, 3, 0] rfl ?_
  exact B2 (Int.toNat (60 - 0)) nm nf nt nw nc _ ht 0 ⟨by omega, by omega, by omega, by omega, by omega, by omega, by (first | exact (kcF_0 _ _ _).symm | exact kcF_up (by assumption) (by omega) (by omega) (by show _ = fr (Int.toNat (60 * x1 + ((Int.toNat v2_3 : Nat) : Int))) + x2; rw [Int.toNat_of_nonneg (by omega)])), by (first | exact (kcF_0 _ _ _).symm | exact kcF_up (by assumption) (by omega) (by omega) (by show _ = tt (Int.toNat (60 * x1 + ((Int.toNat v2_3 : Nat) : Int))) + x2; rw [Int.toNat_of_nonneg (by omega)])), by (first | exact (kcF_0 _ _ _).symm | exact kcF_up (by assumption) (by omega) (by omega) (by show _ = wt (Int.toNat (60 * x1 + ((Int.toNat v2_3 : Nat) : Int))); rw [Int.toNat_of_nonneg (by omega)])), by (first | exact (kcF_0 _ _ _).symm | exact kcF_up (by assumption) (by omega) (by omega) (by show _ = co (Int.toNat (60 * x1 + ((Int.toNat v2_3 : Nat) : Int))); rw [Int.toNat_of_nonneg (by omega)]))⟩ (by omega)
