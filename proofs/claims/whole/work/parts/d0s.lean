def WEL (cI cJ cZ cT : ClassId) (wa : Nat) (vn : Nat) (vs : Nat → Int) (vo : Nat → Int64) (vl : Nat → Int) (vm : Nat → Int64) (vr : Nat → Int) : List (va_E → Prop) := [tO 9 (wyF wa vn), xI cI vn vs, xJ cJ vn vo, xI cI vn vl, xJ cJ vn vm, xI cI (vn * vn) vr]
def WE (Γ : TG) (cI cJ cZ cT : ClassId) (wa : Nat) (vn : Nat) (vs : Nat → Int) (vo : Nat → Int64) (vl : Nat → Int) (vm : Nat → Int64) (vr : Nat → Int) : TG := fun q => if wa ≤ q ∧ q < wa + 6 then (WEL cI cJ cZ cT wa vn vs vo vl vm vr)[q - wa]? else Γ q
theorem WE_e {Γ : TG} {cI cJ cZ cT : ClassId} {wa : Nat} {vn : Nat} {vs : Nat → Int} {vo : Nat → Int64} {vl : Nat → Int} {vm : Nat → Int64} {vr : Nat → Int} (j : Nat) {T : va_E → Prop} (hj : j < 6) (h : (WEL cI cJ cZ cT wa vn vs vo vl vm vr)[j]? = some T) : WE Γ cI cJ cZ cT wa vn vs vo vl vm vr (wa + j) = some T := by
  unfold WE
  rw [if_pos (by omega), Nat.add_sub_cancel_left]
  exact h
theorem WE_o {Γ : TG} {cI cJ cZ cT : ClassId} {wa : Nat} {vn : Nat} {vs : Nat → Int} {vo : Nat → Int64} {vl : Nat → Int} {vm : Nat → Int64} {vr : Nat → Int} {q : Nat} (h : q < wa ∨ wa + 6 ≤ q) : WE Γ cI cJ cZ cT wa vn vs vo vl vm vr q = Γ q := by
  unfold WE
  rw [if_neg (by omega)]
theorem rd_WE {Γ : TG} {cI cJ cZ cT : ClassId} {wa : Nat} {vn : Nat} {vs : Nat → Int} {vo : Nat → Int64} {vl : Nat → Int} {vm : Nat → Int64} {vr : Nat → Int} {q : Nat} {T : va_E → Prop} (h : q < wa ∨ wa + 6 ≤ q) (hr : rd Γ q T) : rd (WE Γ cI cJ cZ cT wa vn vs vo vl vm vr) q T := by
  obtain ⟨T0, h0, h1⟩ := hr
  exact ⟨T0, by rw [WE_o h]; exact h0, h1⟩
theorem eq_WE {Γ : TG} {cI cJ cZ cT : ClassId} {wa : Nat} {vn : Nat} {vs : Nat → Int} {vo : Nat → Int64} {vl : Nat → Int} {vm : Nat → Int64} {vr : Nat → Int} {q : Nat} {T : va_E → Prop} (h : q < wa ∨ wa + 6 ≤ q) (hr : Γ q = some T) : WE Γ cI cJ cZ cT wa vn vs vo vl vm vr q = some T := by
  rw [WE_o h]; exact hr
theorem WE_w {Γ : TG} {cI cJ cZ cT : ClassId} {wa : Nat} {vn : Nat} {vs : Nat → Int} {vo : Nat → Int64} {vl : Nat → Int} {vm : Nat → Int64} {vr : Nat → Int} {vn1 : Nat} {vs1 : Nat → Int} {vo1 : Nat → Int64} {vl1 : Nat → Int} {vm1 : Nat → Int64} {vr1 : Nat → Int} {hp : MH} (j : Nat) {T : va_E → Prop} (hj : j < 6) (h : WEL cI cJ cZ cT wa vn1 vs1 vo1 vl1 vm1 vr1 = (WEL cI cJ cZ cT wa vn vs vo vl vm vr).set j T) (ht : Tw (ov (WE Γ cI cJ cZ cT wa vn vs vo vl vm vr) (wa + j) T) hp) : Tw (WE Γ cI cJ cZ cT wa vn1 vs1 vo1 vl1 vm1 vr1) hp := by
  have e : ov (WE Γ cI cJ cZ cT wa vn vs vo vl vm vr) (wa + j) T = WE Γ cI cJ cZ cT wa vn1 vs1 vo1 vl1 vm1 vr1 := by
    funext q
    by_cases hq : q = wa + j
    · subst hq
      rw [ov_s]
      unfold WE
      rw [if_pos (by omega), Nat.add_sub_cancel_left, h, List.getElem?_set_self (Nat.lt_of_lt_of_eq hj rfl)]
    · rw [ov_o _ _ hq]
      unfold WE
      by_cases hr : wa ≤ q ∧ q < wa + 6
      · rw [if_pos hr, if_pos hr, h, List.getElem?_set_ne (by omega)]
      · rw [if_neg hr, if_neg hr]
  rw [e] at ht
  exact ht
theorem WE_0 {Γ : TG} {cI cJ cZ cT : ClassId} {wa : Nat} {vn : Nat} {vs : Nat → Int} {vo : Nat → Int64} {vl : Nat → Int} {vm : Nat → Int64} {vr : Nat → Int} : WE Γ cI cJ cZ cT wa vn vs vo vl vm vr wa = some (tO 9 (wyF wa vn)) := WE_e 0 (by decide) rfl
theorem WE_1 {Γ : TG} {cI cJ cZ cT : ClassId} {wa : Nat} {vn : Nat} {vs : Nat → Int} {vo : Nat → Int64} {vl : Nat → Int} {vm : Nat → Int64} {vr : Nat → Int} : WE Γ cI cJ cZ cT wa vn vs vo vl vm vr (wa + 1) = some (xI cI vn vs) := WE_e 1 (by decide) rfl
theorem WE_2 {Γ : TG} {cI cJ cZ cT : ClassId} {wa : Nat} {vn : Nat} {vs : Nat → Int} {vo : Nat → Int64} {vl : Nat → Int} {vm : Nat → Int64} {vr : Nat → Int} : WE Γ cI cJ cZ cT wa vn vs vo vl vm vr (wa + 2) = some (xJ cJ vn vo) := WE_e 2 (by decide) rfl
theorem WE_3 {Γ : TG} {cI cJ cZ cT : ClassId} {wa : Nat} {vn : Nat} {vs : Nat → Int} {vo : Nat → Int64} {vl : Nat → Int} {vm : Nat → Int64} {vr : Nat → Int} : WE Γ cI cJ cZ cT wa vn vs vo vl vm vr (wa + 3) = some (xI cI vn vl) := WE_e 3 (by decide) rfl
theorem WE_4 {Γ : TG} {cI cJ cZ cT : ClassId} {wa : Nat} {vn : Nat} {vs : Nat → Int} {vo : Nat → Int64} {vl : Nat → Int} {vm : Nat → Int64} {vr : Nat → Int} : WE Γ cI cJ cZ cT wa vn vs vo vl vm vr (wa + 4) = some (xJ cJ vn vm) := WE_e 4 (by decide) rfl
theorem WE_5 {Γ : TG} {cI cJ cZ cT : ClassId} {wa : Nat} {vn : Nat} {vs : Nat → Int} {vo : Nat → Int64} {vl : Nat → Int} {vm : Nat → Int64} {vr : Nat → Int} : WE Γ cI cJ cZ cT wa vn vs vo vl vm vr (wa + 5) = some (xI cI (vn * vn) vr) := WE_e 5 (by decide) rfl
theorem WEw_vs {Γ : TG} {cI cJ cZ cT : ClassId} {wa : Nat} {vn : Nat} {vs : Nat → Int} {vo : Nat → Int64} {vl : Nat → Int} {vm : Nat → Int64} {vr : Nat → Int} {hp : MH} {f : Nat → Int} (ht : Tw (ov (WE Γ cI cJ cZ cT wa vn vs vo vl vm vr) (wa + 1) (xI cI vn f)) hp) : Tw (WE Γ cI cJ cZ cT wa vn f vo vl vm vr) hp := WE_w 1 (by decide) rfl ht
theorem WEw_vo {Γ : TG} {cI cJ cZ cT : ClassId} {wa : Nat} {vn : Nat} {vs : Nat → Int} {vo : Nat → Int64} {vl : Nat → Int} {vm : Nat → Int64} {vr : Nat → Int} {hp : MH} {f : Nat → Int64} (ht : Tw (ov (WE Γ cI cJ cZ cT wa vn vs vo vl vm vr) (wa + 2) (xJ cJ vn f)) hp) : Tw (WE Γ cI cJ cZ cT wa vn vs f vl vm vr) hp := WE_w 2 (by decide) rfl ht
theorem WEw_vl {Γ : TG} {cI cJ cZ cT : ClassId} {wa : Nat} {vn : Nat} {vs : Nat → Int} {vo : Nat → Int64} {vl : Nat → Int} {vm : Nat → Int64} {vr : Nat → Int} {hp : MH} {f : Nat → Int} (ht : Tw (ov (WE Γ cI cJ cZ cT wa vn vs vo vl vm vr) (wa + 3) (xI cI vn f)) hp) : Tw (WE Γ cI cJ cZ cT wa vn vs vo f vm vr) hp := WE_w 3 (by decide) rfl ht
theorem WEw_vm {Γ : TG} {cI cJ cZ cT : ClassId} {wa : Nat} {vn : Nat} {vs : Nat → Int} {vo : Nat → Int64} {vl : Nat → Int} {vm : Nat → Int64} {vr : Nat → Int} {hp : MH} {f : Nat → Int64} (ht : Tw (ov (WE Γ cI cJ cZ cT wa vn vs vo vl vm vr) (wa + 4) (xJ cJ vn f)) hp) : Tw (WE Γ cI cJ cZ cT wa vn vs vo vl f vr) hp := WE_w 4 (by decide) rfl ht
theorem WEw_vr {Γ : TG} {cI cJ cZ cT : ClassId} {wa : Nat} {vn : Nat} {vs : Nat → Int} {vo : Nat → Int64} {vl : Nat → Int} {vm : Nat → Int64} {vr : Nat → Int} {hp : MH} {f : Nat → Int} (ht : Tw (ov (WE Γ cI cJ cZ cT wa vn vs vo vl vm vr) (wa + 5) (xI cI (vn * vn) f)) hp) : Tw (WE Γ cI cJ cZ cT wa vn vs vo vl vm f) hp := WE_w 5 (by decide) rfl ht
theorem TyG.we {Γ : TG} {cI cJ cZ cT : ClassId} {ga : Nat} {gF : Nat} {gT : Nat} {gW : Nat} {gC : Nat} {gTl : Nat} {gHd : Nat} {gBy : Nat} {gOu : Nat} {gIn : Nat} {gJo : Nat} {gn : Nat} {gm : Nat} {gq : Nat} {gdr : Int} {wa : Nat} {vn : Nat} {vs : Nat → Int} {vo : Nat → Int64} {vl : Nat → Int} {vm : Nat → Int64} {vr : Nat → Int} (hlt : ga < wa ∧ gF < wa ∧ gT < wa ∧ gW < wa ∧ gC < wa ∧ gTl < wa ∧ gHd < wa ∧ gBy < wa ∧ gOu < wa ∧ gIn < wa ∧ gJo < wa) (h : TyG Γ cI cJ cZ ga gF gT gW gC gTl gHd gBy gOu gIn gJo gn gm gq gdr) : TyG (WE Γ cI cJ cZ cT wa vn vs vo vl vm vr) cI cJ cZ ga gF gT gW gC gTl gHd gBy gOu gIn gJo gn gm gq gdr := ⟨rd_WE (by omega) h.1, rd_WE (by omega) h.2.1, rd_WE (by omega) h.2.2.1, rd_WE (by omega) h.2.2.2.1, rd_WE (by omega) h.2.2.2.2.1, rd_WE (by omega) h.2.2.2.2.2.1, rd_WE (by omega) h.2.2.2.2.2.2.1, rd_WE (by omega) h.2.2.2.2.2.2.2.1, rd_WE (by omega) h.2.2.2.2.2.2.2.2.1, rd_WE (by omega) h.2.2.2.2.2.2.2.2.2.1, rd_WE (by omega) h.2.2.2.2.2.2.2.2.2.2.1, h.2.2.2.2.2.2.2.2.2.2.2⟩
theorem XG.we {Γ : TG} {cI cJ cZ cT : ClassId} {wa : Nat} {vn : Nat} {vs : Nat → Int} {vo : Nat → Int64} {vl : Nat → Int} {vm : Nat → Int64} {vr : Nat → Int} {gF gT gW gC gTl gHd gBy gOu gIn gJo gn gm gq : Nat} {F T W C Tl Hd By Ou In Jo : Nat → Int} (hlt : gF < wa ∧ gT < wa ∧ gW < wa ∧ gC < wa ∧ gTl < wa ∧ gHd < wa ∧ gBy < wa ∧ gOu < wa ∧ gIn < wa ∧ gJo < wa) (h : XG Γ cI gF gT gW gC gTl gHd gBy gOu gIn gJo gn gm gq F T W C Tl Hd By Ou In Jo) : XG (WE Γ cI cJ cZ cT wa vn vs vo vl vm vr) cI gF gT gW gC gTl gHd gBy gOu gIn gJo gn gm gq F T W C Tl Hd By Ou In Jo := by
  obtain ⟨⟨h0, h1, h2, h3, h4, h5, h6, h7, h8, h9⟩, hr⟩ := h
  exact ⟨⟨rd_WE (by omega) h0, rd_WE (by omega) h1, rd_WE (by omega) h2, rd_WE (by omega) h3, rd_WE (by omega) h4, rd_WE (by omega) h5, rd_WE (by omega) h6, rd_WE (by omega) h7, rd_WE (by omega) h8, rd_WE (by omega) h9⟩, hr⟩
def WLL (cI cJ cZ cT : ClassId) (wa : Nat) (vn : Nat) (vs : Nat → Int) (vo : Nat → Int64) (vl : Nat → Int) (vm : Nat → Int64) (vr : Nat → Int) (lv : Nat → Int) (su : Nat → Int64) : List (va_E → Prop) := [tO 9 (wyF wa vn), xI cI vn vs, xJ cJ vn vo, xI cI vn vl, xJ cJ vn vm, xI cI (vn * vn) vr, xI cI vn lv, xJ cJ vn su]
def WL (Γ : TG) (cI cJ cZ cT : ClassId) (wa : Nat) (vn : Nat) (vs : Nat → Int) (vo : Nat → Int64) (vl : Nat → Int) (vm : Nat → Int64) (vr : Nat → Int) (lv : Nat → Int) (su : Nat → Int64) : TG := fun q => if wa ≤ q ∧ q < wa + 8 then (WLL cI cJ cZ cT wa vn vs vo vl vm vr lv su)[q - wa]? else Γ q
theorem WL_e {Γ : TG} {cI cJ cZ cT : ClassId} {wa : Nat} {vn : Nat} {vs : Nat → Int} {vo : Nat → Int64} {vl : Nat → Int} {vm : Nat → Int64} {vr : Nat → Int} {lv : Nat → Int} {su : Nat → Int64} (j : Nat) {T : va_E → Prop} (hj : j < 8) (h : (WLL cI cJ cZ cT wa vn vs vo vl vm vr lv su)[j]? = some T) : WL Γ cI cJ cZ cT wa vn vs vo vl vm vr lv su (wa + j) = some T := by
  unfold WL
  rw [if_pos (by omega), Nat.add_sub_cancel_left]
  exact h
theorem WL_o {Γ : TG} {cI cJ cZ cT : ClassId} {wa : Nat} {vn : Nat} {vs : Nat → Int} {vo : Nat → Int64} {vl : Nat → Int} {vm : Nat → Int64} {vr : Nat → Int} {lv : Nat → Int} {su : Nat → Int64} {q : Nat} (h : q < wa ∨ wa + 8 ≤ q) : WL Γ cI cJ cZ cT wa vn vs vo vl vm vr lv su q = Γ q := by
  unfold WL
  rw [if_neg (by omega)]
theorem rd_WL {Γ : TG} {cI cJ cZ cT : ClassId} {wa : Nat} {vn : Nat} {vs : Nat → Int} {vo : Nat → Int64} {vl : Nat → Int} {vm : Nat → Int64} {vr : Nat → Int} {lv : Nat → Int} {su : Nat → Int64} {q : Nat} {T : va_E → Prop} (h : q < wa ∨ wa + 8 ≤ q) (hr : rd Γ q T) : rd (WL Γ cI cJ cZ cT wa vn vs vo vl vm vr lv su) q T := by
  obtain ⟨T0, h0, h1⟩ := hr
  exact ⟨T0, by rw [WL_o h]; exact h0, h1⟩
theorem eq_WL {Γ : TG} {cI cJ cZ cT : ClassId} {wa : Nat} {vn : Nat} {vs : Nat → Int} {vo : Nat → Int64} {vl : Nat → Int} {vm : Nat → Int64} {vr : Nat → Int} {lv : Nat → Int} {su : Nat → Int64} {q : Nat} {T : va_E → Prop} (h : q < wa ∨ wa + 8 ≤ q) (hr : Γ q = some T) : WL Γ cI cJ cZ cT wa vn vs vo vl vm vr lv su q = some T := by
  rw [WL_o h]; exact hr
theorem WL_w {Γ : TG} {cI cJ cZ cT : ClassId} {wa : Nat} {vn : Nat} {vs : Nat → Int} {vo : Nat → Int64} {vl : Nat → Int} {vm : Nat → Int64} {vr : Nat → Int} {lv : Nat → Int} {su : Nat → Int64} {vn1 : Nat} {vs1 : Nat → Int} {vo1 : Nat → Int64} {vl1 : Nat → Int} {vm1 : Nat → Int64} {vr1 : Nat → Int} {lv1 : Nat → Int} {su1 : Nat → Int64} {hp : MH} (j : Nat) {T : va_E → Prop} (hj : j < 8) (h : WLL cI cJ cZ cT wa vn1 vs1 vo1 vl1 vm1 vr1 lv1 su1 = (WLL cI cJ cZ cT wa vn vs vo vl vm vr lv su).set j T) (ht : Tw (ov (WL Γ cI cJ cZ cT wa vn vs vo vl vm vr lv su) (wa + j) T) hp) : Tw (WL Γ cI cJ cZ cT wa vn1 vs1 vo1 vl1 vm1 vr1 lv1 su1) hp := by
  have e : ov (WL Γ cI cJ cZ cT wa vn vs vo vl vm vr lv su) (wa + j) T = WL Γ cI cJ cZ cT wa vn1 vs1 vo1 vl1 vm1 vr1 lv1 su1 := by
    funext q
    by_cases hq : q = wa + j
    · subst hq
      rw [ov_s]
      unfold WL
      rw [if_pos (by omega), Nat.add_sub_cancel_left, h, List.getElem?_set_self (Nat.lt_of_lt_of_eq hj rfl)]
    · rw [ov_o _ _ hq]
      unfold WL
      by_cases hr : wa ≤ q ∧ q < wa + 8
      · rw [if_pos hr, if_pos hr, h, List.getElem?_set_ne (by omega)]
      · rw [if_neg hr, if_neg hr]
  rw [e] at ht
  exact ht
theorem WL_0 {Γ : TG} {cI cJ cZ cT : ClassId} {wa : Nat} {vn : Nat} {vs : Nat → Int} {vo : Nat → Int64} {vl : Nat → Int} {vm : Nat → Int64} {vr : Nat → Int} {lv : Nat → Int} {su : Nat → Int64} : WL Γ cI cJ cZ cT wa vn vs vo vl vm vr lv su wa = some (tO 9 (wyF wa vn)) := WL_e 0 (by decide) rfl
theorem WL_1 {Γ : TG} {cI cJ cZ cT : ClassId} {wa : Nat} {vn : Nat} {vs : Nat → Int} {vo : Nat → Int64} {vl : Nat → Int} {vm : Nat → Int64} {vr : Nat → Int} {lv : Nat → Int} {su : Nat → Int64} : WL Γ cI cJ cZ cT wa vn vs vo vl vm vr lv su (wa + 1) = some (xI cI vn vs) := WL_e 1 (by decide) rfl
theorem WL_2 {Γ : TG} {cI cJ cZ cT : ClassId} {wa : Nat} {vn : Nat} {vs : Nat → Int} {vo : Nat → Int64} {vl : Nat → Int} {vm : Nat → Int64} {vr : Nat → Int} {lv : Nat → Int} {su : Nat → Int64} : WL Γ cI cJ cZ cT wa vn vs vo vl vm vr lv su (wa + 2) = some (xJ cJ vn vo) := WL_e 2 (by decide) rfl
theorem WL_3 {Γ : TG} {cI cJ cZ cT : ClassId} {wa : Nat} {vn : Nat} {vs : Nat → Int} {vo : Nat → Int64} {vl : Nat → Int} {vm : Nat → Int64} {vr : Nat → Int} {lv : Nat → Int} {su : Nat → Int64} : WL Γ cI cJ cZ cT wa vn vs vo vl vm vr lv su (wa + 3) = some (xI cI vn vl) := WL_e 3 (by decide) rfl
theorem WL_4 {Γ : TG} {cI cJ cZ cT : ClassId} {wa : Nat} {vn : Nat} {vs : Nat → Int} {vo : Nat → Int64} {vl : Nat → Int} {vm : Nat → Int64} {vr : Nat → Int} {lv : Nat → Int} {su : Nat → Int64} : WL Γ cI cJ cZ cT wa vn vs vo vl vm vr lv su (wa + 4) = some (xJ cJ vn vm) := WL_e 4 (by decide) rfl
theorem WL_5 {Γ : TG} {cI cJ cZ cT : ClassId} {wa : Nat} {vn : Nat} {vs : Nat → Int} {vo : Nat → Int64} {vl : Nat → Int} {vm : Nat → Int64} {vr : Nat → Int} {lv : Nat → Int} {su : Nat → Int64} : WL Γ cI cJ cZ cT wa vn vs vo vl vm vr lv su (wa + 5) = some (xI cI (vn * vn) vr) := WL_e 5 (by decide) rfl
theorem WL_6 {Γ : TG} {cI cJ cZ cT : ClassId} {wa : Nat} {vn : Nat} {vs : Nat → Int} {vo : Nat → Int64} {vl : Nat → Int} {vm : Nat → Int64} {vr : Nat → Int} {lv : Nat → Int} {su : Nat → Int64} : WL Γ cI cJ cZ cT wa vn vs vo vl vm vr lv su (wa + 6) = some (xI cI vn lv) := WL_e 6 (by decide) rfl
theorem WL_7 {Γ : TG} {cI cJ cZ cT : ClassId} {wa : Nat} {vn : Nat} {vs : Nat → Int} {vo : Nat → Int64} {vl : Nat → Int} {vm : Nat → Int64} {vr : Nat → Int} {lv : Nat → Int} {su : Nat → Int64} : WL Γ cI cJ cZ cT wa vn vs vo vl vm vr lv su (wa + 7) = some (xJ cJ vn su) := WL_e 7 (by decide) rfl
theorem WLw_vs {Γ : TG} {cI cJ cZ cT : ClassId} {wa : Nat} {vn : Nat} {vs : Nat → Int} {vo : Nat → Int64} {vl : Nat → Int} {vm : Nat → Int64} {vr : Nat → Int} {lv : Nat → Int} {su : Nat → Int64} {hp : MH} {f : Nat → Int} (ht : Tw (ov (WL Γ cI cJ cZ cT wa vn vs vo vl vm vr lv su) (wa + 1) (xI cI vn f)) hp) : Tw (WL Γ cI cJ cZ cT wa vn f vo vl vm vr lv su) hp := WL_w 1 (by decide) rfl ht
theorem WLw_vo {Γ : TG} {cI cJ cZ cT : ClassId} {wa : Nat} {vn : Nat} {vs : Nat → Int} {vo : Nat → Int64} {vl : Nat → Int} {vm : Nat → Int64} {vr : Nat → Int} {lv : Nat → Int} {su : Nat → Int64} {hp : MH} {f : Nat → Int64} (ht : Tw (ov (WL Γ cI cJ cZ cT wa vn vs vo vl vm vr lv su) (wa + 2) (xJ cJ vn f)) hp) : Tw (WL Γ cI cJ cZ cT wa vn vs f vl vm vr lv su) hp := WL_w 2 (by decide) rfl ht
theorem WLw_vl {Γ : TG} {cI cJ cZ cT : ClassId} {wa : Nat} {vn : Nat} {vs : Nat → Int} {vo : Nat → Int64} {vl : Nat → Int} {vm : Nat → Int64} {vr : Nat → Int} {lv : Nat → Int} {su : Nat → Int64} {hp : MH} {f : Nat → Int} (ht : Tw (ov (WL Γ cI cJ cZ cT wa vn vs vo vl vm vr lv su) (wa + 3) (xI cI vn f)) hp) : Tw (WL Γ cI cJ cZ cT wa vn vs vo f vm vr lv su) hp := WL_w 3 (by decide) rfl ht
theorem WLw_vm {Γ : TG} {cI cJ cZ cT : ClassId} {wa : Nat} {vn : Nat} {vs : Nat → Int} {vo : Nat → Int64} {vl : Nat → Int} {vm : Nat → Int64} {vr : Nat → Int} {lv : Nat → Int} {su : Nat → Int64} {hp : MH} {f : Nat → Int64} (ht : Tw (ov (WL Γ cI cJ cZ cT wa vn vs vo vl vm vr lv su) (wa + 4) (xJ cJ vn f)) hp) : Tw (WL Γ cI cJ cZ cT wa vn vs vo vl f vr lv su) hp := WL_w 4 (by decide) rfl ht
theorem WLw_vr {Γ : TG} {cI cJ cZ cT : ClassId} {wa : Nat} {vn : Nat} {vs : Nat → Int} {vo : Nat → Int64} {vl : Nat → Int} {vm : Nat → Int64} {vr : Nat → Int} {lv : Nat → Int} {su : Nat → Int64} {hp : MH} {f : Nat → Int} (ht : Tw (ov (WL Γ cI cJ cZ cT wa vn vs vo vl vm vr lv su) (wa + 5) (xI cI (vn * vn) f)) hp) : Tw (WL Γ cI cJ cZ cT wa vn vs vo vl vm f lv su) hp := WL_w 5 (by decide) rfl ht
theorem WLw_lv {Γ : TG} {cI cJ cZ cT : ClassId} {wa : Nat} {vn : Nat} {vs : Nat → Int} {vo : Nat → Int64} {vl : Nat → Int} {vm : Nat → Int64} {vr : Nat → Int} {lv : Nat → Int} {su : Nat → Int64} {hp : MH} {f : Nat → Int} (ht : Tw (ov (WL Γ cI cJ cZ cT wa vn vs vo vl vm vr lv su) (wa + 6) (xI cI vn f)) hp) : Tw (WL Γ cI cJ cZ cT wa vn vs vo vl vm vr f su) hp := WL_w 6 (by decide) rfl ht
theorem WLw_su {Γ : TG} {cI cJ cZ cT : ClassId} {wa : Nat} {vn : Nat} {vs : Nat → Int} {vo : Nat → Int64} {vl : Nat → Int} {vm : Nat → Int64} {vr : Nat → Int} {lv : Nat → Int} {su : Nat → Int64} {hp : MH} {f : Nat → Int64} (ht : Tw (ov (WL Γ cI cJ cZ cT wa vn vs vo vl vm vr lv su) (wa + 7) (xJ cJ vn f)) hp) : Tw (WL Γ cI cJ cZ cT wa vn vs vo vl vm vr lv f) hp := WL_w 7 (by decide) rfl ht
theorem TyG.wl {Γ : TG} {cI cJ cZ cT : ClassId} {ga : Nat} {gF : Nat} {gT : Nat} {gW : Nat} {gC : Nat} {gTl : Nat} {gHd : Nat} {gBy : Nat} {gOu : Nat} {gIn : Nat} {gJo : Nat} {gn : Nat} {gm : Nat} {gq : Nat} {gdr : Int} {wa : Nat} {vn : Nat} {vs : Nat → Int} {vo : Nat → Int64} {vl : Nat → Int} {vm : Nat → Int64} {vr : Nat → Int} {lv : Nat → Int} {su : Nat → Int64} (hlt : ga < wa ∧ gF < wa ∧ gT < wa ∧ gW < wa ∧ gC < wa ∧ gTl < wa ∧ gHd < wa ∧ gBy < wa ∧ gOu < wa ∧ gIn < wa ∧ gJo < wa) (h : TyG Γ cI cJ cZ ga gF gT gW gC gTl gHd gBy gOu gIn gJo gn gm gq gdr) : TyG (WL Γ cI cJ cZ cT wa vn vs vo vl vm vr lv su) cI cJ cZ ga gF gT gW gC gTl gHd gBy gOu gIn gJo gn gm gq gdr := ⟨rd_WL (by omega) h.1, rd_WL (by omega) h.2.1, rd_WL (by omega) h.2.2.1, rd_WL (by omega) h.2.2.2.1, rd_WL (by omega) h.2.2.2.2.1, rd_WL (by omega) h.2.2.2.2.2.1, rd_WL (by omega) h.2.2.2.2.2.2.1, rd_WL (by omega) h.2.2.2.2.2.2.2.1, rd_WL (by omega) h.2.2.2.2.2.2.2.2.1, rd_WL (by omega) h.2.2.2.2.2.2.2.2.2.1, rd_WL (by omega) h.2.2.2.2.2.2.2.2.2.2.1, h.2.2.2.2.2.2.2.2.2.2.2⟩
theorem XG.wl {Γ : TG} {cI cJ cZ cT : ClassId} {wa : Nat} {vn : Nat} {vs : Nat → Int} {vo : Nat → Int64} {vl : Nat → Int} {vm : Nat → Int64} {vr : Nat → Int} {lv : Nat → Int} {su : Nat → Int64} {gF gT gW gC gTl gHd gBy gOu gIn gJo gn gm gq : Nat} {F T W C Tl Hd By Ou In Jo : Nat → Int} (hlt : gF < wa ∧ gT < wa ∧ gW < wa ∧ gC < wa ∧ gTl < wa ∧ gHd < wa ∧ gBy < wa ∧ gOu < wa ∧ gIn < wa ∧ gJo < wa) (h : XG Γ cI gF gT gW gC gTl gHd gBy gOu gIn gJo gn gm gq F T W C Tl Hd By Ou In Jo) : XG (WL Γ cI cJ cZ cT wa vn vs vo vl vm vr lv su) cI gF gT gW gC gTl gHd gBy gOu gIn gJo gn gm gq F T W C Tl Hd By Ou In Jo := by
  obtain ⟨⟨h0, h1, h2, h3, h4, h5, h6, h7, h8, h9⟩, hr⟩ := h
  exact ⟨⟨rd_WL (by omega) h0, rd_WL (by omega) h1, rd_WL (by omega) h2, rd_WL (by omega) h3, rd_WL (by omega) h4, rd_WL (by omega) h5, rd_WL (by omega) h6, rd_WL (by omega) h7, rd_WL (by omega) h8, rd_WL (by omega) h9⟩, hr⟩
theorem WE_tw {Γ : TG} {cI cJ cZ cT : ClassId} {wa : Nat} {vn : Nat} {vs : Nat → Int} {vo : Nat → Int64} {vl : Nat → Int} {vm : Nat → Int64} {vr : Nat → Int} {hp hp2 : MH} (ht : Tw Γ hp) (hfr : ∀ (q : Nat) (e : va_E), q < wa ∨ wa + 6 ≤ q → hp q = some e → hp2 q = some e) (hL : ∀ (j : Nat) (T : va_E → Prop), (WEL cI cJ cZ cT wa vn vs vo vl vm vr)[j]? = some T → ∃ e, hp2 (wa + j) = some e ∧ T e) : Tw (WE Γ cI cJ cZ cT wa vn vs vo vl vm vr) hp2 := by
  intro q T h
  unfold WE at h
  by_cases hr : wa ≤ q ∧ q < wa + 6
  · rw [if_pos hr] at h
    obtain ⟨e, h1, h2⟩ := hL (q - wa) T h
    rw [show wa + (q - wa) = q by omega] at h1
    exact ⟨e, h1, h2⟩
  · rw [if_neg hr] at h
    obtain ⟨e, h1, h2⟩ := ht q T h
    exact ⟨e, hfr q e (by omega) h1, h2⟩
theorem WE_ext {Γ : TG} {cI cJ cZ cT : ClassId} {wa : Nat} {vn : Nat} {vs : Nat → Int} {vo : Nat → Int64} {vl : Nat → Int} {vm : Nat → Int64} {vr : Nat → Int} {Γ1 : TG} (hlo : ∀ (q : Nat) (T : va_E → Prop), Γ q = some T → q < wa) (hE : Ext Γ Γ1) : Ext Γ (WE Γ1 cI cJ cZ cT wa vn vs vo vl vm vr) := fun q T h => by
  have h9 := hlo q T h
  rw [WE_o (by omega)]; exact hE q T h
theorem WL_of {Γ Γ1 : TG} {cI cJ cZ cT : ClassId} {wa vn : Nat} {vs vl vr lv : Nat → Int} {vo vm su : Nat → Int64} {hp : MH} (hE : Ext (WE Γ cI cJ cZ cT wa vn vs vo vl vm vr) Γ1) (ht : Tw (ov (ov Γ1 (wa + 6) (xI cI vn lv)) (wa + 7) (xJ cJ vn su)) hp) : Tw (WL Γ cI cJ cZ cT wa vn vs vo vl vm vr lv su) hp := by
  intro q T h
  by_cases hr : wa ≤ q ∧ q < wa + 8
  · obtain ⟨j, hj, rfl⟩ : ∃ j, j < 8 ∧ q = wa + j := ⟨q - wa, by omega, by omega⟩
    match j, hj with
    | 0, _ => rw [WL_e 0 (by decide) rfl] at h; cases h; exact ht _ _ (by rw [ov_o _ _ (by omega), ov_o _ _ (by omega)]; exact hE _ _ (WE_e 0 (by decide) rfl))
    | 1, _ => rw [WL_e 1 (by decide) rfl] at h; cases h; exact ht _ _ (by rw [ov_o _ _ (by omega), ov_o _ _ (by omega)]; exact hE _ _ (WE_e 1 (by decide) rfl))
    | 2, _ => rw [WL_e 2 (by decide) rfl] at h; cases h; exact ht _ _ (by rw [ov_o _ _ (by omega), ov_o _ _ (by omega)]; exact hE _ _ (WE_e 2 (by decide) rfl))
    | 3, _ => rw [WL_e 3 (by decide) rfl] at h; cases h; exact ht _ _ (by rw [ov_o _ _ (by omega), ov_o _ _ (by omega)]; exact hE _ _ (WE_e 3 (by decide) rfl))
    | 4, _ => rw [WL_e 4 (by decide) rfl] at h; cases h; exact ht _ _ (by rw [ov_o _ _ (by omega), ov_o _ _ (by omega)]; exact hE _ _ (WE_e 4 (by decide) rfl))
    | 5, _ => rw [WL_e 5 (by decide) rfl] at h; cases h; exact ht _ _ (by rw [ov_o _ _ (by omega), ov_o _ _ (by omega)]; exact hE _ _ (WE_e 5 (by decide) rfl))
    | 6, _ => rw [WL_e 6 (by decide) rfl] at h; cases h; exact ht _ _ (by rw [ov_o _ _ (by omega)]; exact ov_s _ _ _)
    | 7, _ => rw [WL_e 7 (by decide) rfl] at h; cases h; exact ht _ _ (ov_s _ _ _)
    | j + 8, hj => omega
  · rw [WL_o (by omega)] at h
    exact ht _ _ (by rw [ov_o _ _ (by omega), ov_o _ _ (by omega)]; exact hE _ _ (by rw [WE_o (by omega)]; exact h))
theorem WL_dn {Γ : TG} {cI cJ cZ cT : ClassId} {wa vn : Nat} {vs vl vr lv : Nat → Int} {vo vm su : Nat → Int64} {hp : MH} (hlo : ∀ (q : Nat) (T : va_E → Prop), Γ q = some T → q < wa) (ht : Tw (WL Γ cI cJ cZ cT wa vn vs vo vl vm vr lv su) hp) : Tw (WE Γ cI cJ cZ cT wa vn vs vo vl vm vr) hp := by
  intro q T h
  by_cases hr : wa ≤ q ∧ q < wa + 6
  · obtain ⟨j, hj, rfl⟩ : ∃ j, j < 6 ∧ q = wa + j := ⟨q - wa, by omega, by omega⟩
    match j, hj with
    | 0, _ => rw [WE_e 0 (by decide) rfl] at h; cases h; exact ht _ _ (WL_e 0 (by decide) rfl)
    | 1, _ => rw [WE_e 1 (by decide) rfl] at h; cases h; exact ht _ _ (WL_e 1 (by decide) rfl)
    | 2, _ => rw [WE_e 2 (by decide) rfl] at h; cases h; exact ht _ _ (WL_e 2 (by decide) rfl)
    | 3, _ => rw [WE_e 3 (by decide) rfl] at h; cases h; exact ht _ _ (WL_e 3 (by decide) rfl)
    | 4, _ => rw [WE_e 4 (by decide) rfl] at h; cases h; exact ht _ _ (WL_e 4 (by decide) rfl)
    | 5, _ => rw [WE_e 5 (by decide) rfl] at h; cases h; exact ht _ _ (WL_e 5 (by decide) rfl)
    | j + 6, hj => omega
  · rw [WE_o (by omega)] at h
    have h9 := hlo q T h
    exact ht _ _ (by rw [WL_o (by omega)]; exact h)
