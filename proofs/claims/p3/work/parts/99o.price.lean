def rmV (Wt Dr Gn : Nat → Int) (g k f : Int) : Int := if f ≠ 0 then (if Gn k.toNat < 0 then - Gn k.toNat else (if 0 < Wt (60 * g + k).toNat then Wt (60 * g + k).toNat else 0) - Gn k.toNat) else (if 0 < Gn k.toNat then Gn k.toNat else if Dr g.toNat ≠ 0 then 0 else (if 0 < Wt (60 * g + k).toNat then Wt (60 * g + k).toNat else 0) + Gn k.toNat)
def csV (Co Gn : Nat → Int) (g k f : Int) : Int := if f ≠ 0 then (if Gn k.toNat < 0 then - (if 0 < Co (60 * g + k).toNat then Co (60 * g + k).toNat else 0) else (if 0 < Co (60 * g + k).toNat then Co (60 * g + k).toNat else 0)) else (if 0 < Gn k.toNat then - (if 0 < Co (60 * g + k).toNat then Co (60 * g + k).toNat else 0) else (if 0 < Co (60 * g + k).toNat then Co (60 * g + k).toNat else 0))
theorem rm_b {Wt Dr Gn : Nat → Int} {g k f : Int} (h : Rfx 7260 (-1000) 1000 Wt) (hG : Rfx 60 (-1000) 1000 Gn) (hg : 0 ≤ g ∧ g ≤ 120) (hk : 0 ≤ k ∧ k ≤ 59) : -2000 ≤ rmV Wt Dr Gn g k f ∧ rmV Wt Dr Gn g k f ≤ 2000 := by
  have h1 := h (60 * g + k).toNat (by omega)
  have h2 := hG k.toNat (by omega)
  unfold rmV
  (repeat' split) <;> omega
theorem l_neg {x : Int64} (h : -9223372036854775807 ≤ x.toInt) : (-x).toInt = - x.toInt := by
  have h1 := i64_hi x
  rw [Int64.toInt_neg]
  exact Int.bmod_eq_of_le (by omega) (by omega)
def arF (A : Nat → Int) (g : Int) : Nat → Int := fun k => A (60 * g + (k : Int)).toNat
def jxR (k f : Int) : Nat := if f ≠ 0 then 2 * k.toNat else 2 * k.toNat + 1
theorem arF_i {A : Nat → Int} {g k : Int} (h : 0 ≤ k) : arF A g k.toNat = A (60 * g + k).toNat := by
  unfold arF
  rw [show ((k.toNat : Nat) : Int) = k by omega]
theorem jx_d {k f : Int} : jxR k f / 2 = k.toNat ∧ (f ≠ 0 → jxR k f % 2 = 0) ∧ (¬ f ≠ 0 → jxR k f % 2 = 1) := by
  unfold jxR
  split <;> omega
theorem rm_V {Wt Dr Gn : Nat → Int} {g k f : Int} (h : 0 ≤ k) : rmV Wt Dr Gn g k f = rmR (arF Wt g) (Dr g.toNat) Gn (jxR k f) := by
  obtain ⟨e1, e2, e3⟩ := jx_d (k := k) (f := f)
  unfold rmV rmR cpR
  rw [e1, arF_i h]
  by_cases hf : f ≠ 0
  · rw [if_pos hf, if_pos (e2 hf)]
  · rw [if_neg hf, if_neg (show ¬ jxR k f % 2 = 0 by have := e3 hf; omega)]
theorem cs_V {Co Gn : Nat → Int} {g k f : Int} (h : 0 ≤ k) : csV Co Gn g k f = csR (arF Co g) Gn (jxR k f) := by
  obtain ⟨e1, e2, e3⟩ := jx_d (k := k) (f := f)
  unfold csV csR cpR
  rw [e1, arF_i h]
  by_cases hf : f ≠ 0
  · rw [if_pos hf, if_pos (e2 hf)]
  · rw [if_neg hf, if_neg (show ¬ jxR k f % 2 = 0 by have := e3 hf; omega)]
theorem cs_b {Co Gn : Nat → Int} {g k f : Int} (h : Rfx 7260 (-1000) 1000 Co) (hg : 0 ≤ g ∧ g ≤ 120) (hk : 0 ≤ k ∧ k ≤ 59) : -1000 ≤ csV Co Gn g k f ∧ csV Co Gn g k f ≤ 1000 := by
  have h1 := h (60 * g + k).toNat (by omega)
  unfold csV
  (repeat' split) <;> omega
theorem tl_V {Fr To : Nat → Int} {g k f : Int} (h : 0 ≤ k) : tlR (arF Fr g) (arF To g) (jxR k f) = if f ≠ 0 then Fr (60 * g + k).toNat else To (60 * g + k).toNat := by
  obtain ⟨e1, e2, e3⟩ := jx_d (k := k) (f := f)
  unfold tlR
  rw [e1, arF_i h, arF_i h]
  by_cases hf : f ≠ 0
  · rw [if_pos hf, if_pos (e2 hf)]
  · rw [if_neg hf, if_neg (show ¬ jxR k f % 2 = 0 by have := e3 hf; omega)]
theorem hd_V {Fr To : Nat → Int} {g k f : Int} (h : 0 ≤ k) : hdR (arF Fr g) (arF To g) (jxR k f) = if f ≠ 0 then To (60 * g + k).toNat else Fr (60 * g + k).toNat := by
  obtain ⟨e1, e2, e3⟩ := jx_d (k := k) (f := f)
  unfold hdR
  rw [e1, arF_i h, arF_i h]
  by_cases hf : f ≠ 0
  · rw [if_pos hf, if_pos (e2 hf)]
  · rw [if_neg hf, if_neg (show ¬ jxR k f % 2 = 0 by have := e3 hf; omega)]
abbrev prN (Γ : TG) (cI cJ cZ : ClassId) (y : Nat) (De : Nat → Int64) (By Ah : Nat → Int) : TG := ov (ov (ov Γ (y + 39) (xJ cJ 16 De)) (y + 40) (xI cI 16 By)) (y + 41) (xI cZ 16 Ah)
def rlC (tl hd rm cs : Nat → Int) (De : Nat → Int64) (j : Nat) : Prop := tl j ≠ hd j ∧ (De (tl j).toNat).toInt < 1000000000000 ∧ 0 < rm j ∧ (De (tl j).toNat).toInt + cs j < (De (hd j).toNat).toInt
def rlP (tl hd rm cs : Nat → Int) (j : Nat) (k f : Int) (De : Nat → Int64) (By Ah : Nat → Int) (De1 : Nat → Int64) (By1 Ah1 : Nat → Int) : Prop := (¬ rlC tl hd rm cs De j ∧ De1 = De ∧ By1 = By ∧ Ah1 = Ah) ∨ (rlC tl hd rm cs De j ∧ By1 = fup By (hd j).toNat k ∧ Ah1 = fup Ah (hd j).toNat f ∧ ∃ w : Int64, w.toInt = (De (tl j).toNat).toInt + cs j ∧ De1 = fuj De (hd j).toNat w)
def pXR (Γ : TG) (cI cJ cZ : ClassId) (y n : Nat) (Q : (Nat → Int64) → (Nat → Int) → (Nat → Int) → Prop) : Option Value → MH → Nat → Prop := fun r hp1 n1 => n1 = n ∧ r = none ∧ ∃ (De : Nat → Int64) (By Ah : Nat → Int), Tw (prN Γ cI cJ cZ y De By Ah) hp1 ∧ Q De By Ah
def bdP (De : Nat → Int64) : Prop := ∀ v : Nat, v < 16 → -10000000000000 ≤ (De v).toInt ∧ (De v).toInt ≤ 1000000000000
set_option maxHeartbeats 4000000 in
set_option maxRecDepth 100000 in
theorem t_X12_roomOfx {D : va_G} {cI cJ cZ cT : ClassId} {lo b L : Nat} {xs : Nat → Int32} {hp : MH} {n d : Nat} {Γ : TG} {y : Nat} {rf cnt nm : Int32} {Wt Dr Gn : Nat → Int} {x1 x2 x3 : Int} (hd0 : 1 ≤ d) (hO : rd Γ y (tO 11 (mdF y rf cnt nm))) (hA_weight : rd Γ (y + 7) (xI cI 7260 Wt)) (hR_weight : Rfx 7260 (-1000) 1000 Wt) (hA_directs : rd Γ (y + 3) (xI cZ 121 Dr)) (hR_directs : Rfx 121 0 1 Dr) (hA_gone : rd Γ (y + 38) (xI cI 60 Gn)) (hR_gone : Rfx 60 (-1000) 1000 Gn) (ht : Tw Γ hp) (hx1 : 0 ≤ x1 ∧ x1 ≤ 120) (hx2 : 0 ≤ x2 ∧ x2 ≤ 59) (hx3 : 0 ≤ x3 ∧ x3 ≤ 1) : Mt (gG D cI cJ cZ cT lo b L xs) mX12_roomOf d 0 0 [.ref y, .int (iv x1), .int (iv x2), .int (iv x3)] hp n (pI Γ n (fun r => r = rmV Wt Dr Gn x1 x2 x3)) := by
  refine Mt.of rfl (Nat.le_of_ble_eq_true rfl) ?_
  refine Rn.pick (lv' := [(0, .ref y), (1, .int (iv x1)), (2, .int (iv x2)), (3, .int (iv x3))]) [0, 1, 2, 3] rfl ?_
  refine r_aload_n (pc := 0) dX12_roomOf_0 (i := 0) rfl rfl ?_
  refine t_getE (pc := 1) (.ref (y + 7)) ht hO fX12_29 dX12_roomOf_1 rfl ?_
  refine r_iload_n (pc := 4) dX12_roomOf_4 (i := 1) rfl rfl ?_
  refine r_iload_n (pc := 5) dX12_roomOf_5 (i := 2) rfl rfl ?_
  refine t_callSI (pc := 6) (as := [.int (iv x1), .int (iv x2)]) (st := [.ref (y + 7)]) kX12_157 dX12_roomOf_6 (t_X12_at1x (d := d - 1) (x1 := x1) (x2 := x2) (by omega)  ht (by omega) (by omega)) rfl (by omega) (Nat.le_of_ble_eq_true rfl) rfl (fun hp1 y3 ht2 by3 => ?_)
  have ey3 : y3 = 60 * x1 + x2 := by3
  subst ey3
  refine t_ialdX (pc := 9) (t0 := 0) ht2 hA_weight dX12_roomOf_9 rfl (by decide) (by omega) (fun b4 => ?_)
  have rb4 := (show Rfx 7260 (-1000) 1000 Wt by assumption) (Int.toNat (60 * x1 + x2)) (by omega)
  refine t_if_le (pc := 10) (tgt := 26) dX12_roomOf_10 (by decide) (by omega) (fun c10 => ?_) (fun c10 => ?_)
  · refine r_iconst (pc := 26) (v := iv 0) dX12_roomOf_26 (by decide) ?_
    refine r_istore (pc := 27) (lv' := [(4, .int (iv 0)), (0, .ref y), (1, .int (iv x1)), (2, .int (iv x2)), (3, .int (iv x3))]) dX12_roomOf_27 (by decide) rfl ?_
    refine r_iload_n (pc := 29) dX12_roomOf_29 (i := 3) rfl rfl ?_
    refine t_if_eq (pc := 30) (tgt := 62) dX12_roomOf_30 (by decide) (by omega) (fun c30 => ?_) (fun c30 => ?_)
    · refine r_aload_n (pc := 62) dX12_roomOf_62 (i := 0) rfl rfl ?_
      refine t_getE (pc := 63) (.ref (y + 38)) ht2 hO fX12_124 dX12_roomOf_63 rfl ?_
      refine r_iload_n (pc := 66) dX12_roomOf_66 (i := 2) rfl rfl ?_
      refine t_ialdX (pc := 67) (t0 := 0) ht2 hA_gone dX12_roomOf_67 rfl (by decide) (by omega) (fun b5 => ?_)
      have rb5 := (show Rfx 60 (-1000) 1000 Gn by assumption) (Int.toNat x2) (by omega)
      refine t_if_le (pc := 68) (tgt := 80) dX12_roomOf_68 (by decide) (by omega) (fun c68 => ?_) (fun c68 => ?_)
      · refine r_aload_n (pc := 80) dX12_roomOf_80 (i := 0) rfl rfl ?_
        refine t_getE (pc := 81) (.ref (y + 3)) ht2 hO fX12_16 dX12_roomOf_81 rfl ?_
        refine r_iload_n (pc := 84) dX12_roomOf_84 (i := 1) rfl rfl ?_
        refine t_zaldX (pc := 85) (t0 := 2) ht2 hA_directs dX12_roomOf_85 rfl (by decide) (by omega) (fun b6 => ?_)
        have rb6 := (show Rfx 121 0 1 Dr by assumption) (Int.toNat x1) (by omega)
        refine t_if_eq (pc := 86) (tgt := 93) dX12_roomOf_86 (by decide) (by omega) (fun c86 => ?_) (fun c86 => ?_)
        · refine r_iload (pc := 93) dX12_roomOf_93 rfl ?_
          refine r_aload_n (pc := 95) dX12_roomOf_95 (i := 0) rfl rfl ?_
          refine t_getE (pc := 96) (.ref (y + 38)) ht2 hO fX12_124 dX12_roomOf_96 rfl ?_
          refine r_iload_n (pc := 99) dX12_roomOf_99 (i := 2) rfl rfl ?_
          refine t_ialdX (pc := 100) (t0 := 0) ht2 hA_gone dX12_roomOf_100 rfl (by decide) (by omega) (fun b7 => ?_)
          have rb7 := (show Rfx 60 (-1000) 1000 Gn by assumption) (Int.toNat x2) (by omega)
          refine r_iadd (pc := 101) (v := iv (0 + (Gn (Int.toNat x2)))) dX12_roomOf_101 (iv_add _ _) ?_
          exact r_iret (pc := 102) dX12_roomOf_102 rfl ⟨rfl, ht2, _, rfl, by show _ = rmV Wt Dr Gn x1 x2 x3; unfold rmV; (repeat' split) <;> omega⟩
        · refine r_iconst (pc := 89) (v := iv 0) dX12_roomOf_89 (by decide) ?_
          refine r_goto (pc := 90) (tgt := 102) dX12_roomOf_90 (by decide) ?_
          exact r_iret (pc := 102) dX12_roomOf_102 rfl ⟨rfl, ht2, _, rfl, by show _ = rmV Wt Dr Gn x1 x2 x3; unfold rmV; (repeat' split) <;> omega⟩
      · refine r_aload_n (pc := 71) dX12_roomOf_71 (i := 0) rfl rfl ?_
        refine t_getE (pc := 72) (.ref (y + 38)) ht2 hO fX12_124 dX12_roomOf_72 rfl ?_
        refine r_iload_n (pc := 75) dX12_roomOf_75 (i := 2) rfl rfl ?_
        refine t_ialdX (pc := 76) (t0 := 0) ht2 hA_gone dX12_roomOf_76 rfl (by decide) (by omega) (fun b8 => ?_)
        have rb8 := (show Rfx 60 (-1000) 1000 Gn by assumption) (Int.toNat x2) (by omega)
        refine r_goto (pc := 77) (tgt := 102) dX12_roomOf_77 (by decide) ?_
        exact r_iret (pc := 102) dX12_roomOf_102 rfl ⟨rfl, ht2, _, rfl, by show _ = rmV Wt Dr Gn x1 x2 x3; unfold rmV; (repeat' split) <;> omega⟩
    · refine r_aload_n (pc := 33) dX12_roomOf_33 (i := 0) rfl rfl ?_
      refine t_getE (pc := 34) (.ref (y + 38)) ht2 hO fX12_124 dX12_roomOf_34 rfl ?_
      refine r_iload_n (pc := 37) dX12_roomOf_37 (i := 2) rfl rfl ?_
      refine t_ialdX (pc := 38) (t0 := 0) ht2 hA_gone dX12_roomOf_38 rfl (by decide) (by omega) (fun b9 => ?_)
      have rb9 := (show Rfx 60 (-1000) 1000 Gn by assumption) (Int.toNat x2) (by omega)
      refine t_if_ge (pc := 39) (tgt := 52) dX12_roomOf_39 (by decide) (by omega) (fun c39 => ?_) (fun c39 => ?_)
      · refine r_iload (pc := 52) dX12_roomOf_52 rfl ?_
        refine r_aload_n (pc := 54) dX12_roomOf_54 (i := 0) rfl rfl ?_
        refine t_getE (pc := 55) (.ref (y + 38)) ht2 hO fX12_124 dX12_roomOf_55 rfl ?_
        refine r_iload_n (pc := 58) dX12_roomOf_58 (i := 2) rfl rfl ?_
        refine t_ialdX (pc := 59) (t0 := 0) ht2 hA_gone dX12_roomOf_59 rfl (by decide) (by omega) (fun b10 => ?_)
        have rb10 := (show Rfx 60 (-1000) 1000 Gn by assumption) (Int.toNat x2) (by omega)
        refine r_isub (pc := 60) (v := iv (0 - (Gn (Int.toNat x2)))) dX12_roomOf_60 (iv_sub _ _) ?_
        exact r_iret (pc := 61) dX12_roomOf_61 rfl ⟨rfl, ht2, _, rfl, by show _ = rmV Wt Dr Gn x1 x2 x3; unfold rmV; (repeat' split) <;> omega⟩
      · refine r_aload_n (pc := 42) dX12_roomOf_42 (i := 0) rfl rfl ?_
        refine t_getE (pc := 43) (.ref (y + 38)) ht2 hO fX12_124 dX12_roomOf_43 rfl ?_
        refine r_iload_n (pc := 46) dX12_roomOf_46 (i := 2) rfl rfl ?_
        refine t_ialdX (pc := 47) (t0 := 0) ht2 hA_gone dX12_roomOf_47 rfl (by decide) (by omega) (fun b11 => ?_)
        have rb11 := (show Rfx 60 (-1000) 1000 Gn by assumption) (Int.toNat x2) (by omega)
        refine r_ineg (pc := 48) (v := iv (-(Gn (Int.toNat x2)))) dX12_roomOf_48 (iv_neg _) ?_
        refine r_goto (pc := 49) (tgt := 61) dX12_roomOf_49 (by decide) ?_
        exact r_iret (pc := 61) dX12_roomOf_61 rfl ⟨rfl, ht2, _, rfl, by show _ = rmV Wt Dr Gn x1 x2 x3; unfold rmV; (repeat' split) <;> omega⟩
  · refine r_aload_n (pc := 13) dX12_roomOf_13 (i := 0) rfl rfl ?_
    refine t_getE (pc := 14) (.ref (y + 7)) ht2 hO fX12_29 dX12_roomOf_14 rfl ?_
    refine r_iload_n (pc := 17) dX12_roomOf_17 (i := 1) rfl rfl ?_
    refine r_iload_n (pc := 18) dX12_roomOf_18 (i := 2) rfl rfl ?_
    refine t_callSI (pc := 19) (as := [.int (iv x1), .int (iv x2)]) (st := [.ref (y + 7)]) kX12_157 dX12_roomOf_19 (t_X12_at1x (d := d - 1) (x1 := x1) (x2 := x2) (by omega)  ht2 (by omega) (by omega)) rfl (by omega) (Nat.le_of_ble_eq_true rfl) rfl (fun hp12 y14 ht13 by14 => ?_)
    have ey14 : y14 = 60 * x1 + x2 := by14
    subst ey14
    refine t_ialdX (pc := 22) (t0 := 0) ht13 hA_weight dX12_roomOf_22 rfl (by decide) (by omega) (fun b15 => ?_)
    have rb15 := (show Rfx 7260 (-1000) 1000 Wt by assumption) (Int.toNat (60 * x1 + x2)) (by omega)
    refine r_goto (pc := 23) (tgt := 27) dX12_roomOf_23 (by decide) ?_
    refine r_istore (pc := 27) (lv' := [(4, .int (iv (Wt (Int.toNat (60 * x1 + x2))))), (0, .ref y), (1, .int (iv x1)), (2, .int (iv x2)), (3, .int (iv x3))]) dX12_roomOf_27 (by decide) rfl ?_
    refine r_iload_n (pc := 29) dX12_roomOf_29 (i := 3) rfl rfl ?_
    refine t_if_eq (pc := 30) (tgt := 62) dX12_roomOf_30 (by decide) (by omega) (fun c30 => ?_) (fun c30 => ?_)
    · refine r_aload_n (pc := 62) dX12_roomOf_62 (i := 0) rfl rfl ?_
      refine t_getE (pc := 63) (.ref (y + 38)) ht13 hO fX12_124 dX12_roomOf_63 rfl ?_
      refine r_iload_n (pc := 66) dX12_roomOf_66 (i := 2) rfl rfl ?_
      refine t_ialdX (pc := 67) (t0 := 0) ht13 hA_gone dX12_roomOf_67 rfl (by decide) (by omega) (fun b16 => ?_)
      have rb16 := (show Rfx 60 (-1000) 1000 Gn by assumption) (Int.toNat x2) (by omega)
      refine t_if_le (pc := 68) (tgt := 80) dX12_roomOf_68 (by decide) (by omega) (fun c68 => ?_) (fun c68 => ?_)
      · refine r_aload_n (pc := 80) dX12_roomOf_80 (i := 0) rfl rfl ?_
        refine t_getE (pc := 81) (.ref (y + 3)) ht13 hO fX12_16 dX12_roomOf_81 rfl ?_
        refine r_iload_n (pc := 84) dX12_roomOf_84 (i := 1) rfl rfl ?_
        refine t_zaldX (pc := 85) (t0 := 2) ht13 hA_directs dX12_roomOf_85 rfl (by decide) (by omega) (fun b17 => ?_)
        have rb17 := (show Rfx 121 0 1 Dr by assumption) (Int.toNat x1) (by omega)
        refine t_if_eq (pc := 86) (tgt := 93) dX12_roomOf_86 (by decide) (by omega) (fun c86 => ?_) (fun c86 => ?_)
        · refine r_iload (pc := 93) dX12_roomOf_93 rfl ?_
          refine r_aload_n (pc := 95) dX12_roomOf_95 (i := 0) rfl rfl ?_
          refine t_getE (pc := 96) (.ref (y + 38)) ht13 hO fX12_124 dX12_roomOf_96 rfl ?_
          refine r_iload_n (pc := 99) dX12_roomOf_99 (i := 2) rfl rfl ?_
          refine t_ialdX (pc := 100) (t0 := 0) ht13 hA_gone dX12_roomOf_100 rfl (by decide) (by omega) (fun b18 => ?_)
          have rb18 := (show Rfx 60 (-1000) 1000 Gn by assumption) (Int.toNat x2) (by omega)
          refine r_iadd (pc := 101) (v := iv ((Wt (Int.toNat (60 * x1 + x2))) + (Gn (Int.toNat x2)))) dX12_roomOf_101 (iv_add _ _) ?_
          exact r_iret (pc := 102) dX12_roomOf_102 rfl ⟨rfl, ht13, _, rfl, by show _ = rmV Wt Dr Gn x1 x2 x3; unfold rmV; (repeat' split) <;> omega⟩
        · refine r_iconst (pc := 89) (v := iv 0) dX12_roomOf_89 (by decide) ?_
          refine r_goto (pc := 90) (tgt := 102) dX12_roomOf_90 (by decide) ?_
          exact r_iret (pc := 102) dX12_roomOf_102 rfl ⟨rfl, ht13, _, rfl, by show _ = rmV Wt Dr Gn x1 x2 x3; unfold rmV; (repeat' split) <;> omega⟩
      · refine r_aload_n (pc := 71) dX12_roomOf_71 (i := 0) rfl rfl ?_
        refine t_getE (pc := 72) (.ref (y + 38)) ht13 hO fX12_124 dX12_roomOf_72 rfl ?_
        refine r_iload_n (pc := 75) dX12_roomOf_75 (i := 2) rfl rfl ?_
        refine t_ialdX (pc := 76) (t0 := 0) ht13 hA_gone dX12_roomOf_76 rfl (by decide) (by omega) (fun b19 => ?_)
        have rb19 := (show Rfx 60 (-1000) 1000 Gn by assumption) (Int.toNat x2) (by omega)
        refine r_goto (pc := 77) (tgt := 102) dX12_roomOf_77 (by decide) ?_
        exact r_iret (pc := 102) dX12_roomOf_102 rfl ⟨rfl, ht13, _, rfl, by show _ = rmV Wt Dr Gn x1 x2 x3; unfold rmV; (repeat' split) <;> omega⟩
    · refine r_aload_n (pc := 33) dX12_roomOf_33 (i := 0) rfl rfl ?_
      refine t_getE (pc := 34) (.ref (y + 38)) ht13 hO fX12_124 dX12_roomOf_34 rfl ?_
      refine r_iload_n (pc := 37) dX12_roomOf_37 (i := 2) rfl rfl ?_
      refine t_ialdX (pc := 38) (t0 := 0) ht13 hA_gone dX12_roomOf_38 rfl (by decide) (by omega) (fun b20 => ?_)
      have rb20 := (show Rfx 60 (-1000) 1000 Gn by assumption) (Int.toNat x2) (by omega)
      refine t_if_ge (pc := 39) (tgt := 52) dX12_roomOf_39 (by decide) (by omega) (fun c39 => ?_) (fun c39 => ?_)
      · refine r_iload (pc := 52) dX12_roomOf_52 rfl ?_
        refine r_aload_n (pc := 54) dX12_roomOf_54 (i := 0) rfl rfl ?_
        refine t_getE (pc := 55) (.ref (y + 38)) ht13 hO fX12_124 dX12_roomOf_55 rfl ?_
        refine r_iload_n (pc := 58) dX12_roomOf_58 (i := 2) rfl rfl ?_
        refine t_ialdX (pc := 59) (t0 := 0) ht13 hA_gone dX12_roomOf_59 rfl (by decide) (by omega) (fun b21 => ?_)
        have rb21 := (show Rfx 60 (-1000) 1000 Gn by assumption) (Int.toNat x2) (by omega)
        refine r_isub (pc := 60) (v := iv ((Wt (Int.toNat (60 * x1 + x2))) - (Gn (Int.toNat x2)))) dX12_roomOf_60 (iv_sub _ _) ?_
        exact r_iret (pc := 61) dX12_roomOf_61 rfl ⟨rfl, ht13, _, rfl, by show _ = rmV Wt Dr Gn x1 x2 x3; unfold rmV; (repeat' split) <;> omega⟩
      · refine r_aload_n (pc := 42) dX12_roomOf_42 (i := 0) rfl rfl ?_
        refine t_getE (pc := 43) (.ref (y + 38)) ht13 hO fX12_124 dX12_roomOf_43 rfl ?_
        refine r_iload_n (pc := 46) dX12_roomOf_46 (i := 2) rfl rfl ?_
        refine t_ialdX (pc := 47) (t0 := 0) ht13 hA_gone dX12_roomOf_47 rfl (by decide) (by omega) (fun b22 => ?_)
        have rb22 := (show Rfx 60 (-1000) 1000 Gn by assumption) (Int.toNat x2) (by omega)
        refine r_ineg (pc := 48) (v := iv (-(Gn (Int.toNat x2)))) dX12_roomOf_48 (iv_neg _) ?_
        refine r_goto (pc := 49) (tgt := 61) dX12_roomOf_49 (by decide) ?_
        exact r_iret (pc := 61) dX12_roomOf_61 rfl ⟨rfl, ht13, _, rfl, by show _ = rmV Wt Dr Gn x1 x2 x3; unfold rmV; (repeat' split) <;> omega⟩
set_option maxHeartbeats 4000000 in
set_option maxRecDepth 100000 in
theorem t_X12_costOfx {D : va_G} {cI cJ cZ cT : ClassId} {lo b L : Nat} {xs : Nat → Int32} {hp : MH} {n d : Nat} {Γ : TG} {y : Nat} {rf cnt nm : Int32} {Co Gn : Nat → Int} {x1 x2 x3 : Int} (hd0 : 1 ≤ d) (hO : rd Γ y (tO 11 (mdF y rf cnt nm))) (hA_cost : rd Γ (y + 8) (xI cI 7260 Co)) (hR_cost : Rfx 7260 (-1000) 1000 Co) (hA_gone : rd Γ (y + 38) (xI cI 60 Gn)) (hR_gone : Rfx 60 (-1000) 1000 Gn) (ht : Tw Γ hp) (hx1 : 0 ≤ x1 ∧ x1 ≤ 120) (hx2 : 0 ≤ x2 ∧ x2 ≤ 59) (hx3 : 0 ≤ x3 ∧ x3 ≤ 1) : Mt (gG D cI cJ cZ cT lo b L xs) mX12_costOf d 0 0 [.ref y, .int (iv x1), .int (iv x2), .int (iv x3)] hp n (pJ Γ n (fun r => r.toInt = csV Co Gn x1 x2 x3)) := by
  refine Mt.of rfl (Nat.le_of_ble_eq_true rfl) ?_
  refine Rn.pick (lv' := [(0, .ref y), (1, .int (iv x1)), (2, .int (iv x2)), (3, .int (iv x3))]) [0, 1, 2, 3] rfl ?_
  refine r_aload_n (pc := 0) dX12_costOf_0 (i := 0) rfl rfl ?_
  refine t_getE (pc := 1) (.ref (y + 8)) ht hO fX12_32 dX12_costOf_1 rfl ?_
  refine r_iload_n (pc := 4) dX12_costOf_4 (i := 1) rfl rfl ?_
  refine r_iload_n (pc := 5) dX12_costOf_5 (i := 2) rfl rfl ?_
  refine t_callSI (pc := 6) (as := [.int (iv x1), .int (iv x2)]) (st := [.ref (y + 8)]) kX12_157 dX12_costOf_6 (t_X12_at1x (d := d - 1) (x1 := x1) (x2 := x2) (by omega)  ht (by omega) (by omega)) rfl (by omega) (Nat.le_of_ble_eq_true rfl) rfl (fun hp1 y3 ht2 by3 => ?_)
  have ey3 : y3 = 60 * x1 + x2 := by3
  subst ey3
  refine t_ialdX (pc := 9) (t0 := 0) ht2 hA_cost dX12_costOf_9 rfl (by decide) (by omega) (fun b4 => ?_)
  have rb4 := (show Rfx 7260 (-1000) 1000 Co by assumption) (Int.toNat (60 * x1 + x2)) (by omega)
  refine t_if_le (pc := 10) (tgt := 27) dX12_costOf_10 (by decide) (by omega) (fun c10 => ?_) (fun c10 => ?_)
  · refine r_lconst (pc := 27) (v := 0) dX12_costOf_27 (by decide) ?_
    have hk27 : (0 : Int64).toInt = 0 := by decide
    refine r_lstore (pc := 28) (lv' := [(4, .long (0 : Int64)), (0, .ref y), (1, .int (iv x1)), (2, .int (iv x2)), (3, .int (iv x3))]) dX12_costOf_28 (by decide) rfl ?_
    refine r_iload_n (pc := 30) dX12_costOf_30 (i := 3) rfl rfl ?_
    refine t_if_eq (pc := 31) (tgt := 51) dX12_costOf_31 (by decide) (by omega) (fun c31 => ?_) (fun c31 => ?_)
    · refine r_aload_n (pc := 51) dX12_costOf_51 (i := 0) rfl rfl ?_
      refine t_getE (pc := 52) (.ref (y + 38)) ht2 hO fX12_124 dX12_costOf_52 rfl ?_
      refine r_iload_n (pc := 55) dX12_costOf_55 (i := 2) rfl rfl ?_
      refine t_ialdX (pc := 56) (t0 := 0) ht2 hA_gone dX12_costOf_56 rfl (by decide) (by omega) (fun b5 => ?_)
      have rb5 := (show Rfx 60 (-1000) 1000 Gn by assumption) (Int.toNat x2) (by omega)
      refine t_if_le (pc := 57) (tgt := 64) dX12_costOf_57 (by decide) (by omega) (fun c57 => ?_) (fun c57 => ?_)
      · refine r_iconst (pc := 64) (v := iv 0) dX12_costOf_64 (by decide) ?_
        refine r_istore (pc := 65) (lv' := [(6, .int (iv 0)), (4, .long (0 : Int64)), (0, .ref y), (1, .int (iv x1)), (2, .int (iv x2)), (3, .int (iv x3))]) dX12_costOf_65 (by decide) rfl ?_
        refine r_iload (pc := 67) dX12_costOf_67 rfl ?_
        refine t_if_eq (pc := 69) (tgt := 78) dX12_costOf_69 (by decide) (by omega) (fun c69 => ?_) (fun c69 => ?_)
        · refine r_lload (pc := 78) dX12_costOf_78 rfl ?_
          exact r_lret (pc := 80) dX12_costOf_80 rfl ⟨rfl, ht2, _, rfl, by show _ = csV Co Gn x1 x2 x3; unfold csV; (repeat' split) <;> omega⟩
        · exfalso
          omega
      · refine r_iconst (pc := 60) (v := iv 1) dX12_costOf_60 (by decide) ?_
        refine r_goto (pc := 61) (tgt := 65) dX12_costOf_61 (by decide) ?_
        refine r_istore (pc := 65) (lv' := [(6, .int (iv 1)), (4, .long (0 : Int64)), (0, .ref y), (1, .int (iv x1)), (2, .int (iv x2)), (3, .int (iv x3))]) dX12_costOf_65 (by decide) rfl ?_
        refine r_iload (pc := 67) dX12_costOf_67 rfl ?_
        refine t_if_eq (pc := 69) (tgt := 78) dX12_costOf_69 (by decide) (by omega) (fun c69 => ?_) (fun c69 => ?_)
        · exfalso
          omega
        · refine r_lload (pc := 72) dX12_costOf_72 rfl ?_
          refine r_lneg (pc := 74) dX12_costOf_74 ?_
          have hn9 := l_neg (x := (0 : Int64)) (by omega)
          refine r_goto (pc := 75) (tgt := 80) dX12_costOf_75 (by decide) ?_
          exact r_lret (pc := 80) dX12_costOf_80 rfl ⟨rfl, ht2, _, rfl, by show _ = csV Co Gn x1 x2 x3; unfold csV; (repeat' split) <;> omega⟩
    · refine r_aload_n (pc := 34) dX12_costOf_34 (i := 0) rfl rfl ?_
      refine t_getE (pc := 35) (.ref (y + 38)) ht2 hO fX12_124 dX12_costOf_35 rfl ?_
      refine r_iload_n (pc := 38) dX12_costOf_38 (i := 2) rfl rfl ?_
      refine t_ialdX (pc := 39) (t0 := 0) ht2 hA_gone dX12_costOf_39 rfl (by decide) (by omega) (fun b6 => ?_)
      have rb6 := (show Rfx 60 (-1000) 1000 Gn by assumption) (Int.toNat x2) (by omega)
      refine t_if_ge (pc := 40) (tgt := 47) dX12_costOf_40 (by decide) (by omega) (fun c40 => ?_) (fun c40 => ?_)
      · refine r_iconst (pc := 47) (v := iv 0) dX12_costOf_47 (by decide) ?_
        refine r_goto (pc := 48) (tgt := 65) dX12_costOf_48 (by decide) ?_
        refine r_istore (pc := 65) (lv' := [(6, .int (iv 0)), (4, .long (0 : Int64)), (0, .ref y), (1, .int (iv x1)), (2, .int (iv x2)), (3, .int (iv x3))]) dX12_costOf_65 (by decide) rfl ?_
        refine r_iload (pc := 67) dX12_costOf_67 rfl ?_
        refine t_if_eq (pc := 69) (tgt := 78) dX12_costOf_69 (by decide) (by omega) (fun c69 => ?_) (fun c69 => ?_)
        · refine r_lload (pc := 78) dX12_costOf_78 rfl ?_
          exact r_lret (pc := 80) dX12_costOf_80 rfl ⟨rfl, ht2, _, rfl, by show _ = csV Co Gn x1 x2 x3; unfold csV; (repeat' split) <;> omega⟩
        · exfalso
          omega
      · refine r_iconst (pc := 43) (v := iv 1) dX12_costOf_43 (by decide) ?_
        refine r_goto (pc := 44) (tgt := 65) dX12_costOf_44 (by decide) ?_
        refine r_istore (pc := 65) (lv' := [(6, .int (iv 1)), (4, .long (0 : Int64)), (0, .ref y), (1, .int (iv x1)), (2, .int (iv x2)), (3, .int (iv x3))]) dX12_costOf_65 (by decide) rfl ?_
        refine r_iload (pc := 67) dX12_costOf_67 rfl ?_
        refine t_if_eq (pc := 69) (tgt := 78) dX12_costOf_69 (by decide) (by omega) (fun c69 => ?_) (fun c69 => ?_)
        · exfalso
          omega
        · refine r_lload (pc := 72) dX12_costOf_72 rfl ?_
          refine r_lneg (pc := 74) dX12_costOf_74 ?_
          have hn9 := l_neg (x := (0 : Int64)) (by omega)
          refine r_goto (pc := 75) (tgt := 80) dX12_costOf_75 (by decide) ?_
          exact r_lret (pc := 80) dX12_costOf_80 rfl ⟨rfl, ht2, _, rfl, by show _ = csV Co Gn x1 x2 x3; unfold csV; (repeat' split) <;> omega⟩
  · refine r_aload_n (pc := 13) dX12_costOf_13 (i := 0) rfl rfl ?_
    refine t_getE (pc := 14) (.ref (y + 8)) ht2 hO fX12_32 dX12_costOf_14 rfl ?_
    refine r_iload_n (pc := 17) dX12_costOf_17 (i := 1) rfl rfl ?_
    refine r_iload_n (pc := 18) dX12_costOf_18 (i := 2) rfl rfl ?_
    refine t_callSI (pc := 19) (as := [.int (iv x1), .int (iv x2)]) (st := [.ref (y + 8)]) kX12_157 dX12_costOf_19 (t_X12_at1x (d := d - 1) (x1 := x1) (x2 := x2) (by omega)  ht2 (by omega) (by omega)) rfl (by omega) (Nat.le_of_ble_eq_true rfl) rfl (fun hp7 y9 ht8 by9 => ?_)
    have ey9 : y9 = 60 * x1 + x2 := by9
    subst ey9
    refine t_ialdX (pc := 22) (t0 := 0) ht8 hA_cost dX12_costOf_22 rfl (by decide) (by omega) (fun b10 => ?_)
    have rb10 := (show Rfx 7260 (-1000) 1000 Co by assumption) (Int.toNat (60 * x1 + x2)) (by omega)
    refine r_i2l (pc := 23) (v := (iv (Co (Int.toNat (60 * x1 + x2)))).toInt64) dX12_costOf_23 rfl ?_
    have hl9 := iv_long (x := Co (Int.toNat (60 * x1 + x2))) (by omega)
    refine r_goto (pc := 24) (tgt := 28) dX12_costOf_24 (by decide) ?_
    refine r_lstore (pc := 28) (lv' := [(4, .long ((iv (Co (Int.toNat (60 * x1 + x2)))).toInt64)), (0, .ref y), (1, .int (iv x1)), (2, .int (iv x2)), (3, .int (iv x3))]) dX12_costOf_28 (by decide) rfl ?_
    refine r_iload_n (pc := 30) dX12_costOf_30 (i := 3) rfl rfl ?_
    refine t_if_eq (pc := 31) (tgt := 51) dX12_costOf_31 (by decide) (by omega) (fun c31 => ?_) (fun c31 => ?_)
    · refine r_aload_n (pc := 51) dX12_costOf_51 (i := 0) rfl rfl ?_
      refine t_getE (pc := 52) (.ref (y + 38)) ht8 hO fX12_124 dX12_costOf_52 rfl ?_
      refine r_iload_n (pc := 55) dX12_costOf_55 (i := 2) rfl rfl ?_
      refine t_ialdX (pc := 56) (t0 := 0) ht8 hA_gone dX12_costOf_56 rfl (by decide) (by omega) (fun b11 => ?_)
      have rb11 := (show Rfx 60 (-1000) 1000 Gn by assumption) (Int.toNat x2) (by omega)
      refine t_if_le (pc := 57) (tgt := 64) dX12_costOf_57 (by decide) (by omega) (fun c57 => ?_) (fun c57 => ?_)
      · refine r_iconst (pc := 64) (v := iv 0) dX12_costOf_64 (by decide) ?_
        refine r_istore (pc := 65) (lv' := [(6, .int (iv 0)), (4, .long ((iv (Co (Int.toNat (60 * x1 + x2)))).toInt64)), (0, .ref y), (1, .int (iv x1)), (2, .int (iv x2)), (3, .int (iv x3))]) dX12_costOf_65 (by decide) rfl ?_
        refine r_iload (pc := 67) dX12_costOf_67 rfl ?_
        refine t_if_eq (pc := 69) (tgt := 78) dX12_costOf_69 (by decide) (by omega) (fun c69 => ?_) (fun c69 => ?_)
        · refine r_lload (pc := 78) dX12_costOf_78 rfl ?_
          exact r_lret (pc := 80) dX12_costOf_80 rfl ⟨rfl, ht8, _, rfl, by show _ = csV Co Gn x1 x2 x3; unfold csV; (repeat' split) <;> omega⟩
        · exfalso
          omega
      · refine r_iconst (pc := 60) (v := iv 1) dX12_costOf_60 (by decide) ?_
        refine r_goto (pc := 61) (tgt := 65) dX12_costOf_61 (by decide) ?_
        refine r_istore (pc := 65) (lv' := [(6, .int (iv 1)), (4, .long ((iv (Co (Int.toNat (60 * x1 + x2)))).toInt64)), (0, .ref y), (1, .int (iv x1)), (2, .int (iv x2)), (3, .int (iv x3))]) dX12_costOf_65 (by decide) rfl ?_
        refine r_iload (pc := 67) dX12_costOf_67 rfl ?_
        refine t_if_eq (pc := 69) (tgt := 78) dX12_costOf_69 (by decide) (by omega) (fun c69 => ?_) (fun c69 => ?_)
        · exfalso
          omega
        · refine r_lload (pc := 72) dX12_costOf_72 rfl ?_
          refine r_lneg (pc := 74) dX12_costOf_74 ?_
          have hn9 := l_neg (x := (iv (Co (Int.toNat (60 * x1 + x2)))).toInt64) (by omega)
          refine r_goto (pc := 75) (tgt := 80) dX12_costOf_75 (by decide) ?_
          exact r_lret (pc := 80) dX12_costOf_80 rfl ⟨rfl, ht8, _, rfl, by show _ = csV Co Gn x1 x2 x3; unfold csV; (repeat' split) <;> omega⟩
    · refine r_aload_n (pc := 34) dX12_costOf_34 (i := 0) rfl rfl ?_
      refine t_getE (pc := 35) (.ref (y + 38)) ht8 hO fX12_124 dX12_costOf_35 rfl ?_
      refine r_iload_n (pc := 38) dX12_costOf_38 (i := 2) rfl rfl ?_
      refine t_ialdX (pc := 39) (t0 := 0) ht8 hA_gone dX12_costOf_39 rfl (by decide) (by omega) (fun b12 => ?_)
      have rb12 := (show Rfx 60 (-1000) 1000 Gn by assumption) (Int.toNat x2) (by omega)
      refine t_if_ge (pc := 40) (tgt := 47) dX12_costOf_40 (by decide) (by omega) (fun c40 => ?_) (fun c40 => ?_)
      · refine r_iconst (pc := 47) (v := iv 0) dX12_costOf_47 (by decide) ?_
        refine r_goto (pc := 48) (tgt := 65) dX12_costOf_48 (by decide) ?_
        refine r_istore (pc := 65) (lv' := [(6, .int (iv 0)), (4, .long ((iv (Co (Int.toNat (60 * x1 + x2)))).toInt64)), (0, .ref y), (1, .int (iv x1)), (2, .int (iv x2)), (3, .int (iv x3))]) dX12_costOf_65 (by decide) rfl ?_
        refine r_iload (pc := 67) dX12_costOf_67 rfl ?_
        refine t_if_eq (pc := 69) (tgt := 78) dX12_costOf_69 (by decide) (by omega) (fun c69 => ?_) (fun c69 => ?_)
        · refine r_lload (pc := 78) dX12_costOf_78 rfl ?_
          exact r_lret (pc := 80) dX12_costOf_80 rfl ⟨rfl, ht8, _, rfl, by show _ = csV Co Gn x1 x2 x3; unfold csV; (repeat' split) <;> omega⟩
        · exfalso
          omega
      · refine r_iconst (pc := 43) (v := iv 1) dX12_costOf_43 (by decide) ?_
        refine r_goto (pc := 44) (tgt := 65) dX12_costOf_44 (by decide) ?_
        refine r_istore (pc := 65) (lv' := [(6, .int (iv 1)), (4, .long ((iv (Co (Int.toNat (60 * x1 + x2)))).toInt64)), (0, .ref y), (1, .int (iv x1)), (2, .int (iv x2)), (3, .int (iv x3))]) dX12_costOf_65 (by decide) rfl ?_
        refine r_iload (pc := 67) dX12_costOf_67 rfl ?_
        refine t_if_eq (pc := 69) (tgt := 78) dX12_costOf_69 (by decide) (by omega) (fun c69 => ?_) (fun c69 => ?_)
        · exfalso
          omega
        · refine r_lload (pc := 72) dX12_costOf_72 rfl ?_
          refine r_lneg (pc := 74) dX12_costOf_74 ?_
          have hn9 := l_neg (x := (iv (Co (Int.toNat (60 * x1 + x2)))).toInt64) (by omega)
          refine r_goto (pc := 75) (tgt := 80) dX12_costOf_75 (by decide) ?_
          exact r_lret (pc := 80) dX12_costOf_80 rfl ⟨rfl, ht8, _, rfl, by show _ = csV Co Gn x1 x2 x3; unfold csV; (repeat' split) <;> omega⟩
set_option maxHeartbeats 4000000 in
set_option maxRecDepth 100000 in
theorem t_X12_relaxx {D : va_G} {cI cJ cZ cT : ClassId} {lo b L : Nat} {xs : Nat → Int32} {hp : MH} {n d : Nat} {Γ : TG} {y : Nat} {rf cnt nm : Int32} {Fr To Wt Co Dr Gn : Nat → Int} {x1 x2 x3 : Int} {De : Nat → Int64} {By Ah : Nat → Int} (hd0 : 2 ≤ d) (hO : rd Γ y (tO 11 (mdF y rf cnt nm))) (hA_from : rd Γ (y + 5) (xI cI 7260 Fr)) (hR_from : Rfx 7260 0 15 Fr) (hA_to : rd Γ (y + 6) (xI cI 7260 To)) (hR_to : Rfx 7260 0 15 To) (hA_weight : rd Γ (y + 7) (xI cI 7260 Wt)) (hR_weight : Rfx 7260 (-1000) 1000 Wt) (hA_cost : rd Γ (y + 8) (xI cI 7260 Co)) (hR_cost : Rfx 7260 (-1000) 1000 Co) (hA_directs : rd Γ (y + 3) (xI cZ 121 Dr)) (hR_directs : Rfx 121 0 1 Dr) (hA_gone : rd Γ (y + 38) (xI cI 60 Gn)) (hR_gone : Rfx 60 (-1000) 1000 Gn) (ht : Tw (prN Γ cI cJ cZ y De By Ah) hp) (hx1 : 0 ≤ x1 ∧ x1 ≤ 120) (hx2 : 0 ≤ x2 ∧ x2 ≤ 59) (hx3 : 0 ≤ x3 ∧ x3 ≤ 1) (hbd : bdP De) : Mt (gG D cI cJ cZ cT lo b L xs) mX12_relax d 0 0 [.ref y, .int (iv x1), .int (iv x2), .int (iv x3)] hp n (pXR Γ cI cJ cZ y n (fun De1 By1 Ah1 => rlP (tlR (arF Fr x1) (arF To x1)) (hdR (arF Fr x1) (arF To x1)) (rmR (arF Wt x1) (Dr (Int.toNat x1)) Gn) (csR (arF Co x1) Gn) (jxR x2 x3) x2 x3 De By Ah De1 By1 Ah1)) := by
  refine Mt.of rfl (Nat.le_of_ble_eq_true rfl) ?_
  refine Rn.pick (lv' := [(0, .ref y), (1, .int (iv x1)), (2, .int (iv x2)), (3, .int (iv x3))]) [0, 1, 2, 3] rfl ?_
  refine r_iload_n (pc := 0) dX12_relax_0 (i := 1) rfl rfl ?_
  refine r_iload_n (pc := 1) dX12_relax_1 (i := 2) rfl rfl ?_
  refine t_callSI (pc := 2) (as := [.int (iv x1), .int (iv x2)]) (st := []) kX12_157 dX12_relax_2 (t_X12_at1x (d := d - 1) (x1 := x1) (x2 := x2) (by omega)  ht (by omega) (by omega)) rfl (by omega) (Nat.le_of_ble_eq_true rfl) rfl (fun hp1 y3 ht2 by3 => ?_)
  have ey3 : y3 = 60 * x1 + x2 := by3
  subst ey3
  refine r_istore (pc := 5) (lv' := [(4, .int (iv (60 * x1 + x2))), (0, .ref y), (1, .int (iv x1)), (2, .int (iv x2)), (3, .int (iv x3))]) dX12_relax_5 (by decide) rfl ?_
  refine r_iload_n (pc := 7) dX12_relax_7 (i := 3) rfl rfl ?_
  refine t_if_eq (pc := 8) (tgt := 21) dX12_relax_8 (by decide) (by omega) (fun c8 => ?_) (fun c8 => ?_)
  · refine r_aload_n (pc := 21) dX12_relax_21 (i := 0) rfl rfl ?_
    refine t_getE (pc := 22) (.ref (y + 6)) ht2 (rd_ov (by omega) (rd_ov (by omega) (rd_ov (by omega) hO))) fX12_26 dX12_relax_22 rfl ?_
    refine r_iload (pc := 25) dX12_relax_25 rfl ?_
    refine t_ialdX (pc := 27) (t0 := 0) ht2 (rd_ov (by omega) (rd_ov (by omega) (rd_ov (by omega) hA_to))) dX12_relax_27 rfl (by decide) (by omega) (fun b4 => ?_)
    have rb4 := (show Rfx 7260 0 15 To by assumption) (Int.toNat (60 * x1 + x2)) (by omega)
    refine r_istore (pc := 28) (lv' := [(5, .int (iv (To (Int.toNat (60 * x1 + x2))))), (4, .int (iv (60 * x1 + x2))), (0, .ref y), (1, .int (iv x1)), (2, .int (iv x2)), (3, .int (iv x3))]) dX12_relax_28 (by decide) rfl ?_
    refine r_iload_n (pc := 30) dX12_relax_30 (i := 3) rfl rfl ?_
    refine t_if_eq (pc := 31) (tgt := 44) dX12_relax_31 (by decide) (by omega) (fun c31 => ?_) (fun c31 => ?_)
    · refine r_aload_n (pc := 44) dX12_relax_44 (i := 0) rfl rfl ?_
      refine t_getE (pc := 45) (.ref (y + 5)) ht2 (rd_ov (by omega) (rd_ov (by omega) (rd_ov (by omega) hO))) fX12_23 dX12_relax_45 rfl ?_
      refine r_iload (pc := 48) dX12_relax_48 rfl ?_
      refine t_ialdX (pc := 50) (t0 := 0) ht2 (rd_ov (by omega) (rd_ov (by omega) (rd_ov (by omega) hA_from))) dX12_relax_50 rfl (by decide) (by omega) (fun b5 => ?_)
      have rb5 := (show Rfx 7260 0 15 Fr by assumption) (Int.toNat (60 * x1 + x2)) (by omega)
      refine r_istore (pc := 51) (lv' := [(6, .int (iv (Fr (Int.toNat (60 * x1 + x2))))), (5, .int (iv (To (Int.toNat (60 * x1 + x2))))), (4, .int (iv (60 * x1 + x2))), (0, .ref y), (1, .int (iv x1)), (2, .int (iv x2)), (3, .int (iv x3))]) dX12_relax_51 (by decide) rfl ?_
      refine r_iload (pc := 53) dX12_relax_53 rfl ?_
      refine r_iload (pc := 55) dX12_relax_55 rfl ?_
      refine t_icmp_eq (pc := 57) (tgt := 148) dX12_relax_57 (by decide) (by omega) (by omega) (fun c57 => ?_) (fun c57 => ?_)
      · exact r_vret (pc := 148) dX12_relax_148 rfl ⟨rfl, rfl, De, By, Ah, ht2, by have et : (tlR (arF Fr x1) (arF To x1)) (jxR x2 x3) = (To (Int.toNat (60 * x1 + x2))) := (by rw [tl_V (show 0 ≤ x2 by omega)]; first | rw [if_pos (show x3 ≠ 0 by omega)] | rw [if_neg (show ¬ x3 ≠ 0 by omega)]); have eh : (hdR (arF Fr x1) (arF To x1)) (jxR x2 x3) = (Fr (Int.toNat (60 * x1 + x2))) := (by rw [hd_V (show 0 ≤ x2 by omega)]; first | rw [if_pos (show x3 ≠ 0 by omega)] | rw [if_neg (show ¬ x3 ≠ 0 by omega)]); have er := rm_V (Wt := Wt) (Dr := Dr) (Gn := Gn) (g := x1) (k := x2) (f := x3) (by omega); have ec := cs_V (Co := Co) (Gn := Gn) (g := x1) (k := x2) (f := x3) (by omega); left; refine ⟨?_, rfl, rfl, rfl⟩; unfold rlC; rw [et, eh, ← er, ← ec]; omega⟩
      · refine r_aload_n (pc := 60) dX12_relax_60 (i := 0) rfl rfl ?_
        refine t_getE (pc := 61) (.ref (y + 39)) ht2 (rd_ov (by omega) (rd_ov (by omega) (rd_ov (by omega) hO))) fX12_127 dX12_relax_61 rfl ?_
        refine r_iload (pc := 64) dX12_relax_64 rfl ?_
        refine t_laldX (pc := 66) (t0 := 1) ht2 (rd_ov (by omega) (rd_ov (by omega) (rd_of (ov_s _ _ _)))) dX12_relax_66 rfl (by decide) (by omega) ?_
        refine r_ldc2 (pc := 67) (v := 1000000000000) dX12_relax_67 kX12_251 ?_
        have hk67 : (1000000000000 : Int64).toInt = 1000000000000 := by decide
        refine r_lcmp (pc := 70) dX12_relax_70 ?_
        refine t_lif_ge (pc := 71) (tgt := 148) dX12_relax_71 (by decide) (fun c71 => ?_) (fun c71 => ?_)
        · exact r_vret (pc := 148) dX12_relax_148 rfl ⟨rfl, rfl, De, By, Ah, ht2, by have et : (tlR (arF Fr x1) (arF To x1)) (jxR x2 x3) = (To (Int.toNat (60 * x1 + x2))) := (by rw [tl_V (show 0 ≤ x2 by omega)]; first | rw [if_pos (show x3 ≠ 0 by omega)] | rw [if_neg (show ¬ x3 ≠ 0 by omega)]); have eh : (hdR (arF Fr x1) (arF To x1)) (jxR x2 x3) = (Fr (Int.toNat (60 * x1 + x2))) := (by rw [hd_V (show 0 ≤ x2 by omega)]; first | rw [if_pos (show x3 ≠ 0 by omega)] | rw [if_neg (show ¬ x3 ≠ 0 by omega)]); have er := rm_V (Wt := Wt) (Dr := Dr) (Gn := Gn) (g := x1) (k := x2) (f := x3) (by omega); have ec := cs_V (Co := Co) (Gn := Gn) (g := x1) (k := x2) (f := x3) (by omega); left; refine ⟨?_, rfl, rfl, rfl⟩; unfold rlC; rw [et, eh, ← er, ← ec]; omega⟩
        · refine r_aload_n (pc := 74) dX12_relax_74 (i := 0) rfl rfl ?_
          refine r_iload_n (pc := 75) dX12_relax_75 (i := 1) rfl rfl ?_
          refine r_iload_n (pc := 76) dX12_relax_76 (i := 2) rfl rfl ?_
          refine r_iload_n (pc := 77) dX12_relax_77 (i := 3) rfl rfl ?_
          refine t_callVI (pc := 78) (as := [.int (iv x1), .int (iv x2), .int (iv x3)]) (st := []) ht2 (rd_ov (by omega) (rd_ov (by omega) (rd_ov (by omega) hO))) kX12_380 rfl dX12_relax_78 (t_X12_roomOfx (d := d - 1) (x1 := x1) (x2 := x2) (x3 := x3) (by omega) (rd_ov (by omega) (rd_ov (by omega) (rd_ov (by omega) hO))) (rd_ov (by omega) (rd_ov (by omega) (rd_ov (by omega) hA_weight))) (show Rfx 7260 (-1000) 1000 Wt by assumption) (rd_ov (by omega) (rd_ov (by omega) (rd_ov (by omega) hA_directs))) (show Rfx 121 0 1 Dr by assumption) (rd_ov (by omega) (rd_ov (by omega) (rd_ov (by omega) hA_gone))) (show Rfx 60 (-1000) 1000 Gn by assumption) ht2 (by omega) (by omega) (by omega)) rfl (by omega) (Nat.le_of_ble_eq_true rfl) rfl (fun hp6 y8 ht7 by8 => ?_)
          have ey8 : y8 = rmV Wt Dr Gn x1 x2 x3 := by8
          subst ey8
          have ry8 := rm_b (Wt := Wt) (Dr := Dr) (Gn := Gn) (g := x1) (k := x2) (f := x3) (by assumption) (by assumption) (by omega) (by omega)
          refine t_if_le (pc := 81) (tgt := 148) dX12_relax_81 (by decide) (by omega) (fun c81 => ?_) (fun c81 => ?_)
          · exact r_vret (pc := 148) dX12_relax_148 rfl ⟨rfl, rfl, De, By, Ah, ht7, by have et : (tlR (arF Fr x1) (arF To x1)) (jxR x2 x3) = (To (Int.toNat (60 * x1 + x2))) := (by rw [tl_V (show 0 ≤ x2 by omega)]; first | rw [if_pos (show x3 ≠ 0 by omega)] | rw [if_neg (show ¬ x3 ≠ 0 by omega)]); have eh : (hdR (arF Fr x1) (arF To x1)) (jxR x2 x3) = (Fr (Int.toNat (60 * x1 + x2))) := (by rw [hd_V (show 0 ≤ x2 by omega)]; first | rw [if_pos (show x3 ≠ 0 by omega)] | rw [if_neg (show ¬ x3 ≠ 0 by omega)]); have er := rm_V (Wt := Wt) (Dr := Dr) (Gn := Gn) (g := x1) (k := x2) (f := x3) (by omega); have ec := cs_V (Co := Co) (Gn := Gn) (g := x1) (k := x2) (f := x3) (by omega); left; refine ⟨?_, rfl, rfl, rfl⟩; unfold rlC; rw [et, eh, ← er, ← ec]; omega⟩
          · refine r_aload_n (pc := 84) dX12_relax_84 (i := 0) rfl rfl ?_
            refine t_getE (pc := 85) (.ref (y + 39)) ht7 (rd_ov (by omega) (rd_ov (by omega) (rd_ov (by omega) hO))) fX12_127 dX12_relax_85 rfl ?_
            refine r_iload (pc := 88) dX12_relax_88 rfl ?_
            refine t_laldX (pc := 90) (t0 := 1) ht7 (rd_ov (by omega) (rd_ov (by omega) (rd_of (ov_s _ _ _)))) dX12_relax_90 rfl (by decide) (by omega) ?_
            refine r_aload_n (pc := 91) dX12_relax_91 (i := 0) rfl rfl ?_
            refine r_iload_n (pc := 92) dX12_relax_92 (i := 1) rfl rfl ?_
            refine r_iload_n (pc := 93) dX12_relax_93 (i := 2) rfl rfl ?_
            refine r_iload_n (pc := 94) dX12_relax_94 (i := 3) rfl rfl ?_
            refine t_callVJ (pc := 95) (as := [.int (iv x1), .int (iv x2), .int (iv x3)]) (st := [.long (De (Int.toNat (To (Int.toNat (60 * x1 + x2)))))]) ht7 (rd_ov (by omega) (rd_ov (by omega) (rd_ov (by omega) hO))) kX12_384 rfl dX12_relax_95 (t_X12_costOfx (d := d - 1) (x1 := x1) (x2 := x2) (x3 := x3) (by omega) (rd_ov (by omega) (rd_ov (by omega) (rd_ov (by omega) hO))) (rd_ov (by omega) (rd_ov (by omega) (rd_ov (by omega) hA_cost))) (show Rfx 7260 (-1000) 1000 Co by assumption) (rd_ov (by omega) (rd_ov (by omega) (rd_ov (by omega) hA_gone))) (show Rfx 60 (-1000) 1000 Gn by assumption) ht7 (by omega) (by omega) (by omega)) rfl (by omega) (Nat.le_of_ble_eq_true rfl) rfl (fun hp9 y11 ht10 by11 => ?_)
            have hcy11 : y11.toInt = csV Co Gn x1 x2 x3 := by11
            refine r_ladd (pc := 98) (v := (De (Int.toNat (To (Int.toNat (60 * x1 + x2))))) + y11) dX12_relax_98 rfl ?_
            have hb9 := hbd (Int.toNat (To (Int.toNat (60 * x1 + x2)))) (by omega)
            have hcb := cs_b (Gn := Gn) (g := x1) (k := x2) (f := x3) (show Rfx 7260 (-1000) 1000 Co by assumption) (by omega) (by omega)
            have hl9 := l_add (x := De (Int.toNat (To (Int.toNat (60 * x1 + x2))))) (y := y11) (by omega)
            refine r_aload_n (pc := 99) dX12_relax_99 (i := 0) rfl rfl ?_
            refine t_getE (pc := 100) (.ref (y + 39)) ht10 (rd_ov (by omega) (rd_ov (by omega) (rd_ov (by omega) hO))) fX12_127 dX12_relax_100 rfl ?_
            refine r_iload (pc := 103) dX12_relax_103 rfl ?_
            refine t_laldX (pc := 105) (t0 := 1) ht10 (rd_ov (by omega) (rd_ov (by omega) (rd_of (ov_s _ _ _)))) dX12_relax_105 rfl (by decide) (by omega) ?_
            refine r_lcmp (pc := 106) dX12_relax_106 ?_
            refine t_lif_ge (pc := 107) (tgt := 148) dX12_relax_107 (by decide) (fun c107 => ?_) (fun c107 => ?_)
            · exact r_vret (pc := 148) dX12_relax_148 rfl ⟨rfl, rfl, De, By, Ah, ht10, by have et : (tlR (arF Fr x1) (arF To x1)) (jxR x2 x3) = (To (Int.toNat (60 * x1 + x2))) := (by rw [tl_V (show 0 ≤ x2 by omega)]; first | rw [if_pos (show x3 ≠ 0 by omega)] | rw [if_neg (show ¬ x3 ≠ 0 by omega)]); have eh : (hdR (arF Fr x1) (arF To x1)) (jxR x2 x3) = (Fr (Int.toNat (60 * x1 + x2))) := (by rw [hd_V (show 0 ≤ x2 by omega)]; first | rw [if_pos (show x3 ≠ 0 by omega)] | rw [if_neg (show ¬ x3 ≠ 0 by omega)]); have er := rm_V (Wt := Wt) (Dr := Dr) (Gn := Gn) (g := x1) (k := x2) (f := x3) (by omega); have ec := cs_V (Co := Co) (Gn := Gn) (g := x1) (k := x2) (f := x3) (by omega); left; refine ⟨?_, rfl, rfl, rfl⟩; unfold rlC; rw [et, eh, ← er, ← ec]; omega⟩
            · refine r_aload_n (pc := 110) dX12_relax_110 (i := 0) rfl rfl ?_
              refine t_getE (pc := 111) (.ref (y + 39)) ht10 (rd_ov (by omega) (rd_ov (by omega) (rd_ov (by omega) hO))) fX12_127 dX12_relax_111 rfl ?_
              refine r_iload (pc := 114) dX12_relax_114 rfl ?_
              refine r_aload_n (pc := 116) dX12_relax_116 (i := 0) rfl rfl ?_
              refine t_getE (pc := 117) (.ref (y + 39)) ht10 (rd_ov (by omega) (rd_ov (by omega) (rd_ov (by omega) hO))) fX12_127 dX12_relax_117 rfl ?_
              refine r_iload (pc := 120) dX12_relax_120 rfl ?_
              refine t_laldX (pc := 122) (t0 := 1) ht10 (rd_ov (by omega) (rd_ov (by omega) (rd_of (ov_s _ _ _)))) dX12_relax_122 rfl (by decide) (by omega) ?_
              refine r_aload_n (pc := 123) dX12_relax_123 (i := 0) rfl rfl ?_
              refine r_iload_n (pc := 124) dX12_relax_124 (i := 1) rfl rfl ?_
              refine r_iload_n (pc := 125) dX12_relax_125 (i := 2) rfl rfl ?_
              refine r_iload_n (pc := 126) dX12_relax_126 (i := 3) rfl rfl ?_
              refine t_callVJ (pc := 127) (as := [.int (iv x1), .int (iv x2), .int (iv x3)]) (st := [.long (De (Int.toNat (To (Int.toNat (60 * x1 + x2))))), .int (iv (Fr (Int.toNat (60 * x1 + x2)))), .ref (y + 39)]) ht10 (rd_ov (by omega) (rd_ov (by omega) (rd_ov (by omega) hO))) kX12_384 rfl dX12_relax_127 (t_X12_costOfx (d := d - 1) (x1 := x1) (x2 := x2) (x3 := x3) (by omega) (rd_ov (by omega) (rd_ov (by omega) (rd_ov (by omega) hO))) (rd_ov (by omega) (rd_ov (by omega) (rd_ov (by omega) hA_cost))) (show Rfx 7260 (-1000) 1000 Co by assumption) (rd_ov (by omega) (rd_ov (by omega) (rd_ov (by omega) hA_gone))) (show Rfx 60 (-1000) 1000 Gn by assumption) ht10 (by omega) (by omega) (by omega)) rfl (by omega) (Nat.le_of_ble_eq_true rfl) rfl (fun hp12 y14 ht13 by14 => ?_)
              have hcy14 : y14.toInt = csV Co Gn x1 x2 x3 := by14
              refine r_ladd (pc := 130) (v := (De (Int.toNat (To (Int.toNat (60 * x1 + x2))))) + y14) dX12_relax_130 rfl ?_
              have hb9 := hbd (Int.toNat (To (Int.toNat (60 * x1 + x2)))) (by omega)
              have hcb := cs_b (Gn := Gn) (g := x1) (k := x2) (f := x3) (show Rfx 7260 (-1000) 1000 Co by assumption) (by omega) (by omega)
              have hl9 := l_add (x := De (Int.toNat (To (Int.toNat (60 * x1 + x2))))) (y := y14) (by omega)
              refine t_lastX (pc := 131) (t0 := 1) ht13 (eq_ov (by omega) (eq_ov (by omega) (ov_s _ _ _))) dX12_relax_131 rfl (by decide) (by omega) (fun hp15 ht16 => ?_)
              rw [ov_in3 (by omega) (by omega) ] at ht16
              refine r_aload_n (pc := 132) dX12_relax_132 (i := 0) rfl rfl ?_
              refine t_getE (pc := 133) (.ref (y + 40)) ht16 (rd_ov (by omega) (rd_ov (by omega) (rd_ov (by omega) hO))) fX12_130 dX12_relax_133 rfl ?_
              refine r_iload (pc := 136) dX12_relax_136 rfl ?_
              refine r_iload_n (pc := 138) dX12_relax_138 (i := 2) rfl rfl ?_
              refine t_iastX (pc := 139) (t0 := 0) ht16 (eq_ov (by omega) (ov_s _ _ _)) dX12_relax_139 rfl (by decide) (by omega) (by omega) (fun hp17 ht18 => ?_)
              rw [ov_in2 (by omega) ] at ht18
              refine r_aload_n (pc := 140) dX12_relax_140 (i := 0) rfl rfl ?_
              refine t_getE (pc := 141) (.ref (y + 41)) ht18 (rd_ov (by omega) (rd_ov (by omega) (rd_ov (by omega) hO))) fX12_133 dX12_relax_141 rfl ?_
              refine r_iload (pc := 144) dX12_relax_144 rfl ?_
              refine r_iload_n (pc := 146) dX12_relax_146 (i := 3) rfl rfl ?_
              refine t_zastX (pc := 147) (t0 := 2) ht18 (ov_s _ _ _) dX12_relax_147 rfl (by decide) (by omega) (by omega) (fun hp19 ht20 => ?_)
              rw [ov_ov] at ht20
              exact r_vret (pc := 148) dX12_relax_148 rfl ⟨rfl, rfl, _, _, _, ht20, by have et : (tlR (arF Fr x1) (arF To x1)) (jxR x2 x3) = (To (Int.toNat (60 * x1 + x2))) := (by rw [tl_V (show 0 ≤ x2 by omega)]; first | rw [if_pos (show x3 ≠ 0 by omega)] | rw [if_neg (show ¬ x3 ≠ 0 by omega)]); have eh : (hdR (arF Fr x1) (arF To x1)) (jxR x2 x3) = (Fr (Int.toNat (60 * x1 + x2))) := (by rw [hd_V (show 0 ≤ x2 by omega)]; first | rw [if_pos (show x3 ≠ 0 by omega)] | rw [if_neg (show ¬ x3 ≠ 0 by omega)]); have er := rm_V (Wt := Wt) (Dr := Dr) (Gn := Gn) (g := x1) (k := x2) (f := x3) (by omega); have ec := cs_V (Co := Co) (Gn := Gn) (g := x1) (k := x2) (f := x3) (by omega); right; unfold rlC; rw [et, eh, ← er, ← ec]; exact ⟨by omega, rfl, rfl, _, by omega, rfl⟩⟩
    · exfalso
      omega
  · refine r_aload_n (pc := 11) dX12_relax_11 (i := 0) rfl rfl ?_
    refine t_getE (pc := 12) (.ref (y + 5)) ht2 (rd_ov (by omega) (rd_ov (by omega) (rd_ov (by omega) hO))) fX12_23 dX12_relax_12 rfl ?_
    refine r_iload (pc := 15) dX12_relax_15 rfl ?_
    refine t_ialdX (pc := 17) (t0 := 0) ht2 (rd_ov (by omega) (rd_ov (by omega) (rd_ov (by omega) hA_from))) dX12_relax_17 rfl (by decide) (by omega) (fun b21 => ?_)
    have rb21 := (show Rfx 7260 0 15 Fr by assumption) (Int.toNat (60 * x1 + x2)) (by omega)
    refine r_goto (pc := 18) (tgt := 28) dX12_relax_18 (by decide) ?_
    refine r_istore (pc := 28) (lv' := [(5, .int (iv (Fr (Int.toNat (60 * x1 + x2))))), (4, .int (iv (60 * x1 + x2))), (0, .ref y), (1, .int (iv x1)), (2, .int (iv x2)), (3, .int (iv x3))]) dX12_relax_28 (by decide) rfl ?_
    refine r_iload_n (pc := 30) dX12_relax_30 (i := 3) rfl rfl ?_
    refine t_if_eq (pc := 31) (tgt := 44) dX12_relax_31 (by decide) (by omega) (fun c31 => ?_) (fun c31 => ?_)
    · exfalso
      omega
    · refine r_aload_n (pc := 34) dX12_relax_34 (i := 0) rfl rfl ?_
      refine t_getE (pc := 35) (.ref (y + 6)) ht2 (rd_ov (by omega) (rd_ov (by omega) (rd_ov (by omega) hO))) fX12_26 dX12_relax_35 rfl ?_
      refine r_iload (pc := 38) dX12_relax_38 rfl ?_
      refine t_ialdX (pc := 40) (t0 := 0) ht2 (rd_ov (by omega) (rd_ov (by omega) (rd_ov (by omega) hA_to))) dX12_relax_40 rfl (by decide) (by omega) (fun b22 => ?_)
      have rb22 := (show Rfx 7260 0 15 To by assumption) (Int.toNat (60 * x1 + x2)) (by omega)
      refine r_goto (pc := 41) (tgt := 51) dX12_relax_41 (by decide) ?_
      refine r_istore (pc := 51) (lv' := [(6, .int (iv (To (Int.toNat (60 * x1 + x2))))), (5, .int (iv (Fr (Int.toNat (60 * x1 + x2))))), (4, .int (iv (60 * x1 + x2))), (0, .ref y), (1, .int (iv x1)), (2, .int (iv x2)), (3, .int (iv x3))]) dX12_relax_51 (by decide) rfl ?_
      refine r_iload (pc := 53) dX12_relax_53 rfl ?_
      refine r_iload (pc := 55) dX12_relax_55 rfl ?_
      refine t_icmp_eq (pc := 57) (tgt := 148) dX12_relax_57 (by decide) (by omega) (by omega) (fun c57 => ?_) (fun c57 => ?_)
      · exact r_vret (pc := 148) dX12_relax_148 rfl ⟨rfl, rfl, De, By, Ah, ht2, by have et : (tlR (arF Fr x1) (arF To x1)) (jxR x2 x3) = (Fr (Int.toNat (60 * x1 + x2))) := (by rw [tl_V (show 0 ≤ x2 by omega)]; first | rw [if_pos (show x3 ≠ 0 by omega)] | rw [if_neg (show ¬ x3 ≠ 0 by omega)]); have eh : (hdR (arF Fr x1) (arF To x1)) (jxR x2 x3) = (To (Int.toNat (60 * x1 + x2))) := (by rw [hd_V (show 0 ≤ x2 by omega)]; first | rw [if_pos (show x3 ≠ 0 by omega)] | rw [if_neg (show ¬ x3 ≠ 0 by omega)]); have er := rm_V (Wt := Wt) (Dr := Dr) (Gn := Gn) (g := x1) (k := x2) (f := x3) (by omega); have ec := cs_V (Co := Co) (Gn := Gn) (g := x1) (k := x2) (f := x3) (by omega); left; refine ⟨?_, rfl, rfl, rfl⟩; unfold rlC; rw [et, eh, ← er, ← ec]; omega⟩
      · refine r_aload_n (pc := 60) dX12_relax_60 (i := 0) rfl rfl ?_
        refine t_getE (pc := 61) (.ref (y + 39)) ht2 (rd_ov (by omega) (rd_ov (by omega) (rd_ov (by omega) hO))) fX12_127 dX12_relax_61 rfl ?_
        refine r_iload (pc := 64) dX12_relax_64 rfl ?_
        refine t_laldX (pc := 66) (t0 := 1) ht2 (rd_ov (by omega) (rd_ov (by omega) (rd_of (ov_s _ _ _)))) dX12_relax_66 rfl (by decide) (by omega) ?_
        refine r_ldc2 (pc := 67) (v := 1000000000000) dX12_relax_67 kX12_251 ?_
        have hk67 : (1000000000000 : Int64).toInt = 1000000000000 := by decide
        refine r_lcmp (pc := 70) dX12_relax_70 ?_
        refine t_lif_ge (pc := 71) (tgt := 148) dX12_relax_71 (by decide) (fun c71 => ?_) (fun c71 => ?_)
        · exact r_vret (pc := 148) dX12_relax_148 rfl ⟨rfl, rfl, De, By, Ah, ht2, by have et : (tlR (arF Fr x1) (arF To x1)) (jxR x2 x3) = (Fr (Int.toNat (60 * x1 + x2))) := (by rw [tl_V (show 0 ≤ x2 by omega)]; first | rw [if_pos (show x3 ≠ 0 by omega)] | rw [if_neg (show ¬ x3 ≠ 0 by omega)]); have eh : (hdR (arF Fr x1) (arF To x1)) (jxR x2 x3) = (To (Int.toNat (60 * x1 + x2))) := (by rw [hd_V (show 0 ≤ x2 by omega)]; first | rw [if_pos (show x3 ≠ 0 by omega)] | rw [if_neg (show ¬ x3 ≠ 0 by omega)]); have er := rm_V (Wt := Wt) (Dr := Dr) (Gn := Gn) (g := x1) (k := x2) (f := x3) (by omega); have ec := cs_V (Co := Co) (Gn := Gn) (g := x1) (k := x2) (f := x3) (by omega); left; refine ⟨?_, rfl, rfl, rfl⟩; unfold rlC; rw [et, eh, ← er, ← ec]; omega⟩
        · refine r_aload_n (pc := 74) dX12_relax_74 (i := 0) rfl rfl ?_
          refine r_iload_n (pc := 75) dX12_relax_75 (i := 1) rfl rfl ?_
          refine r_iload_n (pc := 76) dX12_relax_76 (i := 2) rfl rfl ?_
          refine r_iload_n (pc := 77) dX12_relax_77 (i := 3) rfl rfl ?_
          refine t_callVI (pc := 78) (as := [.int (iv x1), .int (iv x2), .int (iv x3)]) (st := []) ht2 (rd_ov (by omega) (rd_ov (by omega) (rd_ov (by omega) hO))) kX12_380 rfl dX12_relax_78 (t_X12_roomOfx (d := d - 1) (x1 := x1) (x2 := x2) (x3 := x3) (by omega) (rd_ov (by omega) (rd_ov (by omega) (rd_ov (by omega) hO))) (rd_ov (by omega) (rd_ov (by omega) (rd_ov (by omega) hA_weight))) (show Rfx 7260 (-1000) 1000 Wt by assumption) (rd_ov (by omega) (rd_ov (by omega) (rd_ov (by omega) hA_directs))) (show Rfx 121 0 1 Dr by assumption) (rd_ov (by omega) (rd_ov (by omega) (rd_ov (by omega) hA_gone))) (show Rfx 60 (-1000) 1000 Gn by assumption) ht2 (by omega) (by omega) (by omega)) rfl (by omega) (Nat.le_of_ble_eq_true rfl) rfl (fun hp23 y25 ht24 by25 => ?_)
          have ey25 : y25 = rmV Wt Dr Gn x1 x2 x3 := by25
          subst ey25
          have ry25 := rm_b (Wt := Wt) (Dr := Dr) (Gn := Gn) (g := x1) (k := x2) (f := x3) (by assumption) (by assumption) (by omega) (by omega)
          refine t_if_le (pc := 81) (tgt := 148) dX12_relax_81 (by decide) (by omega) (fun c81 => ?_) (fun c81 => ?_)
          · exact r_vret (pc := 148) dX12_relax_148 rfl ⟨rfl, rfl, De, By, Ah, ht24, by have et : (tlR (arF Fr x1) (arF To x1)) (jxR x2 x3) = (Fr (Int.toNat (60 * x1 + x2))) := (by rw [tl_V (show 0 ≤ x2 by omega)]; first | rw [if_pos (show x3 ≠ 0 by omega)] | rw [if_neg (show ¬ x3 ≠ 0 by omega)]); have eh : (hdR (arF Fr x1) (arF To x1)) (jxR x2 x3) = (To (Int.toNat (60 * x1 + x2))) := (by rw [hd_V (show 0 ≤ x2 by omega)]; first | rw [if_pos (show x3 ≠ 0 by omega)] | rw [if_neg (show ¬ x3 ≠ 0 by omega)]); have er := rm_V (Wt := Wt) (Dr := Dr) (Gn := Gn) (g := x1) (k := x2) (f := x3) (by omega); have ec := cs_V (Co := Co) (Gn := Gn) (g := x1) (k := x2) (f := x3) (by omega); left; refine ⟨?_, rfl, rfl, rfl⟩; unfold rlC; rw [et, eh, ← er, ← ec]; omega⟩
          · refine r_aload_n (pc := 84) dX12_relax_84 (i := 0) rfl rfl ?_
            refine t_getE (pc := 85) (.ref (y + 39)) ht24 (rd_ov (by omega) (rd_ov (by omega) (rd_ov (by omega) hO))) fX12_127 dX12_relax_85 rfl ?_
            refine r_iload (pc := 88) dX12_relax_88 rfl ?_
            refine t_laldX (pc := 90) (t0 := 1) ht24 (rd_ov (by omega) (rd_ov (by omega) (rd_of (ov_s _ _ _)))) dX12_relax_90 rfl (by decide) (by omega) ?_
            refine r_aload_n (pc := 91) dX12_relax_91 (i := 0) rfl rfl ?_
            refine r_iload_n (pc := 92) dX12_relax_92 (i := 1) rfl rfl ?_
            refine r_iload_n (pc := 93) dX12_relax_93 (i := 2) rfl rfl ?_
            refine r_iload_n (pc := 94) dX12_relax_94 (i := 3) rfl rfl ?_
            refine t_callVJ (pc := 95) (as := [.int (iv x1), .int (iv x2), .int (iv x3)]) (st := [.long (De (Int.toNat (Fr (Int.toNat (60 * x1 + x2)))))]) ht24 (rd_ov (by omega) (rd_ov (by omega) (rd_ov (by omega) hO))) kX12_384 rfl dX12_relax_95 (t_X12_costOfx (d := d - 1) (x1 := x1) (x2 := x2) (x3 := x3) (by omega) (rd_ov (by omega) (rd_ov (by omega) (rd_ov (by omega) hO))) (rd_ov (by omega) (rd_ov (by omega) (rd_ov (by omega) hA_cost))) (show Rfx 7260 (-1000) 1000 Co by assumption) (rd_ov (by omega) (rd_ov (by omega) (rd_ov (by omega) hA_gone))) (show Rfx 60 (-1000) 1000 Gn by assumption) ht24 (by omega) (by omega) (by omega)) rfl (by omega) (Nat.le_of_ble_eq_true rfl) rfl (fun hp26 y28 ht27 by28 => ?_)
            have hcy28 : y28.toInt = csV Co Gn x1 x2 x3 := by28
            refine r_ladd (pc := 98) (v := (De (Int.toNat (Fr (Int.toNat (60 * x1 + x2))))) + y28) dX12_relax_98 rfl ?_
            have hb9 := hbd (Int.toNat (Fr (Int.toNat (60 * x1 + x2)))) (by omega)
            have hcb := cs_b (Gn := Gn) (g := x1) (k := x2) (f := x3) (show Rfx 7260 (-1000) 1000 Co by assumption) (by omega) (by omega)
            have hl9 := l_add (x := De (Int.toNat (Fr (Int.toNat (60 * x1 + x2))))) (y := y28) (by omega)
            refine r_aload_n (pc := 99) dX12_relax_99 (i := 0) rfl rfl ?_
            refine t_getE (pc := 100) (.ref (y + 39)) ht27 (rd_ov (by omega) (rd_ov (by omega) (rd_ov (by omega) hO))) fX12_127 dX12_relax_100 rfl ?_
            refine r_iload (pc := 103) dX12_relax_103 rfl ?_
            refine t_laldX (pc := 105) (t0 := 1) ht27 (rd_ov (by omega) (rd_ov (by omega) (rd_of (ov_s _ _ _)))) dX12_relax_105 rfl (by decide) (by omega) ?_
            refine r_lcmp (pc := 106) dX12_relax_106 ?_
            refine t_lif_ge (pc := 107) (tgt := 148) dX12_relax_107 (by decide) (fun c107 => ?_) (fun c107 => ?_)
            · exact r_vret (pc := 148) dX12_relax_148 rfl ⟨rfl, rfl, De, By, Ah, ht27, by have et : (tlR (arF Fr x1) (arF To x1)) (jxR x2 x3) = (Fr (Int.toNat (60 * x1 + x2))) := (by rw [tl_V (show 0 ≤ x2 by omega)]; first | rw [if_pos (show x3 ≠ 0 by omega)] | rw [if_neg (show ¬ x3 ≠ 0 by omega)]); have eh : (hdR (arF Fr x1) (arF To x1)) (jxR x2 x3) = (To (Int.toNat (60 * x1 + x2))) := (by rw [hd_V (show 0 ≤ x2 by omega)]; first | rw [if_pos (show x3 ≠ 0 by omega)] | rw [if_neg (show ¬ x3 ≠ 0 by omega)]); have er := rm_V (Wt := Wt) (Dr := Dr) (Gn := Gn) (g := x1) (k := x2) (f := x3) (by omega); have ec := cs_V (Co := Co) (Gn := Gn) (g := x1) (k := x2) (f := x3) (by omega); left; refine ⟨?_, rfl, rfl, rfl⟩; unfold rlC; rw [et, eh, ← er, ← ec]; omega⟩
            · refine r_aload_n (pc := 110) dX12_relax_110 (i := 0) rfl rfl ?_
              refine t_getE (pc := 111) (.ref (y + 39)) ht27 (rd_ov (by omega) (rd_ov (by omega) (rd_ov (by omega) hO))) fX12_127 dX12_relax_111 rfl ?_
              refine r_iload (pc := 114) dX12_relax_114 rfl ?_
              refine r_aload_n (pc := 116) dX12_relax_116 (i := 0) rfl rfl ?_
              refine t_getE (pc := 117) (.ref (y + 39)) ht27 (rd_ov (by omega) (rd_ov (by omega) (rd_ov (by omega) hO))) fX12_127 dX12_relax_117 rfl ?_
              refine r_iload (pc := 120) dX12_relax_120 rfl ?_
              refine t_laldX (pc := 122) (t0 := 1) ht27 (rd_ov (by omega) (rd_ov (by omega) (rd_of (ov_s _ _ _)))) dX12_relax_122 rfl (by decide) (by omega) ?_
              refine r_aload_n (pc := 123) dX12_relax_123 (i := 0) rfl rfl ?_
              refine r_iload_n (pc := 124) dX12_relax_124 (i := 1) rfl rfl ?_
              refine r_iload_n (pc := 125) dX12_relax_125 (i := 2) rfl rfl ?_
              refine r_iload_n (pc := 126) dX12_relax_126 (i := 3) rfl rfl ?_
              refine t_callVJ (pc := 127) (as := [.int (iv x1), .int (iv x2), .int (iv x3)]) (st := [.long (De (Int.toNat (Fr (Int.toNat (60 * x1 + x2))))), .int (iv (To (Int.toNat (60 * x1 + x2)))), .ref (y + 39)]) ht27 (rd_ov (by omega) (rd_ov (by omega) (rd_ov (by omega) hO))) kX12_384 rfl dX12_relax_127 (t_X12_costOfx (d := d - 1) (x1 := x1) (x2 := x2) (x3 := x3) (by omega) (rd_ov (by omega) (rd_ov (by omega) (rd_ov (by omega) hO))) (rd_ov (by omega) (rd_ov (by omega) (rd_ov (by omega) hA_cost))) (show Rfx 7260 (-1000) 1000 Co by assumption) (rd_ov (by omega) (rd_ov (by omega) (rd_ov (by omega) hA_gone))) (show Rfx 60 (-1000) 1000 Gn by assumption) ht27 (by omega) (by omega) (by omega)) rfl (by omega) (Nat.le_of_ble_eq_true rfl) rfl (fun hp29 y31 ht30 by31 => ?_)
              have hcy31 : y31.toInt = csV Co Gn x1 x2 x3 := by31
              refine r_ladd (pc := 130) (v := (De (Int.toNat (Fr (Int.toNat (60 * x1 + x2))))) + y31) dX12_relax_130 rfl ?_
              have hb9 := hbd (Int.toNat (Fr (Int.toNat (60 * x1 + x2)))) (by omega)
              have hcb := cs_b (Gn := Gn) (g := x1) (k := x2) (f := x3) (show Rfx 7260 (-1000) 1000 Co by assumption) (by omega) (by omega)
              have hl9 := l_add (x := De (Int.toNat (Fr (Int.toNat (60 * x1 + x2))))) (y := y31) (by omega)
              refine t_lastX (pc := 131) (t0 := 1) ht30 (eq_ov (by omega) (eq_ov (by omega) (ov_s _ _ _))) dX12_relax_131 rfl (by decide) (by omega) (fun hp32 ht33 => ?_)
              rw [ov_in3 (by omega) (by omega) ] at ht33
              refine r_aload_n (pc := 132) dX12_relax_132 (i := 0) rfl rfl ?_
              refine t_getE (pc := 133) (.ref (y + 40)) ht33 (rd_ov (by omega) (rd_ov (by omega) (rd_ov (by omega) hO))) fX12_130 dX12_relax_133 rfl ?_
              refine r_iload (pc := 136) dX12_relax_136 rfl ?_
              refine r_iload_n (pc := 138) dX12_relax_138 (i := 2) rfl rfl ?_
              refine t_iastX (pc := 139) (t0 := 0) ht33 (eq_ov (by omega) (ov_s _ _ _)) dX12_relax_139 rfl (by decide) (by omega) (by omega) (fun hp34 ht35 => ?_)
              rw [ov_in2 (by omega) ] at ht35
              refine r_aload_n (pc := 140) dX12_relax_140 (i := 0) rfl rfl ?_
              refine t_getE (pc := 141) (.ref (y + 41)) ht35 (rd_ov (by omega) (rd_ov (by omega) (rd_ov (by omega) hO))) fX12_133 dX12_relax_141 rfl ?_
              refine r_iload (pc := 144) dX12_relax_144 rfl ?_
              refine r_iload_n (pc := 146) dX12_relax_146 (i := 3) rfl rfl ?_
              refine t_zastX (pc := 147) (t0 := 2) ht35 (ov_s _ _ _) dX12_relax_147 rfl (by decide) (by omega) (by omega) (fun hp36 ht37 => ?_)
              rw [ov_ov] at ht37
              exact r_vret (pc := 148) dX12_relax_148 rfl ⟨rfl, rfl, _, _, _, ht37, by have et : (tlR (arF Fr x1) (arF To x1)) (jxR x2 x3) = (Fr (Int.toNat (60 * x1 + x2))) := (by rw [tl_V (show 0 ≤ x2 by omega)]; first | rw [if_pos (show x3 ≠ 0 by omega)] | rw [if_neg (show ¬ x3 ≠ 0 by omega)]); have eh : (hdR (arF Fr x1) (arF To x1)) (jxR x2 x3) = (To (Int.toNat (60 * x1 + x2))) := (by rw [hd_V (show 0 ≤ x2 by omega)]; first | rw [if_pos (show x3 ≠ 0 by omega)] | rw [if_neg (show ¬ x3 ≠ 0 by omega)]); have er := rm_V (Wt := Wt) (Dr := Dr) (Gn := Gn) (g := x1) (k := x2) (f := x3) (by omega); have ec := cs_V (Co := Co) (Gn := Gn) (g := x1) (k := x2) (f := x3) (by omega); right; unfold rlC; rw [et, eh, ← er, ← ec]; exact ⟨by omega, rfl, rfl, _, by omega, rfl⟩⟩
