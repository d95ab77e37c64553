theorem PL_add {hh : Nat → List A4} {l : List A4} {v ka k1 bb : Int} {kf kt kw kc f1 t1 w1 c1 : Nat → Int} {a b x z : Int} (h : PL (l ++ acc hh v.toNat) ka kf kt kw kc) (h0 : 0 ≤ v) (he : hh v.toNat = [(a, b, x, z)]) (c0 : (bb = 1 ∧ ka < 60 ∧ k1 = ka + 1) ∨ (bb = 0 ∧ 60 ≤ ka ∧ k1 = ka)) (c1' : ka < 60 → f1 = fup kf (Int.toNat ka) a ∧ t1 = fup kt (Int.toNat ka) b ∧ w1 = fup kw (Int.toNat ka) x ∧ c1 = fup kc (Int.toNat ka) z) (hlt : ka < 60) : PL (l ++ acc hh (v + 1).toNat) k1 f1 t1 w1 c1 := by
  obtain ⟨e1, e2, e3, e4⟩ := c1' hlt
  have ek : k1 = ka + 1 := by omega
  subst ek e1 e2 e3 e4
  exact PL_y h h0 he
/-- more arcs than there is room for -/
theorem PL_over {g h : Nat → List A4} {a b : Int} {A N : Nat} {ka : Int} {kf kt kw kc : Nat → Int} {e : A4} (hp : PL (acc g a.toNat ++ acc h b.toNat) ka kf kt kw kc) (hk : 60 ≤ ka) (he : h b.toNat = [e]) (hg : g a.toNat = acc h N) (hb : b.toNat < N) (ha : a.toNat < A) : 60 < ((acc g A).length : Int) := by
  have h1 := hp.1
  rw [List.length_append] at h1
  have h2 := acc_mono (h := h) (j := b.toNat + 1) (k := N) (by omega)
  have h3 : (acc h (b.toNat + 1)).length = (acc h b.toNat).length + 1 := by
    show (acc h b.toNat ++ h b.toNat).length = _
    rw [List.length_append, he]; rfl
  have h4 := acc_mono (h := g) (j := a.toNat + 1) (k := A) (by omega)
  have h5 : (acc g (a.toNat + 1)).length = (acc g a.toNat).length + (acc h N).length := by
    show (acc g a.toNat ++ g a.toNat).length = _
    rw [List.length_append, hg]
  omega
/-- what a drawn view is: its list where it has room -/
def drwP (l : List A4) (bb k1 : Int) (f1 t1 w1 c1 : Nat → Int) : Prop := ((l.length : Int) ≤ 60 → bb = 1 ∧ PL l k1 f1 t1 w1 c1) ∧ (60 < (l.length : Int) → bb = 0)
theorem dr_y {l : List A4} {k1 : Int} {f1 t1 w1 c1 : Nat → Int} (h : PL l k1 f1 t1 w1 c1) (hk : k1 ≤ 60) : drwP l 1 k1 f1 t1 w1 c1 := ⟨fun _ => ⟨rfl, h⟩, fun h9 => by have := h.1; omega⟩
theorem dr_n {l : List A4} {k1 : Int} {f1 t1 w1 c1 : Nat → Int} (h : 60 < (l.length : Int)) : drwP l 0 k1 f1 t1 w1 c1 := ⟨fun h9 => by omega, fun _ => rfl⟩
theorem ln_end {m : Nat} {d : Int} {F T : Nat → Int} {i : Nat} {v : Int} (hv : (m : Int) ≤ v ∧ v ≤ (m : Int) + 1) : lnL m d F T i = acc (lnR d F T i) m := rfl
/-- a word that omega doesn't open -/
def hid (p : Prop) : Prop := p
theorem hid_i {p : Prop} (h : p) : hid p := h
theorem hid_o {p : Prop} (h : hid p) : p := h
theorem mt_y0 {d : Int} {F T : Nat → Int} {i j : Nat} (h0 : d = 0) (h1 : i < j) (h2 : F i = F j ∨ F i = T j ∨ T i = F j ∨ T i = T j) : mtP d F T i j := ⟨fun h => absurd h0 h, fun _ => ⟨h1, h2⟩⟩
theorem mt_y1 {d : Int} {F T : Nat → Int} {i j : Nat} (h0 : d ≠ 0) (h1 : T i = F j) : mtP d F T i j := ⟨fun _ => h1, fun h => absurd h h0⟩
theorem mt_n0 {d : Int} {F T : Nat → Int} {i j : Nat} (h0 : d = 0) (h2 : ¬ (F i = F j ∨ F i = T j ∨ T i = F j ∨ T i = T j)) : ¬ mtP d F T i j := fun h => h2 (h.2 h0).2
theorem mt_n1 {d : Int} {F T : Nat → Int} {i j : Nat} (h0 : d ≠ 0) (h1 : T i ≠ F j) : ¬ mtP d F T i j := fun h => h1 (h.1 h0)
theorem drw_b {l : List A4} {bb k1 : Int} {f1 t1 w1 c1 : Nat → Int} (h : drwP l bb k1 f1 t1 w1 c1) : bb = 0 ∨ bb = 1 := by
  rcases Int.lt_or_le 60 (l.length : Int) with h9 | h9
  · exact Or.inl (h.2 h9)
  · exact Or.inr (h.1 h9).1
def DXL (cI cJ cZ cT : ClassId) (s : Nat) (kn : Int) (kd : Int) (ka : Int) (kf : Nat → Int) (kt : Nat → Int) (kw : Nat → Int) (kc : Nat → Int) (lt : Nat → Int) : List (va_E → Prop) := [tO 1 (dfF s kn kd ka), xI cI 60 kf, xI cI 60 kt, xI cI 60 kw, xI cI 60 kc, xI cI 256 lt]
def DX (Γ : TG) (cI cJ cZ cT : ClassId) (s : Nat) (kn : Int) (kd : Int) (ka : Int) (kf : Nat → Int) (kt : Nat → Int) (kw : Nat → Int) (kc : Nat → Int) (lt : Nat → Int) : TG := fun q => if s ≤ q ∧ q < s + 6 then (DXL cI cJ cZ cT s kn kd ka kf kt kw kc lt)[q - s]? else Γ q
theorem DX_e {Γ : TG} {cI cJ cZ cT : ClassId} {s : Nat} {kn : Int} {kd : Int} {ka : Int} {kf : Nat → Int} {kt : Nat → Int} {kw : Nat → Int} {kc : Nat → Int} {lt : Nat → Int} (j : Nat) {T : va_E → Prop} (hj : j < 6) (h : (DXL cI cJ cZ cT s kn kd ka kf kt kw kc lt)[j]? = some T) : DX Γ cI cJ cZ cT s kn kd ka kf kt kw kc lt (s + j) = some T := by
  unfold DX
  rw [if_pos (by omega), Nat.add_sub_cancel_left]
  exact h
theorem DX_o {Γ : TG} {cI cJ cZ cT : ClassId} {s : Nat} {kn : Int} {kd : Int} {ka : Int} {kf : Nat → Int} {kt : Nat → Int} {kw : Nat → Int} {kc : Nat → Int} {lt : Nat → Int} {q : Nat} (h : q < s ∨ s + 6 ≤ q) : DX Γ cI cJ cZ cT s kn kd ka kf kt kw kc lt q = Γ q := by
  unfold DX
  rw [if_neg (by omega)]
theorem rd_DX {Γ : TG} {cI cJ cZ cT : ClassId} {s : Nat} {kn : Int} {kd : Int} {ka : Int} {kf : Nat → Int} {kt : Nat → Int} {kw : Nat → Int} {kc : Nat → Int} {lt : Nat → Int} {q : Nat} {T : va_E → Prop} (h : q < s ∨ s + 6 ≤ q) (hr : rd Γ q T) : rd (DX Γ cI cJ cZ cT s kn kd ka kf kt kw kc lt) q T := by
  obtain ⟨T0, h0, h1⟩ := hr
  exact ⟨T0, by rw [DX_o h]; exact h0, h1⟩
theorem eq_DX {Γ : TG} {cI cJ cZ cT : ClassId} {s : Nat} {kn : Int} {kd : Int} {ka : Int} {kf : Nat → Int} {kt : Nat → Int} {kw : Nat → Int} {kc : Nat → Int} {lt : Nat → Int} {q : Nat} {T : va_E → Prop} (h : q < s ∨ s + 6 ≤ q) (hr : Γ q = some T) : DX Γ cI cJ cZ cT s kn kd ka kf kt kw kc lt q = some T := by
  rw [DX_o h]; exact hr
theorem DX_w {Γ : TG} {cI cJ cZ cT : ClassId} {s : Nat} {kn : Int} {kd : Int} {ka : Int} {kf : Nat → Int} {kt : Nat → Int} {kw : Nat → Int} {kc : Nat → Int} {lt : Nat → Int} {kn1 : Int} {kd1 : Int} {ka1 : Int} {kf1 : Nat → Int} {kt1 : Nat → Int} {kw1 : Nat → Int} {kc1 : Nat → Int} {lt1 : Nat → Int} {hp : MH} (j : Nat) {T : va_E → Prop} (hj : j < 6) (h : DXL cI cJ cZ cT s kn1 kd1 ka1 kf1 kt1 kw1 kc1 lt1 = (DXL cI cJ cZ cT s kn kd ka kf kt kw kc lt).set j T) (ht : Tw (ov (DX Γ cI cJ cZ cT s kn kd ka kf kt kw kc lt) (s + j) T) hp) : Tw (DX Γ cI cJ cZ cT s kn1 kd1 ka1 kf1 kt1 kw1 kc1 lt1) hp := by
  have e : ov (DX Γ cI cJ cZ cT s kn kd ka kf kt kw kc lt) (s + j) T = DX Γ cI cJ cZ cT s kn1 kd1 ka1 kf1 kt1 kw1 kc1 lt1 := by
    funext q
    by_cases hq : q = s + j
    · subst hq
      rw [ov_s]
      unfold DX
      rw [if_pos (by omega), Nat.add_sub_cancel_left, h, List.getElem?_set_self (Nat.lt_of_lt_of_eq hj rfl)]
    · rw [ov_o _ _ hq]
      unfold DX
      by_cases hr : s ≤ q ∧ q < s + 6
      · rw [if_pos hr, if_pos hr, h, List.getElem?_set_ne (by omega)]
      · rw [if_neg hr, if_neg hr]
  rw [e] at ht
  exact ht
theorem DX_0 {Γ : TG} {cI cJ cZ cT : ClassId} {s : Nat} {kn : Int} {kd : Int} {ka : Int} {kf : Nat → Int} {kt : Nat → Int} {kw : Nat → Int} {kc : Nat → Int} {lt : Nat → Int} : DX Γ cI cJ cZ cT s kn kd ka kf kt kw kc lt s = some (tO 1 (dfF s kn kd ka)) := DX_e 0 (by decide) rfl
theorem DX_1 {Γ : TG} {cI cJ cZ cT : ClassId} {s : Nat} {kn : Int} {kd : Int} {ka : Int} {kf : Nat → Int} {kt : Nat → Int} {kw : Nat → Int} {kc : Nat → Int} {lt : Nat → Int} : DX Γ cI cJ cZ cT s kn kd ka kf kt kw kc lt (s + 1) = some (xI cI 60 kf) := DX_e 1 (by decide) rfl
theorem DX_2 {Γ : TG} {cI cJ cZ cT : ClassId} {s : Nat} {kn : Int} {kd : Int} {ka : Int} {kf : Nat → Int} {kt : Nat → Int} {kw : Nat → Int} {kc : Nat → Int} {lt : Nat → Int} : DX Γ cI cJ cZ cT s kn kd ka kf kt kw kc lt (s + 2) = some (xI cI 60 kt) := DX_e 2 (by decide) rfl
theorem DX_3 {Γ : TG} {cI cJ cZ cT : ClassId} {s : Nat} {kn : Int} {kd : Int} {ka : Int} {kf : Nat → Int} {kt : Nat → Int} {kw : Nat → Int} {kc : Nat → Int} {lt : Nat → Int} : DX Γ cI cJ cZ cT s kn kd ka kf kt kw kc lt (s + 3) = some (xI cI 60 kw) := DX_e 3 (by decide) rfl
theorem DX_4 {Γ : TG} {cI cJ cZ cT : ClassId} {s : Nat} {kn : Int} {kd : Int} {ka : Int} {kf : Nat → Int} {kt : Nat → Int} {kw : Nat → Int} {kc : Nat → Int} {lt : Nat → Int} : DX Γ cI cJ cZ cT s kn kd ka kf kt kw kc lt (s + 4) = some (xI cI 60 kc) := DX_e 4 (by decide) rfl
theorem DX_5 {Γ : TG} {cI cJ cZ cT : ClassId} {s : Nat} {kn : Int} {kd : Int} {ka : Int} {kf : Nat → Int} {kt : Nat → Int} {kw : Nat → Int} {kc : Nat → Int} {lt : Nat → Int} : DX Γ cI cJ cZ cT s kn kd ka kf kt kw kc lt (s + 5) = some (xI cI 256 lt) := DX_e 5 (by decide) rfl
theorem DXw_kf {Γ : TG} {cI cJ cZ cT : ClassId} {s : Nat} {kn : Int} {kd : Int} {ka : Int} {kf : Nat → Int} {kt : Nat → Int} {kw : Nat → Int} {kc : Nat → Int} {lt : Nat → Int} {hp : MH} {f : Nat → Int} (ht : Tw (ov (DX Γ cI cJ cZ cT s kn kd ka kf kt kw kc lt) (s + 1) (xI cI 60 f)) hp) : Tw (DX Γ cI cJ cZ cT s kn kd ka f kt kw kc lt) hp := DX_w 1 (by decide) rfl ht
theorem DXw_kt {Γ : TG} {cI cJ cZ cT : ClassId} {s : Nat} {kn : Int} {kd : Int} {ka : Int} {kf : Nat → Int} {kt : Nat → Int} {kw : Nat → Int} {kc : Nat → Int} {lt : Nat → Int} {hp : MH} {f : Nat → Int} (ht : Tw (ov (DX Γ cI cJ cZ cT s kn kd ka kf kt kw kc lt) (s + 2) (xI cI 60 f)) hp) : Tw (DX Γ cI cJ cZ cT s kn kd ka kf f kw kc lt) hp := DX_w 2 (by decide) rfl ht
theorem DXw_kw {Γ : TG} {cI cJ cZ cT : ClassId} {s : Nat} {kn : Int} {kd : Int} {ka : Int} {kf : Nat → Int} {kt : Nat → Int} {kw : Nat → Int} {kc : Nat → Int} {lt : Nat → Int} {hp : MH} {f : Nat → Int} (ht : Tw (ov (DX Γ cI cJ cZ cT s kn kd ka kf kt kw kc lt) (s + 3) (xI cI 60 f)) hp) : Tw (DX Γ cI cJ cZ cT s kn kd ka kf kt f kc lt) hp := DX_w 3 (by decide) rfl ht
theorem DXw_kc {Γ : TG} {cI cJ cZ cT : ClassId} {s : Nat} {kn : Int} {kd : Int} {ka : Int} {kf : Nat → Int} {kt : Nat → Int} {kw : Nat → Int} {kc : Nat → Int} {lt : Nat → Int} {hp : MH} {f : Nat → Int} (ht : Tw (ov (DX Γ cI cJ cZ cT s kn kd ka kf kt kw kc lt) (s + 4) (xI cI 60 f)) hp) : Tw (DX Γ cI cJ cZ cT s kn kd ka kf kt kw f lt) hp := DX_w 4 (by decide) rfl ht
theorem DXw_lt {Γ : TG} {cI cJ cZ cT : ClassId} {s : Nat} {kn : Int} {kd : Int} {ka : Int} {kf : Nat → Int} {kt : Nat → Int} {kw : Nat → Int} {kc : Nat → Int} {lt : Nat → Int} {hp : MH} {f : Nat → Int} (ht : Tw (ov (DX Γ cI cJ cZ cT s kn kd ka kf kt kw kc lt) (s + 5) (xI cI 256 f)) hp) : Tw (DX Γ cI cJ cZ cT s kn kd ka kf kt kw kc f) hp := DX_w 5 (by decide) rfl ht
theorem DXw_kn {Γ : TG} {cI cJ cZ cT : ClassId} {s : Nat} {kn : Int} {kd : Int} {ka : Int} {kf : Nat → Int} {kt : Nat → Int} {kw : Nat → Int} {kc : Nat → Int} {lt : Nat → Int} {hp : MH} {f : Int} (ht : Tw (ov (DX Γ cI cJ cZ cT s kn kd ka kf kt kw kc lt) s (tO 1 ((dfF s kn kd ka).set 0 (fE (.int (iv f)))))) hp) : Tw (DX Γ cI cJ cZ cT s f kd ka kf kt kw kc lt) hp := DX_w 0 (by decide) rfl ht
theorem DXw_kd {Γ : TG} {cI cJ cZ cT : ClassId} {s : Nat} {kn : Int} {kd : Int} {ka : Int} {kf : Nat → Int} {kt : Nat → Int} {kw : Nat → Int} {kc : Nat → Int} {lt : Nat → Int} {hp : MH} {f : Int} (ht : Tw (ov (DX Γ cI cJ cZ cT s kn kd ka kf kt kw kc lt) s (tO 1 ((dfF s kn kd ka).set 1 (fE (.int (iv f)))))) hp) : Tw (DX Γ cI cJ cZ cT s kn f ka kf kt kw kc lt) hp := DX_w 0 (by decide) rfl ht
theorem DXw_ka {Γ : TG} {cI cJ cZ cT : ClassId} {s : Nat} {kn : Int} {kd : Int} {ka : Int} {kf : Nat → Int} {kt : Nat → Int} {kw : Nat → Int} {kc : Nat → Int} {lt : Nat → Int} {hp : MH} {f : Int} (ht : Tw (ov (DX Γ cI cJ cZ cT s kn kd ka kf kt kw kc lt) s (tO 1 ((dfF s kn kd ka).set 2 (fE (.int (iv f)))))) hp) : Tw (DX Γ cI cJ cZ cT s kn kd f kf kt kw kc lt) hp := DX_w 0 (by decide) rfl ht
theorem TyG.dx {Γ : TG} {cI cJ cZ cT : ClassId} {ga : Nat} {gF : Nat} {gT : Nat} {gW : Nat} {gC : Nat} {gTl : Nat} {gHd : Nat} {gBy : Nat} {gOu : Nat} {gIn : Nat} {gJo : Nat} {gn : Nat} {gm : Nat} {gq : Nat} {gdr : Int} {s : Nat} {kn : Int} {kd : Int} {ka : Int} {kf : Nat → Int} {kt : Nat → Int} {kw : Nat → Int} {kc : Nat → Int} {lt : Nat → Int} (hlt : s + 6 ≤ ga ∧ s + 6 ≤ gF ∧ s + 6 ≤ gT ∧ s + 6 ≤ gW ∧ s + 6 ≤ gC ∧ s + 6 ≤ gTl ∧ s + 6 ≤ gHd ∧ s + 6 ≤ gBy ∧ s + 6 ≤ gOu ∧ s + 6 ≤ gIn ∧ s + 6 ≤ gJo) (h : TyG Γ cI cJ cZ ga gF gT gW gC gTl gHd gBy gOu gIn gJo gn gm gq gdr) : TyG (DX Γ cI cJ cZ cT s kn kd ka kf kt kw kc lt) cI cJ cZ ga gF gT gW gC gTl gHd gBy gOu gIn gJo gn gm gq gdr := ⟨rd_DX (by omega) h.1, rd_DX (by omega) h.2.1, rd_DX (by omega) h.2.2.1, rd_DX (by omega) h.2.2.2.1, rd_DX (by omega) h.2.2.2.2.1, rd_DX (by omega) h.2.2.2.2.2.1, rd_DX (by omega) h.2.2.2.2.2.2.1, rd_DX (by omega) h.2.2.2.2.2.2.2.1, rd_DX (by omega) h.2.2.2.2.2.2.2.2.1, rd_DX (by omega) h.2.2.2.2.2.2.2.2.2.1, rd_DX (by omega) h.2.2.2.2.2.2.2.2.2.2.1, h.2.2.2.2.2.2.2.2.2.2.2⟩
theorem TyP.dx {Γ : TG} {cI cJ cZ cT : ClassId} {ga : Nat} {gN : Nat} {gO : Nat} {gn : Nat} {gz : Nat} {s : Nat} {kn : Int} {kd : Int} {ka : Int} {kf : Nat → Int} {kt : Nat → Int} {kw : Nat → Int} {kc : Nat → Int} {lt : Nat → Int} (hlt : s + 6 ≤ ga ∧ s + 6 ≤ gN ∧ s + 6 ≤ gO) (h : TyP Γ cI cJ cZ ga gN gO gn gz) : TyP (DX Γ cI cJ cZ cT s kn kd ka kf kt kw kc lt) cI cJ cZ ga gN gO gn gz := ⟨rd_DX (by omega) h.1, rd_DX (by omega) h.2.1, rd_DX (by omega) h.2.2.1, h.2.2.2⟩
theorem XG.dx {Γ : TG} {cI cJ cZ cT : ClassId} {s : Nat} {kn : Int} {kd : Int} {ka : Int} {kf : Nat → Int} {kt : Nat → Int} {kw : Nat → Int} {kc : Nat → Int} {lt : Nat → Int} {gF gT gW gC gTl gHd gBy gOu gIn gJo gn gm gq : Nat} {F T W C Tl Hd By Ou In Jo : Nat → Int} (hlt : s + 6 ≤ gF ∧ s + 6 ≤ gT ∧ s + 6 ≤ gW ∧ s + 6 ≤ gC ∧ s + 6 ≤ gTl ∧ s + 6 ≤ gHd ∧ s + 6 ≤ gBy ∧ s + 6 ≤ gOu ∧ s + 6 ≤ gIn ∧ s + 6 ≤ gJo) (h : XG Γ cI gF gT gW gC gTl gHd gBy gOu gIn gJo gn gm gq F T W C Tl Hd By Ou In Jo) : XG (DX Γ cI cJ cZ cT s kn kd ka kf kt kw kc lt) cI gF gT gW gC gTl gHd gBy gOu gIn gJo gn gm gq F T W C Tl Hd By Ou In Jo := by
  obtain ⟨⟨h0, h1, h2, h3, h4, h5, h6, h7, h8, h9⟩, hr⟩ := h
  exact ⟨⟨rd_DX (by omega) h0, rd_DX (by omega) h1, rd_DX (by omega) h2, rd_DX (by omega) h3, rd_DX (by omega) h4, rd_DX (by omega) h5, rd_DX (by omega) h6, rd_DX (by omega) h7, rd_DX (by omega) h8, rd_DX (by omega) h9⟩, hr⟩

