theorem GX.same {Γ Γ1 : TG} {cI cJ cZ : ClassId} {a t : Nat} {N D M : Int} {F T W C : Nat → Int} (hs : ∀ q : Nat, (q < a + 41 ∨ a + 41 + 43 ≤ q) → Γ q = Γ1 q) (h : GX Γ cI cJ cZ a t N D M F T W C) : GX Γ1 cI cJ cZ a t N D M F T W C := by
  obtain ⟨gF, gT, gW, gC, gTl, gHd, gBy, gOu, gIn, gJo, gn, gm, gq, gdr, Tl, Hd, By, Ou, In, Jo, pos, h1, h2, h3, h4⟩ := h
  exact ⟨gF, gT, gW, gC, gTl, gHd, gBy, gOu, gIn, gJo, gn, gm, gq, gdr, Tl, Hd, By, Ou, In, Jo, pos, TyG.same hs (by omega) h1, h2, XG.same hs (by omega) h3, h4⟩
theorem CX.same {Γ Γ1 : TG} {cI cJ cZ : ClassId} {a t : Nat} {N : Int} {f : Nat → Int64} (hs : ∀ q : Nat, (q < a + 41 ∨ a + 41 + 43 ≤ q) → Γ q = Γ1 q) (h : CX Γ cI cJ cZ a t N f) : CX Γ1 cI cJ cZ a t N f := by
  obtain ⟨cM, cn, h1, h2, h3, h4⟩ := h
  exact ⟨cM, cn, TyC.same hs (by omega) h1, h2, rd_same (hs _ (by omega)) h3, h4⟩
theorem WX.same {Γ Γ1 : TG} {cI cJ cZ : ClassId} {a t : Nat} {N : Int} (hs : ∀ q : Nat, (q < a + 41 ∨ a + 41 + 43 ≤ q) → Γ q = Γ1 q) (h : WX Γ cI cJ cZ a t N) : WX Γ1 cI cJ cZ a t N := by
  obtain ⟨wn, h1, h2, h3⟩ := h
  exact ⟨wn, TyW.same hs (by omega) h1, h2, h3⟩
theorem QX.same {Γ Γ1 : TG} {cI cJ cZ : ClassId} {a t : Nat} {N Z : Int} {q : Nat → Int} (hs : ∀ q : Nat, (q < a + 41 ∨ a + 41 + 43 ≤ q) → Γ q = Γ1 q) (h : QX Γ cI cJ cZ a t N Z q) : QX Γ1 cI cJ cZ a t N Z q := by
  obtain ⟨rN, rO, rn, rz, vo, h1, h2, h3, h4, h5⟩ := h
  exact ⟨rN, rO, rn, rz, vo, TyP.same hs (by omega) h1, h2, rd_same (hs _ (by omega)) h3, rd_same (hs _ (by omega)) h4, h5⟩
theorem HM.same {Γ Γ1 : TG} {cI cJ cZ : ClassId} {a : Nat} {ct : Int} {th : Nat → Option Nat} {so sz dr mn fr tt wt co : Nat → Int} {nu : Nat → Int64} {qi qc : Nat → Int} (hs : ∀ q : Nat, (q < a + 41 ∨ a + 41 + 43 ≤ q) → Γ q = Γ1 q) (h : HM Γ cI cJ cZ a ct th so sz dr mn fr tt wt co nu qi qc) : HM Γ1 cI cJ cZ a ct th so sz dr mn fr tt wt co nu qi qc := by
  intro i hi
  obtain ⟨t, e, h1⟩ := h i hi
  refine ⟨t, e, ?_⟩
  rcases h1 with ⟨es, h⟩ | ⟨es, h⟩ | ⟨es, h⟩ | ⟨es, h⟩
  · exact Or.inl ⟨es, GX.same hs h⟩
  · exact Or.inr (Or.inl ⟨es, CX.same hs h⟩)
  · exact Or.inr (Or.inr (Or.inl ⟨es, WX.same hs h⟩))
  · exact Or.inr (Or.inr (Or.inr ⟨es, QX.same hs h⟩))
theorem HM.upd {Γ : TG} {cI cJ cZ : ClassId} {a : Nat} {ct : Int} {th : Nat → Option Nat} {so sz dr mn fr tt wt co sz' dr' mn' fr' tt' wt' co' : Nat → Int} {nu : Nat → Int64} {qi qc : Nat → Int} (h : HM Γ cI cJ cZ a ct th so sz dr mn fr tt wt co nu qi qc) (e : ∀ i : Nat, (i : Int) < ct → sz' i = sz i ∧ dr' i = dr i ∧ mn' i = mn i) (e5 : ∀ k : Nat, (k : Int) < 60 * ct → fr' k = fr k ∧ tt' k = tt k ∧ wt' k = wt k ∧ co' k = co k) : HM Γ cI cJ cZ a ct th so sz' dr' mn' fr' tt' wt' co' nu qi qc := by
  intro i hi
  obtain ⟨t, e1, h1⟩ := h i hi
  exact ⟨t, e1, h1.to hi rfl (e i hi).1 (e i hi).2.1 (e i hi).2.2 e5 (fun _ _ => rfl) (fun _ _ => rfl) rfl⟩
theorem mg_G {Γ Γ8 : TG} {cI cJ cZ : ClassId} {a : Nat} {cn ct8 cn9 rv8 rf9 v8 v9 N D : Int} {th th8 : Nat → Option Nat} {so sz dr mn fr tt wt co so9 sz9 dr9 mn9 fr9 tt9 wt9 co9 : Nat → Int} {nu : Nat → Int64} {qi qc : Nat → Int} {l : List A4} (hm : HM Γ cI cJ cZ a cn th so sz dr mn fr tt wt co nu qi qc) (h0 : 0 ≤ cn) (hE : Ext Γ Γ8) (e : v8 = v9) (c1 : v8 < 0 → rv8 = v8 ∧ ct8 = cn ∧ th8 = th) (c2 : 0 ≤ v8 → rv8 = 0 ∧ ct8 = cn + 1 ∧ ∃ t, th8 = va_up th cn.toNat (some t) ∧ WG Γ8 cI cJ cZ a N D l t) (r1 : v9 < 0 → SmG cn cn9 so sz dr mn fr tt wt co so9 sz9 dr9 mn9 fr9 tt9 wt9 co9) (r2 : 0 ≤ v9 → GNw cn cn9 so sz dr mn fr tt wt co so9 sz9 dr9 mn9 fr9 tt9 wt9 co9 N D l) (r3 : (v9 < 0 → rf9 = v9) ∧ (0 ≤ v9 → rf9 = 0)) : HM Γ8 cI cJ cZ a cn9 th8 so9 sz9 dr9 mn9 fr9 tt9 wt9 co9 nu qi qc ∧ ct8 = cn9 ∧ rv8 = rf9 := by
  subst e
  rcases Int.lt_or_le v8 0 with h | h
  · obtain ⟨a1, a2, a3⟩ := c1 h
    obtain ⟨b1, b2, b3, b4, b5, b6, b7, b8, b9⟩ := r1 h
    subst b1 b2 b3 b4 b5 b6 b7 b8 b9 a3
    exact ⟨HM.ext hE hm, a2, a1.trans (r3.1 h).symm⟩
  · obtain ⟨a1, a2, t, a3, a4⟩ := c2 h
    have g := r2 h
    subst a3
    exact ⟨HM.newG hm h0 hE g a4, a2.trans g.1.symm, a1.trans (r3.2 h).symm⟩
theorem mg_C {Γ Γ8 : TG} {cI cJ cZ : ClassId} {a : Nat} {cn ct8 cn9 rv8 rf9 v8 v9 N : Int} {th th8 : Nat → Option Nat} {so sz dr mn fr tt wt co so9 sz9 : Nat → Int} {nu nu9 : Nat → Int64} {qi qc : Nat → Int} {Pc Pr : (Nat → Int64) → Prop} (hm : HM Γ cI cJ cZ a cn th so sz dr mn fr tt wt co nu qi qc) (h0 : 0 ≤ cn) (hE : Ext Γ Γ8) (e : v8 = v9) (c1 : v8 < 0 → rv8 = v8 ∧ ct8 = cn ∧ th8 = th) (c2 : 0 ≤ v8 → rv8 = 0 ∧ ct8 = cn + 1 ∧ ∃ t, th8 = va_up th cn.toNat (some t) ∧ ∃ f, CX Γ8 cI cJ cZ a t N f ∧ Pc f) (r1 : v9 < 0 → SmC cn cn9 so sz so9 sz9 nu nu9) (r2 : 0 ≤ v9 → ∃ g, CNw cn cn9 so sz so9 sz9 nu nu9 N g ∧ Pr g) (hu : 0 ≤ v9 → ∀ f g, Pc f → Pr g → ∀ v : Nat, (v : Int) < N → f v = g v) (r3 : (v9 < 0 → rf9 = v9) ∧ (0 ≤ v9 → rf9 = 0)) : HM Γ8 cI cJ cZ a cn9 th8 so9 sz9 dr mn fr tt wt co nu9 qi qc ∧ ct8 = cn9 ∧ rv8 = rf9 := by
  subst e
  rcases Int.lt_or_le v8 0 with h | h
  · obtain ⟨a1, a2, a3⟩ := c1 h
    obtain ⟨b1, b2, b3, b4⟩ := r1 h
    subst b1 b2 b3 b4 a3
    exact ⟨HM.ext hE hm, a2, a1.trans (r3.1 h).symm⟩
  · obtain ⟨a1, a2, t, a3, f, a4, a5⟩ := c2 h
    obtain ⟨g, g1, g2⟩ := r2 h
    subst a3
    exact ⟨HM.newC hm h0 hE g1 a4 (hu h f g a5 g2), a2.trans g1.1.symm, a1.trans (r3.2 h).symm⟩
theorem mg_F {Γ Γ8 : TG} {cI cJ cZ : ClassId} {a : Nat} {cn ct8 cn9 rv8 rf9 v8 v9 N : Int} {th th8 : Nat → Option Nat} {so sz dr mn fr tt wt co so9 sz9 : Nat → Int} {nu nu9 : Nat → Int64} {qi qc : Nat → Int} {F : Nat → Int64} (hm : HM Γ cI cJ cZ a cn th so sz dr mn fr tt wt co nu qi qc) (h0 : 0 ≤ cn) (hE : Ext Γ Γ8) (e : v8 = v9) (c1 : v8 < 0 → rv8 = v8 ∧ ct8 = cn ∧ th8 = th) (c2 : 0 ≤ v8 → rv8 = 0 ∧ ct8 = cn + 1 ∧ ∃ t, th8 = va_up th cn.toNat (some t) ∧ ∃ f, CX Γ8 cI cJ cZ a t N f ∧ ∀ v : Nat, (v : Int) < N → f v = F v) (r1 : v9 < 0 → SmC cn cn9 so sz so9 sz9 nu nu9) (r2 : 0 ≤ v9 → CNw cn cn9 so sz so9 sz9 nu nu9 N F) (r3 : (v9 < 0 → rf9 = v9) ∧ (0 ≤ v9 → rf9 = 0)) : HM Γ8 cI cJ cZ a cn9 th8 so9 sz9 dr mn fr tt wt co nu9 qi qc ∧ ct8 = cn9 ∧ rv8 = rf9 :=
  mg_C (Pc := fun f => ∀ v : Nat, (v : Int) < N → f v = F v) (Pr := fun g => g = F) hm h0 hE e c1 c2 r1 (fun h => ⟨F, r2 h, rfl⟩) (fun _ f g hf hg v hv => by rw [hf v hv, hg]) r3
theorem mg_Q {Γ Γ8 : TG} {cI cJ cZ : ClassId} {a : Nat} {cn ct8 cn9 rv8 rf9 v8 v9 N : Int} {th th8 : Nat → Option Nat} {so sz dr mn fr tt wt co so9 sz9 : Nat → Int} {nu : Nat → Int64} {qi qc qi9 qc9 : Nat → Int} {E : Nat → Nat → Prop} (hm : HM Γ cI cJ cZ a cn th so sz dr mn fr tt wt co nu qi qc) (h0 : 0 ≤ cn) (hE : Ext Γ Γ8) (e : v8 = v9) (c1 : v8 < 0 → rv8 = v8 ∧ ct8 = cn ∧ th8 = th) (c2 : 0 ≤ v8 → rv8 = 0 ∧ ct8 = cn + 1 ∧ ∃ t, th8 = va_up th cn.toNat (some t) ∧ WQ Γ8 cI cJ cZ a N E t) (r1 : v9 < 0 → SmP cn cn9 so sz so9 sz9 qi qi9 qc qc9) (r2 : 0 ≤ v9 → PNw cn cn9 so sz so9 sz9 qi qi9 qc qc9 N E) (r3 : (v9 < 0 → rf9 = v9) ∧ (0 ≤ v9 → rf9 = 0)) : HM Γ8 cI cJ cZ a cn9 th8 so9 sz9 dr mn fr tt wt co nu qi9 qc9 ∧ ct8 = cn9 ∧ rv8 = rf9 := by
  subst e
  rcases Int.lt_or_le v8 0 with h | h
  · obtain ⟨a1, a2, a3⟩ := c1 h
    obtain ⟨b1, b2, b3, b4, b5⟩ := r1 h
    subst b1 b2 b3 b4 b5 a3
    exact ⟨HM.ext hE hm, a2, a1.trans (r3.1 h).symm⟩
  · obtain ⟨a1, a2, t, a3, a4⟩ := c2 h
    have g := r2 h
    subst a3
    exact ⟨HM.newQ hm h0 hE g a4, a2.trans g.1.symm, a1.trans (r3.2 h).symm⟩
theorem mg_W {Γ Γ8 : TG} {cI cJ cZ : ClassId} {a : Nat} {cn ct8 cn9 rv8 rf9 v8 v9 N : Int} {th th8 : Nat → Option Nat} {so sz dr mn fr tt wt co so9 sz9 : Nat → Int} {nu : Nat → Int64} {qi qc : Nat → Int} (hm : HM Γ cI cJ cZ a cn th so sz dr mn fr tt wt co nu qi qc) (h0 : 0 ≤ cn) (hE : Ext Γ Γ8) (e : v8 = v9) (c1 : v8 < 0 → rv8 = v8 ∧ ct8 = cn ∧ th8 = th) (c2 : 0 ≤ v8 → rv8 = 0 ∧ ct8 = cn + 1 ∧ ∃ t, th8 = va_up th cn.toNat (some t) ∧ WX Γ8 cI cJ cZ a t N) (r1 : v9 < 0 → cn9 = cn ∧ so9 = so ∧ sz9 = sz) (r2 : 0 ≤ v9 → WNw cn cn9 so sz so9 sz9 N) (r3 : (v9 < 0 → rf9 = v9) ∧ (0 ≤ v9 → rf9 = 0)) : HM Γ8 cI cJ cZ a cn9 th8 so9 sz9 dr mn fr tt wt co nu qi qc ∧ ct8 = cn9 ∧ rv8 = rf9 := by
  subst e
  rcases Int.lt_or_le v8 0 with h | h
  · obtain ⟨a1, a2, a3⟩ := c1 h
    obtain ⟨b1, b2, b3⟩ := r1 h
    subst b1 b2 b3 a3
    exact ⟨HM.ext hE hm, a2, a1.trans (r3.1 h).symm⟩
  · obtain ⟨a1, a2, t, a3, a4⟩ := c2 h
    have g := r2 h
    subst a3
    exact ⟨HM.newW hm h0 hE g a4, a2.trans g.1.symm, a1.trans (r3.2 h).symm⟩
theorem an2_c {cn : Int} {so : Nat → Int} {x s y t t' : Int} {bad bad' full full' : Prop} (ht : t = t') (hb : bad ↔ bad') (hf : full ↔ full') : an2 cn so x s y t bad full = an2 cn so x s y t' bad' full' := by
  subst ht
  unfold an2
  rw [hdQ_c hf, hdQ_c hb]
theorem an1_c {cn : Int} {so : Nat → Int} {x s : Int} {bad bad' full full' : Prop} (hb : bad ↔ bad') (hf : full ↔ full') : an1 cn so x s bad full = an1 cn so x s bad' full' := by
  unfold an1
  rw [hdQ_c hf, hdQ_c hb]
theorem an1_pos {cn : Int} {so : Nat → Int} {x s v : Int} {bad full : Prop} (h : v = an1 cn so x s bad full) (h0 : 0 ≤ v) : ¬ bad := by
  intro hb
  unfold an1 at h
  by_cases h1 : ¬ (0 ≤ x ∧ x < cn)
  · rw [hdQ_y h1] at h; omega
  · by_cases h2 : so x.toNat ≠ s
    · rw [hdQ_n h1, hdQ_y h2] at h; omega
    · rw [hdQ_n h1, hdQ_n h2, hdQ_y hb] at h; omega
theorem rd_q {w8 w9 v8 v9 X : Int} (e : w8 = w9) (a1 : w8 ≠ 0 → v8 = 0) (a2 : w8 = 0 → v8 = X) (b1 : w9 ≠ 0 → v9 = 0) (b2 : w9 = 0 → v9 = X) : v8 = v9 := by
  subst e
  by_cases h : w8 = 0
  · rw [a2 h, b2 h]
  · rw [a1 h, b1 h]
theorem rd_qJ {w8 w9 x : Int} {v8 v9 X Y : Int64} (e : w8 = w9) (a1 : w8 ≠ 0 → v8 = 0) (a2 : w8 = 0 → x = -1 → v8 = X) (a3 : w8 = 0 → x ≠ -1 → v8 = Y) (b1 : w9 ≠ 0 → v9 = 0) (b2 : w9 = 0 → x = -1 → v9 = X) (b3 : w9 = 0 → x ≠ -1 → v9 = Y) : v8 = v9 := by
  subst e
  by_cases h : w8 = 0
  · by_cases h2 : x = -1
    · rw [a2 h h2, b2 h h2]
    · rw [a3 h h2, b3 h h2]
  · rw [a1 h, b1 h]
theorem rd_q2 {w8 w9 x v8 v9 X Y : Int} (e : w8 = w9) (a1 : w8 ≠ 0 → v8 = 0) (a2 : w8 = 0 → x = -1 → v8 = X) (a3 : w8 = 0 → x ≠ -1 → v8 = Y) (b1 : w9 ≠ 0 → v9 = 0) (b2 : w9 = 0 → x = -1 → v9 = X) (b3 : w9 = 0 → x ≠ -1 → v9 = Y) : v8 = v9 := by
  subst e
  by_cases h : w8 = 0
  · by_cases h2 : x = -1
    · rw [a2 h h2, b2 h h2]
    · rw [a3 h h2, b3 h h2]
  · rw [a1 h, b1 h]
theorem rd_qM {w8 w9 v8 v9 N k : Int} {q : Nat → Int} (e : w8 = w9) (a1 : w8 ≠ 0 → v8 = 0) (a2 : w8 = 0 → 0 ≤ v8 ∧ mbP q N k v8) (b1 : w9 ≠ 0 → v9 = 0) (b2 : w9 = 0 → 0 ≤ v9 ∧ mbP q N k v9) : v8 = v9 := by
  subst e
  by_cases h : w8 = 0
  · exact Me_ext (a2 h).1 (b2 h).1 (fun j => ((a2 h).2 j).trans ((b2 h).2 j).symm)
  · rw [a1 h, b1 h]
