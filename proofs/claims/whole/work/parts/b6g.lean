theorem rd_xc {Γ : TG} {a L : Nat} {cA : ClassId} {f g : Nat → Int} (h : rd Γ a (xI cA L f)) (hf : ∀ i, i < L → f i = g i) : rd Γ a (xI cA L g) := by
  obtain ⟨T0, h0, h1⟩ := h
  refine ⟨T0, h0, fun e he => ?_⟩
  obtain ⟨x, h2, h3⟩ := h1 e he
  exact ⟨x, h2, fun i hi => (h3 i hi).trans (hf i hi)⟩
theorem rd_xcJ {Γ : TG} {a L : Nat} {cA : ClassId} {f g : Nat → Int64} (h : rd Γ a (xJ cA L f)) (hf : ∀ i, i < L → f i = g i) : rd Γ a (xJ cA L g) := by
  obtain ⟨T0, h0, h1⟩ := h
  refine ⟨T0, h0, fun e he => ?_⟩
  obtain ⟨x, h2, h3⟩ := h1 e he
  exact ⟨x, h2, fun i hi => (h3 i hi).trans (hf i hi)⟩
theorem rd_rx {Γ : TG} {hp : MH} {a L : Nat} {cA : ClassId} {lo hi : Int} {f : Nat → Int} (ht : Tw Γ hp) (h : rd Γ a (xI cA L f)) (h' : rd Γ a (tI cA L (rg lo hi))) : Rfx L lo hi f := by
  obtain ⟨e, e1, x, hx, h2⟩ := rd_at ht h
  obtain ⟨e', e1', x', hx', h2'⟩ := rd_at ht h'
  rw [e1] at e1'
  obtain rfl := Option.some.inj e1'
  rw [hx] at hx'
  simp only [Sum.inl.injEq, Prod.mk.injEq, true_and] at hx'
  subst hx'
  intro i hi
  have h3 := h2' i hi
  rw [h2 i hi] at h3
  exact h3
theorem stP_c {m : Nat} {d : Int} {F T F' T' : Nat → Int} (h : ∀ k, k < m → F k = F' k ∧ T k = T' k) : stP m d F T = stP m d F' T' := by
  funext i j
  apply propext
  constructor
  · rintro ⟨k, hk, q⟩
    obtain ⟨e1, e2⟩ := h k hk
    exact ⟨k, hk, by unfold goP at q ⊢; rw [← e1, ← e2]; exact q⟩
  · rintro ⟨k, hk, q⟩
    obtain ⟨e1, e2⟩ := h k hk
    exact ⟨k, hk, by unfold goP at q ⊢; rw [e1, e2]; exact q⟩
theorem joX_c {m : Nat} {F T F' T' : Nat → Int} {X : Nat → Prop} (h : ∀ k, k < m → F k = F' k ∧ T k = T' k) : joX m F T X = joX m F' T' X := by
  funext i j
  apply propext
  constructor
  · rintro ⟨k, hk, q⟩
    obtain ⟨e1, e2⟩ := h k hk
    exact ⟨k, hk, by rw [← e1, ← e2]; exact q⟩
  · rintro ⟨k, hk, q⟩
    obtain ⟨e1, e2⟩ := h k hk
    exact ⟨k, hk, by rw [e1, e2]; exact q⟩
theorem GoS_c {m q : Nat} {d : Int} {F T F' T' Tl Hd By : Nat → Int} {pos : Nat → Nat} (hg : GoS m q d F T Tl Hd By pos) (h : ∀ k, k < m → F k = F' k ∧ T k = T' k) : GoS m q d F' T' Tl Hd By pos := by
  obtain ⟨h1, h2, h3⟩ := hg
  refine ⟨h1, h2, fun i hi => ?_⟩
  have q := h3 i hi
  obtain ⟨e1, e2⟩ := h i hi
  rw [e1, e2] at q
  exact q
/-- a graph that is kept: its rows, exactly -/
def GX (Γ : TG) (cI cJ cZ : ClassId) (a t : Nat) (N D M : Int) (F T W C : Nat → Int) : Prop := ∃ (gF gT gW gC gTl gHd gBy gOu gIn gJo gn gm gq : Nat) (gdr : Int) (Tl Hd By Ou In Jo : Nat → Int) (pos : Nat → Nat), TyG Γ cI cJ cZ t gF gT gW gC gTl gHd gBy gOu gIn gJo gn gm gq gdr ∧ (a + 84 ≤ t ∧ a + 84 ≤ gF ∧ a + 84 ≤ gT ∧ a + 84 ≤ gW ∧ a + 84 ≤ gC ∧ a + 84 ≤ gTl ∧ a + 84 ≤ gHd ∧ a + 84 ≤ gBy ∧ a + 84 ≤ gOu ∧ a + 84 ≤ gIn ∧ a + 84 ≤ gJo) ∧ XG Γ cI gF gT gW gC gTl gHd gBy gOu gIn gJo gn gm gq F T W C Tl Hd By Ou In Jo ∧ GoS gm gq gdr F T Tl Hd By pos ∧ rwP Ou gn (stP gm gdr F T) ∧ rwP In gn (fun i j => stP gm gdr F T j i) ∧ rwP Jo gn (joX gm F T (fun _ => True)) ∧ N = (gn : Int) ∧ D = gdr ∧ M = (gm : Int)
theorem GX.eq {Γ : TG} {cI cJ cZ : ClassId} {a t : Nat} {N D M : Int} {F T W C F' T' W' C' : Nat → Int} (h : GX Γ cI cJ cZ a t N D M F T W C) (hF : ∀ k : Nat, (k : Int) < M → F k = F' k ∧ T k = T' k ∧ W k = W' k ∧ C k = C' k) : GX Γ cI cJ cZ a t N D M F' T' W' C' := by
  obtain ⟨gF, gT, gW, gC, gTl, gHd, gBy, gOu, gIn, gJo, gn, gm, gq, gdr, Tl, Hd, By, Ou, In, Jo, pos, h1, h2, ⟨⟨x1, x2, x3, x4, x5⟩, ⟨r1, r2, r3, r4, r5⟩, hou⟩, h4, h5, h6, h7, h8, h9, h10⟩ := h
  have e : ∀ k, k < gm → F k = F' k ∧ T k = T' k ∧ W k = W' k ∧ C k = C' k := fun k hk => hF k (by omega)
  have e2 : ∀ k, k < gm → F k = F' k ∧ T k = T' k := fun k hk => ⟨(e k hk).1, (e k hk).2.1⟩
  have s : stP gm gdr F T = stP gm gdr F' T' := stP_c e2
  have s3 : joX gm F T (fun _ => True) = joX gm F' T' (fun _ => True) := joX_c e2
  rw [s] at h5 h6
  rw [s3] at h7
  exact ⟨gF, gT, gW, gC, gTl, gHd, gBy, gOu, gIn, gJo, gn, gm, gq, gdr, Tl, Hd, By, Ou, In, Jo, pos, h1, h2, ⟨⟨rd_xc x1 (fun i hi => (e i hi).1), rd_xc x2 (fun i hi => (e i hi).2.1), rd_xc x3 (fun i hi => (e i hi).2.2.1), rd_xc x4 (fun i hi => (e i hi).2.2.2), x5⟩, ⟨fun i hi => by rw [← (e i hi).1]; exact r1 i hi, fun i hi => by rw [← (e i hi).2.1]; exact r2 i hi, fun i hi => by rw [← (e i hi).2.2.1]; exact r3 i hi, fun i hi => by rw [← (e i hi).2.2.2]; exact r4 i hi, r5⟩, hou⟩, GoS_c h4 e2, h5, h6, h7, h8, h9, h10⟩
theorem GX.ext {Γ Γ1 : TG} {cI cJ cZ : ClassId} {a t : Nat} {N D M : Int} {F T W C : Nat → Int} (hE : Ext Γ Γ1) (h : GX Γ cI cJ cZ a t N D M F T W C) : GX Γ1 cI cJ cZ a t N D M F T W C := by
  obtain ⟨gF, gT, gW, gC, gTl, gHd, gBy, gOu, gIn, gJo, gn, gm, gq, gdr, Tl, Hd, By, Ou, In, Jo, pos, h1, h2, h3, h4⟩ := h
  exact ⟨gF, gT, gW, gC, gTl, gHd, gBy, gOu, gIn, gJo, gn, gm, gq, gdr, Tl, Hd, By, Ou, In, Jo, pos, TyG.ext hE h1, h2, XG.ext hE h3, h4⟩
theorem GX.th {Γ : TG} {cI cJ cZ : ClassId} {a t : Nat} {N D M : Int} {F T W C : Nat → Int} (h : GX Γ cI cJ cZ a t N D M F T W C) : ThG Γ cI cJ cZ a t := by
  obtain ⟨gF, gT, gW, gC, gTl, gHd, gBy, gOu, gIn, gJo, gn, gm, gq, gdr, Tl, Hd, By, Ou, In, Jo, pos, h1, h2, h3, h4⟩ := h
  exact ⟨gF, gT, gW, gC, gTl, gHd, gBy, gOu, gIn, gJo, gn, gm, gq, gdr, F, T, W, C, Tl, Hd, By, Ou, In, Jo, h1, h2, h3⟩
theorem GX.bd {Γ : TG} {cI cJ cZ : ClassId} {a t : Nat} {N D M : Int} {F T W C : Nat → Int} (h : GX Γ cI cJ cZ a t N D M F T W C) : 1 ≤ N ∧ N ≤ 16 ∧ 0 ≤ M ∧ M ≤ 60 := by
  obtain ⟨gF, gT, gW, gC, gTl, gHd, gBy, gOu, gIn, gJo, gn, gm, gq, gdr, Tl, Hd, By, Ou, In, Jo, pos, h1, h2, h3, h4, h5, h6, h7, h8, h9, h10⟩ := h
  have hb := h1.2.2.2.2.2.2.2.2.2.2.2
  omega
/-- a column that is kept -/
def CX (Γ : TG) (cI cJ cZ : ClassId) (a t : Nat) (N : Int) (f : Nat → Int64) : Prop := ∃ (cM cn : Nat), TyC Γ cI cJ cZ t cM cn ∧ (a + 84 ≤ t ∧ a + 84 ≤ cM) ∧ rd Γ cM (xJ cJ cn f) ∧ N = (cn : Int)
theorem CX.eq {Γ : TG} {cI cJ cZ : ClassId} {a t : Nat} {N : Int} {f g : Nat → Int64} (h : CX Γ cI cJ cZ a t N f) (hf : ∀ v : Nat, (v : Int) < N → f v = g v) : CX Γ cI cJ cZ a t N g := by
  obtain ⟨cM, cn, h1, h2, h3, h4⟩ := h
  exact ⟨cM, cn, h1, h2, rd_xcJ h3 (fun i hi => hf i (by omega)), h4⟩
theorem CX.ext {Γ Γ1 : TG} {cI cJ cZ : ClassId} {a t : Nat} {N : Int} {f : Nat → Int64} (hE : Ext Γ Γ1) (h : CX Γ cI cJ cZ a t N f) : CX Γ1 cI cJ cZ a t N f := by
  obtain ⟨cM, cn, h1, h2, h3, h4⟩ := h
  exact ⟨cM, cn, TyC.ext hE h1, h2, rd_ext hE h3, h4⟩
theorem CX.th {Γ : TG} {cI cJ cZ : ClassId} {a t : Nat} {N : Int} {f : Nat → Int64} (h : CX Γ cI cJ cZ a t N f) : ThC Γ cI cJ cZ a t := by
  obtain ⟨cM, cn, h1, h2, h3, h4⟩ := h
  exact ⟨cM, cn, h1, h2⟩
theorem CX.bd {Γ : TG} {cI cJ cZ : ClassId} {a t : Nat} {N : Int} {f : Nat → Int64} (h : CX Γ cI cJ cZ a t N f) : 1 ≤ N ∧ N ≤ 16 := by
  obtain ⟨cM, cn, h1, h2, h3, h4⟩ := h
  have hb := h1.2.2
  omega
/-- ways that are kept -/
def WX (Γ : TG) (cI cJ cZ : ClassId) (a t : Nat) (N : Int) : Prop := ∃ wn : Nat, TyW Γ cI cJ cZ t wn ∧ a + 84 ≤ t ∧ N = (wn : Int)
theorem WX.ext {Γ Γ1 : TG} {cI cJ cZ : ClassId} {a t : Nat} {N : Int} (hE : Ext Γ Γ1) (h : WX Γ cI cJ cZ a t N) : WX Γ1 cI cJ cZ a t N := by
  obtain ⟨wn, h1, h2, h3⟩ := h
  exact ⟨wn, TyW.ext hE h1, h2, h3⟩
theorem WX.th {Γ : TG} {cI cJ cZ : ClassId} {a t : Nat} {N : Int} (h : WX Γ cI cJ cZ a t N) : ThW Γ cI cJ cZ a t := by
  obtain ⟨wn, h1, h2, h3⟩ := h
  exact ⟨wn, h1, by omega⟩
/-- parts that are kept -/
def QX (Γ : TG) (cI cJ cZ : ClassId) (a t : Nat) (N Z : Int) (q : Nat → Int) : Prop := ∃ (rN rO rn rz : Nat) (vo : Nat → Int), TyP Γ cI cJ cZ t rN rO rn rz ∧ (a + 84 ≤ t ∧ a + 84 ≤ rN ∧ a + 84 ≤ rO) ∧ rd Γ rN (xI cI rn q) ∧ rd Γ rO (xI cI rn vo) ∧ Rfx rn 0 ((rz : Int) - 1) q ∧ Rfx rn 0 65535 vo ∧ mbS q rn (rn : Int) vo ∧ N = (rn : Int) ∧ Z = (rz : Int)
theorem QX.eq {Γ : TG} {cI cJ cZ : ClassId} {a t : Nat} {N Z : Int} {q q' : Nat → Int} (h : QX Γ cI cJ cZ a t N Z q) (hq : ∀ v : Nat, (v : Int) < N → q v = q' v) : QX Γ cI cJ cZ a t N Z q' := by
  obtain ⟨rN, rO, rn, rz, vo, h1, h2, h3, h4, h5, h6, h7, h8, h9⟩ := h
  have e : ∀ i, i < rn → q i = q' i := fun i hi => hq i (by omega)
  refine ⟨rN, rO, rn, rz, vo, h1, h2, rd_xc h3 e, h4, fun i hi => by rw [← e i hi]; exact h5 i hi, h6, fun k hk j => ?_, h8, h9⟩
  rw [h7 k hk j]
  constructor
  · rintro ⟨g1, g2⟩; exact ⟨g1, by rw [← e j (by omega)]; exact g2⟩
  · rintro ⟨g1, g2⟩; exact ⟨g1, by rw [e j (by omega)]; exact g2⟩
theorem QX.ext {Γ Γ1 : TG} {cI cJ cZ : ClassId} {a t : Nat} {N Z : Int} {q : Nat → Int} (hE : Ext Γ Γ1) (h : QX Γ cI cJ cZ a t N Z q) : QX Γ1 cI cJ cZ a t N Z q := by
  obtain ⟨rN, rO, rn, rz, vo, h1, h2, h3, h4, h5⟩ := h
  exact ⟨rN, rO, rn, rz, vo, TyP.ext hE h1, h2, rd_ext hE h3, rd_ext hE h4, h5⟩
theorem QX.th {Γ : TG} {cI cJ cZ : ClassId} {a t : Nat} {N Z : Int} {q : Nat → Int} (h : QX Γ cI cJ cZ a t N Z q) : ThQ Γ cI cJ cZ a t := by
  obtain ⟨rN, rO, rn, rz, vo, h1, h2, h3⟩ := h
  exact ⟨rN, rO, rn, rz, h1, h2⟩
theorem QX.bd {Γ : TG} {cI cJ cZ : ClassId} {a t : Nat} {N Z : Int} {q : Nat → Int} (h : QX Γ cI cJ cZ a t N Z q) : 1 ≤ N ∧ N ≤ 16 := by
  obtain ⟨rN, rO, rn, rz, vo, h1, h2, h3, h4, h5, h6, h7, h8, h9⟩ := h
  have hb := h1.2.2.2
  omega
/-- the thing under a handle is what the numbers say -/
def HT (Γ : TG) (cI cJ cZ : ClassId) (a t : Nat) (so sz dr mn fr tt wt co : Nat → Int) (nu : Nat → Int64) (qi qc : Nat → Int) (i : Nat) : Prop := (so i = 1 ∧ GX Γ cI cJ cZ a t (sz i) (dr i) (mn i) (sh fr (60 * (i : Int))) (sh tt (60 * (i : Int))) (sh wt (60 * (i : Int))) (sh co (60 * (i : Int)))) ∨ (so i = 2 ∧ CX Γ cI cJ cZ a t (sz i) (sj nu (16 * (i : Int)))) ∨ (so i = 3 ∧ WX Γ cI cJ cZ a t (sz i)) ∨ (so i = 4 ∧ QX Γ cI cJ cZ a t (sz i) (qc i) (sh qi (16 * (i : Int))))
def HM (Γ : TG) (cI cJ cZ : ClassId) (a : Nat) (ct : Int) (th : Nat → Option Nat) (so sz dr mn fr tt wt co : Nat → Int) (nu : Nat → Int64) (qi qc : Nat → Int) : Prop := ∀ i : Nat, (i : Int) < ct → ∃ t : Nat, th i = some t ∧ HT Γ cI cJ cZ a t so sz dr mn fr tt wt co nu qi qc i
theorem HT.ext {Γ Γ1 : TG} {cI cJ cZ : ClassId} {a t : Nat} {so sz dr mn fr tt wt co : Nat → Int} {nu : Nat → Int64} {qi qc : Nat → Int} {i : Nat} (hE : Ext Γ Γ1) (h : HT Γ cI cJ cZ a t so sz dr mn fr tt wt co nu qi qc i) : HT Γ1 cI cJ cZ a t so sz dr mn fr tt wt co nu qi qc i := by
  rcases h with ⟨e, h⟩ | ⟨e, h⟩ | ⟨e, h⟩ | ⟨e, h⟩
  · exact Or.inl ⟨e, GX.ext hE h⟩
  · exact Or.inr (Or.inl ⟨e, CX.ext hE h⟩)
  · exact Or.inr (Or.inr (Or.inl ⟨e, WX.ext hE h⟩))
  · exact Or.inr (Or.inr (Or.inr ⟨e, QX.ext hE h⟩))
theorem HM.ext {Γ Γ1 : TG} {cI cJ cZ : ClassId} {a : Nat} {ct : Int} {th : Nat → Option Nat} {so sz dr mn fr tt wt co : Nat → Int} {nu : Nat → Int64} {qi qc : Nat → Int} (hE : Ext Γ Γ1) (h : HM Γ cI cJ cZ a ct th so sz dr mn fr tt wt co nu qi qc) : HM Γ1 cI cJ cZ a ct th so sz dr mn fr tt wt co nu qi qc := by
  intro i hi
  obtain ⟨t, e, h1⟩ := h i hi
  exact ⟨t, e, HT.ext hE h1⟩
/-- what is told of a handle may be told by other rows that agree -/
theorem HT.to {Γ : TG} {cI cJ cZ : ClassId} {a t : Nat} {so sz dr mn fr tt wt co so' sz' dr' mn' fr' tt' wt' co' : Nat → Int} {nu nu' : Nat → Int64} {qi qc qi' qc' : Nat → Int} {i : Nat} {ct : Int} (h : HT Γ cI cJ cZ a t so sz dr mn fr tt wt co nu qi qc i) (hi : (i : Int) < ct) (e1 : so' i = so i) (e2 : sz' i = sz i) (e3 : dr' i = dr i) (e4 : mn' i = mn i) (e5 : ∀ k : Nat, (k : Int) < 60 * ct → fr' k = fr k ∧ tt' k = tt k ∧ wt' k = wt k ∧ co' k = co k) (e6 : ∀ k : Nat, (k : Int) < 16 * ct → nu' k = nu k) (e7 : ∀ k : Nat, (k : Int) < 16 * ct → qi' k = qi k) (e8 : qc' i = qc i) : HT Γ cI cJ cZ a t so' sz' dr' mn' fr' tt' wt' co' nu' qi' qc' i := by
  unfold HT
  rw [e1, e2, e3, e4, e8]
  rcases h with ⟨e, h⟩ | ⟨e, h⟩ | ⟨e, h⟩ | ⟨e, h⟩
  · have hb := h.bd
    refine Or.inl ⟨e, h.eq (fun k hk => ?_)⟩
    obtain ⟨q1, q2, q3, q4⟩ := e5 (60 * (i : Int) + (k : Int)).toNat (by omega)
    exact ⟨q1.symm, q2.symm, q3.symm, q4.symm⟩
  · have hb := h.bd
    exact Or.inr (Or.inl ⟨e, h.eq (fun k hk => (e6 (16 * (i : Int) + (k : Int)).toNat (by omega)).symm)⟩)
  · exact Or.inr (Or.inr (Or.inl ⟨e, h⟩))
  · have hb := h.bd
    exact Or.inr (Or.inr (Or.inr ⟨e, h.eq (fun k hk => (e7 (16 * (i : Int) + (k : Int)).toNat (by omega)).symm)⟩))
theorem va_ups {A : Type} (f : Nat → Option A) (i : Nat) (v : Option A) : va_up f i v i = v := by simp [va_up]
theorem va_upo {A : Type} (f : Nat → Option A) {i j : Nat} (v : Option A) (h : j ≠ i) : va_up f i v j = f j := by simp [va_up, h]
/-- a new graph of a list of arcs -/
def WG (Γ : TG) (cI cJ cZ : ClassId) (a : Nat) (N D : Int) (l : List A4) (t : Nat) : Prop := ∃ F T W C : Nat → Int, GX Γ cI cJ cZ a t N D (l.length : Int) F T W C ∧ PL l (l.length : Int) F T W C
theorem HM.newG {Γ Γ1 : TG} {cI cJ cZ : ClassId} {a t : Nat} {ct ct' : Int} {th : Nat → Option Nat} {so sz dr mn fr tt wt co so' sz' dr' mn' fr' tt' wt' co' : Nat → Int} {nu : Nat → Int64} {qi qc : Nat → Int} {N D : Int} {l : List A4} (h : HM Γ cI cJ cZ a ct th so sz dr mn fr tt wt co nu qi qc) (h0 : 0 ≤ ct) (hE : Ext Γ Γ1) (hG : GNw ct ct' so sz dr mn fr tt wt co so' sz' dr' mn' fr' tt' wt' co' N D l) (hW : WG Γ1 cI cJ cZ a N D l t) : HM Γ1 cI cJ cZ a ct' (va_up th ct.toNat (some t)) so' sz' dr' mn' fr' tt' wt' co' nu qi qc := by
  obtain ⟨rfl, rfl, rfl, rfl, rfl, hl, hold⟩ := hG
  intro i hi
  by_cases e : i = ct.toNat
  · subst e
    refine ⟨t, va_ups _ _ _, Or.inl ⟨fup_s _ _ _, ?_⟩⟩
    rw [fup_s, fup_s, fup_s, Int.toNat_of_nonneg h0]
    obtain ⟨F, T, W, C, g1, g2⟩ := hW
    refine g1.eq (fun k hk => ?_)
    have hk1 : k < l.length := by omega
    have e1 := hl k l[k] (List.getElem?_eq_getElem hk1)
    have e2 := g2.2 k l[k] (List.getElem?_eq_getElem hk1)
    exact ⟨e2.1.trans e1.1.symm, e2.2.1.trans e1.2.1.symm, e2.2.2.1.trans e1.2.2.1.symm, e2.2.2.2.trans e1.2.2.2.symm⟩
  · obtain ⟨u, g1, g2⟩ := h i (by omega)
    refine ⟨u, by rw [va_upo _ _ e]; exact g1, (g2.ext hE).to (ct := ct) (by omega) (fup_o _ _ e) (fup_o _ _ e) (fup_o _ _ e) (fup_o _ _ e) hold (fun _ _ => rfl) (fun _ _ => rfl) rfl⟩
theorem HM.newC {Γ Γ1 : TG} {cI cJ cZ : ClassId} {a t : Nat} {ct ct' : Int} {th : Nat → Option Nat} {so sz dr mn fr tt wt co so' sz' : Nat → Int} {nu nu' : Nat → Int64} {qi qc : Nat → Int} {N : Int} {f g : Nat → Int64} (h : HM Γ cI cJ cZ a ct th so sz dr mn fr tt wt co nu qi qc) (h0 : 0 ≤ ct) (hE : Ext Γ Γ1) (hG : CNw ct ct' so sz so' sz' nu nu' N f) (hW : CX Γ1 cI cJ cZ a t N g) (hfg : ∀ v : Nat, (v : Int) < N → g v = f v) : HM Γ1 cI cJ cZ a ct' (va_up th ct.toNat (some t)) so' sz' dr mn fr tt wt co nu' qi qc := by
  obtain ⟨rfl, rfl, rfl, hl, hold⟩ := hG
  intro i hi
  by_cases e : i = ct.toNat
  · subst e
    refine ⟨t, va_ups _ _ _, Or.inr (Or.inl ⟨fup_s _ _ _, ?_⟩)⟩
    rw [fup_s, Int.toNat_of_nonneg h0]
    exact hW.eq (fun v hv => (hfg v hv).trans (hl v hv).symm)
  · obtain ⟨u, g1, g2⟩ := h i (by omega)
    refine ⟨u, by rw [va_upo _ _ e]; exact g1, (g2.ext hE).to (ct := ct) (by omega) (fup_o _ _ e) (fup_o _ _ e) rfl rfl (fun _ _ => ⟨rfl, rfl, rfl, rfl⟩) hold (fun _ _ => rfl) rfl⟩
def WNw (cn cn' : Int) (so sz so' sz' : Nat → Int) (N : Int) : Prop := cn' = cn + 1 ∧ so' = fup so cn.toNat 3 ∧ sz' = fup sz cn.toNat N
theorem HM.newW {Γ Γ1 : TG} {cI cJ cZ : ClassId} {a t : Nat} {ct ct' : Int} {th : Nat → Option Nat} {so sz dr mn fr tt wt co so' sz' : Nat → Int} {nu : Nat → Int64} {qi qc : Nat → Int} {N : Int} (h : HM Γ cI cJ cZ a ct th so sz dr mn fr tt wt co nu qi qc) (h0 : 0 ≤ ct) (hE : Ext Γ Γ1) (hG : WNw ct ct' so sz so' sz' N) (hW : WX Γ1 cI cJ cZ a t N) : HM Γ1 cI cJ cZ a ct' (va_up th ct.toNat (some t)) so' sz' dr mn fr tt wt co nu qi qc := by
  obtain ⟨rfl, rfl, rfl⟩ := hG
  intro i hi
  by_cases e : i = ct.toNat
  · subst e
    refine ⟨t, va_ups _ _ _, Or.inr (Or.inr (Or.inl ⟨fup_s _ _ _, ?_⟩))⟩
    rw [fup_s]
    exact hW
  · obtain ⟨u, g1, g2⟩ := h i (by omega)
    refine ⟨u, by rw [va_upo _ _ e]; exact g1, (g2.ext hE).to (ct := ct) (by omega) (fup_o _ _ e) (fup_o _ _ e) rfl rfl (fun _ _ => ⟨rfl, rfl, rfl, rfl⟩) (fun _ _ => rfl) (fun _ _ => rfl) rfl⟩
theorem nu2_uq {E : Nat → Nat → Prop} {f g : Nat → Int} {N : Nat} (hf : nuP2 E f N) (hg : nuP2 E g N) : ∀ v, v < N → f v = g v := by
  intro v
  induction v using Nat.strongRecOn with
  | ind v ih =>
    intro hv
    rcases hf v hv with ⟨u, a1, a2, a3, a4⟩ | ⟨a1, a2⟩ <;> rcases hg v hv with ⟨w, b1, b2, b3, b4⟩ | ⟨b1, b2⟩
    · have e : u = w := by
        rcases Nat.lt_trichotomy u w with q | q | q
        · exact absurd a2 (b3 u q)
        · exact q
        · exact absurd b2 (a3 w q)
      subst e
      rw [a4, b4]; exact ih u a1 (by omega)
    · exact absurd a2 (b1 u a1)
    · exact absurd b2 (a1 w b1)
    · rw [a2, b2]
/-- new parts of a graph -/
def WQ (Γ : TG) (cI cJ cZ : ClassId) (a : Nat) (N : Int) (E : Nat → Nat → Prop) (t : Nat) : Prop := ∃ (Z : Int) (q : Nat → Int), QX Γ cI cJ cZ a t N Z q ∧ nuP2 E q N.toNat ∧ Z = (cnP (fsP E) N.toNat : Int)
theorem HM.newQ {Γ Γ1 : TG} {cI cJ cZ : ClassId} {a t : Nat} {ct ct' : Int} {th : Nat → Option Nat} {so sz dr mn fr tt wt co so' sz' : Nat → Int} {nu : Nat → Int64} {qi qc qi' qc' : Nat → Int} {N : Int} {E : Nat → Nat → Prop} (h : HM Γ cI cJ cZ a ct th so sz dr mn fr tt wt co nu qi qc) (h0 : 0 ≤ ct) (hE : Ext Γ Γ1) (hG : PNw ct ct' so sz so' sz' qi qi' qc qc' N E) (hW : WQ Γ1 cI cJ cZ a N E t) : HM Γ1 cI cJ cZ a ct' (va_up th ct.toNat (some t)) so' sz' dr mn fr tt wt co nu qi' qc' := by
  obtain ⟨rfl, rfl, rfl, hn, hz, hold, holc⟩ := hG
  intro i hi
  by_cases e : i = ct.toNat
  · subst e
    refine ⟨t, va_ups _ _ _, Or.inr (Or.inr (Or.inr ⟨fup_s _ _ _, ?_⟩))⟩
    obtain ⟨Z, q, g1, g2, g3⟩ := hW
    rw [fup_s, hz, ← g3, Int.toNat_of_nonneg h0]
    exact g1.eq (fun v hv => nu2_uq g2 hn v (by omega))
  · obtain ⟨u, g1, g2⟩ := h i (by omega)
    refine ⟨u, by rw [va_upo _ _ e]; exact g1, (g2.ext hE).to (ct := ct) (by omega) (fup_o _ _ e) (fup_o _ _ e) rfl rfl (fun _ _ => ⟨rfl, rfl, rfl, rfl⟩) (fun _ _ => rfl) hold (holc i (by omega))⟩
theorem HM.drop {Γ : TG} {cI cJ cZ : ClassId} {a : Nat} {ct : Int} {th : Nat → Option Nat} {so sz dr mn fr tt wt co : Nat → Int} {nu : Nat → Int64} {qi qc : Nat → Int} (h : HM Γ cI cJ cZ a ct th so sz dr mn fr tt wt co nu qi qc) : HM Γ cI cJ cZ a (ct - 1) (va_up th (ct - 1).toNat none) so sz dr mn fr tt wt co nu qi qc := by
  intro i hi
  obtain ⟨t, e, h1⟩ := h i (by omega)
  exact ⟨t, by rw [va_upo _ _ (show i ≠ (ct - 1).toNat by omega)]; exact e, h1⟩
theorem co_uq {m : Nat} {F T : Nat → Int} {n v : Nat} {c c' : Int} (h : coP m F T n v c) (h' : coP m F T n v c') : c = c' := by
  obtain ⟨⟨s, a1, a2, a3, a4⟩, b⟩ := h
  obtain ⟨⟨s', a1', a2', a3', a4'⟩, b'⟩ := h'
  obtain ⟨u, u1, u2⟩ := b s' a1' a2' a3'
  obtain ⟨w, w1, w2⟩ := b' s a1 a2 a3
  have := a4' u u1
  have := a4 w w1
  omega
theorem fr_uq {R : Nat → Nat → Prop} {v r r' : Nat} (h : frP R v r) (h' : frP R v r') : r = r' := by
  rcases Nat.lt_trichotomy r r' with q | q | q
  · obtain ⟨j, j1, j2⟩ := h'.2 r q
    exact absurd (h.1 j j1) j2
  · exact q
  · obtain ⟨j, j1, j2⟩ := h.2 r' q
    exact absurd (h'.1 j j1) j2
theorem ck_uq {n m d : Int} {F T W : Nat → Int} {kind x : Int} {f g : Nat → Int64} (hk : 0 ≤ kind ∧ kind ≤ 6) (h : ckP n m d F T W kind x f) (h' : ckP n m d F T W kind x g) : ∀ v : Nat, (v : Int) < n → f v = g v := by
  intro v hv
  obtain ⟨a1, a2, a3, a4, a5⟩ := h
  obtain ⟨b1, b2, b3, b4, b5⟩ := h'
  rcases (show kind < 3 ∨ kind = 3 ∨ kind = 4 ∨ kind = 5 ∨ kind = 6 by omega) with k | k | k | k | k
  · rw [a1 k v hv, b1 k v hv]
  · exact Int64.toInt_inj.mp (co_uq (a2 k v hv) (b2 k v hv))
  · have q1 := a3 k v hv
    have q2 := b3 k v hv
    have q3 := fr_uq q1.2 q2.2
    exact Int64.toInt_inj.mp (by omega)
  · rw [a4 k v hv, b4 k v hv]
  · exact Int64.toInt_inj.mp ((a5 k v hv).trans (b5 k v hv).symm)
theorem DX_op {Γ : TG} {cI cJ cZ cT : ClassId} {s : Nat} {kn kd ka : Int} {kf kt kw kc : Nat → Int} {hp : MH} (ht : Tw (DG Γ cI cJ cZ cT s kn kd ka kf kt kw kc) hp) : ∃ lt : Nat → Int, Rfx 256 (-1000) 5000 lt ∧ Tw (DX Γ cI cJ cZ cT s kn kd ka kf kt kw kc lt) hp := by
  obtain ⟨e5, h5, f, he, h2⟩ := ht (s + 5) _ (DG_e 5 (by decide) rfl)
  refine ⟨fun i => (f i).toInt, h2, fun q T hq => ?_⟩
  by_cases hr : s ≤ q ∧ q < s + 6
  · obtain ⟨j, hj, rfl⟩ : ∃ j, j < 6 ∧ q = s + j := ⟨q - s, by omega, by omega⟩
    match j, hj with
    | 0, _ => obtain rfl := Option.some.inj ((DX_e 0 (by decide) rfl).symm.trans hq); exact ht _ _ (DG_e 0 (by decide) rfl)
    | 1, _ => obtain rfl := Option.some.inj ((DX_e 1 (by decide) rfl).symm.trans hq); exact ht _ _ (DG_e 1 (by decide) rfl)
    | 2, _ => obtain rfl := Option.some.inj ((DX_e 2 (by decide) rfl).symm.trans hq); exact ht _ _ (DG_e 2 (by decide) rfl)
    | 3, _ => obtain rfl := Option.some.inj ((DX_e 3 (by decide) rfl).symm.trans hq); exact ht _ _ (DG_e 3 (by decide) rfl)
    | 4, _ => obtain rfl := Option.some.inj ((DX_e 4 (by decide) rfl).symm.trans hq); exact ht _ _ (DG_e 4 (by decide) rfl)
    | 5, _ => obtain rfl := Option.some.inj ((DX_e 5 (by decide) rfl).symm.trans hq); exact ⟨e5, h5, f, he, fun _ _ => rfl⟩
    | j + 6, hj => omega
  · rw [DX_o (by omega)] at hq
    exact ht q T (by rw [DG_o (by omega)]; exact hq)
theorem DX_cl {Γ : TG} {cI cJ cZ cT : ClassId} {s : Nat} {kn kd ka : Int} {kf kt kw kc : Nat → Int} {lt : Nat → Int} {hp : MH} (ht : Tw (DX Γ cI cJ cZ cT s kn kd ka kf kt kw kc lt) hp) (hl : Rfx 256 (-1000) 5000 lt) : Tw (DG Γ cI cJ cZ cT s kn kd ka kf kt kw kc) hp := by
  obtain ⟨e5, h5, f, he, h2⟩ := ht (s + 5) _ (DX_e 5 (by decide) rfl)
  intro q T hq
  by_cases hr : s ≤ q ∧ q < s + 6
  · obtain ⟨j, hj, rfl⟩ : ∃ j, j < 6 ∧ q = s + j := ⟨q - s, by omega, by omega⟩
    match j, hj with
    | 0, _ => obtain rfl := Option.some.inj ((DG_e 0 (by decide) rfl).symm.trans hq); exact ht _ _ (DX_e 0 (by decide) rfl)
    | 1, _ => obtain rfl := Option.some.inj ((DG_e 1 (by decide) rfl).symm.trans hq); exact ht _ _ (DX_e 1 (by decide) rfl)
    | 2, _ => obtain rfl := Option.some.inj ((DG_e 2 (by decide) rfl).symm.trans hq); exact ht _ _ (DX_e 2 (by decide) rfl)
    | 3, _ => obtain rfl := Option.some.inj ((DG_e 3 (by decide) rfl).symm.trans hq); exact ht _ _ (DX_e 3 (by decide) rfl)
    | 4, _ => obtain rfl := Option.some.inj ((DG_e 4 (by decide) rfl).symm.trans hq); exact ht _ _ (DX_e 4 (by decide) rfl)
    | 5, _ => obtain rfl := Option.some.inj ((DG_e 5 (by decide) rfl).symm.trans hq); exact ⟨e5, h5, f, he, fun i hi => by rw [h2 i hi]; exact hl i hi⟩
    | j + 6, hj => omega
  · rw [DG_o (by omega)] at hq
    exact ht q T (by rw [DX_o (by omega)]; exact hq)
theorem CG_ov {Γ : TG} {cI cJ cZ cT : ClassId} {a : Nat} {ct : Int} {rv : Int} {th : Nat → Option Nat} {dn : Int} {dd : Int} {da : Int} {df : Nat → Int} {dt : Nat → Int} {dw : Nat → Int} {dc : Nat → Int} {kn : Int} {kd : Int} {ka : Int} {kf : Nat → Int} {kt : Nat → Int} {kw : Nat → Int} {kc : Nat → Int} {c : Nat} {T : va_E → Prop} (h : a + 14 ≤ c) : CG (ov Γ c T) cI cJ cZ cT a ct rv th dn dd da df dt dw dc kn kd ka kf kt kw kc = ov (CG Γ cI cJ cZ cT a ct rv th dn dd da df dt dw dc kn kd ka kf kt kw kc) c T := by
  funext q
  by_cases e : q = c
  · subst e; rw [ov_s, CG_o (by omega), ov_s]
  · rw [ov_o _ _ e]
    by_cases hr : a ≤ q ∧ q < a + 14
    · unfold CG; rw [if_pos hr, if_pos hr]
    · rw [CG_o (by omega), CG_o (by omega), ov_o _ _ e]
theorem col_close {Γ : TG} {cI cJ cZ cT : ClassId} {a : Nat} {ct : Int} {rv : Int} {th : Nat → Option Nat} {dn : Int} {dd : Int} {da : Int} {df : Nat → Int} {dt : Nat → Int} {dw : Nat → Int} {dc : Nat → Int} {kn : Int} {kd : Int} {ka : Int} {kf : Nat → Int} {kt : Nat → Int} {kw : Nat → Int} {kc : Nat → Int} {Γ2 : TG} {hp : MH} {n N : Nat} {f : Nat → Int64} (hE : Ext Γ Γ2) (hlo : ∀ (q : Nat) (T : va_E → Prop), Γ q = some T → q < n) (hn : a + 84 ≤ n) (hv : TyCw Γ2 cI cJ cZ n (n + 1) N) (ht : Tw (ov (CG Γ2 cI cJ cZ cT a ct rv th dn dd da df dt dw dc kn kd ka kf kt kw kc) (n + 1) (xJ cJ N f)) hp) : ∃ Γ3 : TG, Ext Γ Γ3 ∧ Tw (CG Γ3 cI cJ cZ cT a ct rv th dn dd da df dt dw dc kn kd ka kf kt kw kc) hp ∧ CX Γ3 cI cJ cZ a n (N : Int) f := by
  refine ⟨ov Γ2 (n + 1) (xJ cJ N f), fun q T h => ?_, ?_, n + 1, N, ⟨rd_ov (by omega) hv.1, ?_, hv.2.2⟩, by omega, rd_of (ov_s _ _ _), rfl⟩
  · have h1 := hlo q T h
    rw [ov_o _ _ (by omega)]; exact hE q T h
  · rw [CG_ov (by omega)]; exact ht
  · exact ⟨_, ov_s _ _ _, fun e he => xJ_any e he⟩
theorem rw_ou {m q N : Nat} {d : Int} {F T Tl Hd By Ou : Nat → Int} {pos A B : Nat → Nat} (hgo : GoS m q d F T Tl Hd By pos) (hO : ∀ u j, Me (Ou u) j ↔ ∃ i, i < q ∧ A i = u ∧ B i = j) (hA : ∀ k, k < q → ((A k : Nat) : Int) = Tl k) (hB : ∀ k, k < q → ((B k : Nat) : Int) = Hd k) (hF : ∀ k, k < m → (0 ≤ F k ∧ F k < (N : Int)) ∧ (0 ≤ T k ∧ T k < (N : Int))) : rwP Ou N (stP m d F T) := by
  refine ⟨fun i hi j => ?_, fun i j h => ?_⟩
  · rw [hO]
    show _ ↔ ∃ k, k < m ∧ goP d F T k (i : Int) (j : Int)
    rw [← gos_st hgo (i : Int) (j : Int)]
    constructor
    · rintro ⟨k, hk, e1, e2⟩; exact ⟨k, hk, by rw [← hA k hk, e1], by rw [← hB k hk, e2]⟩
    · rintro ⟨k, hk, e1, e2⟩; have h1 := hA k hk; have h2 := hB k hk; exact ⟨k, hk, by omega, by omega⟩
  · obtain ⟨k, hk, g⟩ := h
    have h1 := hF k hk
    rcases g with ⟨e1, e2⟩ | ⟨e0, e1, e2⟩ <;> omega
theorem rw_in {m q N : Nat} {d : Int} {F T Tl Hd By Ou : Nat → Int} {pos A B : Nat → Nat} (hgo : GoS m q d F T Tl Hd By pos) (hO : ∀ u j, Me (Ou u) j ↔ ∃ i, i < q ∧ B i = u ∧ A i = j) (hA : ∀ k, k < q → ((A k : Nat) : Int) = Tl k) (hB : ∀ k, k < q → ((B k : Nat) : Int) = Hd k) (hF : ∀ k, k < m → (0 ≤ F k ∧ F k < (N : Int)) ∧ (0 ≤ T k ∧ T k < (N : Int))) : rwP Ou N (fun i j => stP m d F T j i) := by
  refine ⟨fun i hi j => ?_, fun i j h => ?_⟩
  · rw [hO]
    show _ ↔ ∃ k, k < m ∧ goP d F T k (j : Int) (i : Int)
    rw [← gos_st hgo (j : Int) (i : Int)]
    constructor
    · rintro ⟨k, hk, e1, e2⟩; exact ⟨k, hk, by rw [← hA k hk, e2], by rw [← hB k hk, e1]⟩
    · rintro ⟨k, hk, e1, e2⟩; have h1 := hA k hk; have h2 := hB k hk; exact ⟨k, hk, by omega, by omega⟩
  · obtain ⟨k, hk, g⟩ := h
    have h1 := hF k hk
    rcases g with ⟨e1, e2⟩ | ⟨e0, e1, e2⟩ <;> omega
theorem rw_jo {m q N : Nat} {d : Int} {F T Tl Hd By Jo : Nat → Int} {pos A B : Nat → Nat} (hgo : GoS m q d F T Tl Hd By pos) (hO : ∀ u j, Me (Jo u) j ↔ ∃ i, i < q ∧ A i ≠ B i ∧ ((A i = u ∧ B i = j) ∨ (B i = u ∧ A i = j))) (hA : ∀ k, k < q → ((A k : Nat) : Int) = Tl k) (hB : ∀ k, k < q → ((B k : Nat) : Int) = Hd k) (hF : ∀ k, k < m → (0 ≤ F k ∧ F k < (N : Int)) ∧ (0 ≤ T k ∧ T k < (N : Int))) : rwP Jo N (joX m F T (fun _ => True)) := by
  refine ⟨fun i hi j => ?_, fun i j h => ?_⟩
  · rw [hO, ← gos_jo hgo i j]
    constructor
    · rintro ⟨k, hk, e0, e⟩; have h1 := hA k hk; have h2 := hB k hk; exact ⟨k, hk, by omega, by omega⟩
    · rintro ⟨k, hk, e0, e⟩; have h1 := hA k hk; have h2 := hB k hk; exact ⟨k, hk, by omega, by omega⟩
  · obtain ⟨k, hk, -, -, g⟩ := h
    have h1 := hF k hk
    rcases g with ⟨e1, e2⟩ | ⟨e1, e2⟩ <;> omega
theorem mk_GX {Γ : TG} {cI cJ cZ : ClassId} {a n N m Q : Nat} {kd : Int} {F T W C Tl Hd By Ou In Jo : Nat → Int} {pos : Nat → Nat} (h : ∀ (j : Nat) (T9 : va_E → Prop), (grL cI n N m Q kd F T W C Tl Hd By Ou In Jo)[j]? = some T9 → Γ (n + j) = some T9) (hn : a + 84 ≤ n) (hN : 1 ≤ N ∧ N ≤ 16) (hm : m ≤ 60) (hQ : Q ≤ 120) (hd : 0 ≤ kd ∧ kd ≤ 1) (rF : Rfx m 0 ((N : Int) - 1) F) (rT : Rfx m 0 ((N : Int) - 1) T) (rW : Rfx m (-1000) 1000 W) (rC : Rfx m (-1000) 1000 C) (rTl : Rfx Q 0 ((N : Int) - 1) Tl) (rHd : Rfx Q 0 ((N : Int) - 1) Hd) (rBy : Rfx Q 0 ((m : Int) - 1) By) (rOu : Rfx N 0 65535 Ou) (rIn : Rfx N 0 65535 In) (rJo : Rfx N 0 65535 Jo) (hou : ∀ k : Nat, k < Q → Me (Ou (Tl k).toNat) (Hd k).toNat) (hgo : GoS m Q kd F T Tl Hd By pos) (h1 : rwP Ou N (stP m kd F T)) (h2 : rwP In N (fun i j => stP m kd F T j i)) (h3 : rwP Jo N (joX m F T (fun _ => True))) : GX Γ cI cJ cZ a n (N : Int) kd (m : Int) F T W C := by
  have e0 : Γ n = some (tO 3 [fE (.int (iv (N : Int))), fE (.int (iv kd)), fE (.int (iv (m : Int))), fE (.ref (n + 1)), fE (.ref (n + 2)), fE (.ref (n + 3)), fE (.ref (n + 4)), fE (.int (iv (Q : Int))), fE (.ref (n + 8)), fE (.ref (n + 9)), fE (.ref (n + 10)), fE (.ref (n + 5)), fE (.ref (n + 6)), fE (.ref (n + 7))]) := h 0 _ rfl
  have eF : Γ (n + 1) = some (xI cI m F) := h 1 _ rfl
  have eT : Γ (n + 2) = some (xI cI m T) := h 2 _ rfl
  have eW : Γ (n + 3) = some (xI cI m W) := h 3 _ rfl
  have eC : Γ (n + 4) = some (xI cI m C) := h 4 _ rfl
  have eOu : Γ (n + 5) = some (xI cI N Ou) := h 5 _ rfl
  have eIn : Γ (n + 6) = some (xI cI N In) := h 6 _ rfl
  have eJo : Γ (n + 7) = some (xI cI N Jo) := h 7 _ rfl
  have eTl : Γ (n + 8) = some (xI cI Q Tl) := h 8 _ rfl
  have eHd : Γ (n + 9) = some (xI cI Q Hd) := h 9 _ rfl
  have eBy : Γ (n + 10) = some (xI cI Q By) := h 10 _ rfl
  exact ⟨n + 1, n + 2, n + 3, n + 4, n + 8, n + 9, n + 10, n + 5, n + 6, n + 7, N, m, Q, kd, Tl, Hd, By, Ou, In, Jo, pos, ⟨rd_of e0, rd_xr (rd_of eF) rF, rd_xr (rd_of eT) rT, rd_xr (rd_of eW) rW, rd_xr (rd_of eC) rC, rd_xr (rd_of eTl) rTl, rd_xr (rd_of eHd) rHd, rd_xr (rd_of eBy) rBy, rd_xr (rd_of eOu) rOu, rd_xr (rd_of eIn) rIn, rd_xr (rd_of eJo) rJo, by omega⟩, by omega, ⟨⟨rd_of eF, rd_of eT, rd_of eW, rd_of eC, rd_of eTl, rd_of eHd, rd_of eBy, rd_of eOu, rd_of eIn, rd_of eJo⟩, ⟨rF, rT, rW, rC, rTl, rHd, rBy, rOu, rIn, rJo⟩, hou⟩, hgo, h1, h2, h3, rfl, rfl, rfl⟩
set_option maxHeartbeats 4000000 in
set_option maxRecDepth 100000 in
theorem u_initG_dr {D : va_G} {cI cJ cZ cT : ClassId} {lo b L : Nat} {xs : Nat → Int32} {M : MM} {d pc : Nat} {lv : List (Nat × Value)} {st : List Value} {hp : MH} {n kr wr : Nat} {Po : Option Value → MH → Nat → Prop} {hp1 : MH} {Γ : TG} {a : Nat} {ct : Int} {rv : Int} {th : Nat → Option Nat} {dn : Int} {dd : Int} {da : Int} {df : Nat → Int} {dt : Nat → Int} {dw : Nat → Int} {dc : Nat → Int} {kn : Int} {kd : Int} {ka : Int} {kf : Nat → Int} {kt : Nat → Int} {kw : Nat → Int} {kc : Nat → Int} {ix : Nat} (ht : Tw (CG Γ cI cJ cZ cT a ct rv th dn dd da df dt dw dc kn kd ka kf kt kw kc) hp) (bd : ∀ (q : Nat) (e : va_E), hp q = some e → q < n) (hn : a + 84 ≤ n) (hk1 : ∀ (q : Nat) (e : va_E), hp q = some e → hp1 q = some e) (h1 : hp1 n = some (.inr (3, [.int 0, .int 0, .int 0, .null, .null, .null, .null, .int 0, .null, .null, .null, .null, .null, .null]))) (hkn : 1 ≤ dn ∧ dn ≤ 16) (hkd : 0 ≤ dd ∧ dd ≤ 1) (hka : 0 ≤ da ∧ da ≤ 60) (hr : arP df dt dw dc da dn) (F : lkK (gG D cI cJ cZ cT lo b L xs) M.1.cls ix mX3_init 1 ∧ Cond.instanceMethod mX3_init.1 ∈ g_ws (gG D cI cJ cZ cT lo b L xs) ∧ mX3_init.1.name = "<init>" ∧ mX3_init.2.2.2 = none) (hd : decode M.2.1 pc = .ok (.invokespecial ix, 3)) (hdd : 3 ≤ d) (hst : (st.map fun v => v.category).sum ≤ 8) (hkr : 10 ≤ kr) (hwr : 648 ≤ wr) (kk : ∀ (hp2 : MH) (Γ2 : TG) (wr2 : Nat), Ext Γ Γ2 → Tw (CG Γ2 cI cJ cZ cT a ct rv th dn dd da df dt dw dc kn kd ka kf kt kw kc) hp2 → GX Γ2 cI cJ cZ a n dn dd da df dt dw dc → Rn (gG D cI cJ cZ cT lo b L xs) M d (pc + 3) lv st hp2 (n + 1 + 10) (kr - 10) wr2 Po) : Rn (gG D cI cJ cZ cT lo b L xs) M d pc lv (.ref (a + 2) :: .ref n :: st) hp1 (n + 1) kr wr Po := by
  obtain ⟨N, rfl⟩ := Int.eq_ofNat_of_zero_le (show 0 ≤ dn by omega)
  obtain ⟨m, rfl⟩ := Int.eq_ofNat_of_zero_le (show 0 ≤ da by omega)
  have ht1 := Tw_fr ht hk1
  obtain ⟨e8, g8, g9⟩ := ht1 _ _ (CG_e 2 (by decide) rfl)
  have g10 := tO_ex (vs := [.int (iv (N : Int)), .int (iv dd), .int (iv (m : Int)), .ref (a + 2 + 1), .ref (a + 2 + 2), .ref (a + 2 + 3), .ref (a + 2 + 4), .ref (a + 2 + 5)]) g9
  subst g10
  obtain ⟨_, q1, f1, rfl, r1⟩ := ht1 _ _ (CG_e 3 (by decide) rfl)
  obtain ⟨_, q2, f2, rfl, r2⟩ := ht1 _ _ (CG_e 4 (by decide) rfl)
  obtain ⟨_, q3, f3, rfl, r3⟩ := ht1 _ _ (CG_e 5 (by decide) rfl)
  obtain ⟨_, q4, f4, rfl, r4⟩ := ht1 _ _ (CG_e 6 (by decide) rfl)
  have hq : iv dd = bI (decide (dd = 1)) := by
    rcases (show dd = 0 ∨ dd = 1 by omega) with h9 | h9 <;> rw [h9] <;> decide
  rw [hq, ← nI_iv N, ← nI_iv m] at g8
  have s1 : ∀ i, i < 60 → (f1 i).toInt = df i := r1
  have s2 : ∀ i, i < 60 → (f2 i).toInt = dt i := r2
  have s3 : ∀ i, i < 60 → (f3 i).toInt = dw i := r3
  have s4 : ∀ i, i < 60 → (f4 i).toInt = dc i := r4
  have hv : ∀ i, i < m → (0 ≤ (f1 i).toInt ∧ (f1 i).toInt < (N : Int)) ∧ (0 ≤ (f2 i).toInt ∧ (f2 i).toInt < (N : Int)) ∧ (-1000 ≤ (f3 i).toInt ∧ (f3 i).toInt ≤ 1000) ∧ (-1000 ≤ (f4 i).toInt ∧ (f4 i).toInt ≤ 1000) := by
    intro i hi
    have h9 := hr (i : Int) (by omega) (by omega)
    rw [Int.toNat_natCast] at h9
    rw [s1 i (by omega), s2 i (by omega), s3 i (by omega), s4 i (by omega)]
    exact h9
  have nu : ∀ (x : Int32), 0 ≤ x.toInt → x.toInt < (N : Int) → ∃ u, u < N ∧ x = nI u := by
    intro x h8 h9
    exact ⟨x.toInt.toNat, by omega, by rw [← iv_nI h8, iv_of]⟩
  have hgl := gc_le (decide (dd = 1)) f1 f2 m
  refine r_callI (pc := pc) (as := [.ref (a + 2)]) (st := st) F hd (c_X3_init (d := d - 1) (by omega) h1 g8 q1 q2 q3 q4 (by omega) (by omega) (by omega) (fun i hi => ⟨nu _ (hv i hi).1.1 (hv i hi).1.2, nu _ (hv i hi).2.1.1 (hv i hi).2.1.2⟩)) rfl (by omega) hst (by omega) (by omega) rfl (fun r hp2 n2 hq2 => ?_)
  obtain ⟨rfl, rfl, b0, b1, b2, b3, b4, b5, b6, b7, b8, b9, b10, hfr⟩ := hq2
  rw [nI_iv N, nI_iv m, nI_iv (m + gc (decide (dd = 1)) f1 f2 m), ← hq] at b0
  have hL : ∀ (j : Nat) (T9 : va_E → Prop), (grL cI n N m (m + gc (decide (dd = 1)) f1 f2 m) dd (fun i => (f1 i).toInt) (fun i => (f2 i).toInt) (fun i => (f3 i).toInt) (fun i => (f4 i).toInt) (fun i => (goF (decide (dd = 1)) f1 f2 f1 f2 m i).toInt) (fun i => (goF (decide (dd = 1)) f1 f2 f2 f1 m i).toInt) (fun i => (goF (decide (dd = 1)) f1 f2 nI nI m i).toInt) (fun i => (nbF (ndF (goF (decide (dd = 1)) f1 f2 f1 f2 m)) (ndF (goF (decide (dd = 1)) f1 f2 f2 f1 m)) (m + gc (decide (dd = 1)) f1 f2 m) i).toInt) (fun i => (nbF (ndF (goF (decide (dd = 1)) f1 f2 f2 f1 m)) (ndF (goF (decide (dd = 1)) f1 f2 f1 f2 m)) (m + gc (decide (dd = 1)) f1 f2 m) i).toInt) (fun i => (joF (ndF (goF (decide (dd = 1)) f1 f2 f1 f2 m)) (ndF (goF (decide (dd = 1)) f1 f2 f2 f1 m)) (m + gc (decide (dd = 1)) f1 f2 m) i).toInt))[j]? = some T9 → ∃ e, hp2 (n + j) = some e ∧ T9 e := by
    intro j T9 hj
    match j, hj with
    | 0, hj =>
      obtain rfl := Option.some.inj hj
      exact ⟨_, b0, tO_mk (vs := [.int (iv (N : Int)), .int (iv dd), .int (iv (m : Int)), .ref (n + 1), .ref (n + 2), .ref (n + 3), .ref (n + 4), .int (iv ((m + gc (decide (dd = 1)) f1 f2 m : Nat) : Int)), .ref (n + 8), .ref (n + 9), .ref (n + 10), .ref (n + 5), .ref (n + 6), .ref (n + 7)])⟩
    | 1, hj =>
      obtain rfl := Option.some.inj hj
      exact ⟨_, b1, _, rfl, fun _ _ => rfl⟩
    | 2, hj =>
      obtain rfl := Option.some.inj hj
      exact ⟨_, b2, _, rfl, fun _ _ => rfl⟩
    | 3, hj =>
      obtain rfl := Option.some.inj hj
      exact ⟨_, b3, _, rfl, fun _ _ => rfl⟩
    | 4, hj =>
      obtain rfl := Option.some.inj hj
      exact ⟨_, b4, _, rfl, fun _ _ => rfl⟩
    | 5, hj =>
      obtain rfl := Option.some.inj hj
      exact ⟨_, b5, _, rfl, fun _ _ => rfl⟩
    | 6, hj =>
      obtain rfl := Option.some.inj hj
      exact ⟨_, b6, _, rfl, fun _ _ => rfl⟩
    | 7, hj =>
      obtain rfl := Option.some.inj hj
      exact ⟨_, b7, _, rfl, fun _ _ => rfl⟩
    | 8, hj =>
      obtain rfl := Option.some.inj hj
      exact ⟨_, b8, _, rfl, fun _ _ => rfl⟩
    | 9, hj =>
      obtain rfl := Option.some.inj hj
      exact ⟨_, b9, _, rfl, fun _ _ => rfl⟩
    | 10, hj =>
      obtain rfl := Option.some.inj hj
      exact ⟨_, b10, _, rfl, fun _ _ => rfl⟩
    | j + 11, hj => exact absurd (List.getElem?_eq_some_iff.mp hj).1 (by show ¬ (j + 11 < 11); omega)
  obtain ⟨Γ2, hE, ht2, hΓ⟩ := new_CG ht bd (by omega) (fun q e h9 => hfr q e (hk1 q e h9) (by have h8 := bd q e h9; omega)) hL
  have rTl : ∀ k, k < (m + gc (decide (dd = 1)) f1 f2 m) → 0 ≤ (goF (decide (dd = 1)) f1 f2 f1 f2 m k).toInt ∧ (goF (decide (dd = 1)) f1 f2 f1 f2 m k).toInt ≤ (N : Int) - 1 := goF_all (P := fun v => 0 ≤ v.toInt ∧ v.toInt ≤ (N : Int) - 1) m (fun i hi => by have h9 := hv i hi; omega)
  have rHd : ∀ k, k < (m + gc (decide (dd = 1)) f1 f2 m) → 0 ≤ (goF (decide (dd = 1)) f1 f2 f2 f1 m k).toInt ∧ (goF (decide (dd = 1)) f1 f2 f2 f1 m k).toInt ≤ (N : Int) - 1 := goF_all (P := fun v => 0 ≤ v.toInt ∧ v.toInt ≤ (N : Int) - 1) m (fun i hi => by have h9 := hv i hi; omega)
  have rBy : ∀ k, k < (m + gc (decide (dd = 1)) f1 f2 m) → 0 ≤ (goF (decide (dd = 1)) f1 f2 nI nI m k).toInt ∧ (goF (decide (dd = 1)) f1 f2 nI nI m k).toInt ≤ (m : Int) - 1 := goF_all (P := fun v => 0 ≤ v.toInt ∧ v.toInt ≤ (m : Int) - 1) m (fun i hi => by have e9 : (nI i).toInt = (i : Int) := (by rw [nI_iv, iv_toInt (by omega) (by omega)]); rw [e9]; omega)
  have bTl : ∀ k, k < (m + gc (decide (dd = 1)) f1 f2 m) → ndF (goF (decide (dd = 1)) f1 f2 f1 f2 m) k < 16 := fun k hk => by
    have h9 := rTl k hk
    show (goF (decide (dd = 1)) f1 f2 f1 f2 m k).toInt.toNat < 16
    omega
  have bHd : ∀ k, k < (m + gc (decide (dd = 1)) f1 f2 m) → ndF (goF (decide (dd = 1)) f1 f2 f2 f1 m) k < 16 := fun k hk => by
    have h9 := rHd k hk
    show (goF (decide (dd = 1)) f1 f2 f2 f1 m k).toInt.toNat < 16
    omega
  have zr : ∀ x : Int32, (∃ z : Int, x = iv z ∧ 0 ≤ z ∧ z ≤ 65535) → 0 ≤ x.toInt ∧ x.toInt ≤ 65535 := by
    rintro x ⟨z, rfl, h8, h9⟩
    rw [iv_toInt (by omega) (by omega)]; exact ⟨h8, h9⟩
  have hgs := go_GoS (q := (decide (dd = 1))) (f := f1) (t := f2) (m := m) (d := dd) (by rcases (show dd = 0 ∨ dd = 1 by omega) with h9 | h9 <;> rw [h9] <;> decide) (by omega)
  have hA : ∀ k, k < (m + gc (decide (dd = 1)) f1 f2 m) → ((ndF (goF (decide (dd = 1)) f1 f2 f1 f2 m) k : Nat) : Int) = (goF (decide (dd = 1)) f1 f2 f1 f2 m k).toInt := fun k hk => by
    have h9 := rTl k hk
    show (((goF (decide (dd = 1)) f1 f2 f1 f2 m k).toInt.toNat : Nat) : Int) = _
    omega
  have hB : ∀ k, k < (m + gc (decide (dd = 1)) f1 f2 m) → ((ndF (goF (decide (dd = 1)) f1 f2 f2 f1 m) k : Nat) : Int) = (goF (decide (dd = 1)) f1 f2 f2 f1 m k).toInt := fun k hk => by
    have h9 := rHd k hk
    show (((goF (decide (dd = 1)) f1 f2 f2 f1 m k).toInt.toNat : Nat) : Int) = _
    omega
  have hFT : ∀ k, k < m → (0 ≤ (f1 k).toInt ∧ (f1 k).toInt < (N : Int)) ∧ (0 ≤ (f2 k).toInt ∧ (f2 k).toInt < (N : Int)) := fun k hk => ⟨(hv k hk).1, (hv k hk).2.1⟩
  have hGX := mk_GX (cJ := cJ) (cZ := cZ) hΓ hn (by omega) (by omega) (by omega) hkd (fun i hi => (show 0 ≤ (f1 i).toInt ∧ (f1 i).toInt ≤ (N : Int) - 1 by have h9 := (hv i hi).1; omega)) (fun i hi => (show 0 ≤ (f2 i).toInt ∧ (f2 i).toInt ≤ (N : Int) - 1 by have h9 := (hv i hi).2.1; omega)) (fun i hi => (hv i hi).2.2.1) (fun i hi => (hv i hi).2.2.2) rTl rHd rBy (fun i _ => zr _ (nbF_r _ bHd i)) (fun i _ => zr _ (nbF_r _ bTl i)) (fun i _ => zr _ (joF_r _ (fun j hj => ⟨bTl j hj, bHd j hj⟩) i)) (fun k hk => nbF_me _ bHd k hk) hgs (rw_ou hgs (fun u j => nbF_iff _ bHd u j) hA hB hFT) (rw_in hgs (fun u j => nbF_iff _ bTl u j) hA hB hFT) (rw_jo hgs (fun u j => joF_iff _ (fun k hk => ⟨bTl k hk, bHd k hk⟩) u j) hA hB hFT)
  exact kk hp2 Γ2 _ hE ht2 (hGX.eq (fun k hk => ⟨s1 k (by omega), s2 k (by omega), s3 k (by omega), s4 k (by omega)⟩))
set_option maxHeartbeats 4000000 in
set_option maxRecDepth 100000 in
theorem u_initG_sk {D : va_G} {cI cJ cZ cT : ClassId} {lo b L : Nat} {xs : Nat → Int32} {M : MM} {d pc : Nat} {lv : List (Nat × Value)} {st : List Value} {hp : MH} {n kr wr : Nat} {Po : Option Value → MH → Nat → Prop} {hp1 : MH} {Γ : TG} {a : Nat} {ct : Int} {rv : Int} {th : Nat → Option Nat} {dn : Int} {dd : Int} {da : Int} {df : Nat → Int} {dt : Nat → Int} {dw : Nat → Int} {dc : Nat → Int} {kn : Int} {kd : Int} {ka : Int} {kf : Nat → Int} {kt : Nat → Int} {kw : Nat → Int} {kc : Nat → Int} {ix : Nat} (ht : Tw (CG Γ cI cJ cZ cT a ct rv th dn dd da df dt dw dc kn kd ka kf kt kw kc) hp) (bd : ∀ (q : Nat) (e : va_E), hp q = some e → q < n) (hn : a + 84 ≤ n) (hk1 : ∀ (q : Nat) (e : va_E), hp q = some e → hp1 q = some e) (h1 : hp1 n = some (.inr (3, [.int 0, .int 0, .int 0, .null, .null, .null, .null, .int 0, .null, .null, .null, .null, .null, .null]))) (hkn : 1 ≤ kn ∧ kn ≤ 16) (hkd : 0 ≤ kd ∧ kd ≤ 1) (hka : 0 ≤ ka ∧ ka ≤ 60) (hr : arP kf kt kw kc ka kn) (F : lkK (gG D cI cJ cZ cT lo b L xs) M.1.cls ix mX3_init 1 ∧ Cond.instanceMethod mX3_init.1 ∈ g_ws (gG D cI cJ cZ cT lo b L xs) ∧ mX3_init.1.name = "<init>" ∧ mX3_init.2.2.2 = none) (hd : decode M.2.1 pc = .ok (.invokespecial ix, 3)) (hdd : 3 ≤ d) (hst : (st.map fun v => v.category).sum ≤ 8) (hkr : 10 ≤ kr) (hwr : 648 ≤ wr) (kk : ∀ (hp2 : MH) (Γ2 : TG) (wr2 : Nat), Ext Γ Γ2 → Tw (CG Γ2 cI cJ cZ cT a ct rv th dn dd da df dt dw dc kn kd ka kf kt kw kc) hp2 → GX Γ2 cI cJ cZ a n kn kd ka kf kt kw kc → Rn (gG D cI cJ cZ cT lo b L xs) M d (pc + 3) lv st hp2 (n + 1 + 10) (kr - 10) wr2 Po) : Rn (gG D cI cJ cZ cT lo b L xs) M d pc lv (.ref (a + 8) :: .ref n :: st) hp1 (n + 1) kr wr Po := by
  obtain ⟨N, rfl⟩ := Int.eq_ofNat_of_zero_le (show 0 ≤ kn by omega)
  obtain ⟨m, rfl⟩ := Int.eq_ofNat_of_zero_le (show 0 ≤ ka by omega)
  have ht1 := Tw_fr ht hk1
  obtain ⟨e8, g8, g9⟩ := ht1 _ _ (CG_e 8 (by decide) rfl)
  have g10 := tO_ex (vs := [.int (iv (N : Int)), .int (iv kd), .int (iv (m : Int)), .ref (a + 8 + 1), .ref (a + 8 + 2), .ref (a + 8 + 3), .ref (a + 8 + 4), .ref (a + 8 + 5)]) g9
  subst g10
  obtain ⟨_, q1, f1, rfl, r1⟩ := ht1 _ _ (CG_e 9 (by decide) rfl)
  obtain ⟨_, q2, f2, rfl, r2⟩ := ht1 _ _ (CG_e 10 (by decide) rfl)
  obtain ⟨_, q3, f3, rfl, r3⟩ := ht1 _ _ (CG_e 11 (by decide) rfl)
  obtain ⟨_, q4, f4, rfl, r4⟩ := ht1 _ _ (CG_e 12 (by decide) rfl)
  have hq : iv kd = bI (decide (kd = 1)) := by
    rcases (show kd = 0 ∨ kd = 1 by omega) with h9 | h9 <;> rw [h9] <;> decide
  rw [hq, ← nI_iv N, ← nI_iv m] at g8
  have s1 : ∀ i, i < 60 → (f1 i).toInt = kf i := r1
  have s2 : ∀ i, i < 60 → (f2 i).toInt = kt i := r2
  have s3 : ∀ i, i < 60 → (f3 i).toInt = kw i := r3
  have s4 : ∀ i, i < 60 → (f4 i).toInt = kc i := r4
  have hv : ∀ i, i < m → (0 ≤ (f1 i).toInt ∧ (f1 i).toInt < (N : Int)) ∧ (0 ≤ (f2 i).toInt ∧ (f2 i).toInt < (N : Int)) ∧ (-1000 ≤ (f3 i).toInt ∧ (f3 i).toInt ≤ 1000) ∧ (-1000 ≤ (f4 i).toInt ∧ (f4 i).toInt ≤ 1000) := by
    intro i hi
    have h9 := hr (i : Int) (by omega) (by omega)
    rw [Int.toNat_natCast] at h9
    rw [s1 i (by omega), s2 i (by omega), s3 i (by omega), s4 i (by omega)]
    exact h9
  have nu : ∀ (x : Int32), 0 ≤ x.toInt → x.toInt < (N : Int) → ∃ u, u < N ∧ x = nI u := by
    intro x h8 h9
    exact ⟨x.toInt.toNat, by omega, by rw [← iv_nI h8, iv_of]⟩
  have hgl := gc_le (decide (kd = 1)) f1 f2 m
  refine r_callI (pc := pc) (as := [.ref (a + 8)]) (st := st) F hd (c_X3_init (d := d - 1) (by omega) h1 g8 q1 q2 q3 q4 (by omega) (by omega) (by omega) (fun i hi => ⟨nu _ (hv i hi).1.1 (hv i hi).1.2, nu _ (hv i hi).2.1.1 (hv i hi).2.1.2⟩)) rfl (by omega) hst (by omega) (by omega) rfl (fun r hp2 n2 hq2 => ?_)
  obtain ⟨rfl, rfl, b0, b1, b2, b3, b4, b5, b6, b7, b8, b9, b10, hfr⟩ := hq2
  rw [nI_iv N, nI_iv m, nI_iv (m + gc (decide (kd = 1)) f1 f2 m), ← hq] at b0
  have hL : ∀ (j : Nat) (T9 : va_E → Prop), (grL cI n N m (m + gc (decide (kd = 1)) f1 f2 m) kd (fun i => (f1 i).toInt) (fun i => (f2 i).toInt) (fun i => (f3 i).toInt) (fun i => (f4 i).toInt) (fun i => (goF (decide (kd = 1)) f1 f2 f1 f2 m i).toInt) (fun i => (goF (decide (kd = 1)) f1 f2 f2 f1 m i).toInt) (fun i => (goF (decide (kd = 1)) f1 f2 nI nI m i).toInt) (fun i => (nbF (ndF (goF (decide (kd = 1)) f1 f2 f1 f2 m)) (ndF (goF (decide (kd = 1)) f1 f2 f2 f1 m)) (m + gc (decide (kd = 1)) f1 f2 m) i).toInt) (fun i => (nbF (ndF (goF (decide (kd = 1)) f1 f2 f2 f1 m)) (ndF (goF (decide (kd = 1)) f1 f2 f1 f2 m)) (m + gc (decide (kd = 1)) f1 f2 m) i).toInt) (fun i => (joF (ndF (goF (decide (kd = 1)) f1 f2 f1 f2 m)) (ndF (goF (decide (kd = 1)) f1 f2 f2 f1 m)) (m + gc (decide (kd = 1)) f1 f2 m) i).toInt))[j]? = some T9 → ∃ e, hp2 (n + j) = some e ∧ T9 e := by
    intro j T9 hj
    match j, hj with
    | 0, hj =>
      obtain rfl := Option.some.inj hj
      exact ⟨_, b0, tO_mk (vs := [.int (iv (N : Int)), .int (iv kd), .int (iv (m : Int)), .ref (n + 1), .ref (n + 2), .ref (n + 3), .ref (n + 4), .int (iv ((m + gc (decide (kd = 1)) f1 f2 m : Nat) : Int)), .ref (n + 8), .ref (n + 9), .ref (n + 10), .ref (n + 5), .ref (n + 6), .ref (n + 7)])⟩
    | 1, hj =>
      obtain rfl := Option.some.inj hj
      exact ⟨_, b1, _, rfl, fun _ _ => rfl⟩
    | 2, hj =>
      obtain rfl := Option.some.inj hj
      exact ⟨_, b2, _, rfl, fun _ _ => rfl⟩
    | 3, hj =>
      obtain rfl := Option.some.inj hj
      exact ⟨_, b3, _, rfl, fun _ _ => rfl⟩
    | 4, hj =>
      obtain rfl := Option.some.inj hj
      exact ⟨_, b4, _, rfl, fun _ _ => rfl⟩
    | 5, hj =>
      obtain rfl := Option.some.inj hj
      exact ⟨_, b5, _, rfl, fun _ _ => rfl⟩
    | 6, hj =>
      obtain rfl := Option.some.inj hj
      exact ⟨_, b6, _, rfl, fun _ _ => rfl⟩
    | 7, hj =>
      obtain rfl := Option.some.inj hj
      exact ⟨_, b7, _, rfl, fun _ _ => rfl⟩
    | 8, hj =>
      obtain rfl := Option.some.inj hj
      exact ⟨_, b8, _, rfl, fun _ _ => rfl⟩
    | 9, hj =>
      obtain rfl := Option.some.inj hj
      exact ⟨_, b9, _, rfl, fun _ _ => rfl⟩
    | 10, hj =>
      obtain rfl := Option.some.inj hj
      exact ⟨_, b10, _, rfl, fun _ _ => rfl⟩
    | j + 11, hj => exact absurd (List.getElem?_eq_some_iff.mp hj).1 (by show ¬ (j + 11 < 11); omega)
  obtain ⟨Γ2, hE, ht2, hΓ⟩ := new_CG ht bd (by omega) (fun q e h9 => hfr q e (hk1 q e h9) (by have h8 := bd q e h9; omega)) hL
  have rTl : ∀ k, k < (m + gc (decide (kd = 1)) f1 f2 m) → 0 ≤ (goF (decide (kd = 1)) f1 f2 f1 f2 m k).toInt ∧ (goF (decide (kd = 1)) f1 f2 f1 f2 m k).toInt ≤ (N : Int) - 1 := goF_all (P := fun v => 0 ≤ v.toInt ∧ v.toInt ≤ (N : Int) - 1) m (fun i hi => by have h9 := hv i hi; omega)
  have rHd : ∀ k, k < (m + gc (decide (kd = 1)) f1 f2 m) → 0 ≤ (goF (decide (kd = 1)) f1 f2 f2 f1 m k).toInt ∧ (goF (decide (kd = 1)) f1 f2 f2 f1 m k).toInt ≤ (N : Int) - 1 := goF_all (P := fun v => 0 ≤ v.toInt ∧ v.toInt ≤ (N : Int) - 1) m (fun i hi => by have h9 := hv i hi; omega)
  have rBy : ∀ k, k < (m + gc (decide (kd = 1)) f1 f2 m) → 0 ≤ (goF (decide (kd = 1)) f1 f2 nI nI m k).toInt ∧ (goF (decide (kd = 1)) f1 f2 nI nI m k).toInt ≤ (m : Int) - 1 := goF_all (P := fun v => 0 ≤ v.toInt ∧ v.toInt ≤ (m : Int) - 1) m (fun i hi => by have e9 : (nI i).toInt = (i : Int) := (by rw [nI_iv, iv_toInt (by omega) (by omega)]); rw [e9]; omega)
  have bTl : ∀ k, k < (m + gc (decide (kd = 1)) f1 f2 m) → ndF (goF (decide (kd = 1)) f1 f2 f1 f2 m) k < 16 := fun k hk => by
    have h9 := rTl k hk
    show (goF (decide (kd = 1)) f1 f2 f1 f2 m k).toInt.toNat < 16
    omega
  have bHd : ∀ k, k < (m + gc (decide (kd = 1)) f1 f2 m) → ndF (goF (decide (kd = 1)) f1 f2 f2 f1 m) k < 16 := fun k hk => by
    have h9 := rHd k hk
    show (goF (decide (kd = 1)) f1 f2 f2 f1 m k).toInt.toNat < 16
    omega
  have zr : ∀ x : Int32, (∃ z : Int, x = iv z ∧ 0 ≤ z ∧ z ≤ 65535) → 0 ≤ x.toInt ∧ x.toInt ≤ 65535 := by
    rintro x ⟨z, rfl, h8, h9⟩
    rw [iv_toInt (by omega) (by omega)]; exact ⟨h8, h9⟩
  have hgs := go_GoS (q := (decide (kd = 1))) (f := f1) (t := f2) (m := m) (d := kd) (by rcases (show kd = 0 ∨ kd = 1 by omega) with h9 | h9 <;> rw [h9] <;> decide) (by omega)
  have hA : ∀ k, k < (m + gc (decide (kd = 1)) f1 f2 m) → ((ndF (goF (decide (kd = 1)) f1 f2 f1 f2 m) k : Nat) : Int) = (goF (decide (kd = 1)) f1 f2 f1 f2 m k).toInt := fun k hk => by
    have h9 := rTl k hk
    show (((goF (decide (kd = 1)) f1 f2 f1 f2 m k).toInt.toNat : Nat) : Int) = _
    omega
  have hB : ∀ k, k < (m + gc (decide (kd = 1)) f1 f2 m) → ((ndF (goF (decide (kd = 1)) f1 f2 f2 f1 m) k : Nat) : Int) = (goF (decide (kd = 1)) f1 f2 f2 f1 m k).toInt := fun k hk => by
    have h9 := rHd k hk
    show (((goF (decide (kd = 1)) f1 f2 f2 f1 m k).toInt.toNat : Nat) : Int) = _
    omega
  have hFT : ∀ k, k < m → (0 ≤ (f1 k).toInt ∧ (f1 k).toInt < (N : Int)) ∧ (0 ≤ (f2 k).toInt ∧ (f2 k).toInt < (N : Int)) := fun k hk => ⟨(hv k hk).1, (hv k hk).2.1⟩
  have hGX := mk_GX (cJ := cJ) (cZ := cZ) hΓ hn (by omega) (by omega) (by omega) hkd (fun i hi => (show 0 ≤ (f1 i).toInt ∧ (f1 i).toInt ≤ (N : Int) - 1 by have h9 := (hv i hi).1; omega)) (fun i hi => (show 0 ≤ (f2 i).toInt ∧ (f2 i).toInt ≤ (N : Int) - 1 by have h9 := (hv i hi).2.1; omega)) (fun i hi => (hv i hi).2.2.1) (fun i hi => (hv i hi).2.2.2) rTl rHd rBy (fun i _ => zr _ (nbF_r _ bHd i)) (fun i _ => zr _ (nbF_r _ bTl i)) (fun i _ => zr _ (joF_r _ (fun j hj => ⟨bTl j hj, bHd j hj⟩) i)) (fun k hk => nbF_me _ bHd k hk) hgs (rw_ou hgs (fun u j => nbF_iff _ bHd u j) hA hB hFT) (rw_in hgs (fun u j => nbF_iff _ bTl u j) hA hB hFT) (rw_jo hgs (fun u j => joF_iff _ (fun k hk => ⟨bTl k hk, bHd k hk⟩) u j) hA hB hFT)
  exact kk hp2 Γ2 _ hE ht2 (hGX.eq (fun k hk => ⟨s1 k (by omega), s2 k (by omega), s3 k (by omega), s4 k (by omega)⟩))
set_option maxHeartbeats 4000000 in
theorem u_initC {D : va_G} {cI cJ cZ cT : ClassId} {lo b L : Nat} {xs : Nat → Int32} {M : MM} {d pc : Nat} {lv : List (Nat × Value)} {st : List Value} {hp : MH} {n kr wr : Nat} {Po : Option Value → MH → Nat → Prop} {hp1 : MH} {Γ : TG} {a : Nat} {ct : Int} {rv : Int} {th : Nat → Option Nat} {dn : Int} {dd : Int} {da : Int} {df : Nat → Int} {dt : Nat → Int} {dw : Nat → Int} {dc : Nat → Int} {kn : Int} {kd : Int} {ka : Int} {kf : Nat → Int} {kt : Nat → Int} {kw : Nat → Int} {kc : Nat → Int} {ix N : Nat} {x : Int} (ht : Tw (CG Γ cI cJ cZ cT a ct rv th dn dd da df dt dw dc kn kd ka kf kt kw kc) hp) (bd : ∀ (q : Nat) (e : va_E), hp q = some e → q < n) (hn : a + 84 ≤ n) (hk1 : ∀ (q : Nat) (e : va_E), hp q = some e → hp1 q = some e) (h1 : hp1 n = some (.inr (0, [.int 0, .null]))) (hx : x = (N : Int)) (hN : 1 ≤ N ∧ N ≤ 16) (F : lkK (gG D cI cJ cZ cT lo b L xs) M.1.cls ix mX0_init 1 ∧ Cond.instanceMethod mX0_init.1 ∈ g_ws (gG D cI cJ cZ cT lo b L xs) ∧ mX0_init.1.name = "<init>" ∧ mX0_init.2.2.2 = none) (hd : decode M.2.1 pc = .ok (.invokespecial ix, 3)) (hdd : 2 ≤ d) (hst : (st.map fun v => v.category).sum ≤ 8) (hkr : 1 ≤ kr) (hwr : N ≤ wr) (kk : ∀ (hp2 : MH) (Γ2 : TG), Ext Γ Γ2 → Tw (ov (CG Γ2 cI cJ cZ cT a ct rv th dn dd da df dt dw dc kn kd ka kf kt kw kc) (n + 1) (xJ cJ N (fun _ => 0))) hp2 → TyCw Γ2 cI cJ cZ n (n + 1) N → Rn (gG D cI cJ cZ cT lo b L xs) M d (pc + 3) lv st hp2 (n + 2) (kr - 1) (wr - N) Po) : Rn (gG D cI cJ cZ cT lo b L xs) M d pc lv (.int (iv x) :: .ref n :: st) hp1 (n + 1) kr wr Po := by
  rw [hx, ← nI_iv]
  refine r_callI (pc := pc) (as := [.int (nI N)]) (st := st) F hd (c_X0_init (d := d - 1) (by omega) h1 (by omega)) rfl (by omega) hst (by omega) (by omega) rfl (fun r hp2 n2 hq2 => ?_)
  obtain ⟨rfl, rfl, b0, b1, hfr⟩ := hq2
  rw [nI_iv] at b0
  have hL : ∀ (j : Nat) (T9 : va_E → Prop), [tO 0 [fE (.int (iv (N : Int))), fE (.ref (n + 1))], tJ cJ N anyJ][j]? = some T9 → ∃ e, hp2 (n + j) = some e ∧ T9 e := by
    intro j T9 hj
    match j, hj with
    | 0, hj =>
      obtain rfl := Option.some.inj hj
      exact ⟨_, b0, tO_mk (vs := [.int (iv (N : Int)), .ref (n + 1)])⟩
    | 1, hj =>
      obtain rfl := Option.some.inj hj
      exact ⟨_, b1, _, rfl, fun _ _ => trivial⟩
    | j + 2, hj => exact absurd (List.getElem?_eq_some_iff.mp hj).1 (by show ¬ (j + 2 < 2); omega)
  obtain ⟨Γ2, hE, ht2, hΓ⟩ := new_CG ht bd (by omega) (fun q e h9 => hfr q e (hk1 q e h9) (by have h8 := bd q e h9; omega)) hL
  have e0 : Γ2 n = some (tO 0 [fE (.int (iv (N : Int))), fE (.ref (n + 1))]) := hΓ 0 _ rfl
  have e1 : Γ2 (n + 1) = some (tJ cJ N anyJ) := hΓ 1 _ rfl
  refine kk hp2 Γ2 hE (fun q U hq => ?_) ⟨rd_of e0, e1, hN⟩
  by_cases e : q = n + 1
  · subst e; rw [ov_s] at hq; obtain rfl := Option.some.inj hq; exact ⟨_, b1, _, rfl, fun _ _ => rfl⟩
  · rw [ov_o _ _ e] at hq; exact ht2 q U hq
theorem u_thingAt {D : va_G} {cI cJ cZ cT : ClassId} {lo b L : Nat} {xs : Nat → Int32} {M : MM} {d pc : Nat} {lv : List (Nat × Value)} {st : List Value} {hp : MH} {n kr wr : Nat} {Po : Option Value → MH → Nat → Prop} {Γ : TG} {a : Nat} {ct : Int} {rv : Int} {th : Nat → Option Nat} {dn : Int} {dd : Int} {da : Int} {df : Nat → Int} {dt : Nat → Int} {dw : Nat → Int} {dc : Nat → Int} {kn : Int} {kd : Int} {ka : Int} {kf : Nat → Int} {kt : Nat → Int} {kw : Nat → Int} {kc : Nat → Int} {so sz dr mn fr tt wt co : Nat → Int} {nu : Nat → Int64} {qi qc : Nat → Int} {ix : Nat} {x : Int} (hct : 0 ≤ ct ∧ ct ≤ 120) (hm : HM Γ cI cJ cZ a ct th so sz dr mn fr tt wt co nu qi qc) (ht : Tw (CG Γ cI cJ cZ cT a ct rv th dn dd da df dt dw dc kn kd ka kf kt kw kc) hp) (F : lkK (gG D cI cJ cZ cT lo b L xs) M.1.cls ix mX11_thingAt 1 ∧ Cond.instanceMethod mX11_thingAt.1 ∈ g_ws (gG D cI cJ cZ cT lo b L xs) ∧ Cond.selects RX11 mX11_thingAt.1 mX11_thingAt.1 ∈ g_ws (gG D cI cJ cZ cT lo b L xs) ∧ mX11_thingAt.1.cls = RX11) (hd : decode M.2.1 pc = .ok (.invokevirtual ix, 3)) (hdd : 3 ≤ d) (hst : (st.map fun v => v.category).sum ≤ 8) (hx : -2147483648 ≤ x ∧ x ≤ 2147483647) (k0 : (∀ hp1 : MH, Tw (CG Γ cI cJ cZ cT a ct rv th dn dd da df dt dw dc kn kd ka kf kt kw kc) hp1 → ¬ (0 ≤ x ∧ x < ct) → Rn (gG D cI cJ cZ cT lo b L xs) M d (pc + 3) lv (.null :: st) hp1 n kr wr Po)) (k1 : (∀ (hp1 : MH) (t : Nat), Tw (CG Γ cI cJ cZ cT a ct rv th dn dd da df dt dw dc kn kd ka kf kt kw kc) hp1 → (0 ≤ x ∧ x < ct) → th (Int.toNat x) = some t → HT Γ cI cJ cZ a t so sz dr mn fr tt wt co nu qi qc (Int.toNat x) → Rn (gG D cI cJ cZ cT lo b L xs) M d (pc + 3) lv (.ref t :: st) hp1 n kr wr Po)) : Rn (gG D cI cJ cZ cT lo b L xs) M d pc lv (.int (iv x) :: .ref a :: st) hp n kr wr Po := by
  have h0 := CG_obj hct.1 ht
  obtain ⟨f, h1, hf⟩ := CG_th ht
  by_cases hc : 0 ≤ x ∧ x < ct
  · obtain ⟨t, e1, e2⟩ := hm x.toNat (by omega)
    have hft : f x.toNat = some t := (hf _ (by omega)).trans e1
    rw [iv_nI hc.1]
    refine r_callV (pc := pc) (as := [.int (nI x.toNat)]) (st := st) F rfl hd h0 (c_X11_thingAt_y (d := d - 1) (by omega) h0 h1 (by omega) (by omega) hft) rfl (by omega) hst (Nat.zero_le _) (Nat.zero_le _) rfl (fun r hp1 n1 hq => ?_)
    obtain ⟨rfl, rfl, hfr⟩ := hq
    exact k1 hp1 t (Tw_fr ht hfr) hc e1 e2
  · have hno : iv x < 0 ∨ nI ct.toNat ≤ iv x := by
      rw [← iv_nI hct.1]
      have z0 : (0 : Int32) = iv 0 := rfl
      rcases Int.lt_or_le x 0 with h9 | h9
      · left; rw [z0, iv_lt (by omega) (by omega)]; exact h9
      · right; rw [iv_le (by omega) (by omega)]; omega
    refine r_callV (pc := pc) (as := [.int (iv x)]) (st := st) F rfl hd h0 (c_X11_thingAt_n (d := d - 1) (by omega) h0 hno) rfl (by omega) hst (Nat.zero_le _) (Nat.zero_le _) rfl (fun r hp1 n1 hq => ?_)
    obtain ⟨rfl, rfl, hfr⟩ := hq
    exact k0 hp1 (Tw_fr ht hfr) (fun h9 => hc (by omega))
theorem u_graphAt {D : va_G} {cI cJ cZ cT : ClassId} {lo b L : Nat} {xs : Nat → Int32} {M : MM} {d pc : Nat} {lv : List (Nat × Value)} {st : List Value} {hp : MH} {n kr wr : Nat} {Po : Option Value → MH → Nat → Prop} {Γ : TG} {a : Nat} {ct : Int} {rv : Int} {th : Nat → Option Nat} {dn : Int} {dd : Int} {da : Int} {df : Nat → Int} {dt : Nat → Int} {dw : Nat → Int} {dc : Nat → Int} {kn : Int} {kd : Int} {ka : Int} {kf : Nat → Int} {kt : Nat → Int} {kw : Nat → Int} {kc : Nat → Int} {so sz dr mn fr tt wt co : Nat → Int} {nu : Nat → Int64} {qi qc : Nat → Int} {ix : Nat} {x : Int} (hct : 0 ≤ ct ∧ ct ≤ 120) (hm : HM Γ cI cJ cZ a ct th so sz dr mn fr tt wt co nu qi qc) (ht : Tw (CG Γ cI cJ cZ cT a ct rv th dn dd da df dt dw dc kn kd ka kf kt kw kc) hp) (F : lkK (gG D cI cJ cZ cT lo b L xs) M.1.cls ix mX11_graphAt 1 ∧ Cond.instanceMethod mX11_graphAt.1 ∈ g_ws (gG D cI cJ cZ cT lo b L xs) ∧ Cond.selects RX11 mX11_graphAt.1 mX11_graphAt.1 ∈ g_ws (gG D cI cJ cZ cT lo b L xs) ∧ mX11_graphAt.1.cls = RX11) (hd : decode M.2.1 pc = .ok (.invokevirtual ix, 3)) (hdd : 3 ≤ d) (hst : (st.map fun v => v.category).sum ≤ 8) (hx : -2147483648 ≤ x ∧ x ≤ 2147483647) (k0 : (∀ hp1 : MH, Tw (CG Γ cI cJ cZ cT a ct rv th dn dd da df dt dw dc kn kd ka kf kt kw kc) hp1 → ¬ (0 ≤ x ∧ x < ct ∧ so (Int.toNat x) = 1) → Rn (gG D cI cJ cZ cT lo b L xs) M d (pc + 3) lv (.null :: st) hp1 n kr wr Po)) (k1 : (∀ (hp1 : MH) (t : Nat), Tw (CG Γ cI cJ cZ cT a ct rv th dn dd da df dt dw dc kn kd ka kf kt kw kc) hp1 → (0 ≤ x ∧ x < ct ∧ so (Int.toNat x) = 1) → GX Γ cI cJ cZ a t (sz (Int.toNat x)) (dr (Int.toNat x)) (mn (Int.toNat x)) (sh fr (60 * x)) (sh tt (60 * x)) (sh wt (60 * x)) (sh co (60 * x)) → Rn (gG D cI cJ cZ cT lo b L xs) M d (pc + 3) lv (.ref t :: st) hp1 n kr wr Po)) : Rn (gG D cI cJ cZ cT lo b L xs) M d pc lv (.int (iv x) :: .ref a :: st) hp n kr wr Po := by
  have h0 := CG_obj hct.1 ht
  obtain ⟨f, h1, hf⟩ := CG_th ht
  by_cases hc : 0 ≤ x ∧ x < ct
  · obtain ⟨t, e1, e2⟩ := hm x.toNat (by omega)
    have hft : f x.toNat = some t := (hf _ (by omega)).trans e1
    rw [iv_nI hc.1]
    have ex : ((Int.toNat x : Nat) : Int) = x := Int.toNat_of_nonneg hc.1
    unfold HT at e2
    rw [ex] at e2
    rcases e2 with ⟨es, hT⟩ | ⟨es, hT⟩ | ⟨es, hT⟩ | ⟨es, hT⟩
    · obtain ⟨v0, v1, v2, v3, v4, v5, v6, v7, v8, v9, v10, v11, v12, v13, hob⟩ := ThG_obj ht hT.th
      refine r_callV (pc := pc) (as := [.int (nI x.toNat)]) (st := st) F rfl hd h0 (c_X11_graphAt_X3 (d := d - 1) (by omega) h0 h1 hob (by omega) (by omega) hft) rfl (by omega) hst (Nat.zero_le _) (Nat.zero_le _) rfl (fun r hp1 n1 hq => ?_)
      obtain ⟨rfl, rfl, hfr⟩ := hq
      exact k1 hp1 t (Tw_fr ht hfr) ⟨hc.1, hc.2, es⟩ hT
    · obtain ⟨v0, v1, hob⟩ := ThC_obj ht hT.th
      refine r_callV (pc := pc) (as := [.int (nI x.toNat)]) (st := st) F rfl hd h0 (c_X11_graphAt_X0 (d := d - 1) (by omega) h0 h1 hob (by omega) (by omega) hft) rfl (by omega) hst (Nat.zero_le _) (Nat.zero_le _) rfl (fun r hp1 n1 hq => ?_)
      obtain ⟨rfl, rfl, hfr⟩ := hq
      exact k0 hp1 (Tw_fr ht hfr) (fun h9 => by omega)
    · obtain ⟨v0, v1, v2, v3, v4, v5, hob⟩ := ThW_obj ht hT.th
      refine r_callV (pc := pc) (as := [.int (nI x.toNat)]) (st := st) F rfl hd h0 (c_X11_graphAt_X10 (d := d - 1) (by omega) h0 h1 hob (by omega) (by omega) hft) rfl (by omega) hst (Nat.zero_le _) (Nat.zero_le _) rfl (fun r hp1 n1 hq => ?_)
      obtain ⟨rfl, rfl, hfr⟩ := hq
      exact k0 hp1 (Tw_fr ht hfr) (fun h9 => by omega)
    · obtain ⟨v0, v1, v2, v3, hob⟩ := ThQ_obj ht hT.th
      refine r_callV (pc := pc) (as := [.int (nI x.toNat)]) (st := st) F rfl hd h0 (c_X11_graphAt_X5 (d := d - 1) (by omega) h0 h1 hob (by omega) (by omega) hft) rfl (by omega) hst (Nat.zero_le _) (Nat.zero_le _) rfl (fun r hp1 n1 hq => ?_)
      obtain ⟨rfl, rfl, hfr⟩ := hq
      exact k0 hp1 (Tw_fr ht hfr) (fun h9 => by omega)
  · have hno : iv x < 0 ∨ nI ct.toNat ≤ iv x := by
      rw [← iv_nI hct.1]
      have z0 : (0 : Int32) = iv 0 := rfl
      rcases Int.lt_or_le x 0 with h9 | h9
      · left; rw [z0, iv_lt (by omega) (by omega)]; exact h9
      · right; rw [iv_le (by omega) (by omega)]; omega
    refine r_callV (pc := pc) (as := [.int (iv x)]) (st := st) F rfl hd h0 (c_X11_graphAt_n (d := d - 1) (by omega) h0 hno) rfl (by omega) hst (Nat.zero_le _) (Nat.zero_le _) rfl (fun r hp1 n1 hq => ?_)
    obtain ⟨rfl, rfl, hfr⟩ := hq
    exact k0 hp1 (Tw_fr ht hfr) (fun h9 => hc (by omega))
theorem u_columnAt {D : va_G} {cI cJ cZ cT : ClassId} {lo b L : Nat} {xs : Nat → Int32} {M : MM} {d pc : Nat} {lv : List (Nat × Value)} {st : List Value} {hp : MH} {n kr wr : Nat} {Po : Option Value → MH → Nat → Prop} {Γ : TG} {a : Nat} {ct : Int} {rv : Int} {th : Nat → Option Nat} {dn : Int} {dd : Int} {da : Int} {df : Nat → Int} {dt : Nat → Int} {dw : Nat → Int} {dc : Nat → Int} {kn : Int} {kd : Int} {ka : Int} {kf : Nat → Int} {kt : Nat → Int} {kw : Nat → Int} {kc : Nat → Int} {so sz dr mn fr tt wt co : Nat → Int} {nu : Nat → Int64} {qi qc : Nat → Int} {ix : Nat} {x : Int} (hct : 0 ≤ ct ∧ ct ≤ 120) (hm : HM Γ cI cJ cZ a ct th so sz dr mn fr tt wt co nu qi qc) (ht : Tw (CG Γ cI cJ cZ cT a ct rv th dn dd da df dt dw dc kn kd ka kf kt kw kc) hp) (F : lkK (gG D cI cJ cZ cT lo b L xs) M.1.cls ix mX11_columnAt 1 ∧ Cond.instanceMethod mX11_columnAt.1 ∈ g_ws (gG D cI cJ cZ cT lo b L xs) ∧ Cond.selects RX11 mX11_columnAt.1 mX11_columnAt.1 ∈ g_ws (gG D cI cJ cZ cT lo b L xs) ∧ mX11_columnAt.1.cls = RX11) (hd : decode M.2.1 pc = .ok (.invokevirtual ix, 3)) (hdd : 3 ≤ d) (hst : (st.map fun v => v.category).sum ≤ 8) (hx : -2147483648 ≤ x ∧ x ≤ 2147483647) (k0 : (∀ hp1 : MH, Tw (CG Γ cI cJ cZ cT a ct rv th dn dd da df dt dw dc kn kd ka kf kt kw kc) hp1 → ¬ (0 ≤ x ∧ x < ct ∧ so (Int.toNat x) = 2) → Rn (gG D cI cJ cZ cT lo b L xs) M d (pc + 3) lv (.null :: st) hp1 n kr wr Po)) (k1 : (∀ (hp1 : MH) (t : Nat), Tw (CG Γ cI cJ cZ cT a ct rv th dn dd da df dt dw dc kn kd ka kf kt kw kc) hp1 → (0 ≤ x ∧ x < ct ∧ so (Int.toNat x) = 2) → CX Γ cI cJ cZ a t (sz (Int.toNat x)) (sj nu (16 * x)) → Rn (gG D cI cJ cZ cT lo b L xs) M d (pc + 3) lv (.ref t :: st) hp1 n kr wr Po)) : Rn (gG D cI cJ cZ cT lo b L xs) M d pc lv (.int (iv x) :: .ref a :: st) hp n kr wr Po := by
  have h0 := CG_obj hct.1 ht
  obtain ⟨f, h1, hf⟩ := CG_th ht
  by_cases hc : 0 ≤ x ∧ x < ct
  · obtain ⟨t, e1, e2⟩ := hm x.toNat (by omega)
    have hft : f x.toNat = some t := (hf _ (by omega)).trans e1
    rw [iv_nI hc.1]
    have ex : ((Int.toNat x : Nat) : Int) = x := Int.toNat_of_nonneg hc.1
    unfold HT at e2
    rw [ex] at e2
    rcases e2 with ⟨es, hT⟩ | ⟨es, hT⟩ | ⟨es, hT⟩ | ⟨es, hT⟩
    · obtain ⟨v0, v1, v2, v3, v4, v5, v6, v7, v8, v9, v10, v11, v12, v13, hob⟩ := ThG_obj ht hT.th
      refine r_callV (pc := pc) (as := [.int (nI x.toNat)]) (st := st) F rfl hd h0 (c_X11_columnAt_X3 (d := d - 1) (by omega) h0 h1 hob (by omega) (by omega) hft) rfl (by omega) hst (Nat.zero_le _) (Nat.zero_le _) rfl (fun r hp1 n1 hq => ?_)
      obtain ⟨rfl, rfl, hfr⟩ := hq
      exact k0 hp1 (Tw_fr ht hfr) (fun h9 => by omega)
    · obtain ⟨v0, v1, hob⟩ := ThC_obj ht hT.th
      refine r_callV (pc := pc) (as := [.int (nI x.toNat)]) (st := st) F rfl hd h0 (c_X11_columnAt_X0 (d := d - 1) (by omega) h0 h1 hob (by omega) (by omega) hft) rfl (by omega) hst (Nat.zero_le _) (Nat.zero_le _) rfl (fun r hp1 n1 hq => ?_)
      obtain ⟨rfl, rfl, hfr⟩ := hq
      exact k1 hp1 t (Tw_fr ht hfr) ⟨hc.1, hc.2, es⟩ hT
    · obtain ⟨v0, v1, v2, v3, v4, v5, hob⟩ := ThW_obj ht hT.th
      refine r_callV (pc := pc) (as := [.int (nI x.toNat)]) (st := st) F rfl hd h0 (c_X11_columnAt_X10 (d := d - 1) (by omega) h0 h1 hob (by omega) (by omega) hft) rfl (by omega) hst (Nat.zero_le _) (Nat.zero_le _) rfl (fun r hp1 n1 hq => ?_)
      obtain ⟨rfl, rfl, hfr⟩ := hq
      exact k0 hp1 (Tw_fr ht hfr) (fun h9 => by omega)
    · obtain ⟨v0, v1, v2, v3, hob⟩ := ThQ_obj ht hT.th
      refine r_callV (pc := pc) (as := [.int (nI x.toNat)]) (st := st) F rfl hd h0 (c_X11_columnAt_X5 (d := d - 1) (by omega) h0 h1 hob (by omega) (by omega) hft) rfl (by omega) hst (Nat.zero_le _) (Nat.zero_le _) rfl (fun r hp1 n1 hq => ?_)
      obtain ⟨rfl, rfl, hfr⟩ := hq
      exact k0 hp1 (Tw_fr ht hfr) (fun h9 => by omega)
  · have hno : iv x < 0 ∨ nI ct.toNat ≤ iv x := by
      rw [← iv_nI hct.1]
      have z0 : (0 : Int32) = iv 0 := rfl
      rcases Int.lt_or_le x 0 with h9 | h9
      · left; rw [z0, iv_lt (by omega) (by omega)]; exact h9
      · right; rw [iv_le (by omega) (by omega)]; omega
    refine r_callV (pc := pc) (as := [.int (iv x)]) (st := st) F rfl hd h0 (c_X11_columnAt_n (d := d - 1) (by omega) h0 hno) rfl (by omega) hst (Nat.zero_le _) (Nat.zero_le _) rfl (fun r hp1 n1 hq => ?_)
    obtain ⟨rfl, rfl, hfr⟩ := hq
    exact k0 hp1 (Tw_fr ht hfr) (fun h9 => hc (by omega))
theorem u_waysAt {D : va_G} {cI cJ cZ cT : ClassId} {lo b L : Nat} {xs : Nat → Int32} {M : MM} {d pc : Nat} {lv : List (Nat × Value)} {st : List Value} {hp : MH} {n kr wr : Nat} {Po : Option Value → MH → Nat → Prop} {Γ : TG} {a : Nat} {ct : Int} {rv : Int} {th : Nat → Option Nat} {dn : Int} {dd : Int} {da : Int} {df : Nat → Int} {dt : Nat → Int} {dw : Nat → Int} {dc : Nat → Int} {kn : Int} {kd : Int} {ka : Int} {kf : Nat → Int} {kt : Nat → Int} {kw : Nat → Int} {kc : Nat → Int} {so sz dr mn fr tt wt co : Nat → Int} {nu : Nat → Int64} {qi qc : Nat → Int} {ix : Nat} {x : Int} (hct : 0 ≤ ct ∧ ct ≤ 120) (hm : HM Γ cI cJ cZ a ct th so sz dr mn fr tt wt co nu qi qc) (ht : Tw (CG Γ cI cJ cZ cT a ct rv th dn dd da df dt dw dc kn kd ka kf kt kw kc) hp) (F : lkK (gG D cI cJ cZ cT lo b L xs) M.1.cls ix mX11_waysAt 1 ∧ Cond.instanceMethod mX11_waysAt.1 ∈ g_ws (gG D cI cJ cZ cT lo b L xs) ∧ Cond.selects RX11 mX11_waysAt.1 mX11_waysAt.1 ∈ g_ws (gG D cI cJ cZ cT lo b L xs) ∧ mX11_waysAt.1.cls = RX11) (hd : decode M.2.1 pc = .ok (.invokevirtual ix, 3)) (hdd : 3 ≤ d) (hst : (st.map fun v => v.category).sum ≤ 8) (hx : -2147483648 ≤ x ∧ x ≤ 2147483647) (k0 : (∀ hp1 : MH, Tw (CG Γ cI cJ cZ cT a ct rv th dn dd da df dt dw dc kn kd ka kf kt kw kc) hp1 → ¬ (0 ≤ x ∧ x < ct ∧ so (Int.toNat x) = 3) → Rn (gG D cI cJ cZ cT lo b L xs) M d (pc + 3) lv (.null :: st) hp1 n kr wr Po)) (k1 : (∀ (hp1 : MH) (t : Nat), Tw (CG Γ cI cJ cZ cT a ct rv th dn dd da df dt dw dc kn kd ka kf kt kw kc) hp1 → (0 ≤ x ∧ x < ct ∧ so (Int.toNat x) = 3) → WX Γ cI cJ cZ a t (sz (Int.toNat x)) → Rn (gG D cI cJ cZ cT lo b L xs) M d (pc + 3) lv (.ref t :: st) hp1 n kr wr Po)) : Rn (gG D cI cJ cZ cT lo b L xs) M d pc lv (.int (iv x) :: .ref a :: st) hp n kr wr Po := by
  have h0 := CG_obj hct.1 ht
  obtain ⟨f, h1, hf⟩ := CG_th ht
  by_cases hc : 0 ≤ x ∧ x < ct
  · obtain ⟨t, e1, e2⟩ := hm x.toNat (by omega)
    have hft : f x.toNat = some t := (hf _ (by omega)).trans e1
    rw [iv_nI hc.1]
    have ex : ((Int.toNat x : Nat) : Int) = x := Int.toNat_of_nonneg hc.1
    unfold HT at e2
    rw [ex] at e2
    rcases e2 with ⟨es, hT⟩ | ⟨es, hT⟩ | ⟨es, hT⟩ | ⟨es, hT⟩
    · obtain ⟨v0, v1, v2, v3, v4, v5, v6, v7, v8, v9, v10, v11, v12, v13, hob⟩ := ThG_obj ht hT.th
      refine r_callV (pc := pc) (as := [.int (nI x.toNat)]) (st := st) F rfl hd h0 (c_X11_waysAt_X3 (d := d - 1) (by omega) h0 h1 hob (by omega) (by omega) hft) rfl (by omega) hst (Nat.zero_le _) (Nat.zero_le _) rfl (fun r hp1 n1 hq => ?_)
      obtain ⟨rfl, rfl, hfr⟩ := hq
      exact k0 hp1 (Tw_fr ht hfr) (fun h9 => by omega)
    · obtain ⟨v0, v1, hob⟩ := ThC_obj ht hT.th
      refine r_callV (pc := pc) (as := [.int (nI x.toNat)]) (st := st) F rfl hd h0 (c_X11_waysAt_X0 (d := d - 1) (by omega) h0 h1 hob (by omega) (by omega) hft) rfl (by omega) hst (Nat.zero_le _) (Nat.zero_le _) rfl (fun r hp1 n1 hq => ?_)
      obtain ⟨rfl, rfl, hfr⟩ := hq
      exact k0 hp1 (Tw_fr ht hfr) (fun h9 => by omega)
    · obtain ⟨v0, v1, v2, v3, v4, v5, hob⟩ := ThW_obj ht hT.th
      refine r_callV (pc := pc) (as := [.int (nI x.toNat)]) (st := st) F rfl hd h0 (c_X11_waysAt_X10 (d := d - 1) (by omega) h0 h1 hob (by omega) (by omega) hft) rfl (by omega) hst (Nat.zero_le _) (Nat.zero_le _) rfl (fun r hp1 n1 hq => ?_)
      obtain ⟨rfl, rfl, hfr⟩ := hq
      exact k1 hp1 t (Tw_fr ht hfr) ⟨hc.1, hc.2, es⟩ hT
    · obtain ⟨v0, v1, v2, v3, hob⟩ := ThQ_obj ht hT.th
      refine r_callV (pc := pc) (as := [.int (nI x.toNat)]) (st := st) F rfl hd h0 (c_X11_waysAt_X5 (d := d - 1) (by omega) h0 h1 hob (by omega) (by omega) hft) rfl (by omega) hst (Nat.zero_le _) (Nat.zero_le _) rfl (fun r hp1 n1 hq => ?_)
      obtain ⟨rfl, rfl, hfr⟩ := hq
      exact k0 hp1 (Tw_fr ht hfr) (fun h9 => by omega)
  · have hno : iv x < 0 ∨ nI ct.toNat ≤ iv x := by
      rw [← iv_nI hct.1]
      have z0 : (0 : Int32) = iv 0 := rfl
      rcases Int.lt_or_le x 0 with h9 | h9
      · left; rw [z0, iv_lt (by omega) (by omega)]; exact h9
      · right; rw [iv_le (by omega) (by omega)]; omega
    refine r_callV (pc := pc) (as := [.int (iv x)]) (st := st) F rfl hd h0 (c_X11_waysAt_n (d := d - 1) (by omega) h0 hno) rfl (by omega) hst (Nat.zero_le _) (Nat.zero_le _) rfl (fun r hp1 n1 hq => ?_)
    obtain ⟨rfl, rfl, hfr⟩ := hq
    exact k0 hp1 (Tw_fr ht hfr) (fun h9 => hc (by omega))
theorem u_partsAt {D : va_G} {cI cJ cZ cT : ClassId} {lo b L : Nat} {xs : Nat → Int32} {M : MM} {d pc : Nat} {lv : List (Nat × Value)} {st : List Value} {hp : MH} {n kr wr : Nat} {Po : Option Value → MH → Nat → Prop} {Γ : TG} {a : Nat} {ct : Int} {rv : Int} {th : Nat → Option Nat} {dn : Int} {dd : Int} {da : Int} {df : Nat → Int} {dt : Nat → Int} {dw : Nat → Int} {dc : Nat → Int} {kn : Int} {kd : Int} {ka : Int} {kf : Nat → Int} {kt : Nat → Int} {kw : Nat → Int} {kc : Nat → Int} {so sz dr mn fr tt wt co : Nat → Int} {nu : Nat → Int64} {qi qc : Nat → Int} {ix : Nat} {x : Int} (hct : 0 ≤ ct ∧ ct ≤ 120) (hm : HM Γ cI cJ cZ a ct th so sz dr mn fr tt wt co nu qi qc) (ht : Tw (CG Γ cI cJ cZ cT a ct rv th dn dd da df dt dw dc kn kd ka kf kt kw kc) hp) (F : lkK (gG D cI cJ cZ cT lo b L xs) M.1.cls ix mX11_partsAt 1 ∧ Cond.instanceMethod mX11_partsAt.1 ∈ g_ws (gG D cI cJ cZ cT lo b L xs) ∧ Cond.selects RX11 mX11_partsAt.1 mX11_partsAt.1 ∈ g_ws (gG D cI cJ cZ cT lo b L xs) ∧ mX11_partsAt.1.cls = RX11) (hd : decode M.2.1 pc = .ok (.invokevirtual ix, 3)) (hdd : 3 ≤ d) (hst : (st.map fun v => v.category).sum ≤ 8) (hx : -2147483648 ≤ x ∧ x ≤ 2147483647) (k0 : (∀ hp1 : MH, Tw (CG Γ cI cJ cZ cT a ct rv th dn dd da df dt dw dc kn kd ka kf kt kw kc) hp1 → ¬ (0 ≤ x ∧ x < ct ∧ so (Int.toNat x) = 4) → Rn (gG D cI cJ cZ cT lo b L xs) M d (pc + 3) lv (.null :: st) hp1 n kr wr Po)) (k1 : (∀ (hp1 : MH) (t : Nat), Tw (CG Γ cI cJ cZ cT a ct rv th dn dd da df dt dw dc kn kd ka kf kt kw kc) hp1 → (0 ≤ x ∧ x < ct ∧ so (Int.toNat x) = 4) → QX Γ cI cJ cZ a t (sz (Int.toNat x)) (qc (Int.toNat x)) (sh qi (16 * x)) → Rn (gG D cI cJ cZ cT lo b L xs) M d (pc + 3) lv (.ref t :: st) hp1 n kr wr Po)) : Rn (gG D cI cJ cZ cT lo b L xs) M d pc lv (.int (iv x) :: .ref a :: st) hp n kr wr Po := by
  have h0 := CG_obj hct.1 ht
  obtain ⟨f, h1, hf⟩ := CG_th ht
  by_cases hc : 0 ≤ x ∧ x < ct
  · obtain ⟨t, e1, e2⟩ := hm x.toNat (by omega)
    have hft : f x.toNat = some t := (hf _ (by omega)).trans e1
    rw [iv_nI hc.1]
    have ex : ((Int.toNat x : Nat) : Int) = x := Int.toNat_of_nonneg hc.1
    unfold HT at e2
    rw [ex] at e2
    rcases e2 with ⟨es, hT⟩ | ⟨es, hT⟩ | ⟨es, hT⟩ | ⟨es, hT⟩
    · obtain ⟨v0, v1, v2, v3, v4, v5, v6, v7, v8, v9, v10, v11, v12, v13, hob⟩ := ThG_obj ht hT.th
      refine r_callV (pc := pc) (as := [.int (nI x.toNat)]) (st := st) F rfl hd h0 (c_X11_partsAt_X3 (d := d - 1) (by omega) h0 h1 hob (by omega) (by omega) hft) rfl (by omega) hst (Nat.zero_le _) (Nat.zero_le _) rfl (fun r hp1 n1 hq => ?_)
      obtain ⟨rfl, rfl, hfr⟩ := hq
      exact k0 hp1 (Tw_fr ht hfr) (fun h9 => by omega)
    · obtain ⟨v0, v1, hob⟩ := ThC_obj ht hT.th
      refine r_callV (pc := pc) (as := [.int (nI x.toNat)]) (st := st) F rfl hd h0 (c_X11_partsAt_X0 (d := d - 1) (by omega) h0 h1 hob (by omega) (by omega) hft) rfl (by omega) hst (Nat.zero_le _) (Nat.zero_le _) rfl (fun r hp1 n1 hq => ?_)
      obtain ⟨rfl, rfl, hfr⟩ := hq
      exact k0 hp1 (Tw_fr ht hfr) (fun h9 => by omega)
    · obtain ⟨v0, v1, v2, v3, v4, v5, hob⟩ := ThW_obj ht hT.th
      refine r_callV (pc := pc) (as := [.int (nI x.toNat)]) (st := st) F rfl hd h0 (c_X11_partsAt_X10 (d := d - 1) (by omega) h0 h1 hob (by omega) (by omega) hft) rfl (by omega) hst (Nat.zero_le _) (Nat.zero_le _) rfl (fun r hp1 n1 hq => ?_)
      obtain ⟨rfl, rfl, hfr⟩ := hq
      exact k0 hp1 (Tw_fr ht hfr) (fun h9 => by omega)
    · obtain ⟨v0, v1, v2, v3, hob⟩ := ThQ_obj ht hT.th
      refine r_callV (pc := pc) (as := [.int (nI x.toNat)]) (st := st) F rfl hd h0 (c_X11_partsAt_X5 (d := d - 1) (by omega) h0 h1 hob (by omega) (by omega) hft) rfl (by omega) hst (Nat.zero_le _) (Nat.zero_le _) rfl (fun r hp1 n1 hq => ?_)
      obtain ⟨rfl, rfl, hfr⟩ := hq
      exact k1 hp1 t (Tw_fr ht hfr) ⟨hc.1, hc.2, es⟩ hT
  · have hno : iv x < 0 ∨ nI ct.toNat ≤ iv x := by
      rw [← iv_nI hct.1]
      have z0 : (0 : Int32) = iv 0 := rfl
      rcases Int.lt_or_le x 0 with h9 | h9
      · left; rw [z0, iv_lt (by omega) (by omega)]; exact h9
      · right; rw [iv_le (by omega) (by omega)]; omega
    refine r_callV (pc := pc) (as := [.int (iv x)]) (st := st) F rfl hd h0 (c_X11_partsAt_n (d := d - 1) (by omega) h0 hno) rfl (by omega) hst (Nat.zero_le _) (Nat.zero_le _) rfl (fun r hp1 n1 hq => ?_)
    obtain ⟨rfl, rfl, hfr⟩ := hq
    exact k0 hp1 (Tw_fr ht hfr) (fun h9 => hc (by omega))
def qw_X11_whyNot (Γ : TG) (cI cJ cZ cT : ClassId) (a : Nat) (n : Nat) (ct : Int) (rv : Int) (th : Nat → Option Nat) (dn : Int) (dd : Int) (da : Int) (df : Nat → Int) (dt : Nat → Int) (dw : Nat → Int) (dc : Nat → Int) (kn : Int) (kd : Int) (ka : Int) (kf : Nat → Int) (kt : Nat → Int) (kw : Nat → Int) (kc : Nat → Int) (x1 : Int) : Option Value → MH → Nat → Prop := fun r hp1 n1 => n1 = n ∧ ∃ (bb : Int), Tw (CG Γ cI cJ cZ cT a ct rv th dn dd da df dt dw dc kn kd ka kf kt kw kc) hp1 ∧ r = some (.int (iv bb)) ∧ (-2 ≤ bb ∧ bb ≤ -1) ∧ ((bb = -1 ∧ ¬ (0 ≤ x1 ∧ x1 < ct)) ∨ (bb = -2 ∧ 0 ≤ x1 ∧ x1 < ct))
set_option maxHeartbeats 4000000 in
set_option maxRecDepth 100000 in
theorem uw_X11_whyNot {D : va_G} {cI cJ cZ cT : ClassId} {lo b L : Nat} {xs : Nat → Int32} {hp : MH} {n d : Nat} {Γ : TG} {a : Nat} {ct : Int} {rv : Int} {th : Nat → Option Nat} {dn : Int} {dd : Int} {da : Int} {df : Nat → Int} {dt : Nat → Int} {dw : Nat → Int} {dc : Nat → Int} {kn : Int} {kd : Int} {ka : Int} {kf : Nat → Int} {kt : Nat → Int} {kw : Nat → Int} {kc : Nat → Int}  {x1 : Int} {so sz dr mn fr tt wt co : Nat → Int} {nu : Nat → Int64} {qi qc : Nat → Int} (hd0 : 3 ≤ d)  (ht : Tw (CG Γ cI cJ cZ cT a ct rv th dn dd da df dt dw dc kn kd ka kf kt kw kc) hp) (hx1 : (-2147483648) ≤ x1 ∧ x1 ≤ 2147483647) (hct : 0 ≤ ct ∧ ct ≤ 120) (hm : HM Γ cI cJ cZ a ct th so sz dr mn fr tt wt co nu qi qc) : Mt (gG D cI cJ cZ cT lo b L xs) mX11_whyNot d 0 0 [.ref a, .int (iv x1)] hp n (qw_X11_whyNot Γ cI cJ cZ cT a n ct rv th dn dd da df dt dw dc kn kd ka kf kt kw kc x1) := by
  refine Mt.of rfl (Nat.le_of_ble_eq_true rfl) ?_
  refine Rn.pick (lv' := [(0, .ref a), (1, .int (iv x1))]) [0, 1] rfl ?_
  refine r_aload_n (pc := 0) dX11_whyNot_0 (i := 0) rfl rfl ?_
  refine r_iload_n (pc := 1) dX11_whyNot_1 (i := 1) rfl rfl ?_
  refine u_thingAt (pc := 2) (x := x1) (st := []) hct hm ht kX11_199 dX11_whyNot_2 (by omega) (Nat.le_of_ble_eq_true rfl) (by omega) (fun hp1 ht2 hnot1 => ?_) (fun hp1 t1 ht2 hyet1 _ _ => ?_)
  · refine r_ifnonnullN (pc := 5) dX11_whyNot_5 ?_
    refine r_iconst (pc := 8) (v := iv (-1)) dX11_whyNot_8 (by decide) ?_
    refine r_goto (pc := 9) (tgt := 14) dX11_whyNot_9 (by decide) ?_
    exact r_iret (pc := 14) dX11_whyNot_14 rfl ⟨rfl, (-1), ht2, rfl, (by omega), (by omega)⟩
  · refine r_ifnonnull (pc := 5) (tgt := 12) dX11_whyNot_5 (by decide) ?_
    refine r_bipush (pc := 12) (v := iv (-2)) dX11_whyNot_12 (by decide) ?_
    exact r_iret (pc := 14) dX11_whyNot_14 rfl ⟨rfl, (-2), ht2, rfl, (by omega), (by omega)⟩
def qw_X11_whyNotBoth (Γ : TG) (cI cJ cZ cT : ClassId) (a : Nat) (n : Nat) (ct : Int) (rv : Int) (th : Nat → Option Nat) (dn : Int) (dd : Int) (da : Int) (df : Nat → Int) (dt : Nat → Int) (dw : Nat → Int) (dc : Nat → Int) (kn : Int) (kd : Int) (ka : Int) (kf : Nat → Int) (kt : Nat → Int) (kw : Nat → Int) (kc : Nat → Int) (x1 x2 : Int) : Option Value → MH → Nat → Prop := fun r hp1 n1 => n1 = n ∧ ∃ (bb : Int), Tw (CG Γ cI cJ cZ cT a ct rv th dn dd da df dt dw dc kn kd ka kf kt kw kc) hp1 ∧ r = some (.int (iv bb)) ∧ (-2 ≤ bb ∧ bb ≤ -1) ∧ ((bb = -1 ∧ ¬ (0 ≤ x1 ∧ x1 < ct ∧ 0 ≤ x2 ∧ x2 < ct)) ∨ (bb = -2 ∧ 0 ≤ x1 ∧ x1 < ct ∧ 0 ≤ x2 ∧ x2 < ct))
set_option maxHeartbeats 4000000 in
set_option maxRecDepth 100000 in
theorem uw_X11_whyNotBoth {D : va_G} {cI cJ cZ cT : ClassId} {lo b L : Nat} {xs : Nat → Int32} {hp : MH} {n d : Nat} {Γ : TG} {a : Nat} {ct : Int} {rv : Int} {th : Nat → Option Nat} {dn : Int} {dd : Int} {da : Int} {df : Nat → Int} {dt : Nat → Int} {dw : Nat → Int} {dc : Nat → Int} {kn : Int} {kd : Int} {ka : Int} {kf : Nat → Int} {kt : Nat → Int} {kw : Nat → Int} {kc : Nat → Int}  {x1 x2 : Int} {so sz dr mn fr tt wt co : Nat → Int} {nu : Nat → Int64} {qi qc : Nat → Int} (hd0 : 3 ≤ d)  (ht : Tw (CG Γ cI cJ cZ cT a ct rv th dn dd da df dt dw dc kn kd ka kf kt kw kc) hp) (hx1 : (-2147483648) ≤ x1 ∧ x1 ≤ 2147483647) (hx2 : (-2147483648) ≤ x2 ∧ x2 ≤ 2147483647) (hct : 0 ≤ ct ∧ ct ≤ 120) (hm : HM Γ cI cJ cZ a ct th so sz dr mn fr tt wt co nu qi qc) : Mt (gG D cI cJ cZ cT lo b L xs) mX11_whyNotBoth d 0 0 [.ref a, .int (iv x1), .int (iv x2)] hp n (qw_X11_whyNotBoth Γ cI cJ cZ cT a n ct rv th dn dd da df dt dw dc kn kd ka kf kt kw kc x1 x2) := by
  refine Mt.of rfl (Nat.le_of_ble_eq_true rfl) ?_
  refine Rn.pick (lv' := [(0, .ref a), (1, .int (iv x1)), (2, .int (iv x2))]) [0, 1, 2] rfl ?_
  refine r_aload_n (pc := 0) dX11_whyNotBoth_0 (i := 0) rfl rfl ?_
  refine r_iload_n (pc := 1) dX11_whyNotBoth_1 (i := 1) rfl rfl ?_
  refine u_thingAt (pc := 2) (x := x1) (st := []) hct hm ht kX11_199 dX11_whyNotBoth_2 (by omega) (Nat.le_of_ble_eq_true rfl) (by omega) (fun hp1 ht2 hnot1 => ?_) (fun hp1 t1 ht2 hyet1 _ _ => ?_)
  · refine r_ifnullN (pc := 5) (tgt := 16) dX11_whyNotBoth_5 (by decide) ?_
    refine r_iconst (pc := 16) (v := iv (-1)) dX11_whyNotBoth_16 (by decide) ?_
    refine r_goto (pc := 17) (tgt := 22) dX11_whyNotBoth_17 (by decide) ?_
    exact r_iret (pc := 22) dX11_whyNotBoth_22 rfl ⟨rfl, (-1), ht2, rfl, (by omega), (by omega)⟩
  · refine r_ifnull (pc := 5) dX11_whyNotBoth_5 ?_
    refine r_aload_n (pc := 8) dX11_whyNotBoth_8 (i := 0) rfl rfl ?_
    refine r_iload_n (pc := 9) dX11_whyNotBoth_9 (i := 2) rfl rfl ?_
    refine u_thingAt (pc := 10) (x := x2) (st := []) hct hm ht2 kX11_199 dX11_whyNotBoth_10 (by omega) (Nat.le_of_ble_eq_true rfl) (by omega) (fun hp3 ht4 hnot2 => ?_) (fun hp3 t2 ht4 hyet2 _ _ => ?_)
    · refine r_ifnonnullN (pc := 13) dX11_whyNotBoth_13 ?_
      refine r_iconst (pc := 16) (v := iv (-1)) dX11_whyNotBoth_16 (by decide) ?_
      refine r_goto (pc := 17) (tgt := 22) dX11_whyNotBoth_17 (by decide) ?_
      exact r_iret (pc := 22) dX11_whyNotBoth_22 rfl ⟨rfl, (-1), ht4, rfl, (by omega), (by omega)⟩
    · refine r_ifnonnull (pc := 13) (tgt := 20) dX11_whyNotBoth_13 (by decide) ?_
      refine r_bipush (pc := 20) (v := iv (-2)) dX11_whyNotBoth_20 (by decide) ?_
      exact r_iret (pc := 22) dX11_whyNotBoth_22 rfl ⟨rfl, (-2), ht4, rfl, (by omega), (by omega)⟩
