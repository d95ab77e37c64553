theorem nuq_0 {E : Nat → Nat → Prop} {f : Nat → Int} : nuP2 E f 0 := fun v hv => absurd hv (Nat.not_lt_zero v)
theorem nu2_k {E : Nat → Nat → Prop} {f : Nat → Int} {v : Int} {x : Int} (h : nuP2 E f v.toNat) (h0 : 0 ≤ v) (hx : (∃ u, u < v.toNat ∧ E u v.toNat ∧ (∀ w, w < u → ¬ E w v.toNat) ∧ x = f u) ∨ (fsP E v.toNat ∧ x = (cnP (fsP E) v.toNat : Int))) : nuP2 E (fup f v.toNat x) (v + 1).toNat := by
  rw [tn1 h0]
  intro w hw
  by_cases e : w = v.toNat
  · subst e
    rcases hx with ⟨u, g1, g2, g3, g4⟩ | ⟨g1, g2⟩
    · exact Or.inl ⟨u, g1, g2, g3, by rw [fup_s, fup_o _ _ (by omega)]; exact g4⟩
    · exact Or.inr ⟨g1, by rw [fup_s]; exact g2⟩
  · rw [fup_o _ _ e]
    rcases h w (by omega) with ⟨u, g1, g2, g3, g4⟩ | ⟨g1, g2⟩
    · exact Or.inl ⟨u, g1, g2, g3, by rw [fup_o _ _ (by omega)]; exact g4⟩
    · exact Or.inr ⟨g1, g2⟩
theorem nu2_a {E : Nat → Nat → Prop} {f : Nat → Int} {v y : Int} (h : nuP2 E f v.toNat) (h0 : 0 ≤ v) (hy : fpP E v.toNat y) (hl : y < v) : nuP2 E (fup f v.toNat (f y.toNat)) (v + 1).toNat := by
  obtain ⟨q1, q2, q3, q4⟩ := hy
  exact nu2_k h h0 (Or.inl ⟨y.toNat, by omega, q3, q4, rfl⟩)
theorem nu2_b {E : Nat → Nat → Prop} {f : Nat → Int} {v y x : Int} (h : nuP2 E f v.toNat) (h0 : 0 ≤ v) (hy : fpP E v.toNat y) (hl : v ≤ y) (hx : x = (cnP (fsP E) v.toNat : Int)) : nuP2 E (fup f v.toNat x) (v + 1).toNat := by
  obtain ⟨q1, q2, q3, q4⟩ := hy
  exact nu2_k h h0 (Or.inr ⟨fun w hw => q4 w (by omega), hx⟩)
theorem cn_a {E : Nat → Nat → Prop} {v y x : Int} (h0 : 0 ≤ v) (hy : fpP E v.toNat y) (hl : y < v) (hx : x = (cnP (fsP E) v.toNat : Int)) : x = (cnP (fsP E) (v + 1).toNat : Int) := by
  obtain ⟨q1, q2, q3, q4⟩ := hy
  rw [tn1 h0, cnP_n (fun h9 => h9 y.toNat (by omega) q3)]; exact hx
theorem cn_b {E : Nat → Nat → Prop} {v y x : Int} (h0 : 0 ≤ v) (hy : fpP E v.toNat y) (hl : v ≤ y) (hx : x = (cnP (fsP E) v.toNat : Int)) : x + 1 = (cnP (fsP E) (v + 1).toNat : Int) := by
  obtain ⟨q1, q2, q3, q4⟩ := hy
  rw [tn1 h0, cnP_y (show fsP E v.toNat from fun w hw => q4 w (by omega))]; omega
/-- the sets of all parts -/
def mbS (q : Nat → Int) (n : Nat) (v : Int) (vo : Nat → Int) : Prop := ∀ k, k < n → mbP q v (k : Int) (vo k)
theorem mbS_0 {q vo : Nat → Int} {n : Nat} (h : ∀ k, k < n → vo k = 0) : mbS q n 0 vo := fun k hk => by rw [h k hk]; exact mb_0 q (k : Int)
theorem mbS_fup {q vo : Nat → Int} {n : Nat} {v x : Int} (h : mbS q n v vo) (h0 : 0 ≤ v) : mbS (fup q v.toNat x) n v vo := fun k hk j => by
  rw [h k hk j]
  constructor
  · rintro ⟨g1, g2⟩; exact ⟨g1, by rw [fup_o _ _ (by omega)]; exact g2⟩
  · rintro ⟨g1, g2⟩; rw [fup_o _ _ (by omega)] at g2; exact ⟨g1, g2⟩
theorem mbS_up {q vo : Nat → Int} {n : Nat} {v z b : Int} (h : mbS q n v vo) (h0 : 0 ≤ v) (hq : 0 ≤ q v.toNat) (hz : ∀ i, Me z i ↔ Me (vo (q v.toNat).toNat) i ∨ Me b i) (hb : ∀ i, Me b i ↔ i = v.toNat) : mbS q n (v + 1) (fup vo (q v.toNat).toNat z) := by
  intro k hk
  by_cases e : k = (q v.toNat).toNat
  · rw [e, fup_s]
    have h1 := h k hk
    rw [e] at h1
    exact mb_y h1 h0 hz hb (by omega)
  · rw [fup_o _ _ e]
    intro j
    rw [h k hk j]
    constructor
    · rintro ⟨g1, g2⟩; exact ⟨by omega, g2⟩
    · rintro ⟨g1, g2⟩
      by_cases ej : j = v.toNat
      · subst ej; omega
      · exact ⟨by omega, g2⟩
def pPx (Γ : TG) (cI cJ cZ : ClassId) (pa gn n : Nat) (E : Nat → Nat → Prop) : Option Value → MH → Nat → Prop := fun r hp1 n1 => n ≤ n1 ∧ r = none ∧ ∃ (Γ1 : TG) (z : Nat) (vu vo : Nat → Int), Ext Γ Γ1 ∧ Tw Γ1 hp1 ∧ TyP Γ1 cI cJ cZ pa (pa + 1) (pa + 2) gn z ∧ rd Γ1 (pa + 1) (xI cI gn vu) ∧ rd Γ1 (pa + 2) (xI cI gn vo) ∧ nuP2 E vu gn ∧ (z : Int) = (cnP (fsP E) gn : Int) ∧ mbS vu gn (gn : Int) vo
def PXL (cI cJ cZ cT : ClassId) (pa : Nat) (vn : Nat) (vz : Int) (vu : Nat → Int) (vo : Nat → Int) : List (va_E → Prop) := [tO 5 (ptF pa vn vz), xI cI vn vu, xI cI vn vo]
def PX (Γ : TG) (cI cJ cZ cT : ClassId) (pa : Nat) (vn : Nat) (vz : Int) (vu : Nat → Int) (vo : Nat → Int) : TG := fun q => if pa ≤ q ∧ q < pa + 3 then (PXL cI cJ cZ cT pa vn vz vu vo)[q - pa]? else Γ q
theorem PX_e {Γ : TG} {cI cJ cZ cT : ClassId} {pa : Nat} {vn : Nat} {vz : Int} {vu : Nat → Int} {vo : Nat → Int} (j : Nat) {T : va_E → Prop} (hj : j < 3) (h : (PXL cI cJ cZ cT pa vn vz vu vo)[j]? = some T) : PX Γ cI cJ cZ cT pa vn vz vu vo (pa + j) = some T := by
  unfold PX
  rw [if_pos (by omega), Nat.add_sub_cancel_left]
  exact h
theorem PX_o {Γ : TG} {cI cJ cZ cT : ClassId} {pa : Nat} {vn : Nat} {vz : Int} {vu : Nat → Int} {vo : Nat → Int} {q : Nat} (h : q < pa ∨ pa + 3 ≤ q) : PX Γ cI cJ cZ cT pa vn vz vu vo q = Γ q := by
  unfold PX
  rw [if_neg (by omega)]
theorem rd_PX {Γ : TG} {cI cJ cZ cT : ClassId} {pa : Nat} {vn : Nat} {vz : Int} {vu : Nat → Int} {vo : Nat → Int} {q : Nat} {T : va_E → Prop} (h : q < pa ∨ pa + 3 ≤ q) (hr : rd Γ q T) : rd (PX Γ cI cJ cZ cT pa vn vz vu vo) q T := by
  obtain ⟨T0, h0, h1⟩ := hr
  exact ⟨T0, by rw [PX_o h]; exact h0, h1⟩
theorem eq_PX {Γ : TG} {cI cJ cZ cT : ClassId} {pa : Nat} {vn : Nat} {vz : Int} {vu : Nat → Int} {vo : Nat → Int} {q : Nat} {T : va_E → Prop} (h : q < pa ∨ pa + 3 ≤ q) (hr : Γ q = some T) : PX Γ cI cJ cZ cT pa vn vz vu vo q = some T := by
  rw [PX_o h]; exact hr
theorem PX_w {Γ : TG} {cI cJ cZ cT : ClassId} {pa : Nat} {vn : Nat} {vz : Int} {vu : Nat → Int} {vo : Nat → Int} {vn1 : Nat} {vz1 : Int} {vu1 : Nat → Int} {vo1 : Nat → Int} {hp : MH} (j : Nat) {T : va_E → Prop} (hj : j < 3) (h : PXL cI cJ cZ cT pa vn1 vz1 vu1 vo1 = (PXL cI cJ cZ cT pa vn vz vu vo).set j T) (ht : Tw (ov (PX Γ cI cJ cZ cT pa vn vz vu vo) (pa + j) T) hp) : Tw (PX Γ cI cJ cZ cT pa vn1 vz1 vu1 vo1) hp := by
  have e : ov (PX Γ cI cJ cZ cT pa vn vz vu vo) (pa + j) T = PX Γ cI cJ cZ cT pa vn1 vz1 vu1 vo1 := by
    funext q
    by_cases hq : q = pa + j
    · subst hq
      rw [ov_s]
      unfold PX
      rw [if_pos (by omega), Nat.add_sub_cancel_left, h, List.getElem?_set_self (Nat.lt_of_lt_of_eq hj rfl)]
    · rw [ov_o _ _ hq]
      unfold PX
      by_cases hr : pa ≤ q ∧ q < pa + 3
      · rw [if_pos hr, if_pos hr, h, List.getElem?_set_ne (by omega)]
      · rw [if_neg hr, if_neg hr]
  rw [e] at ht
  exact ht
theorem PX_0 {Γ : TG} {cI cJ cZ cT : ClassId} {pa : Nat} {vn : Nat} {vz : Int} {vu : Nat → Int} {vo : Nat → Int} : PX Γ cI cJ cZ cT pa vn vz vu vo pa = some (tO 5 (ptF pa vn vz)) := PX_e 0 (by decide) rfl
theorem PX_1 {Γ : TG} {cI cJ cZ cT : ClassId} {pa : Nat} {vn : Nat} {vz : Int} {vu : Nat → Int} {vo : Nat → Int} : PX Γ cI cJ cZ cT pa vn vz vu vo (pa + 1) = some (xI cI vn vu) := PX_e 1 (by decide) rfl
theorem PX_2 {Γ : TG} {cI cJ cZ cT : ClassId} {pa : Nat} {vn : Nat} {vz : Int} {vu : Nat → Int} {vo : Nat → Int} : PX Γ cI cJ cZ cT pa vn vz vu vo (pa + 2) = some (xI cI vn vo) := PX_e 2 (by decide) rfl
theorem PXw_vu {Γ : TG} {cI cJ cZ cT : ClassId} {pa : Nat} {vn : Nat} {vz : Int} {vu : Nat → Int} {vo : Nat → Int} {hp : MH} {f : Nat → Int} (ht : Tw (ov (PX Γ cI cJ cZ cT pa vn vz vu vo) (pa + 1) (xI cI vn f)) hp) : Tw (PX Γ cI cJ cZ cT pa vn vz f vo) hp := PX_w 1 (by decide) rfl ht
theorem PXw_vo {Γ : TG} {cI cJ cZ cT : ClassId} {pa : Nat} {vn : Nat} {vz : Int} {vu : Nat → Int} {vo : Nat → Int} {hp : MH} {f : Nat → Int} (ht : Tw (ov (PX Γ cI cJ cZ cT pa vn vz vu vo) (pa + 2) (xI cI vn f)) hp) : Tw (PX Γ cI cJ cZ cT pa vn vz vu f) hp := PX_w 2 (by decide) rfl ht
theorem PXw_vz {Γ : TG} {cI cJ cZ cT : ClassId} {pa : Nat} {vn : Nat} {vz : Int} {vu : Nat → Int} {vo : Nat → Int} {hp : MH} {f : Int} (ht : Tw (ov (PX Γ cI cJ cZ cT pa vn vz vu vo) pa (tO 5 ((ptF pa vn vz).set 1 (fE (.int (iv f)))))) hp) : Tw (PX Γ cI cJ cZ cT pa vn f vu vo) hp := PX_w 0 (by decide) rfl ht
theorem PX_x {Γ : TG} {cI cJ cZ cT : ClassId} {pa : Nat} {vn : Nat} {vz : Int} {vu : Nat → Int} {vo : Nat → Int} {Γ1 : TG} (hE : Ext (PX Γ cI cJ cZ cT pa vn vz vu vo) Γ1) : ∃ Γ2 : TG, Ext Γ Γ2 ∧ PX Γ2 cI cJ cZ cT pa vn vz vu vo = Γ1 := by
  refine ⟨fun q => if pa ≤ q ∧ q < pa + 3 then Γ q else Γ1 q, fun q T h => ?_, ?_⟩
  · show (if pa ≤ q ∧ q < pa + 3 then Γ q else Γ1 q) = some T
    by_cases hq : pa ≤ q ∧ q < pa + 3
    · rw [if_pos hq]; exact h
    · rw [if_neg hq]; exact hE q T (by rw [PX_o (by omega)]; exact h)
  · funext q
    by_cases hq : pa ≤ q ∧ q < pa + 3
    · have hr : ∃ T, (PX Γ cI cJ cZ cT pa vn vz vu vo) q = some T := by
        unfold PX
        rw [if_pos hq]
        exact ⟨_, List.getElem?_eq_getElem (show q - pa < 3 by omega)⟩
      obtain ⟨T, hT⟩ := hr
      have h1 := hE q T hT
      have h2 : PX (fun q => if pa ≤ q ∧ q < pa + 3 then Γ q else Γ1 q) cI cJ cZ cT pa vn vz vu vo q = PX Γ cI cJ cZ cT pa vn vz vu vo q := by unfold PX; rw [if_pos hq, if_pos hq]
      rw [h2, hT, h1]
    · rw [PX_o (by omega)]
      show (if pa ≤ q ∧ q < pa + 3 then Γ q else Γ1 q) = Γ1 q
      rw [if_neg hq]
theorem PX_tw {Γ : TG} {cI cJ cZ cT : ClassId} {pa : Nat} {vn : Nat} {vz : Int} {vu : Nat → Int} {vo : Nat → Int} {hp hp2 : MH} (ht : Tw Γ hp) (hfr : ∀ (q : Nat) (e : va_E), q < pa ∨ pa + 3 ≤ q → hp q = some e → hp2 q = some e) (hL : ∀ (j : Nat) (T : va_E → Prop), (PXL cI cJ cZ cT pa vn vz vu vo)[j]? = some T → ∃ e, hp2 (pa + j) = some e ∧ T e) : Tw (PX Γ cI cJ cZ cT pa vn vz vu vo) hp2 := by
  intro q T h
  unfold PX at h
  by_cases hr : pa ≤ q ∧ q < pa + 3
  · rw [if_pos hr] at h
    obtain ⟨e, h1, h2⟩ := hL (q - pa) T h
    rw [show pa + (q - pa) = q by omega] at h1
    exact ⟨e, h1, h2⟩
  · rw [if_neg hr] at h
    obtain ⟨e, h1, h2⟩ := ht q T h
    exact ⟨e, hfr q e (by omega) h1, h2⟩
theorem PX_ext {Γ : TG} {cI cJ cZ cT : ClassId} {pa : Nat} {vn : Nat} {vz : Int} {vu : Nat → Int} {vo : Nat → Int} {Γ1 : TG} (hlo : ∀ (q : Nat) (T : va_E → Prop), Γ q = some T → q < pa) (hE : Ext Γ Γ1) : Ext Γ (PX Γ1 cI cJ cZ cT pa vn vz vu vo) := fun q T h => by
  have h9 := hlo q T h
  rw [PX_o (by omega)]; exact hE q T h
theorem TyG.px {Γ : TG} {cI cJ cZ cT : ClassId} {ga : Nat} {gF : Nat} {gT : Nat} {gW : Nat} {gC : Nat} {gTl : Nat} {gHd : Nat} {gBy : Nat} {gOu : Nat} {gIn : Nat} {gJo : Nat} {gn : Nat} {gm : Nat} {gq : Nat} {gdr : Int} {pa : Nat} {vn : Nat} {vz : Int} {vu : Nat → Int} {vo : Nat → Int} (hlt : ga < pa ∧ gF < pa ∧ gT < pa ∧ gW < pa ∧ gC < pa ∧ gTl < pa ∧ gHd < pa ∧ gBy < pa ∧ gOu < pa ∧ gIn < pa ∧ gJo < pa) (h : TyG Γ cI cJ cZ ga gF gT gW gC gTl gHd gBy gOu gIn gJo gn gm gq gdr) : TyG (PX Γ cI cJ cZ cT pa vn vz vu vo) cI cJ cZ ga gF gT gW gC gTl gHd gBy gOu gIn gJo gn gm gq gdr := ⟨rd_PX (by omega) h.1, rd_PX (by omega) h.2.1, rd_PX (by omega) h.2.2.1, rd_PX (by omega) h.2.2.2.1, rd_PX (by omega) h.2.2.2.2.1, rd_PX (by omega) h.2.2.2.2.2.1, rd_PX (by omega) h.2.2.2.2.2.2.1, rd_PX (by omega) h.2.2.2.2.2.2.2.1, rd_PX (by omega) h.2.2.2.2.2.2.2.2.1, rd_PX (by omega) h.2.2.2.2.2.2.2.2.2.1, rd_PX (by omega) h.2.2.2.2.2.2.2.2.2.2.1, h.2.2.2.2.2.2.2.2.2.2.2⟩
theorem XG.px {Γ : TG} {cI cJ cZ cT : ClassId} {pa : Nat} {vn : Nat} {vz : Int} {vu : Nat → Int} {vo : Nat → Int} {gF gT gW gC gTl gHd gBy gOu gIn gJo gn gm gq : Nat} {F T W C Tl Hd By Ou In Jo : Nat → Int} (hlt : gF < pa ∧ gT < pa ∧ gW < pa ∧ gC < pa ∧ gTl < pa ∧ gHd < pa ∧ gBy < pa ∧ gOu < pa ∧ gIn < pa ∧ gJo < pa) (h : XG Γ cI gF gT gW gC gTl gHd gBy gOu gIn gJo gn gm gq F T W C Tl Hd By Ou In Jo) : XG (PX Γ cI cJ cZ cT pa vn vz vu vo) cI gF gT gW gC gTl gHd gBy gOu gIn gJo gn gm gq F T W C Tl Hd By Ou In Jo := by
  obtain ⟨⟨h0, h1, h2, h3, h4, h5, h6, h7, h8, h9⟩, hr⟩ := h
  exact ⟨⟨rd_PX (by omega) h0, rd_PX (by omega) h1, rd_PX (by omega) h2, rd_PX (by omega) h3, rd_PX (by omega) h4, rd_PX (by omega) h5, rd_PX (by omega) h6, rd_PX (by omega) h7, rd_PX (by omega) h8, rd_PX (by omega) h9⟩, hr⟩
theorem PX_ty {Γ : TG} {cI cJ cZ cT : ClassId} {pa vn : Nat} {vz : Int} {vu vo : Nat → Int} (h1 : 1 ≤ vn ∧ vn ≤ 16) (hz : 1 ≤ vz ∧ vz ≤ (vn : Int)) (hu : nuP vu (vn : Int) vz) (ho : Rfx vn 0 65535 vo) : TyP (PX Γ cI cJ cZ cT pa vn vz vu vo) cI cJ cZ pa (pa + 1) (pa + 2) vn vz.toNat := by
  have e : ((vz.toNat : Nat) : Int) = vz := by omega
  refine ⟨?_, ?_, ?_, by omega⟩
  · rw [e]; exact rd_of PX_0
  · rw [e]; exact rd_xr (rd_of PX_1) (fun i hi => by have h9 := hu i (by omega); omega)
  · exact rd_xr (rd_of PX_2) (fun i hi => ho i hi)
set_option maxHeartbeats 4000000 in
set_option maxRecDepth 100000 in
theorem p_X5x {D : va_G} {cI cJ cZ cT : ClassId} {lo b L : Nat} {xs : Nat → Int32} {hp : MH} {n d kr wr : Nat} {Po : Option Value → MH → Nat → Prop} {Γ : TG} {pa ga gn : Nat} {Fs : List (Value → Prop)} {x2 : Int} {v3 : Value} (hd0 : 1 ≤ d) (ht : Tw Γ hp) (hg0 : rd Γ ga (tO 3 Fs)) (hF : Fs[0]? = some (fE (.int (iv (gn : Int))))) (h0 : hp pa = some (.inr (5, [.int 0, .int 0, .null, .null]))) (hn : n = pa + 1) (hgn : gn ≤ 16) (hlo : ∀ (q : Nat) (T : va_E → Prop), Γ q = some T → q < pa) (hkr : 2 ≤ kr) (hwr : gn + gn ≤ wr) (kk : ∀ hp1 : MH, Tw (PX Γ cI cJ cZ cT pa gn 0 (fun _ => 0) (fun _ => 0)) hp1 → Rn (gG D cI cJ cZ cT lo b L xs) mX5_init d 28 [(0, .ref pa), (1, .ref ga), (2, .int (iv x2)), (3, v3)] [] hp1 (n + 2) (kr - 1 - 1) (wr - gn - gn) Po) : Rn (gG D cI cJ cZ cT lo b L xs) mX5_init d 0 [(0, .ref pa), (1, .ref ga), (2, .int (iv x2)), (3, v3)] [] hp n kr wr Po := by
  subst hn
  have hsq : gn * gn ≤ 256 := Nat.le_trans (Nat.mul_le_mul hgn hgn) (by decide)
  refine Rn.bd (fun bd => ?_)
  refine r_aload_n (pc := 0) dX5_init_0 (i := 0) rfl rfl ?_
  refine r_aload_n (pc := 1) dX5_init_1 (i := 1) rfl rfl ?_
  refine t_getE (pc := 2) (.int (iv (gn : Int))) ht hg0 fX5_3 dX5_init_2 hF ?_
  refine r_callI (pc := 5) (as := [.int (iv (gn : Int))]) (st := []) kX5_9 dX5_init_5 (c_X9_init_X5 (d := d - 1) (by omega) h0) rfl (by omega) (Nat.le_of_ble_eq_true rfl) (Nat.zero_le _) (Nat.zero_le _) rfl (fun r9 hq0 n1 hq1 => ?_)
  obtain ⟨rfl, hn1, g0, o0⟩ := hq1
  subst n1
  change Rn _ _ _ 8 _ [] _ _ _ _ _
  refine r_aload_n (pc := 8) dX5_init_8 (i := 0) rfl rfl ?_
  refine r_aload_n (pc := 9) dX5_init_9 (i := 0) rfl rfl ?_
  refine r_get (pc := 10) fX5_15 dX5_init_10 g0 rfl ?_
  refine w_newi (pc := 13) (t0 := 0) (N := gn) dX5_init_13 (tb_t (k := 68) (w := Cond.arrayClass .int) (by decide +kernel)) rfl (nI_iv gn).symm (by omega) (by omega) (by omega) (fun hp1 a0 k1 o1 => ?_)
  refine w_put (pc := 15) (ty := .array .int) (fs' := [.int (iv (gn : Int)), .int 0, .ref (pa + 1), .null]) fX5_18 tyX5 tyX5_ok nmX5 (by decide +kernel) (Or.inr ⟨rfl, rfl, rfl⟩) dX5_init_15 (k1 _ _ g0) (Nat.le_of_ble_eq_true rfl) rfl rfl rfl (fun hp2 g2 o2 => ?_)
  refine r_aload_n (pc := 18) dX5_init_18 (i := 0) rfl rfl ?_
  refine r_aload_n (pc := 19) dX5_init_19 (i := 0) rfl rfl ?_
  refine r_get (pc := 20) fX5_15 dX5_init_20 g2 rfl ?_
  refine w_newi (pc := 23) (t0 := 0) (N := gn) dX5_init_23 (tb_t (k := 68) (w := Cond.arrayClass .int) (by decide +kernel)) rfl (nI_iv gn).symm (by omega) (by omega) (by omega) (fun hp3 a1 k3 o3 => ?_)
  refine w_put (pc := 25) (ty := .array .int) (fs' := [.int (iv (gn : Int)), .int 0, .ref (pa + 1), .ref (pa + 2)]) fX5_22 tyX5 tyX5_ok nmX5 (by decide +kernel) (Or.inr ⟨rfl, rfl, rfl⟩) dX5_init_25 (k3 _ _ g2) (Nat.le_of_ble_eq_true rfl) rfl rfl rfl (fun hp4 g4 o4 => ?_)
  have z0 := ((o4 _ (by omega)).trans ((o3 _ (by omega)).trans ((o2 _ (by omega)).trans a0)))
  have z1 := ((o4 _ (by omega)).trans a1)
  refine kk _ (PX_tw ht (fun q e hq h9 => ?_) (fun j T hj => ?_))
  · have hne : q < pa := by
      rcases hq with h8 | h8
      · exact h8
      · exact absurd (bd q e h9) (by omega)
    exact (o4 q (by omega)).trans ((o3 q (by omega)).trans ((o2 q (by omega)).trans ((o1 q (by omega)).trans ((o0 q (by omega)).trans h9))))
  · match j, hj with
    | 0, hj =>
      obtain rfl := Option.some.inj hj
      exact ⟨_, g4, tO_mk (vs := [.int (iv (gn : Int)), .int 0, .ref (pa + 1), .ref (pa + 2)])⟩
    | 1, hj =>
      obtain rfl := Option.some.inj hj
      exact ⟨_, z0, ⟨_, rfl, fun _ _ => rfl⟩⟩
    | 2, hj =>
      obtain rfl := Option.some.inj hj
      exact ⟨_, z1, ⟨_, rfl, fun _ _ => rfl⟩⟩
    | j + 3, hj => exact absurd (List.getElem?_eq_some_iff.mp hj).1 (by show ¬ (j + 3 < 3); omega)
set_option maxHeartbeats 4000000 in
set_option maxRecDepth 100000 in
theorem c_X5_initx_01 {D : va_G} {cI cJ cZ cT : ClassId} {lo b L : Nat} {xs : Nat → Int32} {hp : MH} {d : Nat} {Γ : TG} {ga : Nat} {gF : Nat} {gT : Nat} {gW : Nat} {gC : Nat} {gTl : Nat} {gHd : Nat} {gBy : Nat} {gOu : Nat} {gIn : Nat} {gJo : Nat} {gn : Nat} {gm : Nat} {gq : Nat} {gdr : Int} {F T W C Tl Hd By Ou In Jo : Nat → Int} {pa : Nat} {x2 : Int} {nuc : Nat → Int64} (hd0 : 3 ≤ d) (hg : TyG Γ cI cJ cZ ga gF gT gW gC gTl gHd gBy gOu gIn gJo gn gm gq gdr) (hxg : XG Γ cI gF gT gW gC gTl gHd gBy gOu gIn gJo gn gm gq F T W C Tl Hd By Ou In Jo) (h0 : hp pa = some (.inr (5, [.int 0, .int 0, .null, .null]))) (hlo : ∀ (q : Nat) (T : va_E → Prop), Γ q = some T → q < pa) (ht : Tw Γ hp) (hx2 : 0 ≤ x2 ∧ x2 ≤ 1) (hou9 : rwP Ou gn (stP gm gdr F T)) (hin9 : rwP In gn (fun i j => stP gm gdr F T j i)) (hjo : rwP Jo gn (joX gm F T (fun _ => True))) : Mt (gG D cI cJ cZ cT lo b L xs) mX5_init d 3 (gn + gn + gn) [.ref pa, .ref ga, .int (iv x2), .null] hp (pa + 1) (pPx Γ cI cJ cZ pa gn (pa + 1) (ptE gm gdr F T nuc x2)) := by
  refine Mt.of rfl (Nat.le_of_ble_eq_true rfl) ?_
  refine Rn.pick (lv' := [(0, .ref pa), (1, .ref ga), (2, .int (iv x2)), (3, .null)]) [0, 1, 2, 3] rfl ?_
  obtain ⟨hg_O, hg_from, hg_to, hg_weight, hg_cost, hg_tail, hg_head, hg_by, hg_out, hg_in, hg_joined, hg_b⟩ := id hg
  obtain ⟨⟨hxg_F, hxg_T, hxg_W, hxg_C, hxg_Tl, hxg_Hd, hxg_By, hxg_Ou, hxg_In, hxg_Jo⟩, ⟨hrg_F, hrg_T, hrg_W, hrg_C, hrg_Tl, hrg_Hd, hrg_By, hrg_Ou, hrg_In, hrg_Jo⟩, houg⟩ := id hxg
  have hltg : ga < pa ∧ gF < pa ∧ gT < pa ∧ gW < pa ∧ gC < pa ∧ gTl < pa ∧ gHd < pa ∧ gBy < pa ∧ gOu < pa ∧ gIn < pa ∧ gJo < pa := ⟨rd_lo hlo hg_O, rd_lo hlo hg_from, rd_lo hlo hg_to, rd_lo hlo hg_weight, rd_lo hlo hg_cost, rd_lo hlo hg_tail, rd_lo hlo hg_head, rd_lo hlo hg_by, rd_lo hlo hg_out, rd_lo hlo hg_in, rd_lo hlo hg_joined⟩
  have hu0 : Rfx gn 0 15 (fun _ => 0) := fun _ _ => ⟨(by show (0 : Int) ≤ 0; decide), (by show (0 : Int) ≤ 15; decide)⟩
  have ho0 : Rfx gn 0 65535 (fun _ => 0) := fun _ _ => ⟨(by show (0 : Int) ≤ 0; decide), (by show (0 : Int) ≤ 65535; decide)⟩
  refine p_X5x (by omega) ht hg_O rfl h0 rfl (by omega) hlo (by omega) (by omega) (fun hp1 ht1 => ?_)
  refine r_iload_n (pc := 28) dX5_init_28 (i := 2) rfl rfl ?_
  refine r_iconst (pc := 29) (v := iv 2) dX5_init_29 (by decide) ?_
  refine t_icmp_ne (pc := 30) (tgt := 40) dX5_init_30 (by decide) (by omega) (by omega) (fun c30 => ?_) (fun c30 => ?_)
  · refine r_aload_n (pc := 40) dX5_init_40 (i := 1) rfl rfl ?_
    refine t_getE (pc := 41) (.ref gJo) ht1 (rd_PX (by omega) hg_O) fX5_31 dX5_init_41 rfl ?_
    refine r_astore (pc := 44) (lv' := [(4, .ref gJo), (0, .ref pa), (1, .ref ga), (2, .int (iv x2)), (3, .null)]) dX5_init_44 (by decide) rfl ?_
    refine r_iconst (pc := 46) (v := iv 0) dX5_init_46 (by decide) ?_
    refine r_istore (pc := 47) (lv' := [(5, .int (iv 0)), (4, .ref gJo), (0, .ref pa), (1, .ref ga), (2, .int (iv x2)), (3, .null)]) dX5_init_47 (by decide) rfl ?_
    refine r_iconst (pc := 49) (v := iv 0) dX5_init_49 (by decide) ?_
    refine r_istore (pc := 50) (lv' := [(6, .int (iv 0)), (5, .int (iv 0)), (4, .ref gJo), (0, .ref pa), (1, .ref ga), (2, .int (iv x2)), (3, .null)]) dX5_init_50 (by decide) rfl ?_
    have B52 : ∀ k : Nat, ∀ vu52 : Nat → Int, ∀ vo52 : Nat → Int, ∀ hp52 : MH, Tw (PX Γ cI cJ cZ cT pa gn 0 vu52 vo52) hp52 → ∀  (v52_5 : Int) (v52_6 : Int), 0 ≤ v52_5 ∧ v52_5 ≤ 16 ∧ 0 ≤ v52_6 ∧ v52_6 ≤ 16 ∧ (Rfx gn 0 15 vu52) ∧ (Rfx gn 0 65535 vo52) ∧ (nuP vu52 v52_6 v52_5) ∧ (nuP2 (ptE gm gdr F T nuc x2) vu52 (Int.toNat v52_6)) ∧ (v52_5 = (cnP (fsP (ptE gm gdr F T nuc x2)) (Int.toNat v52_6) : Int)) ∧ (mbS vu52 gn v52_6 vo52) ∧ (v52_5 ≤ v52_6) ∧ (1 ≤ v52_6 → 1 ≤ v52_5) ∧ (v52_6 ≤ (gn : Int)) → 16 - v52_6 ≤ (k : Int) → Rn (gG D cI cJ cZ cT lo b L xs) mX5_init d 52 [(0, .ref pa), (1, .ref ga), (2, .int (iv x2)), (3, .null), (4, .ref gJo), (5, .int (iv v52_5)), (6, .int (iv v52_6))] [] hp52 (pa + 1 + 2) (3 - 1 - 1) ((gn + gn + gn) - gn - gn) (pPx Γ cI cJ cZ pa gn (pa + 1) (ptE gm gdr F T nuc x2)) := by
      refine lpS _ ?_
      intro k52 ih52 vu52 vo52 hp52 ht52 v52_5 v52_6 hf52 hm52
      obtain ⟨hf52_0, hf52_1, hf52_2, hf52_3, ha52_4, ha52_5, ha52_6, ha52_7, ha52_8, ha52_9, hf52_10, hf52_11, hf52_12⟩ := hf52
      refine r_iload (pc := 52) dX5_init_52 rfl ?_
      refine r_aload_n (pc := 54) dX5_init_54 (i := 0) rfl rfl ?_
      refine t_getE (pc := 55) (.int (iv (gn : Int))) ht52 (rd_of PX_0) fX5_15 dX5_init_55 rfl ?_
      refine t_icmp_ge (pc := 58) (tgt := 139) dX5_init_58 (by decide) (by omega) (by omega) (fun c58 => ?_) (fun c58 => ?_)
      · refine r_aload_n (pc := 139) dX5_init_139 (i := 0) rfl rfl ?_
        refine r_iload (pc := 140) dX5_init_140 rfl ?_
        refine t_putX (pc := 142) (ty := .int) ht52 PX_0 fX5_38 tyX5 tyX5_ok nmX5 (by decide +kernel) (Or.inr ⟨rfl, rfl, rfl⟩) dX5_init_142 (Nat.le_of_ble_eq_true rfl) rfl rfl rfl (fun hp1 ht2 => ?_)
        have ht3 := PXw_vz ht2
        exact r_vret (pc := 145) dX5_init_145 rfl ⟨by omega, rfl, _, _, vu52, vo52, PX_ext hlo (Ext_refl Γ), ht3, PX_ty (by omega) (by omega) (by have e9 : v52_6 = (gn : Int) := (by omega); rw [← e9]; assumption) (by assumption), rd_of PX_1, rd_of PX_2, by have h8 : nuP2 (ptE gm gdr F T nuc x2) vu52 (Int.toNat v52_6) := (by assumption); rw [show v52_6 = (gn : Int) by omega, Int.toNat_natCast] at h8; exact h8, by have h8 : v52_5 = (cnP (fsP (ptE gm gdr F T nuc x2)) (Int.toNat v52_6) : Int) := (by assumption); rw [show v52_6 = (gn : Int) by omega, Int.toNat_natCast] at h8; omega, by have h8 : mbS vu52 gn v52_6 vo52 := (by assumption); rw [show v52_6 = (gn : Int) by omega] at h8; exact h8⟩
      · refine r_aload_n (pc := 61) dX5_init_61 (i := 1) rfl rfl ?_
        refine r_iload_n (pc := 62) dX5_init_62 (i := 2) rfl rfl ?_
        refine r_aload (pc := 63) dX5_init_63 rfl ?_
        refine r_aload_nN (pc := 65) dX5_init_65 (i := 3) rfl rfl ?_
        refine r_iload (pc := 66) dX5_init_66 rfl ?_
        refine t_callSI (pc := 68) (as := [.ref ga, .int (iv x2), .ref gJo, .null, .int (iv v52_6)]) (st := []) kX5_34 dX5_init_68 (c_X5_firstnx (d := d - 1) (nuc := nuc) (x1 := x2) (x4 := v52_6) (by omega) (TyG.px hltg hg) (XG.px (by omega) hxg) ht52 (by omega) (by omega) hou9 hin9 (rd_PX (by omega) hxg_Jo) hrg_Jo hjo (fun h9 => Or.inl ⟨by omega, rfl⟩)) rfl (by omega) (Nat.le_of_ble_eq_true rfl) rfl (fun hp5 y4 ht6 by4 => ?_)
        obtain ⟨by41, hfp⟩ := by4
        refine r_istore (pc := 71) (lv' := [(7, .int (iv y4)), (0, .ref pa), (1, .ref ga), (2, .int (iv x2)), (3, .null), (4, .ref gJo), (5, .int (iv v52_5)), (6, .int (iv v52_6))]) dX5_init_71 (by decide) rfl ?_
        refine r_iload (pc := 73) dX5_init_73 rfl ?_
        refine r_iload (pc := 75) dX5_init_75 rfl ?_
        have B114 : ∀ vu114 : Nat → Int, ∀ hp114 : MH, Tw (PX Γ cI cJ cZ cT pa gn 0 vu114 vo52) hp114 → ∀  (v114_5 : Int), 0 ≤ v114_5 ∧ v114_5 ≤ 17 ∧ v52_5 ≤ v114_5 ∧ (Rfx gn 0 15 vu114) ∧ (nuP vu114 (v52_6 + 1) v114_5) ∧ (nuP2 (ptE gm gdr F T nuc x2) vu114 (Int.toNat (v52_6 + 1))) ∧ (v114_5 = (cnP (fsP (ptE gm gdr F T nuc x2)) (Int.toNat (v52_6 + 1)) : Int)) ∧ (mbS vu114 gn v52_6 vo52) ∧ (v114_5 ≤ v52_6 + 1) ∧ (1 ≤ v114_5) → Rn (gG D cI cJ cZ cT lo b L xs) mX5_init d 114 [(0, .ref pa), (1, .ref ga), (2, .int (iv x2)), (3, .null), (4, .ref gJo), (5, .int (iv v114_5)), (6, .int (iv v52_6))] [] hp114 (pa + 1 + 2) (3 - 1 - 1) ((gn + gn + gn) - gn - gn) (pPx Γ cI cJ cZ pa gn (pa + 1) (ptE gm gdr F T nuc x2)) := by
          intro vu114 hp114 ht114 v114_5 hf114
          obtain ⟨hf114_0, hf114_1, hf114_2, ha114_3, ha114_4, ha114_5, ha114_6, ha114_7, hf114_8, hf114_9⟩ := hf114
          refine r_aload_n (pc := 114) dX5_init_114 (i := 0) rfl rfl ?_
          refine t_getE (pc := 115) (.ref (pa + 2)) ht114 (rd_of PX_0) fX5_22 dX5_init_115 rfl ?_
          refine r_aload_n (pc := 118) dX5_init_118 (i := 0) rfl rfl ?_
          refine t_getE (pc := 119) (.ref (pa + 1)) ht114 (rd_of PX_0) fX5_18 dX5_init_119 rfl ?_
          refine r_iload (pc := 122) dX5_init_122 rfl ?_
          refine t_ialdX (pc := 124) (t0 := 0) ht114 (rd_of PX_1) dX5_init_124 rfl (by omega) (by omega) (fun b7 => ?_)
          have rb7 := (show Rfx gn 0 15 vu114 by assumption) (Int.toNat v52_6) (by omega)
          have hnv : nuP vu114 (v52_6 + 1) v114_5 := by assumption
          have hnw := hnv (Int.toNat v52_6) (by omega)
          refine r_dup2_11 (pc := 125) dX5_init_125 rfl rfl ?_
          refine t_ialdX (pc := 126) (t0 := 0) ht114 (rd_of PX_2) dX5_init_126 rfl (by omega) (by omega) (fun b8 => ?_)
          have rb8 := (show Rfx gn 0 65535 vo52 by assumption) (Int.toNat (vu114 (Int.toNat v52_6))) (by omega)
          refine r_iconst (pc := 127) (v := iv 1) dX5_init_127 (by decide) ?_
          refine r_iload (pc := 128) dX5_init_128 rfl ?_
          refine r_ishl (pc := 130) (v := iv ((2 ^ Int.toNat v52_6 : Nat) : Int)) dX5_init_130 (shl_e (by omega)) ?_
          have mp130_9 : 1 ≤ 2 ^ Int.toNat v52_6 := Nat.one_le_two_pow
          have mq130_10 : 2 ^ Int.toNat v52_6 ≤ 2 ^ 15 := Nat.pow_le_pow_right (by omega) (by omega)
          have ms130 := Me_shl (Int.toNat v52_6)
          obtain ⟨z11, hz11, bz11⟩ := or_2 16 (vo52 (Int.toNat (vu114 (Int.toNat v52_6)))) ((2 ^ Int.toNat v52_6 : Nat) : Int) (by omega) (by omega) (by decide)
          refine r_ior (pc := 131) (v := iv z11) dX5_init_131 hz11 ?_
          have mez11 := Me_or hz11 (by omega) (by omega) (by omega)
          have hmo := mez11
          refine t_iastX (pc := 132) (t0 := 0) ht114 PX_2 dX5_init_132 rfl (by omega) (by omega) (by omega) (fun hp12 ht13 => ?_)
          have ht14 := PXw_vo ht13
          have hqht14 : Rfx gn 0 65535 (fup vo52 (Int.toNat (vu114 (Int.toNat v52_6))) z11) := Rfx_up (by assumption) (by omega)
          have hms := mbS_up (by assumption : mbS vu114 gn v52_6 vo52) (by omega) (by omega) hmo ms130
          refine r_iinc (pc := 133) (v := iv (v52_6 + 1)) (lv' := [(6, .int (iv (v52_6 + 1))), (0, .ref pa), (1, .ref ga), (2, .int (iv x2)), (3, .null), (4, .ref gJo), (5, .int (iv v114_5))]) dX5_init_133 rfl (iv_add _ _) (by decide) rfl ?_
          refine r_goto (pc := 136) (tgt := 52) dX5_init_136 (by decide) ?_
          refine Rn.pick (lv' := [(0, .ref pa), (1, .ref ga), (2, .int (iv x2)), (3, .null), (4, .ref gJo), (5, .int (iv v114_5)), (6, .int (iv (v52_6 + 1)))]) [1, 2, 3, 4, 5, 6, 0] rfl ?_
          exact ih52 (Int.toNat (16 - (v52_6 + 1))) (by omega) vu114 (fup vo52 (Int.toNat (vu114 (Int.toNat v52_6))) z11) _ ht14 v114_5 (v52_6 + 1) ⟨by omega, by omega, by omega, by omega, by assumption, by assumption, by (first | assumption | exact nu_0 _ _), by (first | assumption | exact nuq_0), by (first | assumption | rfl), by (first | exact hms | exact mbS_0 (fun k hk => rfl)), by omega, by omega, by omega⟩ (by omega)
        refine t_icmp_ge (pc := 77) (tgt := 102) dX5_init_77 (by decide) (by omega) (by omega) (fun c77 => ?_) (fun c77 => ?_)
        · refine r_aload_n (pc := 102) dX5_init_102 (i := 0) rfl rfl ?_
          refine t_getE (pc := 103) (.ref (pa + 1)) ht6 (rd_of PX_0) fX5_18 dX5_init_103 rfl ?_
          refine r_iload (pc := 106) dX5_init_106 rfl ?_
          refine r_iload (pc := 108) dX5_init_108 rfl ?_
          refine t_iastX (pc := 110) (t0 := 0) ht6 PX_1 dX5_init_110 rfl (by omega) (by omega) (by omega) (fun hp15 ht16 => ?_)
          have ht17 := PXw_vu ht16
          have hqht17 : Rfx gn 0 15 (fup vu52 (Int.toNat v52_6) v52_5) := Rfx_up (by assumption) (by omega)
          refine r_iinc (pc := 111) (v := iv (v52_5 + 1)) (lv' := [(5, .int (iv (v52_5 + 1))), (7, .int (iv y4)), (0, .ref pa), (1, .ref ga), (2, .int (iv x2)), (3, .null), (4, .ref gJo), (6, .int (iv v52_6))]) dX5_init_111 rfl (iv_add _ _) (by decide) rfl ?_
          refine Rn.pick (lv' := [(0, .ref pa), (1, .ref ga), (2, .int (iv x2)), (3, .null), (4, .ref gJo), (5, .int (iv (v52_5 + 1))), (6, .int (iv v52_6))]) [2, 3, 4, 5, 6, 0, 7] rfl ?_
          exact B114 (fup vu52 (Int.toNat v52_6) v52_5) _ ht17 (v52_5 + 1) ⟨by omega, by omega, by omega, by assumption, by (first | exact nu_a (by assumption) (by omega) | exact nu_b (by assumption) (by omega) (by omega)), by (first | exact nu2_a (by assumption) (by omega) hfp (by omega) | exact nu2_b (by assumption) (by omega) hfp (by omega) (by assumption)), by (first | exact cn_a (by omega) hfp (by omega) (by assumption) | exact cn_b (by omega) hfp (by omega) (by assumption)), by exact mbS_fup (by assumption) (by omega), by omega, by omega⟩
        · refine r_iload (pc := 80) dX5_init_80 rfl ?_
          refine t_if_lt (pc := 82) (tgt := 102) dX5_init_82 (by decide) (by omega) (fun c82 => ?_) (fun c82 => ?_)
          · exfalso
            omega
          · refine r_aload_n (pc := 85) dX5_init_85 (i := 0) rfl rfl ?_
            refine t_getE (pc := 86) (.ref (pa + 1)) ht6 (rd_of PX_0) fX5_18 dX5_init_86 rfl ?_
            refine r_iload (pc := 89) dX5_init_89 rfl ?_
            refine r_aload_n (pc := 91) dX5_init_91 (i := 0) rfl rfl ?_
            refine t_getE (pc := 92) (.ref (pa + 1)) ht6 (rd_of PX_0) fX5_18 dX5_init_92 rfl ?_
            refine r_iload (pc := 95) dX5_init_95 rfl ?_
            refine t_ialdX (pc := 97) (t0 := 0) ht6 (rd_of PX_1) dX5_init_97 rfl (by omega) (by omega) (fun b18 => ?_)
            have rb18 := (show Rfx gn 0 15 vu52 by assumption) (Int.toNat y4) (by omega)
            refine t_iastX (pc := 98) (t0 := 0) ht6 PX_1 dX5_init_98 rfl (by omega) (by omega) (by omega) (fun hp19 ht20 => ?_)
            have ht21 := PXw_vu ht20
            have hqht21 : Rfx gn 0 15 (fup vu52 (Int.toNat v52_6) (vu52 (Int.toNat y4))) := Rfx_up (by assumption) (by omega)
            refine r_goto (pc := 99) (tgt := 114) dX5_init_99 (by decide) ?_
            refine Rn.pick (lv' := [(0, .ref pa), (1, .ref ga), (2, .int (iv x2)), (3, .null), (4, .ref gJo), (5, .int (iv v52_5)), (6, .int (iv v52_6))]) [1, 2, 3, 4, 5, 6, 7] rfl ?_
            exact B114 (fup vu52 (Int.toNat v52_6) (vu52 (Int.toNat y4))) _ ht21 v52_5 ⟨by omega, by omega, by omega, by assumption, by (first | exact nu_a (by assumption) (by omega) | exact nu_b (by assumption) (by omega) (by omega)), by (first | exact nu2_a (by assumption) (by omega) hfp (by omega) | exact nu2_b (by assumption) (by omega) hfp (by omega) (by assumption)), by (first | exact cn_a (by omega) hfp (by omega) (by assumption) | exact cn_b (by omega) hfp (by omega) (by assumption)), by exact mbS_fup (by assumption) (by omega), by omega, by omega⟩
    refine Rn.pick (lv' := [(0, .ref pa), (1, .ref ga), (2, .int (iv x2)), (3, .null), (4, .ref gJo), (5, .int (iv 0)), (6, .int (iv 0))]) [3, 4, 5, 6, 2, 1, 0] rfl ?_
    exact B52 (Int.toNat (16 - 0)) (fun _ => 0) (fun _ => 0) _ ht1 0 0 ⟨by omega, by omega, by omega, by omega, by assumption, by assumption, by (first | assumption | exact nu_0 _ _), by (first | assumption | exact nuq_0), by (first | assumption | rfl), by (first | exact hms | exact mbS_0 (fun k hk => rfl)), by omega, by omega, by omega⟩ (by omega)
  · exfalso
    omega
set_option maxHeartbeats 4000000 in
set_option maxRecDepth 100000 in
theorem c_X5_initx_2 {D : va_G} {cI cJ cZ cT : ClassId} {lo b L : Nat} {xs : Nat → Int32} {hp : MH} {d : Nat} {Γ : TG} {ga : Nat} {gF : Nat} {gT : Nat} {gW : Nat} {gC : Nat} {gTl : Nat} {gHd : Nat} {gBy : Nat} {gOu : Nat} {gIn : Nat} {gJo : Nat} {gn : Nat} {gm : Nat} {gq : Nat} {gdr : Int} {F T W C Tl Hd By Ou In Jo : Nat → Int} {pa : Nat} {x2 : Int} {nuc : Nat → Int64} (hd0 : 3 ≤ d) (hg : TyG Γ cI cJ cZ ga gF gT gW gC gTl gHd gBy gOu gIn gJo gn gm gq gdr) (hxg : XG Γ cI gF gT gW gC gTl gHd gBy gOu gIn gJo gn gm gq F T W C Tl Hd By Ou In Jo) (h0 : hp pa = some (.inr (5, [.int 0, .int 0, .null, .null]))) (hlo : ∀ (q : Nat) (T : va_E → Prop), Γ q = some T → q < pa) (ht : Tw Γ hp) (hx2 : 2 ≤ x2 ∧ x2 ≤ 2) (hou9 : rwP Ou gn (stP gm gdr F T)) (hin9 : rwP In gn (fun i j => stP gm gdr F T j i)) (hjo : rwP Jo gn (joX gm F T (fun _ => True))) : Mt (gG D cI cJ cZ cT lo b L xs) mX5_init d 3 (gn + gn + gn) [.ref pa, .ref ga, .int (iv x2), .null] hp (pa + 1) (pPx Γ cI cJ cZ pa gn (pa + 1) (ptE gm gdr F T nuc x2)) := by
  refine Mt.of rfl (Nat.le_of_ble_eq_true rfl) ?_
  refine Rn.pick (lv' := [(0, .ref pa), (1, .ref ga), (2, .int (iv x2)), (3, .null)]) [0, 1, 2, 3] rfl ?_
  obtain ⟨hg_O, hg_from, hg_to, hg_weight, hg_cost, hg_tail, hg_head, hg_by, hg_out, hg_in, hg_joined, hg_b⟩ := id hg
  obtain ⟨⟨hxg_F, hxg_T, hxg_W, hxg_C, hxg_Tl, hxg_Hd, hxg_By, hxg_Ou, hxg_In, hxg_Jo⟩, ⟨hrg_F, hrg_T, hrg_W, hrg_C, hrg_Tl, hrg_Hd, hrg_By, hrg_Ou, hrg_In, hrg_Jo⟩, houg⟩ := id hxg
  have hltg : ga < pa ∧ gF < pa ∧ gT < pa ∧ gW < pa ∧ gC < pa ∧ gTl < pa ∧ gHd < pa ∧ gBy < pa ∧ gOu < pa ∧ gIn < pa ∧ gJo < pa := ⟨rd_lo hlo hg_O, rd_lo hlo hg_from, rd_lo hlo hg_to, rd_lo hlo hg_weight, rd_lo hlo hg_cost, rd_lo hlo hg_tail, rd_lo hlo hg_head, rd_lo hlo hg_by, rd_lo hlo hg_out, rd_lo hlo hg_in, rd_lo hlo hg_joined⟩
  have hu0 : Rfx gn 0 15 (fun _ => 0) := fun _ _ => ⟨(by show (0 : Int) ≤ 0; decide), (by show (0 : Int) ≤ 15; decide)⟩
  have ho0 : Rfx gn 0 65535 (fun _ => 0) := fun _ _ => ⟨(by show (0 : Int) ≤ 0; decide), (by show (0 : Int) ≤ 65535; decide)⟩
  refine p_X5x (by omega) ht hg_O rfl h0 rfl (by omega) hlo (by omega) (by omega) (fun hp1 ht1 => ?_)
  refine r_iload_n (pc := 28) dX5_init_28 (i := 2) rfl rfl ?_
  refine r_iconst (pc := 29) (v := iv 2) dX5_init_29 (by decide) ?_
  refine t_icmp_ne (pc := 30) (tgt := 40) dX5_init_30 (by decide) (by omega) (by omega) (fun c30 => ?_) (fun c30 => ?_)
  · exfalso
    omega
  · refine r_aload_n (pc := 33) dX5_init_33 (i := 1) rfl rfl ?_
    refine r_callS (pc := 34) (as := [.ref ga]) (st := []) kX5_25 dX5_init_34 (c_X8_withoutBridgesx (d := d - 1) (by omega) (TyG.px hltg hg) (XG.px (by omega) hxg) ht1 hjo) rfl (by omega) (Nat.le_of_ble_eq_true rfl) (by omega) (by omega) rfl (fun r1 hp2 n3 hq4 => ?_)
    obtain ⟨hnn3, hrr1, fR, Γ1, hE1, hR1, ht5, hRr, hRw⟩ := hq4
    subst n3 r1
    obtain ⟨Γ2, hE2, eq2⟩ := PX_x hE1
    rw [← eq2] at ht5 hR1
    have hg := TyG.ext hE2 hg
    have hxg := XG.ext hE2 hxg
    obtain ⟨hg_O, hg_from, hg_to, hg_weight, hg_cost, hg_tail, hg_head, hg_by, hg_out, hg_in, hg_joined, hg_b⟩ := id hg
    obtain ⟨⟨hxg_F, hxg_T, hxg_W, hxg_C, hxg_Tl, hxg_Hd, hxg_By, hxg_Ou, hxg_In, hxg_Jo⟩, ⟨hrg_F, hrg_T, hrg_W, hrg_C, hrg_Tl, hrg_Hd, hrg_By, hrg_Ou, hrg_In, hrg_Jo⟩, houg⟩ := id hxg
    have hR3 : PX Γ2 cI cJ cZ cT pa gn 0 (fun _ => 0) (fun _ => 0) (pa + 3) = some (xI cI gn fR) := hR1
    have hR4 : Γ2 (pa + 3) = some (xI cI gn fR) := (PX_o (by omega)).symm.trans hR3
    change Rn _ _ _ 37 _ [.ref (pa + 3)] _ _ _ _ _
    refine r_goto (pc := 37) (tgt := 44) dX5_init_37 (by decide) ?_
    refine r_astore (pc := 44) (lv' := [(4, .ref (pa + 3)), (0, .ref pa), (1, .ref ga), (2, .int (iv x2)), (3, .null)]) dX5_init_44 (by decide) rfl ?_
    refine r_iconst (pc := 46) (v := iv 0) dX5_init_46 (by decide) ?_
    refine r_istore (pc := 47) (lv' := [(5, .int (iv 0)), (4, .ref (pa + 3)), (0, .ref pa), (1, .ref ga), (2, .int (iv x2)), (3, .null)]) dX5_init_47 (by decide) rfl ?_
    refine r_iconst (pc := 49) (v := iv 0) dX5_init_49 (by decide) ?_
    refine r_istore (pc := 50) (lv' := [(6, .int (iv 0)), (5, .int (iv 0)), (4, .ref (pa + 3)), (0, .ref pa), (1, .ref ga), (2, .int (iv x2)), (3, .null)]) dX5_init_50 (by decide) rfl ?_
    have B52 : ∀ k : Nat, ∀ vu52 : Nat → Int, ∀ vo52 : Nat → Int, ∀ hp52 : MH, Tw (PX Γ2 cI cJ cZ cT pa gn 0 vu52 vo52) hp52 → ∀  (v52_5 : Int) (v52_6 : Int), 0 ≤ v52_5 ∧ v52_5 ≤ 16 ∧ 0 ≤ v52_6 ∧ v52_6 ≤ 16 ∧ (Rfx gn 0 15 vu52) ∧ (Rfx gn 0 65535 vo52) ∧ (nuP vu52 v52_6 v52_5) ∧ (nuP2 (ptE gm gdr F T nuc x2) vu52 (Int.toNat v52_6)) ∧ (v52_5 = (cnP (fsP (ptE gm gdr F T nuc x2)) (Int.toNat v52_6) : Int)) ∧ (mbS vu52 gn v52_6 vo52) ∧ (v52_5 ≤ v52_6) ∧ (1 ≤ v52_6 → 1 ≤ v52_5) ∧ (v52_6 ≤ (gn : Int)) → 16 - v52_6 ≤ (k : Int) → Rn (gG D cI cJ cZ cT lo b L xs) mX5_init d 52 [(0, .ref pa), (1, .ref ga), (2, .int (iv x2)), (3, .null), (4, .ref (pa + 3)), (5, .int (iv v52_5)), (6, .int (iv v52_6))] [] hp52 (pa + 1 + 2 + 1) ((3 - 1 - 1) - 1) (((gn + gn + gn) - gn - gn) - gn) (pPx Γ cI cJ cZ pa gn (pa + 1) (ptE gm gdr F T nuc x2)) := by
      refine lpS _ ?_
      intro k52 ih52 vu52 vo52 hp52 ht52 v52_5 v52_6 hf52 hm52
      obtain ⟨hf52_0, hf52_1, hf52_2, hf52_3, ha52_4, ha52_5, ha52_6, ha52_7, ha52_8, ha52_9, hf52_10, hf52_11, hf52_12⟩ := hf52
      refine r_iload (pc := 52) dX5_init_52 rfl ?_
      refine r_aload_n (pc := 54) dX5_init_54 (i := 0) rfl rfl ?_
      refine t_getE (pc := 55) (.int (iv (gn : Int))) ht52 (rd_of PX_0) fX5_15 dX5_init_55 rfl ?_
      refine t_icmp_ge (pc := 58) (tgt := 139) dX5_init_58 (by decide) (by omega) (by omega) (fun c58 => ?_) (fun c58 => ?_)
      · refine r_aload_n (pc := 139) dX5_init_139 (i := 0) rfl rfl ?_
        refine r_iload (pc := 140) dX5_init_140 rfl ?_
        refine t_putX (pc := 142) (ty := .int) ht52 PX_0 fX5_38 tyX5 tyX5_ok nmX5 (by decide +kernel) (Or.inr ⟨rfl, rfl, rfl⟩) dX5_init_142 (Nat.le_of_ble_eq_true rfl) rfl rfl rfl (fun hp6 ht7 => ?_)
        have ht8 := PXw_vz ht7
        exact r_vret (pc := 145) dX5_init_145 rfl ⟨by omega, rfl, _, _, vu52, vo52, PX_ext hlo hE2, ht8, PX_ty (by omega) (by omega) (by have e9 : v52_6 = (gn : Int) := (by omega); rw [← e9]; assumption) (by assumption), rd_of PX_1, rd_of PX_2, by have h8 : nuP2 (ptE gm gdr F T nuc x2) vu52 (Int.toNat v52_6) := (by assumption); rw [show v52_6 = (gn : Int) by omega, Int.toNat_natCast] at h8; exact h8, by have h8 : v52_5 = (cnP (fsP (ptE gm gdr F T nuc x2)) (Int.toNat v52_6) : Int) := (by assumption); rw [show v52_6 = (gn : Int) by omega, Int.toNat_natCast] at h8; omega, by have h8 : mbS vu52 gn v52_6 vo52 := (by assumption); rw [show v52_6 = (gn : Int) by omega] at h8; exact h8⟩
      · refine r_aload_n (pc := 61) dX5_init_61 (i := 1) rfl rfl ?_
        refine r_iload_n (pc := 62) dX5_init_62 (i := 2) rfl rfl ?_
        refine r_aload (pc := 63) dX5_init_63 rfl ?_
        refine r_aload_nN (pc := 65) dX5_init_65 (i := 3) rfl rfl ?_
        refine r_iload (pc := 66) dX5_init_66 rfl ?_
        refine t_callSI (pc := 68) (as := [.ref ga, .int (iv x2), .ref (pa + 3), .null, .int (iv v52_6)]) (st := []) kX5_34 dX5_init_68 (c_X5_firstnx (d := d - 1) (nuc := nuc) (x1 := x2) (x4 := v52_6) (by omega) (TyG.px hltg hg) (XG.px (by omega) hxg) ht52 (by omega) (by omega) hou9 hin9 (rd_PX (by omega) (rd_of hR4)) hRr hRw (fun h9 => Or.inr ⟨by omega, rfl⟩)) rfl (by omega) (Nat.le_of_ble_eq_true rfl) rfl (fun hp10 y9 ht11 by9 => ?_)
        obtain ⟨by91, hfp⟩ := by9
        refine r_istore (pc := 71) (lv' := [(7, .int (iv y9)), (0, .ref pa), (1, .ref ga), (2, .int (iv x2)), (3, .null), (4, .ref (pa + 3)), (5, .int (iv v52_5)), (6, .int (iv v52_6))]) dX5_init_71 (by decide) rfl ?_
        refine r_iload (pc := 73) dX5_init_73 rfl ?_
        refine r_iload (pc := 75) dX5_init_75 rfl ?_
        have B114 : ∀ vu114 : Nat → Int, ∀ hp114 : MH, Tw (PX Γ2 cI cJ cZ cT pa gn 0 vu114 vo52) hp114 → ∀  (v114_5 : Int), 0 ≤ v114_5 ∧ v114_5 ≤ 17 ∧ v52_5 ≤ v114_5 ∧ (Rfx gn 0 15 vu114) ∧ (nuP vu114 (v52_6 + 1) v114_5) ∧ (nuP2 (ptE gm gdr F T nuc x2) vu114 (Int.toNat (v52_6 + 1))) ∧ (v114_5 = (cnP (fsP (ptE gm gdr F T nuc x2)) (Int.toNat (v52_6 + 1)) : Int)) ∧ (mbS vu114 gn v52_6 vo52) ∧ (v114_5 ≤ v52_6 + 1) ∧ (1 ≤ v114_5) → Rn (gG D cI cJ cZ cT lo b L xs) mX5_init d 114 [(0, .ref pa), (1, .ref ga), (2, .int (iv x2)), (3, .null), (4, .ref (pa + 3)), (5, .int (iv v114_5)), (6, .int (iv v52_6))] [] hp114 (pa + 1 + 2 + 1) ((3 - 1 - 1) - 1) (((gn + gn + gn) - gn - gn) - gn) (pPx Γ cI cJ cZ pa gn (pa + 1) (ptE gm gdr F T nuc x2)) := by
          intro vu114 hp114 ht114 v114_5 hf114
          obtain ⟨hf114_0, hf114_1, hf114_2, ha114_3, ha114_4, ha114_5, ha114_6, ha114_7, hf114_8, hf114_9⟩ := hf114
          refine r_aload_n (pc := 114) dX5_init_114 (i := 0) rfl rfl ?_
          refine t_getE (pc := 115) (.ref (pa + 2)) ht114 (rd_of PX_0) fX5_22 dX5_init_115 rfl ?_
          refine r_aload_n (pc := 118) dX5_init_118 (i := 0) rfl rfl ?_
          refine t_getE (pc := 119) (.ref (pa + 1)) ht114 (rd_of PX_0) fX5_18 dX5_init_119 rfl ?_
          refine r_iload (pc := 122) dX5_init_122 rfl ?_
          refine t_ialdX (pc := 124) (t0 := 0) ht114 (rd_of PX_1) dX5_init_124 rfl (by omega) (by omega) (fun b12 => ?_)
          have rb12 := (show Rfx gn 0 15 vu114 by assumption) (Int.toNat v52_6) (by omega)
          have hnv : nuP vu114 (v52_6 + 1) v114_5 := by assumption
          have hnw := hnv (Int.toNat v52_6) (by omega)
          refine r_dup2_11 (pc := 125) dX5_init_125 rfl rfl ?_
          refine t_ialdX (pc := 126) (t0 := 0) ht114 (rd_of PX_2) dX5_init_126 rfl (by omega) (by omega) (fun b13 => ?_)
          have rb13 := (show Rfx gn 0 65535 vo52 by assumption) (Int.toNat (vu114 (Int.toNat v52_6))) (by omega)
          refine r_iconst (pc := 127) (v := iv 1) dX5_init_127 (by decide) ?_
          refine r_iload (pc := 128) dX5_init_128 rfl ?_
          refine r_ishl (pc := 130) (v := iv ((2 ^ Int.toNat v52_6 : Nat) : Int)) dX5_init_130 (shl_e (by omega)) ?_
          have mp130_14 : 1 ≤ 2 ^ Int.toNat v52_6 := Nat.one_le_two_pow
          have mq130_15 : 2 ^ Int.toNat v52_6 ≤ 2 ^ 15 := Nat.pow_le_pow_right (by omega) (by omega)
          have ms130 := Me_shl (Int.toNat v52_6)
          obtain ⟨z16, hz16, bz16⟩ := or_2 16 (vo52 (Int.toNat (vu114 (Int.toNat v52_6)))) ((2 ^ Int.toNat v52_6 : Nat) : Int) (by omega) (by omega) (by decide)
          refine r_ior (pc := 131) (v := iv z16) dX5_init_131 hz16 ?_
          have mez16 := Me_or hz16 (by omega) (by omega) (by omega)
          have hmo := mez16
          refine t_iastX (pc := 132) (t0 := 0) ht114 PX_2 dX5_init_132 rfl (by omega) (by omega) (by omega) (fun hp17 ht18 => ?_)
          have ht19 := PXw_vo ht18
          have hqht19 : Rfx gn 0 65535 (fup vo52 (Int.toNat (vu114 (Int.toNat v52_6))) z16) := Rfx_up (by assumption) (by omega)
          have hms := mbS_up (by assumption : mbS vu114 gn v52_6 vo52) (by omega) (by omega) hmo ms130
          refine r_iinc (pc := 133) (v := iv (v52_6 + 1)) (lv' := [(6, .int (iv (v52_6 + 1))), (0, .ref pa), (1, .ref ga), (2, .int (iv x2)), (3, .null), (4, .ref (pa + 3)), (5, .int (iv v114_5))]) dX5_init_133 rfl (iv_add _ _) (by decide) rfl ?_
          refine r_goto (pc := 136) (tgt := 52) dX5_init_136 (by decide) ?_
          refine Rn.pick (lv' := [(0, .ref pa), (1, .ref ga), (2, .int (iv x2)), (3, .null), (4, .ref (pa + 3)), (5, .int (iv v114_5)), (6, .int (iv (v52_6 + 1)))]) [1, 2, 3, 4, 5, 6, 0] rfl ?_
          exact ih52 (Int.toNat (16 - (v52_6 + 1))) (by omega) vu114 (fup vo52 (Int.toNat (vu114 (Int.toNat v52_6))) z16) _ ht19 v114_5 (v52_6 + 1) ⟨by omega, by omega, by omega, by omega, by assumption, by assumption, by (first | assumption | exact nu_0 _ _), by (first | assumption | exact nuq_0), by (first | assumption | rfl), by (first | exact hms | exact mbS_0 (fun k hk => rfl)), by omega, by omega, by omega⟩ (by omega)
        refine t_icmp_ge (pc := 77) (tgt := 102) dX5_init_77 (by decide) (by omega) (by omega) (fun c77 => ?_) (fun c77 => ?_)
        · refine r_aload_n (pc := 102) dX5_init_102 (i := 0) rfl rfl ?_
          refine t_getE (pc := 103) (.ref (pa + 1)) ht11 (rd_of PX_0) fX5_18 dX5_init_103 rfl ?_
          refine r_iload (pc := 106) dX5_init_106 rfl ?_
          refine r_iload (pc := 108) dX5_init_108 rfl ?_
          refine t_iastX (pc := 110) (t0 := 0) ht11 PX_1 dX5_init_110 rfl (by omega) (by omega) (by omega) (fun hp20 ht21 => ?_)
          have ht22 := PXw_vu ht21
          have hqht22 : Rfx gn 0 15 (fup vu52 (Int.toNat v52_6) v52_5) := Rfx_up (by assumption) (by omega)
          refine r_iinc (pc := 111) (v := iv (v52_5 + 1)) (lv' := [(5, .int (iv (v52_5 + 1))), (7, .int (iv y9)), (0, .ref pa), (1, .ref ga), (2, .int (iv x2)), (3, .null), (4, .ref (pa + 3)), (6, .int (iv v52_6))]) dX5_init_111 rfl (iv_add _ _) (by decide) rfl ?_
          refine Rn.pick (lv' := [(0, .ref pa), (1, .ref ga), (2, .int (iv x2)), (3, .null), (4, .ref (pa + 3)), (5, .int (iv (v52_5 + 1))), (6, .int (iv v52_6))]) [2, 3, 4, 5, 6, 0, 7] rfl ?_
          exact B114 (fup vu52 (Int.toNat v52_6) v52_5) _ ht22 (v52_5 + 1) ⟨by omega, by omega, by omega, by assumption, by (first | exact nu_a (by assumption) (by omega) | exact nu_b (by assumption) (by omega) (by omega)), by (first | exact nu2_a (by assumption) (by omega) hfp (by omega) | exact nu2_b (by assumption) (by omega) hfp (by omega) (by assumption)), by (first | exact cn_a (by omega) hfp (by omega) (by assumption) | exact cn_b (by omega) hfp (by omega) (by assumption)), by exact mbS_fup (by assumption) (by omega), by omega, by omega⟩
        · refine r_iload (pc := 80) dX5_init_80 rfl ?_
          refine t_if_lt (pc := 82) (tgt := 102) dX5_init_82 (by decide) (by omega) (fun c82 => ?_) (fun c82 => ?_)
          · exfalso
            omega
          · refine r_aload_n (pc := 85) dX5_init_85 (i := 0) rfl rfl ?_
            refine t_getE (pc := 86) (.ref (pa + 1)) ht11 (rd_of PX_0) fX5_18 dX5_init_86 rfl ?_
            refine r_iload (pc := 89) dX5_init_89 rfl ?_
            refine r_aload_n (pc := 91) dX5_init_91 (i := 0) rfl rfl ?_
            refine t_getE (pc := 92) (.ref (pa + 1)) ht11 (rd_of PX_0) fX5_18 dX5_init_92 rfl ?_
            refine r_iload (pc := 95) dX5_init_95 rfl ?_
            refine t_ialdX (pc := 97) (t0 := 0) ht11 (rd_of PX_1) dX5_init_97 rfl (by omega) (by omega) (fun b23 => ?_)
            have rb23 := (show Rfx gn 0 15 vu52 by assumption) (Int.toNat y9) (by omega)
            refine t_iastX (pc := 98) (t0 := 0) ht11 PX_1 dX5_init_98 rfl (by omega) (by omega) (by omega) (fun hp24 ht25 => ?_)
            have ht26 := PXw_vu ht25
            have hqht26 : Rfx gn 0 15 (fup vu52 (Int.toNat v52_6) (vu52 (Int.toNat y9))) := Rfx_up (by assumption) (by omega)
            refine r_goto (pc := 99) (tgt := 114) dX5_init_99 (by decide) ?_
            refine Rn.pick (lv' := [(0, .ref pa), (1, .ref ga), (2, .int (iv x2)), (3, .null), (4, .ref (pa + 3)), (5, .int (iv v52_5)), (6, .int (iv v52_6))]) [1, 2, 3, 4, 5, 6, 7] rfl ?_
            exact B114 (fup vu52 (Int.toNat v52_6) (vu52 (Int.toNat y9))) _ ht26 v52_5 ⟨by omega, by omega, by omega, by assumption, by (first | exact nu_a (by assumption) (by omega) | exact nu_b (by assumption) (by omega) (by omega)), by (first | exact nu2_a (by assumption) (by omega) hfp (by omega) | exact nu2_b (by assumption) (by omega) hfp (by omega) (by assumption)), by (first | exact cn_a (by omega) hfp (by omega) (by assumption) | exact cn_b (by omega) hfp (by omega) (by assumption)), by exact mbS_fup (by assumption) (by omega), by omega, by omega⟩
    refine Rn.pick (lv' := [(0, .ref pa), (1, .ref ga), (2, .int (iv x2)), (3, .null), (4, .ref (pa + 3)), (5, .int (iv 0)), (6, .int (iv 0))]) [3, 4, 5, 6, 2, 1, 0] rfl ?_
    exact B52 (Int.toNat (16 - 0)) (fun _ => 0) (fun _ => 0) _ ht5 0 0 ⟨by omega, by omega, by omega, by omega, by assumption, by assumption, by (first | assumption | exact nu_0 _ _), by (first | assumption | exact nuq_0), by (first | assumption | rfl), by (first | exact hms | exact mbS_0 (fun k hk => rfl)), by omega, by omega, by omega⟩ (by omega)
set_option maxHeartbeats 4000000 in
set_option maxRecDepth 100000 in
theorem c_X5_initx_3 {D : va_G} {cI cJ cZ cT : ClassId} {lo b L : Nat} {xs : Nat → Int32} {hp : MH} {d : Nat} {Γ : TG} {ga : Nat} {gF : Nat} {gT : Nat} {gW : Nat} {gC : Nat} {gTl : Nat} {gHd : Nat} {gBy : Nat} {gOu : Nat} {gIn : Nat} {gJo : Nat} {gn : Nat} {gm : Nat} {gq : Nat} {gdr : Int} {F T W C Tl Hd By Ou In Jo : Nat → Int} {pa : Nat} {x2 : Int} {nuc : Nat → Int64} (hd0 : 3 ≤ d) (hg : TyG Γ cI cJ cZ ga gF gT gW gC gTl gHd gBy gOu gIn gJo gn gm gq gdr) (hxg : XG Γ cI gF gT gW gC gTl gHd gBy gOu gIn gJo gn gm gq F T W C Tl Hd By Ou In Jo) (h0 : hp pa = some (.inr (5, [.int 0, .int 0, .null, .null]))) (hlo : ∀ (q : Nat) (T : va_E → Prop), Γ q = some T → q < pa) (ht : Tw Γ hp) (hx2 : 3 ≤ x2 ∧ x2 ≤ 3) (hou9 : rwP Ou gn (stP gm gdr F T)) (hin9 : rwP In gn (fun i j => stP gm gdr F T j i)) (hjo : rwP Jo gn (joX gm F T (fun _ => True))) : Mt (gG D cI cJ cZ cT lo b L xs) mX5_init d 3 (gn + gn + gn) [.ref pa, .ref ga, .int (iv x2), .null] hp (pa + 1) (pPx Γ cI cJ cZ pa gn (pa + 1) (ptE gm gdr F T nuc x2)) := by
  refine Mt.of rfl (Nat.le_of_ble_eq_true rfl) ?_
  refine Rn.pick (lv' := [(0, .ref pa), (1, .ref ga), (2, .int (iv x2)), (3, .null)]) [0, 1, 2, 3] rfl ?_
  obtain ⟨hg_O, hg_from, hg_to, hg_weight, hg_cost, hg_tail, hg_head, hg_by, hg_out, hg_in, hg_joined, hg_b⟩ := id hg
  obtain ⟨⟨hxg_F, hxg_T, hxg_W, hxg_C, hxg_Tl, hxg_Hd, hxg_By, hxg_Ou, hxg_In, hxg_Jo⟩, ⟨hrg_F, hrg_T, hrg_W, hrg_C, hrg_Tl, hrg_Hd, hrg_By, hrg_Ou, hrg_In, hrg_Jo⟩, houg⟩ := id hxg
  have hltg : ga < pa ∧ gF < pa ∧ gT < pa ∧ gW < pa ∧ gC < pa ∧ gTl < pa ∧ gHd < pa ∧ gBy < pa ∧ gOu < pa ∧ gIn < pa ∧ gJo < pa := ⟨rd_lo hlo hg_O, rd_lo hlo hg_from, rd_lo hlo hg_to, rd_lo hlo hg_weight, rd_lo hlo hg_cost, rd_lo hlo hg_tail, rd_lo hlo hg_head, rd_lo hlo hg_by, rd_lo hlo hg_out, rd_lo hlo hg_in, rd_lo hlo hg_joined⟩
  have hu0 : Rfx gn 0 15 (fun _ => 0) := fun _ _ => ⟨(by show (0 : Int) ≤ 0; decide), (by show (0 : Int) ≤ 15; decide)⟩
  have ho0 : Rfx gn 0 65535 (fun _ => 0) := fun _ _ => ⟨(by show (0 : Int) ≤ 0; decide), (by show (0 : Int) ≤ 65535; decide)⟩
  refine p_X5x (by omega) ht hg_O rfl h0 rfl (by omega) hlo (by omega) (by omega) (fun hp1 ht1 => ?_)
  refine r_iload_n (pc := 28) dX5_init_28 (i := 2) rfl rfl ?_
  refine r_iconst (pc := 29) (v := iv 2) dX5_init_29 (by decide) ?_
  refine t_icmp_ne (pc := 30) (tgt := 40) dX5_init_30 (by decide) (by omega) (by omega) (fun c30 => ?_) (fun c30 => ?_)
  · refine r_aload_n (pc := 40) dX5_init_40 (i := 1) rfl rfl ?_
    refine t_getE (pc := 41) (.ref gJo) ht1 (rd_PX (by omega) hg_O) fX5_31 dX5_init_41 rfl ?_
    refine r_astore (pc := 44) (lv' := [(4, .ref gJo), (0, .ref pa), (1, .ref ga), (2, .int (iv x2)), (3, .null)]) dX5_init_44 (by decide) rfl ?_
    refine r_iconst (pc := 46) (v := iv 0) dX5_init_46 (by decide) ?_
    refine r_istore (pc := 47) (lv' := [(5, .int (iv 0)), (4, .ref gJo), (0, .ref pa), (1, .ref ga), (2, .int (iv x2)), (3, .null)]) dX5_init_47 (by decide) rfl ?_
    refine r_iconst (pc := 49) (v := iv 0) dX5_init_49 (by decide) ?_
    refine r_istore (pc := 50) (lv' := [(6, .int (iv 0)), (5, .int (iv 0)), (4, .ref gJo), (0, .ref pa), (1, .ref ga), (2, .int (iv x2)), (3, .null)]) dX5_init_50 (by decide) rfl ?_
    have B52 : ∀ k : Nat, ∀ vu52 : Nat → Int, ∀ vo52 : Nat → Int, ∀ hp52 : MH, Tw (PX Γ cI cJ cZ cT pa gn 0 vu52 vo52) hp52 → ∀  (v52_5 : Int) (v52_6 : Int), 0 ≤ v52_5 ∧ v52_5 ≤ 16 ∧ 0 ≤ v52_6 ∧ v52_6 ≤ 16 ∧ (Rfx gn 0 15 vu52) ∧ (Rfx gn 0 65535 vo52) ∧ (nuP vu52 v52_6 v52_5) ∧ (nuP2 (ptE gm gdr F T nuc x2) vu52 (Int.toNat v52_6)) ∧ (v52_5 = (cnP (fsP (ptE gm gdr F T nuc x2)) (Int.toNat v52_6) : Int)) ∧ (mbS vu52 gn v52_6 vo52) ∧ (v52_5 ≤ v52_6) ∧ (1 ≤ v52_6 → 1 ≤ v52_5) ∧ (v52_6 ≤ (gn : Int)) → 16 - v52_6 ≤ (k : Int) → Rn (gG D cI cJ cZ cT lo b L xs) mX5_init d 52 [(0, .ref pa), (1, .ref ga), (2, .int (iv x2)), (3, .null), (4, .ref gJo), (5, .int (iv v52_5)), (6, .int (iv v52_6))] [] hp52 (pa + 1 + 2) (3 - 1 - 1) ((gn + gn + gn) - gn - gn) (pPx Γ cI cJ cZ pa gn (pa + 1) (ptE gm gdr F T nuc x2)) := by
      refine lpS _ ?_
      intro k52 ih52 vu52 vo52 hp52 ht52 v52_5 v52_6 hf52 hm52
      obtain ⟨hf52_0, hf52_1, hf52_2, hf52_3, ha52_4, ha52_5, ha52_6, ha52_7, ha52_8, ha52_9, hf52_10, hf52_11, hf52_12⟩ := hf52
      refine r_iload (pc := 52) dX5_init_52 rfl ?_
      refine r_aload_n (pc := 54) dX5_init_54 (i := 0) rfl rfl ?_
      refine t_getE (pc := 55) (.int (iv (gn : Int))) ht52 (rd_of PX_0) fX5_15 dX5_init_55 rfl ?_
      refine t_icmp_ge (pc := 58) (tgt := 139) dX5_init_58 (by decide) (by omega) (by omega) (fun c58 => ?_) (fun c58 => ?_)
      · refine r_aload_n (pc := 139) dX5_init_139 (i := 0) rfl rfl ?_
        refine r_iload (pc := 140) dX5_init_140 rfl ?_
        refine t_putX (pc := 142) (ty := .int) ht52 PX_0 fX5_38 tyX5 tyX5_ok nmX5 (by decide +kernel) (Or.inr ⟨rfl, rfl, rfl⟩) dX5_init_142 (Nat.le_of_ble_eq_true rfl) rfl rfl rfl (fun hp1 ht2 => ?_)
        have ht3 := PXw_vz ht2
        exact r_vret (pc := 145) dX5_init_145 rfl ⟨by omega, rfl, _, _, vu52, vo52, PX_ext hlo (Ext_refl Γ), ht3, PX_ty (by omega) (by omega) (by have e9 : v52_6 = (gn : Int) := (by omega); rw [← e9]; assumption) (by assumption), rd_of PX_1, rd_of PX_2, by have h8 : nuP2 (ptE gm gdr F T nuc x2) vu52 (Int.toNat v52_6) := (by assumption); rw [show v52_6 = (gn : Int) by omega, Int.toNat_natCast] at h8; exact h8, by have h8 : v52_5 = (cnP (fsP (ptE gm gdr F T nuc x2)) (Int.toNat v52_6) : Int) := (by assumption); rw [show v52_6 = (gn : Int) by omega, Int.toNat_natCast] at h8; omega, by have h8 : mbS vu52 gn v52_6 vo52 := (by assumption); rw [show v52_6 = (gn : Int) by omega] at h8; exact h8⟩
      · refine r_aload_n (pc := 61) dX5_init_61 (i := 1) rfl rfl ?_
        refine r_iload_n (pc := 62) dX5_init_62 (i := 2) rfl rfl ?_
        refine r_aload (pc := 63) dX5_init_63 rfl ?_
        refine r_aload_nN (pc := 65) dX5_init_65 (i := 3) rfl rfl ?_
        refine r_iload (pc := 66) dX5_init_66 rfl ?_
        refine t_callSI (pc := 68) (as := [.ref ga, .int (iv x2), .ref gJo, .null, .int (iv v52_6)]) (st := []) kX5_34 dX5_init_68 (c_X5_firstnx (d := d - 1) (nuc := nuc) (x1 := x2) (x4 := v52_6) (by omega) (TyG.px hltg hg) (XG.px (by omega) hxg) ht52 (by omega) (by omega) hou9 hin9 (rd_PX (by omega) hxg_Jo) hrg_Jo hjo (fun h9 => Or.inl ⟨by omega, rfl⟩)) rfl (by omega) (Nat.le_of_ble_eq_true rfl) rfl (fun hp5 y4 ht6 by4 => ?_)
        obtain ⟨by41, hfp⟩ := by4
        refine r_istore (pc := 71) (lv' := [(7, .int (iv y4)), (0, .ref pa), (1, .ref ga), (2, .int (iv x2)), (3, .null), (4, .ref gJo), (5, .int (iv v52_5)), (6, .int (iv v52_6))]) dX5_init_71 (by decide) rfl ?_
        refine r_iload (pc := 73) dX5_init_73 rfl ?_
        refine r_iload (pc := 75) dX5_init_75 rfl ?_
        have B114 : ∀ vu114 : Nat → Int, ∀ hp114 : MH, Tw (PX Γ cI cJ cZ cT pa gn 0 vu114 vo52) hp114 → ∀  (v114_5 : Int), 0 ≤ v114_5 ∧ v114_5 ≤ 17 ∧ v52_5 ≤ v114_5 ∧ (Rfx gn 0 15 vu114) ∧ (nuP vu114 (v52_6 + 1) v114_5) ∧ (nuP2 (ptE gm gdr F T nuc x2) vu114 (Int.toNat (v52_6 + 1))) ∧ (v114_5 = (cnP (fsP (ptE gm gdr F T nuc x2)) (Int.toNat (v52_6 + 1)) : Int)) ∧ (mbS vu114 gn v52_6 vo52) ∧ (v114_5 ≤ v52_6 + 1) ∧ (1 ≤ v114_5) → Rn (gG D cI cJ cZ cT lo b L xs) mX5_init d 114 [(0, .ref pa), (1, .ref ga), (2, .int (iv x2)), (3, .null), (4, .ref gJo), (5, .int (iv v114_5)), (6, .int (iv v52_6))] [] hp114 (pa + 1 + 2) (3 - 1 - 1) ((gn + gn + gn) - gn - gn) (pPx Γ cI cJ cZ pa gn (pa + 1) (ptE gm gdr F T nuc x2)) := by
          intro vu114 hp114 ht114 v114_5 hf114
          obtain ⟨hf114_0, hf114_1, hf114_2, ha114_3, ha114_4, ha114_5, ha114_6, ha114_7, hf114_8, hf114_9⟩ := hf114
          refine r_aload_n (pc := 114) dX5_init_114 (i := 0) rfl rfl ?_
          refine t_getE (pc := 115) (.ref (pa + 2)) ht114 (rd_of PX_0) fX5_22 dX5_init_115 rfl ?_
          refine r_aload_n (pc := 118) dX5_init_118 (i := 0) rfl rfl ?_
          refine t_getE (pc := 119) (.ref (pa + 1)) ht114 (rd_of PX_0) fX5_18 dX5_init_119 rfl ?_
          refine r_iload (pc := 122) dX5_init_122 rfl ?_
          refine t_ialdX (pc := 124) (t0 := 0) ht114 (rd_of PX_1) dX5_init_124 rfl (by omega) (by omega) (fun b7 => ?_)
          have rb7 := (show Rfx gn 0 15 vu114 by assumption) (Int.toNat v52_6) (by omega)
          have hnv : nuP vu114 (v52_6 + 1) v114_5 := by assumption
          have hnw := hnv (Int.toNat v52_6) (by omega)
          refine r_dup2_11 (pc := 125) dX5_init_125 rfl rfl ?_
          refine t_ialdX (pc := 126) (t0 := 0) ht114 (rd_of PX_2) dX5_init_126 rfl (by omega) (by omega) (fun b8 => ?_)
          have rb8 := (show Rfx gn 0 65535 vo52 by assumption) (Int.toNat (vu114 (Int.toNat v52_6))) (by omega)
          refine r_iconst (pc := 127) (v := iv 1) dX5_init_127 (by decide) ?_
          refine r_iload (pc := 128) dX5_init_128 rfl ?_
          refine r_ishl (pc := 130) (v := iv ((2 ^ Int.toNat v52_6 : Nat) : Int)) dX5_init_130 (shl_e (by omega)) ?_
          have mp130_9 : 1 ≤ 2 ^ Int.toNat v52_6 := Nat.one_le_two_pow
          have mq130_10 : 2 ^ Int.toNat v52_6 ≤ 2 ^ 15 := Nat.pow_le_pow_right (by omega) (by omega)
          have ms130 := Me_shl (Int.toNat v52_6)
          obtain ⟨z11, hz11, bz11⟩ := or_2 16 (vo52 (Int.toNat (vu114 (Int.toNat v52_6)))) ((2 ^ Int.toNat v52_6 : Nat) : Int) (by omega) (by omega) (by decide)
          refine r_ior (pc := 131) (v := iv z11) dX5_init_131 hz11 ?_
          have mez11 := Me_or hz11 (by omega) (by omega) (by omega)
          have hmo := mez11
          refine t_iastX (pc := 132) (t0 := 0) ht114 PX_2 dX5_init_132 rfl (by omega) (by omega) (by omega) (fun hp12 ht13 => ?_)
          have ht14 := PXw_vo ht13
          have hqht14 : Rfx gn 0 65535 (fup vo52 (Int.toNat (vu114 (Int.toNat v52_6))) z11) := Rfx_up (by assumption) (by omega)
          have hms := mbS_up (by assumption : mbS vu114 gn v52_6 vo52) (by omega) (by omega) hmo ms130
          refine r_iinc (pc := 133) (v := iv (v52_6 + 1)) (lv' := [(6, .int (iv (v52_6 + 1))), (0, .ref pa), (1, .ref ga), (2, .int (iv x2)), (3, .null), (4, .ref gJo), (5, .int (iv v114_5))]) dX5_init_133 rfl (iv_add _ _) (by decide) rfl ?_
          refine r_goto (pc := 136) (tgt := 52) dX5_init_136 (by decide) ?_
          refine Rn.pick (lv' := [(0, .ref pa), (1, .ref ga), (2, .int (iv x2)), (3, .null), (4, .ref gJo), (5, .int (iv v114_5)), (6, .int (iv (v52_6 + 1)))]) [1, 2, 3, 4, 5, 6, 0] rfl ?_
          exact ih52 (Int.toNat (16 - (v52_6 + 1))) (by omega) vu114 (fup vo52 (Int.toNat (vu114 (Int.toNat v52_6))) z11) _ ht14 v114_5 (v52_6 + 1) ⟨by omega, by omega, by omega, by omega, by assumption, by assumption, by (first | assumption | exact nu_0 _ _), by (first | assumption | exact nuq_0), by (first | assumption | rfl), by (first | exact hms | exact mbS_0 (fun k hk => rfl)), by omega, by omega, by omega⟩ (by omega)
        refine t_icmp_ge (pc := 77) (tgt := 102) dX5_init_77 (by decide) (by omega) (by omega) (fun c77 => ?_) (fun c77 => ?_)
        · refine r_aload_n (pc := 102) dX5_init_102 (i := 0) rfl rfl ?_
          refine t_getE (pc := 103) (.ref (pa + 1)) ht6 (rd_of PX_0) fX5_18 dX5_init_103 rfl ?_
          refine r_iload (pc := 106) dX5_init_106 rfl ?_
          refine r_iload (pc := 108) dX5_init_108 rfl ?_
          refine t_iastX (pc := 110) (t0 := 0) ht6 PX_1 dX5_init_110 rfl (by omega) (by omega) (by omega) (fun hp15 ht16 => ?_)
          have ht17 := PXw_vu ht16
          have hqht17 : Rfx gn 0 15 (fup vu52 (Int.toNat v52_6) v52_5) := Rfx_up (by assumption) (by omega)
          refine r_iinc (pc := 111) (v := iv (v52_5 + 1)) (lv' := [(5, .int (iv (v52_5 + 1))), (7, .int (iv y4)), (0, .ref pa), (1, .ref ga), (2, .int (iv x2)), (3, .null), (4, .ref gJo), (6, .int (iv v52_6))]) dX5_init_111 rfl (iv_add _ _) (by decide) rfl ?_
          refine Rn.pick (lv' := [(0, .ref pa), (1, .ref ga), (2, .int (iv x2)), (3, .null), (4, .ref gJo), (5, .int (iv (v52_5 + 1))), (6, .int (iv v52_6))]) [2, 3, 4, 5, 6, 0, 7] rfl ?_
          exact B114 (fup vu52 (Int.toNat v52_6) v52_5) _ ht17 (v52_5 + 1) ⟨by omega, by omega, by omega, by assumption, by (first | exact nu_a (by assumption) (by omega) | exact nu_b (by assumption) (by omega) (by omega)), by (first | exact nu2_a (by assumption) (by omega) hfp (by omega) | exact nu2_b (by assumption) (by omega) hfp (by omega) (by assumption)), by (first | exact cn_a (by omega) hfp (by omega) (by assumption) | exact cn_b (by omega) hfp (by omega) (by assumption)), by exact mbS_fup (by assumption) (by omega), by omega, by omega⟩
        · refine r_iload (pc := 80) dX5_init_80 rfl ?_
          refine t_if_lt (pc := 82) (tgt := 102) dX5_init_82 (by decide) (by omega) (fun c82 => ?_) (fun c82 => ?_)
          · exfalso
            omega
          · refine r_aload_n (pc := 85) dX5_init_85 (i := 0) rfl rfl ?_
            refine t_getE (pc := 86) (.ref (pa + 1)) ht6 (rd_of PX_0) fX5_18 dX5_init_86 rfl ?_
            refine r_iload (pc := 89) dX5_init_89 rfl ?_
            refine r_aload_n (pc := 91) dX5_init_91 (i := 0) rfl rfl ?_
            refine t_getE (pc := 92) (.ref (pa + 1)) ht6 (rd_of PX_0) fX5_18 dX5_init_92 rfl ?_
            refine r_iload (pc := 95) dX5_init_95 rfl ?_
            refine t_ialdX (pc := 97) (t0 := 0) ht6 (rd_of PX_1) dX5_init_97 rfl (by omega) (by omega) (fun b18 => ?_)
            have rb18 := (show Rfx gn 0 15 vu52 by assumption) (Int.toNat y4) (by omega)
            refine t_iastX (pc := 98) (t0 := 0) ht6 PX_1 dX5_init_98 rfl (by omega) (by omega) (by omega) (fun hp19 ht20 => ?_)
            have ht21 := PXw_vu ht20
            have hqht21 : Rfx gn 0 15 (fup vu52 (Int.toNat v52_6) (vu52 (Int.toNat y4))) := Rfx_up (by assumption) (by omega)
            refine r_goto (pc := 99) (tgt := 114) dX5_init_99 (by decide) ?_
            refine Rn.pick (lv' := [(0, .ref pa), (1, .ref ga), (2, .int (iv x2)), (3, .null), (4, .ref gJo), (5, .int (iv v52_5)), (6, .int (iv v52_6))]) [1, 2, 3, 4, 5, 6, 7] rfl ?_
            exact B114 (fup vu52 (Int.toNat v52_6) (vu52 (Int.toNat y4))) _ ht21 v52_5 ⟨by omega, by omega, by omega, by assumption, by (first | exact nu_a (by assumption) (by omega) | exact nu_b (by assumption) (by omega) (by omega)), by (first | exact nu2_a (by assumption) (by omega) hfp (by omega) | exact nu2_b (by assumption) (by omega) hfp (by omega) (by assumption)), by (first | exact cn_a (by omega) hfp (by omega) (by assumption) | exact cn_b (by omega) hfp (by omega) (by assumption)), by exact mbS_fup (by assumption) (by omega), by omega, by omega⟩
    refine Rn.pick (lv' := [(0, .ref pa), (1, .ref ga), (2, .int (iv x2)), (3, .null), (4, .ref gJo), (5, .int (iv 0)), (6, .int (iv 0))]) [3, 4, 5, 6, 2, 1, 0] rfl ?_
    exact B52 (Int.toNat (16 - 0)) (fun _ => 0) (fun _ => 0) _ ht1 0 0 ⟨by omega, by omega, by omega, by omega, by assumption, by assumption, by (first | assumption | exact nu_0 _ _), by (first | assumption | exact nuq_0), by (first | assumption | rfl), by (first | exact hms | exact mbS_0 (fun k hk => rfl)), by omega, by omega, by omega⟩ (by omega)
  · exfalso
    omega
set_option maxHeartbeats 4000000 in
set_option maxRecDepth 100000 in
theorem c_X5_initx_4 {D : va_G} {cI cJ cZ cT : ClassId} {lo b L : Nat} {xs : Nat → Int32} {hp : MH} {d : Nat} {Γ : TG} {ga : Nat} {gF : Nat} {gT : Nat} {gW : Nat} {gC : Nat} {gTl : Nat} {gHd : Nat} {gBy : Nat} {gOu : Nat} {gIn : Nat} {gJo : Nat} {gn : Nat} {gm : Nat} {gq : Nat} {gdr : Int} {F T W C Tl Hd By Ou In Jo : Nat → Int} {aa aM : Nat} {pa : Nat} {x2 : Int} {nuc : Nat → Int64} (hd0 : 2 ≤ d) (hg : TyG Γ cI cJ cZ ga gF gT gW gC gTl gHd gBy gOu gIn gJo gn gm gq gdr) (hxg : XG Γ cI gF gT gW gC gTl gHd gBy gOu gIn gJo gn gm gq F T W C Tl Hd By Ou In Jo) (h0 : hp pa = some (.inr (5, [.int 0, .int 0, .null, .null]))) (hlo : ∀ (q : Nat) (T : va_E → Prop), Γ q = some T → q < pa) (ht : Tw Γ hp) (hx2 : 4 ≤ x2 ∧ x2 ≤ 4) (hou9 : rwP Ou gn (stP gm gdr F T)) (hin9 : rwP In gn (fun i j => stP gm gdr F T j i)) (hjo : rwP Jo gn (joX gm F T (fun _ => True))) (haO : rd Γ aa (tO 0 [fE (.int (iv (gn : Int))), fE (.ref aM)])) (haM : rd Γ aM (xJ cJ gn nuc)) : Mt (gG D cI cJ cZ cT lo b L xs) mX5_init d 3 (gn + gn + gn) [.ref pa, .ref ga, .int (iv x2), .ref aa] hp (pa + 1) (pPx Γ cI cJ cZ pa gn (pa + 1) (ptE gm gdr F T nuc x2)) := by
  refine Mt.of rfl (Nat.le_of_ble_eq_true rfl) ?_
  refine Rn.pick (lv' := [(0, .ref pa), (1, .ref ga), (2, .int (iv x2)), (3, .ref aa)]) [0, 1, 2, 3] rfl ?_
  obtain ⟨hg_O, hg_from, hg_to, hg_weight, hg_cost, hg_tail, hg_head, hg_by, hg_out, hg_in, hg_joined, hg_b⟩ := id hg
  obtain ⟨⟨hxg_F, hxg_T, hxg_W, hxg_C, hxg_Tl, hxg_Hd, hxg_By, hxg_Ou, hxg_In, hxg_Jo⟩, ⟨hrg_F, hrg_T, hrg_W, hrg_C, hrg_Tl, hrg_Hd, hrg_By, hrg_Ou, hrg_In, hrg_Jo⟩, houg⟩ := id hxg
  have hltg : ga < pa ∧ gF < pa ∧ gT < pa ∧ gW < pa ∧ gC < pa ∧ gTl < pa ∧ gHd < pa ∧ gBy < pa ∧ gOu < pa ∧ gIn < pa ∧ gJo < pa := ⟨rd_lo hlo hg_O, rd_lo hlo hg_from, rd_lo hlo hg_to, rd_lo hlo hg_weight, rd_lo hlo hg_cost, rd_lo hlo hg_tail, rd_lo hlo hg_head, rd_lo hlo hg_by, rd_lo hlo hg_out, rd_lo hlo hg_in, rd_lo hlo hg_joined⟩
  have hltc : aa < pa ∧ aM < pa := ⟨rd_lo hlo haO, rd_lo hlo haM⟩
  have hu0 : Rfx gn 0 15 (fun _ => 0) := fun _ _ => ⟨(by show (0 : Int) ≤ 0; decide), (by show (0 : Int) ≤ 15; decide)⟩
  have ho0 : Rfx gn 0 65535 (fun _ => 0) := fun _ _ => ⟨(by show (0 : Int) ≤ 0; decide), (by show (0 : Int) ≤ 65535; decide)⟩
  refine p_X5x (by omega) ht hg_O rfl h0 rfl (by omega) hlo (by omega) (by omega) (fun hp1 ht1 => ?_)
  refine r_iload_n (pc := 28) dX5_init_28 (i := 2) rfl rfl ?_
  refine r_iconst (pc := 29) (v := iv 2) dX5_init_29 (by decide) ?_
  refine t_icmp_ne (pc := 30) (tgt := 40) dX5_init_30 (by decide) (by omega) (by omega) (fun c30 => ?_) (fun c30 => ?_)
  · refine r_aload_n (pc := 40) dX5_init_40 (i := 1) rfl rfl ?_
    refine t_getE (pc := 41) (.ref gJo) ht1 (rd_PX (by omega) hg_O) fX5_31 dX5_init_41 rfl ?_
    refine r_astore (pc := 44) (lv' := [(4, .ref gJo), (0, .ref pa), (1, .ref ga), (2, .int (iv x2)), (3, .ref aa)]) dX5_init_44 (by decide) rfl ?_
    refine r_iconst (pc := 46) (v := iv 0) dX5_init_46 (by decide) ?_
    refine r_istore (pc := 47) (lv' := [(5, .int (iv 0)), (4, .ref gJo), (0, .ref pa), (1, .ref ga), (2, .int (iv x2)), (3, .ref aa)]) dX5_init_47 (by decide) rfl ?_
    refine r_iconst (pc := 49) (v := iv 0) dX5_init_49 (by decide) ?_
    refine r_istore (pc := 50) (lv' := [(6, .int (iv 0)), (5, .int (iv 0)), (4, .ref gJo), (0, .ref pa), (1, .ref ga), (2, .int (iv x2)), (3, .ref aa)]) dX5_init_50 (by decide) rfl ?_
    have B52 : ∀ k : Nat, ∀ vu52 : Nat → Int, ∀ vo52 : Nat → Int, ∀ hp52 : MH, Tw (PX Γ cI cJ cZ cT pa gn 0 vu52 vo52) hp52 → ∀  (v52_5 : Int) (v52_6 : Int), 0 ≤ v52_5 ∧ v52_5 ≤ 16 ∧ 0 ≤ v52_6 ∧ v52_6 ≤ 16 ∧ (Rfx gn 0 15 vu52) ∧ (Rfx gn 0 65535 vo52) ∧ (nuP vu52 v52_6 v52_5) ∧ (nuP2 (ptE gm gdr F T nuc x2) vu52 (Int.toNat v52_6)) ∧ (v52_5 = (cnP (fsP (ptE gm gdr F T nuc x2)) (Int.toNat v52_6) : Int)) ∧ (mbS vu52 gn v52_6 vo52) ∧ (v52_5 ≤ v52_6) ∧ (1 ≤ v52_6 → 1 ≤ v52_5) ∧ (v52_6 ≤ (gn : Int)) → 16 - v52_6 ≤ (k : Int) → Rn (gG D cI cJ cZ cT lo b L xs) mX5_init d 52 [(0, .ref pa), (1, .ref ga), (2, .int (iv x2)), (3, .ref aa), (4, .ref gJo), (5, .int (iv v52_5)), (6, .int (iv v52_6))] [] hp52 (pa + 1 + 2) (3 - 1 - 1) ((gn + gn + gn) - gn - gn) (pPx Γ cI cJ cZ pa gn (pa + 1) (ptE gm gdr F T nuc x2)) := by
      refine lpS _ ?_
      intro k52 ih52 vu52 vo52 hp52 ht52 v52_5 v52_6 hf52 hm52
      obtain ⟨hf52_0, hf52_1, hf52_2, hf52_3, ha52_4, ha52_5, ha52_6, ha52_7, ha52_8, ha52_9, hf52_10, hf52_11, hf52_12⟩ := hf52
      refine r_iload (pc := 52) dX5_init_52 rfl ?_
      refine r_aload_n (pc := 54) dX5_init_54 (i := 0) rfl rfl ?_
      refine t_getE (pc := 55) (.int (iv (gn : Int))) ht52 (rd_of PX_0) fX5_15 dX5_init_55 rfl ?_
      refine t_icmp_ge (pc := 58) (tgt := 139) dX5_init_58 (by decide) (by omega) (by omega) (fun c58 => ?_) (fun c58 => ?_)
      · refine r_aload_n (pc := 139) dX5_init_139 (i := 0) rfl rfl ?_
        refine r_iload (pc := 140) dX5_init_140 rfl ?_
        refine t_putX (pc := 142) (ty := .int) ht52 PX_0 fX5_38 tyX5 tyX5_ok nmX5 (by decide +kernel) (Or.inr ⟨rfl, rfl, rfl⟩) dX5_init_142 (Nat.le_of_ble_eq_true rfl) rfl rfl rfl (fun hp1 ht2 => ?_)
        have ht3 := PXw_vz ht2
        exact r_vret (pc := 145) dX5_init_145 rfl ⟨by omega, rfl, _, _, vu52, vo52, PX_ext hlo (Ext_refl Γ), ht3, PX_ty (by omega) (by omega) (by have e9 : v52_6 = (gn : Int) := (by omega); rw [← e9]; assumption) (by assumption), rd_of PX_1, rd_of PX_2, by have h8 : nuP2 (ptE gm gdr F T nuc x2) vu52 (Int.toNat v52_6) := (by assumption); rw [show v52_6 = (gn : Int) by omega, Int.toNat_natCast] at h8; exact h8, by have h8 : v52_5 = (cnP (fsP (ptE gm gdr F T nuc x2)) (Int.toNat v52_6) : Int) := (by assumption); rw [show v52_6 = (gn : Int) by omega, Int.toNat_natCast] at h8; omega, by have h8 : mbS vu52 gn v52_6 vo52 := (by assumption); rw [show v52_6 = (gn : Int) by omega] at h8; exact h8⟩
      · refine r_aload_n (pc := 61) dX5_init_61 (i := 1) rfl rfl ?_
        refine r_iload_n (pc := 62) dX5_init_62 (i := 2) rfl rfl ?_
        refine r_aload (pc := 63) dX5_init_63 rfl ?_
        refine r_aload_n (pc := 65) dX5_init_65 (i := 3) rfl rfl ?_
        refine r_iload (pc := 66) dX5_init_66 rfl ?_
        refine t_callSI (pc := 68) (as := [.ref ga, .int (iv x2), .ref gJo, .ref aa, .int (iv v52_6)]) (st := []) kX5_34 dX5_init_68 (c_X5_firstcx (d := d - 1) (nuc := nuc) (x1 := x2) (x4 := v52_6) (by omega) (TyG.px hltg hg) (XG.px (by omega) hxg) ht52 (by omega) (by omega) hou9 hin9 (rd_PX (by omega) hxg_Jo) hrg_Jo hjo (fun h9 => Or.inl ⟨by omega, rfl⟩) (rd_PX (by omega) haO) (rd_PX (by omega) haM)) rfl (by omega) (Nat.le_of_ble_eq_true rfl) rfl (fun hp5 y4 ht6 by4 => ?_)
        obtain ⟨by41, hfp⟩ := by4
        refine r_istore (pc := 71) (lv' := [(7, .int (iv y4)), (0, .ref pa), (1, .ref ga), (2, .int (iv x2)), (3, .ref aa), (4, .ref gJo), (5, .int (iv v52_5)), (6, .int (iv v52_6))]) dX5_init_71 (by decide) rfl ?_
        refine r_iload (pc := 73) dX5_init_73 rfl ?_
        refine r_iload (pc := 75) dX5_init_75 rfl ?_
        have B114 : ∀ vu114 : Nat → Int, ∀ hp114 : MH, Tw (PX Γ cI cJ cZ cT pa gn 0 vu114 vo52) hp114 → ∀  (v114_5 : Int), 0 ≤ v114_5 ∧ v114_5 ≤ 17 ∧ v52_5 ≤ v114_5 ∧ (Rfx gn 0 15 vu114) ∧ (nuP vu114 (v52_6 + 1) v114_5) ∧ (nuP2 (ptE gm gdr F T nuc x2) vu114 (Int.toNat (v52_6 + 1))) ∧ (v114_5 = (cnP (fsP (ptE gm gdr F T nuc x2)) (Int.toNat (v52_6 + 1)) : Int)) ∧ (mbS vu114 gn v52_6 vo52) ∧ (v114_5 ≤ v52_6 + 1) ∧ (1 ≤ v114_5) → Rn (gG D cI cJ cZ cT lo b L xs) mX5_init d 114 [(0, .ref pa), (1, .ref ga), (2, .int (iv x2)), (3, .ref aa), (4, .ref gJo), (5, .int (iv v114_5)), (6, .int (iv v52_6))] [] hp114 (pa + 1 + 2) (3 - 1 - 1) ((gn + gn + gn) - gn - gn) (pPx Γ cI cJ cZ pa gn (pa + 1) (ptE gm gdr F T nuc x2)) := by
          intro vu114 hp114 ht114 v114_5 hf114
          obtain ⟨hf114_0, hf114_1, hf114_2, ha114_3, ha114_4, ha114_5, ha114_6, ha114_7, hf114_8, hf114_9⟩ := hf114
          refine r_aload_n (pc := 114) dX5_init_114 (i := 0) rfl rfl ?_
          refine t_getE (pc := 115) (.ref (pa + 2)) ht114 (rd_of PX_0) fX5_22 dX5_init_115 rfl ?_
          refine r_aload_n (pc := 118) dX5_init_118 (i := 0) rfl rfl ?_
          refine t_getE (pc := 119) (.ref (pa + 1)) ht114 (rd_of PX_0) fX5_18 dX5_init_119 rfl ?_
          refine r_iload (pc := 122) dX5_init_122 rfl ?_
          refine t_ialdX (pc := 124) (t0 := 0) ht114 (rd_of PX_1) dX5_init_124 rfl (by omega) (by omega) (fun b7 => ?_)
          have rb7 := (show Rfx gn 0 15 vu114 by assumption) (Int.toNat v52_6) (by omega)
          have hnv : nuP vu114 (v52_6 + 1) v114_5 := by assumption
          have hnw := hnv (Int.toNat v52_6) (by omega)
          refine r_dup2_11 (pc := 125) dX5_init_125 rfl rfl ?_
          refine t_ialdX (pc := 126) (t0 := 0) ht114 (rd_of PX_2) dX5_init_126 rfl (by omega) (by omega) (fun b8 => ?_)
          have rb8 := (show Rfx gn 0 65535 vo52 by assumption) (Int.toNat (vu114 (Int.toNat v52_6))) (by omega)
          refine r_iconst (pc := 127) (v := iv 1) dX5_init_127 (by decide) ?_
          refine r_iload (pc := 128) dX5_init_128 rfl ?_
          refine r_ishl (pc := 130) (v := iv ((2 ^ Int.toNat v52_6 : Nat) : Int)) dX5_init_130 (shl_e (by omega)) ?_
          have mp130_9 : 1 ≤ 2 ^ Int.toNat v52_6 := Nat.one_le_two_pow
          have mq130_10 : 2 ^ Int.toNat v52_6 ≤ 2 ^ 15 := Nat.pow_le_pow_right (by omega) (by omega)
          have ms130 := Me_shl (Int.toNat v52_6)
          obtain ⟨z11, hz11, bz11⟩ := or_2 16 (vo52 (Int.toNat (vu114 (Int.toNat v52_6)))) ((2 ^ Int.toNat v52_6 : Nat) : Int) (by omega) (by omega) (by decide)
          refine r_ior (pc := 131) (v := iv z11) dX5_init_131 hz11 ?_
          have mez11 := Me_or hz11 (by omega) (by omega) (by omega)
          have hmo := mez11
          refine t_iastX (pc := 132) (t0 := 0) ht114 PX_2 dX5_init_132 rfl (by omega) (by omega) (by omega) (fun hp12 ht13 => ?_)
          have ht14 := PXw_vo ht13
          have hqht14 : Rfx gn 0 65535 (fup vo52 (Int.toNat (vu114 (Int.toNat v52_6))) z11) := Rfx_up (by assumption) (by omega)
          have hms := mbS_up (by assumption : mbS vu114 gn v52_6 vo52) (by omega) (by omega) hmo ms130
          refine r_iinc (pc := 133) (v := iv (v52_6 + 1)) (lv' := [(6, .int (iv (v52_6 + 1))), (0, .ref pa), (1, .ref ga), (2, .int (iv x2)), (3, .ref aa), (4, .ref gJo), (5, .int (iv v114_5))]) dX5_init_133 rfl (iv_add _ _) (by decide) rfl ?_
          refine r_goto (pc := 136) (tgt := 52) dX5_init_136 (by decide) ?_
          refine Rn.pick (lv' := [(0, .ref pa), (1, .ref ga), (2, .int (iv x2)), (3, .ref aa), (4, .ref gJo), (5, .int (iv v114_5)), (6, .int (iv (v52_6 + 1)))]) [1, 2, 3, 4, 5, 6, 0] rfl ?_
          exact ih52 (Int.toNat (16 - (v52_6 + 1))) (by omega) vu114 (fup vo52 (Int.toNat (vu114 (Int.toNat v52_6))) z11) _ ht14 v114_5 (v52_6 + 1) ⟨by omega, by omega, by omega, by omega, by assumption, by assumption, by (first | assumption | exact nu_0 _ _), by (first | assumption | exact nuq_0), by (first | assumption | rfl), by (first | exact hms | exact mbS_0 (fun k hk => rfl)), by omega, by omega, by omega⟩ (by omega)
        refine t_icmp_ge (pc := 77) (tgt := 102) dX5_init_77 (by decide) (by omega) (by omega) (fun c77 => ?_) (fun c77 => ?_)
        · refine r_aload_n (pc := 102) dX5_init_102 (i := 0) rfl rfl ?_
          refine t_getE (pc := 103) (.ref (pa + 1)) ht6 (rd_of PX_0) fX5_18 dX5_init_103 rfl ?_
          refine r_iload (pc := 106) dX5_init_106 rfl ?_
          refine r_iload (pc := 108) dX5_init_108 rfl ?_
          refine t_iastX (pc := 110) (t0 := 0) ht6 PX_1 dX5_init_110 rfl (by omega) (by omega) (by omega) (fun hp15 ht16 => ?_)
          have ht17 := PXw_vu ht16
          have hqht17 : Rfx gn 0 15 (fup vu52 (Int.toNat v52_6) v52_5) := Rfx_up (by assumption) (by omega)
          refine r_iinc (pc := 111) (v := iv (v52_5 + 1)) (lv' := [(5, .int (iv (v52_5 + 1))), (7, .int (iv y4)), (0, .ref pa), (1, .ref ga), (2, .int (iv x2)), (3, .ref aa), (4, .ref gJo), (6, .int (iv v52_6))]) dX5_init_111 rfl (iv_add _ _) (by decide) rfl ?_
          refine Rn.pick (lv' := [(0, .ref pa), (1, .ref ga), (2, .int (iv x2)), (3, .ref aa), (4, .ref gJo), (5, .int (iv (v52_5 + 1))), (6, .int (iv v52_6))]) [2, 3, 4, 5, 6, 0, 7] rfl ?_
          exact B114 (fup vu52 (Int.toNat v52_6) v52_5) _ ht17 (v52_5 + 1) ⟨by omega, by omega, by omega, by assumption, by (first | exact nu_a (by assumption) (by omega) | exact nu_b (by assumption) (by omega) (by omega)), by (first | exact nu2_a (by assumption) (by omega) hfp (by omega) | exact nu2_b (by assumption) (by omega) hfp (by omega) (by assumption)), by (first | exact cn_a (by omega) hfp (by omega) (by assumption) | exact cn_b (by omega) hfp (by omega) (by assumption)), by exact mbS_fup (by assumption) (by omega), by omega, by omega⟩
        · refine r_iload (pc := 80) dX5_init_80 rfl ?_
          refine t_if_lt (pc := 82) (tgt := 102) dX5_init_82 (by decide) (by omega) (fun c82 => ?_) (fun c82 => ?_)
          · exfalso
            omega
          · refine r_aload_n (pc := 85) dX5_init_85 (i := 0) rfl rfl ?_
            refine t_getE (pc := 86) (.ref (pa + 1)) ht6 (rd_of PX_0) fX5_18 dX5_init_86 rfl ?_
            refine r_iload (pc := 89) dX5_init_89 rfl ?_
            refine r_aload_n (pc := 91) dX5_init_91 (i := 0) rfl rfl ?_
            refine t_getE (pc := 92) (.ref (pa + 1)) ht6 (rd_of PX_0) fX5_18 dX5_init_92 rfl ?_
            refine r_iload (pc := 95) dX5_init_95 rfl ?_
            refine t_ialdX (pc := 97) (t0 := 0) ht6 (rd_of PX_1) dX5_init_97 rfl (by omega) (by omega) (fun b18 => ?_)
            have rb18 := (show Rfx gn 0 15 vu52 by assumption) (Int.toNat y4) (by omega)
            refine t_iastX (pc := 98) (t0 := 0) ht6 PX_1 dX5_init_98 rfl (by omega) (by omega) (by omega) (fun hp19 ht20 => ?_)
            have ht21 := PXw_vu ht20
            have hqht21 : Rfx gn 0 15 (fup vu52 (Int.toNat v52_6) (vu52 (Int.toNat y4))) := Rfx_up (by assumption) (by omega)
            refine r_goto (pc := 99) (tgt := 114) dX5_init_99 (by decide) ?_
            refine Rn.pick (lv' := [(0, .ref pa), (1, .ref ga), (2, .int (iv x2)), (3, .ref aa), (4, .ref gJo), (5, .int (iv v52_5)), (6, .int (iv v52_6))]) [1, 2, 3, 4, 5, 6, 7] rfl ?_
            exact B114 (fup vu52 (Int.toNat v52_6) (vu52 (Int.toNat y4))) _ ht21 v52_5 ⟨by omega, by omega, by omega, by assumption, by (first | exact nu_a (by assumption) (by omega) | exact nu_b (by assumption) (by omega) (by omega)), by (first | exact nu2_a (by assumption) (by omega) hfp (by omega) | exact nu2_b (by assumption) (by omega) hfp (by omega) (by assumption)), by (first | exact cn_a (by omega) hfp (by omega) (by assumption) | exact cn_b (by omega) hfp (by omega) (by assumption)), by exact mbS_fup (by assumption) (by omega), by omega, by omega⟩
    refine Rn.pick (lv' := [(0, .ref pa), (1, .ref ga), (2, .int (iv x2)), (3, .ref aa), (4, .ref gJo), (5, .int (iv 0)), (6, .int (iv 0))]) [3, 4, 5, 6, 2, 1, 0] rfl ?_
    exact B52 (Int.toNat (16 - 0)) (fun _ => 0) (fun _ => 0) _ ht1 0 0 ⟨by omega, by omega, by omega, by omega, by assumption, by assumption, by (first | assumption | exact nu_0 _ _), by (first | assumption | exact nuq_0), by (first | assumption | rfl), by (first | exact hms | exact mbS_0 (fun k hk => rfl)), by omega, by omega, by omega⟩ (by omega)
  · exfalso
    omega
