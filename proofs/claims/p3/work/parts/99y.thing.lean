theorem upd_s' (f : Nat → Int32) (i : Nat) (v : Int32) : upd f i v i = v := by simp [upd]
theorem upd_o' (f : Nat → Int32) {i j : Nat} (v : Int32) (h : j ≠ i) : upd f i v j = f j := by simp [upd, h]
theorem goF_all {q : Bool} {f t v w : Nat → Int32} {P : Int32 → Prop} : ∀ m : Nat, (∀ i, i < m → P (v i) ∧ P (w i)) → ∀ k, k < m + gc q f t m → P (goF q f t v w m k)
  | 0, _, k, hk => by
    have e : gc q f t 0 = 0 := rfl
    omega
  | m + 1, h, k, hk => by
    have ih := goF_all (q := q) (f := f) (t := t) (v := v) (w := w) (P := P) m (fun i hi => h i (by omega))
    have hm := h m (by omega)
    by_cases hc : q = false ∧ f m ≠ t m
    · rw [goF_t hc.1 hc.2]
      rw [gc_t hc.1 hc.2] at hk
      by_cases h1 : k = m + gc q f t m + 1
      · subst h1; rw [upd_s']; exact hm.2
      · rw [upd_o' _ _ h1]
        by_cases h2 : k = m + gc q f t m
        · subst h2; rw [upd_s']; exact hm.1
        · rw [upd_o' _ _ h2]; exact ih k (by omega)
    · rw [goF_f hc]
      rw [gc_f hc] at hk
      by_cases h2 : k = m + gc q f t m
      · subst h2; rw [upd_s']; exact hm.1
      · rw [upd_o' _ _ h2]; exact ih k (by omega)
theorem or_bit {x : Int32} {b : Nat} (h : ∃ z : Int, x = iv z ∧ 0 ≤ z ∧ z ≤ 65535) (hb : b < 16) : ∃ z : Int, x ||| (1 <<< (nI b &&& 31)) = iv z ∧ 0 ≤ z ∧ z ≤ 65535 := by
  obtain ⟨z, rfl, h0, h1⟩ := h
  obtain ⟨y, hy, y0, y1⟩ := shl_1 0 15 (b : Int) (by omega) (by omega) (by decide)
  have o1 : (1 : Int32) = iv 1 := by decide
  have e : (1 : Int32) <<< (nI b &&& 31) = iv y := by rw [o1, nI_iv]; exact hy
  rw [e]
  obtain ⟨w, hw, w0, w1, w2⟩ := or_2 16 z y ⟨h0, by omega⟩ ⟨by omega, by omega⟩ (by decide)
  exact ⟨w, hw, by omega, by omega⟩
theorem nbF_r {A B : Nat → Nat} : ∀ k : Nat, (∀ j, j < k → B j < 16) → ∀ i, ∃ z : Int, nbF A B k i = iv z ∧ 0 ≤ z ∧ z ≤ 65535
  | 0, _, i => ⟨0, rfl, by decide, by decide⟩
  | k + 1, h, i => by
    have ih := nbF_r (A := A) (B := B) k (fun j hj => h j (by omega))
    show ∃ z : Int, upd (nbF A B k) (A k) (nbF A B k (A k) ||| (1 <<< (nI (B k) &&& 31))) i = iv z ∧ 0 ≤ z ∧ z ≤ 65535
    by_cases hi : i = A k
    · subst hi; rw [upd_s']; exact or_bit (ih _) (h k (by omega))
    · rw [upd_o' _ _ hi]; exact ih i
theorem joF_r {A B : Nat → Nat} : ∀ k : Nat, (∀ j, j < k → A j < 16 ∧ B j < 16) → ∀ i, ∃ z : Int, joF A B k i = iv z ∧ 0 ≤ z ∧ z ≤ 65535
  | 0, _, i => ⟨0, rfl, by decide, by decide⟩
  | k + 1, h, i => by
    have ih := joF_r (A := A) (B := B) k (fun j hj => h j (by omega))
    have hk := h k (by omega)
    by_cases hc : A k = B k
    · rw [joF_e hc]; exact ih i
    · rw [joF_n hc]
      by_cases h1 : i = B k
      · subst h1; rw [upd_s']; exact or_bit (ih _) hk.1
      · rw [upd_o' _ _ h1]
        by_cases h2 : i = A k
        · subst h2; rw [upd_s']; exact or_bit (ih _) hk.2
        · rw [upd_o' _ _ h2]; exact ih i
def nwG (Γ : TG) (s : Nat) (L : List (va_E → Prop)) : TG := fun q => if s ≤ q ∧ q < s + L.length then L[q - s]? else Γ q
theorem nw_at {Γ : TG} {s : Nat} {L : List (va_E → Prop)} (j : Nat) {T : va_E → Prop} (h : L[j]? = some T) : nwG Γ s L (s + j) = some T := by
  have hj := (List.getElem?_eq_some_iff.mp h).1
  unfold nwG
  rw [if_pos (by omega), Nat.add_sub_cancel_left]; exact h
theorem nw_ext {Γ : TG} {s : Nat} {L : List (va_E → Prop)} (hlo : ∀ (q : Nat) (T : va_E → Prop), Γ q = some T → q < s) : Ext Γ (nwG Γ s L) := by
  intro q T h
  have := hlo q T h
  unfold nwG
  rw [if_neg (by omega)]; exact h
theorem nw_tw {Γ : TG} {hp hp2 : MH} {s : Nat} {L : List (va_E → Prop)} (ht : Tw Γ hp) (hfr : ∀ (q : Nat) (e : va_E), hp q = some e → hp2 q = some e) (hL : ∀ (j : Nat) (T : va_E → Prop), L[j]? = some T → ∃ e, hp2 (s + j) = some e ∧ T e) : Tw (nwG Γ s L) hp2 := by
  intro q T h
  unfold nwG at h
  by_cases hr : s ≤ q ∧ q < s + L.length
  · rw [if_pos hr] at h
    obtain ⟨e, h1, h2⟩ := hL (q - s) T h
    rw [show s + (q - s) = q by omega] at h1
    exact ⟨e, h1, h2⟩
  · rw [if_neg hr] at h
    obtain ⟨e, h1, h2⟩ := ht q T h
    exact ⟨e, hfr q e h1, h2⟩
theorem Tw_lo {Γ : TG} {hp : MH} {n : Nat} (ht : Tw Γ hp) (bd : ∀ (q : Nat) (e : va_E), hp q = some e → q < n) (q : Nat) (T : va_E → Prop) (h : Γ q = some T) : q < n := by
  obtain ⟨e, h1, -⟩ := ht q T h
  exact bd q e h1
theorem Tw_fr {Γ : TG} {hp hp1 : MH} (ht : Tw Γ hp) (h : ∀ (q : Nat) (e : va_E), hp q = some e → hp1 q = some e) : Tw Γ hp1 := by
  intro q T h0
  obtain ⟨e, h1, h2⟩ := ht q T h0
  exact ⟨e, h q e h1, h2⟩
theorem Ext_refl (Γ : TG) : Ext Γ Γ := fun _ _ h => h
theorem Ext_tr {Γ Γ1 Γ2 : TG} (h : Ext Γ Γ1) (h1 : Ext Γ1 Γ2) : Ext Γ Γ2 := fun a T q => h1 a T (h a T q)
def xQ (cA : ClassId) (L : Nat) (f : Nat → Option Nat) : va_E → Prop := tQ cA L (fun i v => v = f i)
theorem tO_ex {ci : Nat} {vs : List Value} {e : va_E} (h : tO ci (vs.map fE) e) : e = .inr (ci, vs) := by
  obtain ⟨fs, rfl, h2, h3⟩ := h
  have e : fs = vs := by
    apply List.ext_getElem?
    intro k
    cases hv : vs[k]? with
    | some w =>
      obtain ⟨v, h4, h5⟩ := h3 k (fE w) (by rw [List.getElem?_map, hv]; rfl)
      have h6 : v = w := h5
      rw [h4, h6]
    | none =>
      have h7 := List.getElem?_eq_none_iff.mp hv
      rw [List.length_map] at h2
      exact List.getElem?_eq_none_iff.mpr (by omega)
  rw [e]
theorem tO_mk {ci : Nat} {vs : List Value} : tO ci (vs.map fE) (.inr (ci, vs)) := by
  refine ⟨vs, rfl, by rw [List.length_map], fun k T hk => ?_⟩
  rw [List.getElem?_map] at hk
  cases hv : vs[k]? with
  | some w => rw [hv] at hk; cases hk; exact ⟨w, rfl, rfl⟩
  | none => rw [hv] at hk; cases hk
theorem iv_nI {x : Int} (h : 0 ≤ x) : iv x = nI x.toNat := by rw [nI_iv]; congr 1; omega
theorem rd_same {Γ Γ1 : TG} {q : Nat} {T : va_E → Prop} (e : Γ q = Γ1 q) (h : rd Γ q T) : rd Γ1 q T := by
  obtain ⟨T0, h0, h1⟩ := h
  exact ⟨T0, e ▸ h0, h1⟩
theorem eq_same {Γ Γ1 : TG} {q : Nat} {T : va_E → Prop} (e : Γ q = Γ1 q) (h : Γ q = some T) : Γ1 q = some T := e ▸ h
section TQ
variable {G : MG} {M : MM} {d pc : Nat} {lv : List (Nat × Value)} {st : List Value} {hp : MH} {n kr wr : Nat} {Po : Option Value → MH → Nat → Prop}
theorem t_aastQ {Γ : TG} {a t0 v ci L : Nat} {cA : ClassId} {f : Nat → Option Nat} {x : Int} {Cn : String} {r : vw_C} {Fs : List (Value → Prop)} (ht : Tw Γ hp) (hΓ : Γ a = some (xQ cA L f)) (hv : rd Γ v (tO ci Fs)) (hd : decode M.2.1 pc = .ok (.aastore, 1)) (hty : (g_ty G)[t0]? = some (cA, .object Cn)) (hc : (g_cl G)[ci]? = some r) (hca : (r.1, Cn) ∈ g_ca G) (hL : L ≤ 2147483647) (hx : 0 ≤ x ∧ x < (L : Int)) (kk : ∀ hp1 : MH, Tw (ov Γ a (xQ cA L (va_up f x.toNat (some v)))) hp1 → Rn G M d (pc + 1) lv st hp1 n kr wr Po) : Rn G M d pc lv (.ref v :: .int (iv x) :: .ref a :: st) hp n kr wr Po := by
  obtain ⟨e, h1, g, rfl, h2⟩ := rd_at ht (rd_of hΓ)
  obtain ⟨fs, h3⟩ := t_obj ht hv
  refine w_aast (f' := va_up g x.toNat (some v)) hd hty hc hca h1 h3 (iv_in hx hL) (by rw [iv_clamp hx.1 (by omega)]) (fun hp1 h4 h5 => kk hp1 (ht.up h4 ⟨_, rfl, fun i hi => ?_⟩ h5))
  show va_up g x.toNat (some v) i = va_up f x.toNat (some v) i
  have h6 : g i = f i := h2 i hi
  simp only [va_up, h6]
theorem t_aastN {Γ : TG} {a t0 L : Nat} {cA : ClassId} {f : Nat → Option Nat} {x : Int} {Cn : String} (ht : Tw Γ hp) (hΓ : Γ a = some (xQ cA L f)) (hd : decode M.2.1 pc = .ok (.aastore, 1)) (hty : (g_ty G)[t0]? = some (cA, .object Cn)) (hL : L ≤ 2147483647) (hx : 0 ≤ x ∧ x < (L : Int)) (kk : ∀ hp1 : MH, Tw (ov Γ a (xQ cA L (va_up f x.toNat none))) hp1 → Rn G M d (pc + 1) lv st hp1 n kr wr Po) : Rn G M d pc lv (.null :: .int (iv x) :: .ref a :: st) hp n kr wr Po := by
  obtain ⟨e, h1, g, rfl, h2⟩ := rd_at ht (rd_of hΓ)
  refine w_aastN (f' := va_up g x.toNat none) hd hty h1 (iv_in hx hL) (by rw [iv_clamp hx.1 (by omega)]) (fun hp1 h4 h5 => kk hp1 (ht.up h4 ⟨_, rfl, fun i hi => ?_⟩ h5))
  show va_up g x.toNat none i = va_up f x.toNat none i
  have h6 : g i = f i := h2 i hi
  simp only [va_up, h6]
end TQ
theorem nbF_me {A B : Nat → Nat} : ∀ k : Nat, (∀ j, j < k → B j < 16) → ∀ j, j < k → Me (nbF A B k (A j)).toInt (B j)
  | 0, _, j, hj => absurd hj (by omega)
  | k + 1, h, j, hj => by
    have ih := nbF_me (A := A) (B := B) k (fun j hj => h j (by omega))
    obtain ⟨z, hz, h0, h1⟩ := nbF_r (A := A) (B := B) k (fun j hj => h j (by omega)) (A k)
    have hB := h k (by omega)
    have o1 : (1 : Int32) = iv 1 := by decide
    have e : (1 : Int32) <<< (nI (B k) &&& 31) = iv ((2 ^ B k : Nat) : Int) := by
      rw [o1, nI_iv, shl_e (v := (B k : Int)) (by omega), Int.toNat_natCast]
    have pw : (2 : Nat) ^ B k ≤ 2 ^ 15 := Nat.pow_le_pow_right (by decide) (by omega)
    generalize hP : (2 : Nat) ^ B k = P at e pw
    obtain ⟨w, hw, w0, w1, w2⟩ := or_2 16 z (P : Int) ⟨h0, by omega⟩ ⟨by omega, by omega⟩ (by decide)
    have hme := Me_or hw ⟨h0, h1⟩ ⟨by omega, by omega⟩ ⟨by omega, by omega⟩
    show Me (upd (nbF A B k) (A k) (nbF A B k (A k) ||| (1 <<< (nI (B k) &&& 31))) (A j)).toInt (B j)
    by_cases hA : A j = A k
    · rw [hA, upd_s', hz, e, hw, iv_toInt (by omega) (by omega)]
      by_cases hjk : j = k
      · subst hjk
        exact (hme _).mpr (Or.inr (by rw [← hP]; exact (Me_shl _ _).mpr rfl))
      · have h9 := ih j (by omega)
        rw [hA, hz, iv_toInt (by omega) (by omega)] at h9
        exact (hme _).mpr (Or.inl h9)
    · rw [upd_o' _ _ hA]
      exact ih j (by
        have h9 : j ≠ k := fun h9 => hA (by rw [h9])
        omega)
def XG (Γ : TG) (cI : ClassId) (gF gT gW gC gTl gHd gBy gOu gIn gJo gn gm gq : Nat) (F T W C Tl Hd By Ou In Jo : Nat → Int) : Prop :=
  (rd Γ gF (xI cI gm F) ∧ rd Γ gT (xI cI gm T) ∧ rd Γ gW (xI cI gm W) ∧ rd Γ gC (xI cI gm C) ∧ rd Γ gTl (xI cI gq Tl) ∧ rd Γ gHd (xI cI gq Hd) ∧ rd Γ gBy (xI cI gq By) ∧ rd Γ gOu (xI cI gn Ou) ∧ rd Γ gIn (xI cI gn In) ∧ rd Γ gJo (xI cI gn Jo)) ∧
  (Rfx gm 0 ((gn : Int) - 1) F ∧ Rfx gm 0 ((gn : Int) - 1) T ∧ Rfx gm (-1000) 1000 W ∧ Rfx gm (-1000) 1000 C ∧ Rfx gq 0 ((gn : Int) - 1) Tl ∧ Rfx gq 0 ((gn : Int) - 1) Hd ∧ Rfx gq 0 ((gm : Int) - 1) By ∧ Rfx gn 0 65535 Ou ∧ Rfx gn 0 65535 In ∧ Rfx gn 0 65535 Jo) ∧
  (∀ k : Nat, k < gq → Me (Ou (Tl k).toNat) (Hd k).toNat)
theorem XG.ext {Γ Γ1 : TG} {cI : ClassId} {gF gT gW gC gTl gHd gBy gOu gIn gJo gn gm gq : Nat} {F T W C Tl Hd By Ou In Jo : Nat → Int} (hE : Ext Γ Γ1) (h : XG Γ cI gF gT gW gC gTl gHd gBy gOu gIn gJo gn gm gq F T W C Tl Hd By Ou In Jo) : XG Γ1 cI gF gT gW gC gTl gHd gBy gOu gIn gJo gn gm gq F T W C Tl Hd By Ou In Jo := by
  obtain ⟨⟨h1, h2, h3, h4, h5, h6, h7, h8, h9, h10⟩, hr⟩ := h
  exact ⟨⟨rd_ext hE h1, rd_ext hE h2, rd_ext hE h3, rd_ext hE h4, rd_ext hE h5, rd_ext hE h6, rd_ext hE h7, rd_ext hE h8, rd_ext hE h9, rd_ext hE h10⟩, hr⟩
def TyW (Γ : TG) (cI cJ cZ : ClassId) (a : Nat) (n : Nat) : Prop := rd Γ a (tO 9 [fE (.int (iv (n : Int))), fE (.ref (a + 1)), fE (.ref (a + 2)), fE (.ref (a + 3)), fE (.ref (a + 4)), fE (.ref (a + 5))]) ∧ rd Γ (a + 1) (tI cI n (rg 0 2)) ∧ rd Γ (a + 2) (tJ cJ n anyJ) ∧ rd Γ (a + 3) (tI cI n (rg (-1) ((n : Int) - 1))) ∧ rd Γ (a + 4) (tJ cJ n anyJ) ∧ rd Γ (a + 5) (tI cI (n * n) (rg 0 59)) ∧ (1 ≤ n ∧ n ≤ 16)
theorem TyW.ext {Γ Γ1 : TG} {cI cJ cZ : ClassId} {a : Nat} {n : Nat} (hE : Ext Γ Γ1) (h : TyW Γ cI cJ cZ a n) : TyW Γ1 cI cJ cZ a n := ⟨rd_ext hE h.1, rd_ext hE h.2.1, rd_ext hE h.2.2.1, rd_ext hE h.2.2.2.1, rd_ext hE h.2.2.2.2.1, rd_ext hE h.2.2.2.2.2.1, h.2.2.2.2.2.2⟩
def TySm (Γ : TG) (cI cJ : ClassId) (s : Nat) : Prop := Γ s = some (tO 6 (smnR s)) ∧ Γ (s + 1) = some (tJ cJ 512 anyJ) ∧ Γ (s + 2) = some (tJ cJ 544 anyJ) ∧ Γ (s + 3) = some (tJ cJ 32 anyJ) ∧ Γ (s + 4) = some (tI cI 16 (rg 0 15))
theorem TySm.ext {Γ Γ1 : TG} {cI cJ : ClassId} {s : Nat} (hE : Ext Γ Γ1) (h : TySm Γ cI cJ s) : TySm Γ1 cI cJ s := ⟨hE _ _ h.1, hE _ _ h.2.1, hE _ _ h.2.2.1, hE _ _ h.2.2.2.1, hE _ _ h.2.2.2.2⟩
def ThG (Γ : TG) (cI cJ cZ : ClassId) (a t : Nat) : Prop := ∃ (gF : Nat) (gT : Nat) (gW : Nat) (gC : Nat) (gTl : Nat) (gHd : Nat) (gBy : Nat) (gOu : Nat) (gIn : Nat) (gJo : Nat) (gn : Nat) (gm : Nat) (gq : Nat) (gdr : Int) (fF fT fW fC fTl fHd fBy fOu fIn fJo : Nat → Int), TyG Γ cI cJ cZ t gF gT gW gC gTl gHd gBy gOu gIn gJo gn gm gq gdr ∧ (a + 84 ≤ t ∧ a + 84 ≤ gF ∧ a + 84 ≤ gT ∧ a + 84 ≤ gW ∧ a + 84 ≤ gC ∧ a + 84 ≤ gTl ∧ a + 84 ≤ gHd ∧ a + 84 ≤ gBy ∧ a + 84 ≤ gOu ∧ a + 84 ≤ gIn ∧ a + 84 ≤ gJo) ∧ XG Γ cI gF gT gW gC gTl gHd gBy gOu gIn gJo gn gm gq fF fT fW fC fTl fHd fBy fOu fIn fJo
theorem ThG.ext {Γ Γ1 : TG} {cI cJ cZ : ClassId} {a t : Nat} (hE : Ext Γ Γ1) (h : ThG Γ cI cJ cZ a t) : ThG Γ1 cI cJ cZ a t := by
  obtain ⟨gF, gT, gW, gC, gTl, gHd, gBy, gOu, gIn, gJo, gn, gm, gq, gdr, fF, fT, fW, fC, fTl, fHd, fBy, fOu, fIn, fJo, h1, h2, h3⟩ := h
  exact ⟨gF, gT, gW, gC, gTl, gHd, gBy, gOu, gIn, gJo, gn, gm, gq, gdr, fF, fT, fW, fC, fTl, fHd, fBy, fOu, fIn, fJo, TyG.ext hE h1, h2, XG.ext hE h3⟩
def ThC (Γ : TG) (cI cJ cZ : ClassId) (a t : Nat) : Prop := ∃ (cM : Nat) (cn : Nat), TyC Γ cI cJ cZ t cM cn ∧ (a + 84 ≤ t ∧ a + 84 ≤ cM)
theorem ThC.ext {Γ Γ1 : TG} {cI cJ cZ : ClassId} {a t : Nat} (hE : Ext Γ Γ1) (h : ThC Γ cI cJ cZ a t) : ThC Γ1 cI cJ cZ a t := by
  obtain ⟨cM, cn, h1, h2⟩ := h
  exact ⟨cM, cn, TyC.ext hE h1, h2⟩
def ThW (Γ : TG) (cI cJ cZ : ClassId) (a t : Nat) : Prop := ∃ (wn : Nat), TyW Γ cI cJ cZ t wn ∧ (a + 84 ≤ t ∧ a + 84 ≤ (t + 1) ∧ a + 84 ≤ (t + 2) ∧ a + 84 ≤ (t + 3) ∧ a + 84 ≤ (t + 4) ∧ a + 84 ≤ (t + 5))
theorem ThW.ext {Γ Γ1 : TG} {cI cJ cZ : ClassId} {a t : Nat} (hE : Ext Γ Γ1) (h : ThW Γ cI cJ cZ a t) : ThW Γ1 cI cJ cZ a t := by
  obtain ⟨wn, h1, h2⟩ := h
  exact ⟨wn, TyW.ext hE h1, h2⟩
def ThQ (Γ : TG) (cI cJ cZ : ClassId) (a t : Nat) : Prop := ∃ (pN : Nat) (pO : Nat) (pn : Nat) (pz : Nat), TyP Γ cI cJ cZ t pN pO pn pz ∧ (a + 84 ≤ t ∧ a + 84 ≤ pN ∧ a + 84 ≤ pO)
theorem ThQ.ext {Γ Γ1 : TG} {cI cJ cZ : ClassId} {a t : Nat} (hE : Ext Γ Γ1) (h : ThQ Γ cI cJ cZ a t) : ThQ Γ1 cI cJ cZ a t := by
  obtain ⟨pN, pO, pn, pz, h1, h2⟩ := h
  exact ⟨pN, pO, pn, pz, TyP.ext hE h1, h2⟩
def ThA (Γ : TG) (cI cJ cZ : ClassId) (a t : Nat) : Prop := ThG Γ cI cJ cZ a t ∨ ThC Γ cI cJ cZ a t ∨ ThW Γ cI cJ cZ a t ∨ ThQ Γ cI cJ cZ a t
theorem ThA.ext {Γ Γ1 : TG} {cI cJ cZ : ClassId} {a t : Nat} (hE : Ext Γ Γ1) (h : ThA Γ cI cJ cZ a t) : ThA Γ1 cI cJ cZ a t := by
  rcases h with h | h | h | h
  · exact Or.inl (ThG.ext hE h)
  · exact Or.inr (Or.inl (ThC.ext hE h))
  · exact Or.inr (Or.inr (Or.inl (ThW.ext hE h)))
  · exact Or.inr (Or.inr (Or.inr (ThQ.ext hE h)))
abbrev egF (a : Nat) (ct rv : Int) : List (Value → Prop) := [fE (.ref (a + 1)), fE (.int (iv ct)), fE (.int (iv rv)), fE (.ref (a + 2)), fE (.ref (a + 8)), fE (.ref (a + 14)), fE (.ref (a + 16)), fE (.ref (a + 22)), fE (.ref (a + 27)), fE (.ref (a + 36))]
def CGL (cI cJ cZ cT : ClassId) (a : Nat) (ct : Int) (rv : Int) (th : Nat → Option Nat) (dn : Int) (dd : Int) (da : Int) (df : Nat → Int) (dt : Nat → Int) (dw : Nat → Int) (dc : Nat → Int) (kn : Int) (kd : Int) (ka : Int) (kf : Nat → Int) (kt : Nat → Int) (kw : Nat → Int) (kc : Nat → Int) : List (va_E → Prop) := [tO 10 (egF a ct rv), xQ cT 120 th, tO 1 (dfF (a + 2) dn dd da), xI cI 60 df, xI cI 60 dt, xI cI 60 dw, xI cI 60 dc, tI cI 256 (rg (-1000) 5000), tO 1 (dfF (a + 8) kn kd ka), xI cI 60 kf, xI cI 60 kt, xI cI 60 kw, xI cI 60 kc, tI cI 256 (rg (-1000) 5000)]
def CG (Γ : TG) (cI cJ cZ cT : ClassId) (a : Nat) (ct : Int) (rv : Int) (th : Nat → Option Nat) (dn : Int) (dd : Int) (da : Int) (df : Nat → Int) (dt : Nat → Int) (dw : Nat → Int) (dc : Nat → Int) (kn : Int) (kd : Int) (ka : Int) (kf : Nat → Int) (kt : Nat → Int) (kw : Nat → Int) (kc : Nat → Int) : TG := fun q => if a ≤ q ∧ q < a + 14 then (CGL cI cJ cZ cT a ct rv th dn dd da df dt dw dc kn kd ka kf kt kw kc)[q - a]? else Γ q
theorem CG_e {Γ : TG} {cI cJ cZ cT : ClassId} {a : Nat} {ct : Int} {rv : Int} {th : Nat → Option Nat} {dn : Int} {dd : Int} {da : Int} {df : Nat → Int} {dt : Nat → Int} {dw : Nat → Int} {dc : Nat → Int} {kn : Int} {kd : Int} {ka : Int} {kf : Nat → Int} {kt : Nat → Int} {kw : Nat → Int} {kc : Nat → Int} (j : Nat) {T : va_E → Prop} (hj : j < 14) (h : (CGL cI cJ cZ cT a ct rv th dn dd da df dt dw dc kn kd ka kf kt kw kc)[j]? = some T) : CG Γ cI cJ cZ cT a ct rv th dn dd da df dt dw dc kn kd ka kf kt kw kc (a + j) = some T := by
  unfold CG
  rw [if_pos (by omega), Nat.add_sub_cancel_left]
  exact h
theorem CG_o {Γ : TG} {cI cJ cZ cT : ClassId} {a : Nat} {ct : Int} {rv : Int} {th : Nat → Option Nat} {dn : Int} {dd : Int} {da : Int} {df : Nat → Int} {dt : Nat → Int} {dw : Nat → Int} {dc : Nat → Int} {kn : Int} {kd : Int} {ka : Int} {kf : Nat → Int} {kt : Nat → Int} {kw : Nat → Int} {kc : Nat → Int} {q : Nat} (h : q < a ∨ a + 14 ≤ q) : CG Γ cI cJ cZ cT a ct rv th dn dd da df dt dw dc kn kd ka kf kt kw kc q = Γ q := by
  unfold CG
  rw [if_neg (by omega)]
theorem rd_CG {Γ : TG} {cI cJ cZ cT : ClassId} {a : Nat} {ct : Int} {rv : Int} {th : Nat → Option Nat} {dn : Int} {dd : Int} {da : Int} {df : Nat → Int} {dt : Nat → Int} {dw : Nat → Int} {dc : Nat → Int} {kn : Int} {kd : Int} {ka : Int} {kf : Nat → Int} {kt : Nat → Int} {kw : Nat → Int} {kc : Nat → Int} {q : Nat} {T : va_E → Prop} (h : q < a ∨ a + 14 ≤ q) (hr : rd Γ q T) : rd (CG Γ cI cJ cZ cT a ct rv th dn dd da df dt dw dc kn kd ka kf kt kw kc) q T := by
  obtain ⟨T0, h0, h1⟩ := hr
  exact ⟨T0, by rw [CG_o h]; exact h0, h1⟩
theorem eq_CG {Γ : TG} {cI cJ cZ cT : ClassId} {a : Nat} {ct : Int} {rv : Int} {th : Nat → Option Nat} {dn : Int} {dd : Int} {da : Int} {df : Nat → Int} {dt : Nat → Int} {dw : Nat → Int} {dc : Nat → Int} {kn : Int} {kd : Int} {ka : Int} {kf : Nat → Int} {kt : Nat → Int} {kw : Nat → Int} {kc : Nat → Int} {q : Nat} {T : va_E → Prop} (h : q < a ∨ a + 14 ≤ q) (hr : Γ q = some T) : CG Γ cI cJ cZ cT a ct rv th dn dd da df dt dw dc kn kd ka kf kt kw kc q = some T := by
  rw [CG_o h]; exact hr
theorem CG_w {Γ : TG} {cI cJ cZ cT : ClassId} {a : Nat} {ct : Int} {rv : Int} {th : Nat → Option Nat} {dn : Int} {dd : Int} {da : Int} {df : Nat → Int} {dt : Nat → Int} {dw : Nat → Int} {dc : Nat → Int} {kn : Int} {kd : Int} {ka : Int} {kf : Nat → Int} {kt : Nat → Int} {kw : Nat → Int} {kc : Nat → Int} {ct1 : Int} {rv1 : Int} {th1 : Nat → Option Nat} {dn1 : Int} {dd1 : Int} {da1 : Int} {df1 : Nat → Int} {dt1 : Nat → Int} {dw1 : Nat → Int} {dc1 : Nat → Int} {kn1 : Int} {kd1 : Int} {ka1 : Int} {kf1 : Nat → Int} {kt1 : Nat → Int} {kw1 : Nat → Int} {kc1 : Nat → Int} {hp : MH} (j : Nat) {T : va_E → Prop} (hj : j < 14) (h : CGL cI cJ cZ cT a ct1 rv1 th1 dn1 dd1 da1 df1 dt1 dw1 dc1 kn1 kd1 ka1 kf1 kt1 kw1 kc1 = (CGL cI cJ cZ cT a ct rv th dn dd da df dt dw dc kn kd ka kf kt kw kc).set j T) (ht : Tw (ov (CG Γ cI cJ cZ cT a ct rv th dn dd da df dt dw dc kn kd ka kf kt kw kc) (a + j) T) hp) : Tw (CG Γ cI cJ cZ cT a ct1 rv1 th1 dn1 dd1 da1 df1 dt1 dw1 dc1 kn1 kd1 ka1 kf1 kt1 kw1 kc1) hp := by
  have e : ov (CG Γ cI cJ cZ cT a ct rv th dn dd da df dt dw dc kn kd ka kf kt kw kc) (a + j) T = CG Γ cI cJ cZ cT a ct1 rv1 th1 dn1 dd1 da1 df1 dt1 dw1 dc1 kn1 kd1 ka1 kf1 kt1 kw1 kc1 := by
    funext q
    by_cases hq : q = a + j
    · subst hq
      rw [ov_s]
      unfold CG
      rw [if_pos (by omega), Nat.add_sub_cancel_left, h, List.getElem?_set_self (Nat.lt_of_lt_of_eq hj rfl)]
    · rw [ov_o _ _ hq]
      unfold CG
      by_cases hr : a ≤ q ∧ q < a + 14
      · rw [if_pos hr, if_pos hr, h, List.getElem?_set_ne (by omega)]
      · rw [if_neg hr, if_neg hr]
  rw [e] at ht
  exact ht
theorem CG_0 {Γ : TG} {cI cJ cZ cT : ClassId} {a : Nat} {ct : Int} {rv : Int} {th : Nat → Option Nat} {dn : Int} {dd : Int} {da : Int} {df : Nat → Int} {dt : Nat → Int} {dw : Nat → Int} {dc : Nat → Int} {kn : Int} {kd : Int} {ka : Int} {kf : Nat → Int} {kt : Nat → Int} {kw : Nat → Int} {kc : Nat → Int} : CG Γ cI cJ cZ cT a ct rv th dn dd da df dt dw dc kn kd ka kf kt kw kc a = some (tO 10 (egF a ct rv)) := CG_e 0 (by decide) rfl
theorem CG_1 {Γ : TG} {cI cJ cZ cT : ClassId} {a : Nat} {ct : Int} {rv : Int} {th : Nat → Option Nat} {dn : Int} {dd : Int} {da : Int} {df : Nat → Int} {dt : Nat → Int} {dw : Nat → Int} {dc : Nat → Int} {kn : Int} {kd : Int} {ka : Int} {kf : Nat → Int} {kt : Nat → Int} {kw : Nat → Int} {kc : Nat → Int} : CG Γ cI cJ cZ cT a ct rv th dn dd da df dt dw dc kn kd ka kf kt kw kc (a + 1) = some (xQ cT 120 th) := CG_e 1 (by decide) rfl
theorem CG_2 {Γ : TG} {cI cJ cZ cT : ClassId} {a : Nat} {ct : Int} {rv : Int} {th : Nat → Option Nat} {dn : Int} {dd : Int} {da : Int} {df : Nat → Int} {dt : Nat → Int} {dw : Nat → Int} {dc : Nat → Int} {kn : Int} {kd : Int} {ka : Int} {kf : Nat → Int} {kt : Nat → Int} {kw : Nat → Int} {kc : Nat → Int} : CG Γ cI cJ cZ cT a ct rv th dn dd da df dt dw dc kn kd ka kf kt kw kc (a + 2) = some (tO 1 (dfF (a + 2) dn dd da)) := CG_e 2 (by decide) rfl
theorem CG_3 {Γ : TG} {cI cJ cZ cT : ClassId} {a : Nat} {ct : Int} {rv : Int} {th : Nat → Option Nat} {dn : Int} {dd : Int} {da : Int} {df : Nat → Int} {dt : Nat → Int} {dw : Nat → Int} {dc : Nat → Int} {kn : Int} {kd : Int} {ka : Int} {kf : Nat → Int} {kt : Nat → Int} {kw : Nat → Int} {kc : Nat → Int} : CG Γ cI cJ cZ cT a ct rv th dn dd da df dt dw dc kn kd ka kf kt kw kc (a + 3) = some (xI cI 60 df) := CG_e 3 (by decide) rfl
theorem CG_4 {Γ : TG} {cI cJ cZ cT : ClassId} {a : Nat} {ct : Int} {rv : Int} {th : Nat → Option Nat} {dn : Int} {dd : Int} {da : Int} {df : Nat → Int} {dt : Nat → Int} {dw : Nat → Int} {dc : Nat → Int} {kn : Int} {kd : Int} {ka : Int} {kf : Nat → Int} {kt : Nat → Int} {kw : Nat → Int} {kc : Nat → Int} : CG Γ cI cJ cZ cT a ct rv th dn dd da df dt dw dc kn kd ka kf kt kw kc (a + 4) = some (xI cI 60 dt) := CG_e 4 (by decide) rfl
theorem CG_5 {Γ : TG} {cI cJ cZ cT : ClassId} {a : Nat} {ct : Int} {rv : Int} {th : Nat → Option Nat} {dn : Int} {dd : Int} {da : Int} {df : Nat → Int} {dt : Nat → Int} {dw : Nat → Int} {dc : Nat → Int} {kn : Int} {kd : Int} {ka : Int} {kf : Nat → Int} {kt : Nat → Int} {kw : Nat → Int} {kc : Nat → Int} : CG Γ cI cJ cZ cT a ct rv th dn dd da df dt dw dc kn kd ka kf kt kw kc (a + 5) = some (xI cI 60 dw) := CG_e 5 (by decide) rfl
theorem CG_6 {Γ : TG} {cI cJ cZ cT : ClassId} {a : Nat} {ct : Int} {rv : Int} {th : Nat → Option Nat} {dn : Int} {dd : Int} {da : Int} {df : Nat → Int} {dt : Nat → Int} {dw : Nat → Int} {dc : Nat → Int} {kn : Int} {kd : Int} {ka : Int} {kf : Nat → Int} {kt : Nat → Int} {kw : Nat → Int} {kc : Nat → Int} : CG Γ cI cJ cZ cT a ct rv th dn dd da df dt dw dc kn kd ka kf kt kw kc (a + 6) = some (xI cI 60 dc) := CG_e 6 (by decide) rfl
theorem CG_7 {Γ : TG} {cI cJ cZ cT : ClassId} {a : Nat} {ct : Int} {rv : Int} {th : Nat → Option Nat} {dn : Int} {dd : Int} {da : Int} {df : Nat → Int} {dt : Nat → Int} {dw : Nat → Int} {dc : Nat → Int} {kn : Int} {kd : Int} {ka : Int} {kf : Nat → Int} {kt : Nat → Int} {kw : Nat → Int} {kc : Nat → Int} : CG Γ cI cJ cZ cT a ct rv th dn dd da df dt dw dc kn kd ka kf kt kw kc (a + 7) = some (tI cI 256 (rg (-1000) 5000)) := CG_e 7 (by decide) rfl
theorem CG_8 {Γ : TG} {cI cJ cZ cT : ClassId} {a : Nat} {ct : Int} {rv : Int} {th : Nat → Option Nat} {dn : Int} {dd : Int} {da : Int} {df : Nat → Int} {dt : Nat → Int} {dw : Nat → Int} {dc : Nat → Int} {kn : Int} {kd : Int} {ka : Int} {kf : Nat → Int} {kt : Nat → Int} {kw : Nat → Int} {kc : Nat → Int} : CG Γ cI cJ cZ cT a ct rv th dn dd da df dt dw dc kn kd ka kf kt kw kc (a + 8) = some (tO 1 (dfF (a + 8) kn kd ka)) := CG_e 8 (by decide) rfl
theorem CG_9 {Γ : TG} {cI cJ cZ cT : ClassId} {a : Nat} {ct : Int} {rv : Int} {th : Nat → Option Nat} {dn : Int} {dd : Int} {da : Int} {df : Nat → Int} {dt : Nat → Int} {dw : Nat → Int} {dc : Nat → Int} {kn : Int} {kd : Int} {ka : Int} {kf : Nat → Int} {kt : Nat → Int} {kw : Nat → Int} {kc : Nat → Int} : CG Γ cI cJ cZ cT a ct rv th dn dd da df dt dw dc kn kd ka kf kt kw kc (a + 9) = some (xI cI 60 kf) := CG_e 9 (by decide) rfl
theorem CG_10 {Γ : TG} {cI cJ cZ cT : ClassId} {a : Nat} {ct : Int} {rv : Int} {th : Nat → Option Nat} {dn : Int} {dd : Int} {da : Int} {df : Nat → Int} {dt : Nat → Int} {dw : Nat → Int} {dc : Nat → Int} {kn : Int} {kd : Int} {ka : Int} {kf : Nat → Int} {kt : Nat → Int} {kw : Nat → Int} {kc : Nat → Int} : CG Γ cI cJ cZ cT a ct rv th dn dd da df dt dw dc kn kd ka kf kt kw kc (a + 10) = some (xI cI 60 kt) := CG_e 10 (by decide) rfl
theorem CG_11 {Γ : TG} {cI cJ cZ cT : ClassId} {a : Nat} {ct : Int} {rv : Int} {th : Nat → Option Nat} {dn : Int} {dd : Int} {da : Int} {df : Nat → Int} {dt : Nat → Int} {dw : Nat → Int} {dc : Nat → Int} {kn : Int} {kd : Int} {ka : Int} {kf : Nat → Int} {kt : Nat → Int} {kw : Nat → Int} {kc : Nat → Int} : CG Γ cI cJ cZ cT a ct rv th dn dd da df dt dw dc kn kd ka kf kt kw kc (a + 11) = some (xI cI 60 kw) := CG_e 11 (by decide) rfl
theorem CG_12 {Γ : TG} {cI cJ cZ cT : ClassId} {a : Nat} {ct : Int} {rv : Int} {th : Nat → Option Nat} {dn : Int} {dd : Int} {da : Int} {df : Nat → Int} {dt : Nat → Int} {dw : Nat → Int} {dc : Nat → Int} {kn : Int} {kd : Int} {ka : Int} {kf : Nat → Int} {kt : Nat → Int} {kw : Nat → Int} {kc : Nat → Int} : CG Γ cI cJ cZ cT a ct rv th dn dd da df dt dw dc kn kd ka kf kt kw kc (a + 12) = some (xI cI 60 kc) := CG_e 12 (by decide) rfl
theorem CG_13 {Γ : TG} {cI cJ cZ cT : ClassId} {a : Nat} {ct : Int} {rv : Int} {th : Nat → Option Nat} {dn : Int} {dd : Int} {da : Int} {df : Nat → Int} {dt : Nat → Int} {dw : Nat → Int} {dc : Nat → Int} {kn : Int} {kd : Int} {ka : Int} {kf : Nat → Int} {kt : Nat → Int} {kw : Nat → Int} {kc : Nat → Int} : CG Γ cI cJ cZ cT a ct rv th dn dd da df dt dw dc kn kd ka kf kt kw kc (a + 13) = some (tI cI 256 (rg (-1000) 5000)) := CG_e 13 (by decide) rfl
theorem RGw_ct {Γ : TG} {cI cJ cZ cT : ClassId} {a : Nat} {ct : Int} {rv : Int} {th : Nat → Option Nat} {dn : Int} {dd : Int} {da : Int} {df : Nat → Int} {dt : Nat → Int} {dw : Nat → Int} {dc : Nat → Int} {kn : Int} {kd : Int} {ka : Int} {kf : Nat → Int} {kt : Nat → Int} {kw : Nat → Int} {kc : Nat → Int} {hp : MH} {f : Int} (ht : Tw (ov (CG Γ cI cJ cZ cT a ct rv th dn dd da df dt dw dc kn kd ka kf kt kw kc) a (tO 10 ((egF a ct rv).set 1 (fE (.int (iv f)))))) hp) : Tw (CG Γ cI cJ cZ cT a f rv th dn dd da df dt dw dc kn kd ka kf kt kw kc) hp := CG_w 0 (by decide) rfl ht
theorem RGw_rv {Γ : TG} {cI cJ cZ cT : ClassId} {a : Nat} {ct : Int} {rv : Int} {th : Nat → Option Nat} {dn : Int} {dd : Int} {da : Int} {df : Nat → Int} {dt : Nat → Int} {dw : Nat → Int} {dc : Nat → Int} {kn : Int} {kd : Int} {ka : Int} {kf : Nat → Int} {kt : Nat → Int} {kw : Nat → Int} {kc : Nat → Int} {hp : MH} {f : Int} (ht : Tw (ov (CG Γ cI cJ cZ cT a ct rv th dn dd da df dt dw dc kn kd ka kf kt kw kc) a (tO 10 ((egF a ct rv).set 2 (fE (.int (iv f)))))) hp) : Tw (CG Γ cI cJ cZ cT a ct f th dn dd da df dt dw dc kn kd ka kf kt kw kc) hp := CG_w 0 (by decide) rfl ht
theorem CG_x {Γ : TG} {cI cJ cZ cT : ClassId} {a : Nat} {ct : Int} {rv : Int} {th : Nat → Option Nat} {dn : Int} {dd : Int} {da : Int} {df : Nat → Int} {dt : Nat → Int} {dw : Nat → Int} {dc : Nat → Int} {kn : Int} {kd : Int} {ka : Int} {kf : Nat → Int} {kt : Nat → Int} {kw : Nat → Int} {kc : Nat → Int} {Γ1 : TG} (hE : Ext (CG Γ cI cJ cZ cT a ct rv th dn dd da df dt dw dc kn kd ka kf kt kw kc) Γ1) : ∃ Γ2 : TG, Ext Γ Γ2 ∧ CG Γ2 cI cJ cZ cT a ct rv th dn dd da df dt dw dc kn kd ka kf kt kw kc = Γ1 := by
  refine ⟨fun q => if a ≤ q ∧ q < a + 14 then Γ q else Γ1 q, fun q T h => ?_, ?_⟩
  · show (if a ≤ q ∧ q < a + 14 then Γ q else Γ1 q) = some T
    by_cases hq : a ≤ q ∧ q < a + 14
    · rw [if_pos hq]; exact h
    · rw [if_neg hq]; exact hE q T (by rw [CG_o (by omega)]; exact h)
  · funext q
    by_cases hq : a ≤ q ∧ q < a + 14
    · have hr : ∃ T, (CG Γ cI cJ cZ cT a ct rv th dn dd da df dt dw dc kn kd ka kf kt kw kc) q = some T := by
        unfold CG
        rw [if_pos hq]
        exact ⟨_, List.getElem?_eq_getElem (show q - a < 14 by omega)⟩
      obtain ⟨T, hT⟩ := hr
      have h1 := hE q T hT
      have h2 : CG (fun q => if a ≤ q ∧ q < a + 14 then Γ q else Γ1 q) cI cJ cZ cT a ct rv th dn dd da df dt dw dc kn kd ka kf kt kw kc q = CG Γ cI cJ cZ cT a ct rv th dn dd da df dt dw dc kn kd ka kf kt kw kc q := by unfold CG; rw [if_pos hq, if_pos hq]
      rw [h2, hT, h1]
    · rw [CG_o (by omega)]
      show (if a ≤ q ∧ q < a + 14 then Γ q else Γ1 q) = Γ1 q
      rw [if_neg hq]
theorem new_CG {Γ : TG} {cI cJ cZ cT : ClassId} {a : Nat} {ct : Int} {rv : Int} {th : Nat → Option Nat} {dn : Int} {dd : Int} {da : Int} {df : Nat → Int} {dt : Nat → Int} {dw : Nat → Int} {dc : Nat → Int} {kn : Int} {kd : Int} {ka : Int} {kf : Nat → Int} {kt : Nat → Int} {kw : Nat → Int} {kc : Nat → Int} {hp hp2 : MH} {n : Nat} {L : List (va_E → Prop)} (ht : Tw (CG Γ cI cJ cZ cT a ct rv th dn dd da df dt dw dc kn kd ka kf kt kw kc) hp) (bd : ∀ (q : Nat) (e : va_E), hp q = some e → q < n) (hn : a + 14 ≤ n) (hfr : ∀ (q : Nat) (e : va_E), hp q = some e → hp2 q = some e) (hL : ∀ (j : Nat) (T : va_E → Prop), L[j]? = some T → ∃ e, hp2 (n + j) = some e ∧ T e) : ∃ Γ2 : TG, Ext Γ Γ2 ∧ Tw (CG Γ2 cI cJ cZ cT a ct rv th dn dd da df dt dw dc kn kd ka kf kt kw kc) hp2 ∧ ∀ (j : Nat) (T : va_E → Prop), L[j]? = some T → Γ2 (n + j) = some T := by
  obtain ⟨Γ2, hE, e⟩ := CG_x (nw_ext (L := L) (Tw_lo ht bd))
  refine ⟨Γ2, hE, ?_, fun j T hj => ?_⟩
  · rw [e]; exact nw_tw ht hfr hL
  · have h := nw_at (Γ := CG Γ cI cJ cZ cT a ct rv th dn dd da df dt dw dc kn kd ka kf kt kw kc) (s := n) j hj
    rw [← e, CG_o (by omega)] at h
    exact h
theorem CG_dr {Γ : TG} {cI cJ cZ cT : ClassId} {a : Nat} {ct : Int} {rv : Int} {th : Nat → Option Nat} {dn : Int} {dd : Int} {da : Int} {df : Nat → Int} {dt : Nat → Int} {dw : Nat → Int} {dc : Nat → Int} {kn : Int} {kd : Int} {ka : Int} {kf : Nat → Int} {kt : Nat → Int} {kw : Nat → Int} {kc : Nat → Int} {dn1 : Int} {dd1 : Int} {da1 : Int} {df1 : Nat → Int} {dt1 : Nat → Int} {dw1 : Nat → Int} {dc1 : Nat → Int} : DG (CG Γ cI cJ cZ cT a ct rv th dn dd da df dt dw dc kn kd ka kf kt kw kc) cI cJ cZ cT (a + 2) dn1 dd1 da1 df1 dt1 dw1 dc1 = CG Γ cI cJ cZ cT a ct rv th dn1 dd1 da1 df1 dt1 dw1 dc1 kn kd ka kf kt kw kc := by
  funext q
  by_cases hq : a ≤ q ∧ q < a + 14
  · obtain ⟨j, hj, rfl⟩ : ∃ j, j < 14 ∧ q = a + j := ⟨q - a, by omega, by omega⟩
    match j, hj with
    | 0, _ => rw [DG_o (by omega)]; exact (CG_e 0 (by decide) rfl).trans (CG_e 0 (by decide) rfl).symm
    | 1, _ => rw [DG_o (by omega)]; exact (CG_e 1 (by decide) rfl).trans (CG_e 1 (by decide) rfl).symm
    | 2, _ => exact (DG_e (s := a + 2) 0 (by decide) rfl).trans (CG_e 2 (by decide) rfl).symm
    | 3, _ => exact (DG_e (s := a + 2) 1 (by decide) rfl).trans (CG_e 3 (by decide) rfl).symm
    | 4, _ => exact (DG_e (s := a + 2) 2 (by decide) rfl).trans (CG_e 4 (by decide) rfl).symm
    | 5, _ => exact (DG_e (s := a + 2) 3 (by decide) rfl).trans (CG_e 5 (by decide) rfl).symm
    | 6, _ => exact (DG_e (s := a + 2) 4 (by decide) rfl).trans (CG_e 6 (by decide) rfl).symm
    | 7, _ => exact (DG_e (s := a + 2) 5 (by decide) rfl).trans (CG_e 7 (by decide) rfl).symm
    | 8, _ => rw [DG_o (by omega)]; exact (CG_e 8 (by decide) rfl).trans (CG_e 8 (by decide) rfl).symm
    | 9, _ => rw [DG_o (by omega)]; exact (CG_e 9 (by decide) rfl).trans (CG_e 9 (by decide) rfl).symm
    | 10, _ => rw [DG_o (by omega)]; exact (CG_e 10 (by decide) rfl).trans (CG_e 10 (by decide) rfl).symm
    | 11, _ => rw [DG_o (by omega)]; exact (CG_e 11 (by decide) rfl).trans (CG_e 11 (by decide) rfl).symm
    | 12, _ => rw [DG_o (by omega)]; exact (CG_e 12 (by decide) rfl).trans (CG_e 12 (by decide) rfl).symm
    | 13, _ => rw [DG_o (by omega)]; exact (CG_e 13 (by decide) rfl).trans (CG_e 13 (by decide) rfl).symm
    | j + 14, hj => omega
  · rw [DG_o (by omega), CG_o (by omega), CG_o (by omega)]
theorem CG_sk {Γ : TG} {cI cJ cZ cT : ClassId} {a : Nat} {ct : Int} {rv : Int} {th : Nat → Option Nat} {dn : Int} {dd : Int} {da : Int} {df : Nat → Int} {dt : Nat → Int} {dw : Nat → Int} {dc : Nat → Int} {kn : Int} {kd : Int} {ka : Int} {kf : Nat → Int} {kt : Nat → Int} {kw : Nat → Int} {kc : Nat → Int} {kn1 : Int} {kd1 : Int} {ka1 : Int} {kf1 : Nat → Int} {kt1 : Nat → Int} {kw1 : Nat → Int} {kc1 : Nat → Int} : DG (CG Γ cI cJ cZ cT a ct rv th dn dd da df dt dw dc kn kd ka kf kt kw kc) cI cJ cZ cT (a + 8) kn1 kd1 ka1 kf1 kt1 kw1 kc1 = CG Γ cI cJ cZ cT a ct rv th dn dd da df dt dw dc kn1 kd1 ka1 kf1 kt1 kw1 kc1 := by
  funext q
  by_cases hq : a ≤ q ∧ q < a + 14
  · obtain ⟨j, hj, rfl⟩ : ∃ j, j < 14 ∧ q = a + j := ⟨q - a, by omega, by omega⟩
    match j, hj with
    | 0, _ => rw [DG_o (by omega)]; exact (CG_e 0 (by decide) rfl).trans (CG_e 0 (by decide) rfl).symm
    | 1, _ => rw [DG_o (by omega)]; exact (CG_e 1 (by decide) rfl).trans (CG_e 1 (by decide) rfl).symm
    | 2, _ => rw [DG_o (by omega)]; exact (CG_e 2 (by decide) rfl).trans (CG_e 2 (by decide) rfl).symm
    | 3, _ => rw [DG_o (by omega)]; exact (CG_e 3 (by decide) rfl).trans (CG_e 3 (by decide) rfl).symm
    | 4, _ => rw [DG_o (by omega)]; exact (CG_e 4 (by decide) rfl).trans (CG_e 4 (by decide) rfl).symm
    | 5, _ => rw [DG_o (by omega)]; exact (CG_e 5 (by decide) rfl).trans (CG_e 5 (by decide) rfl).symm
    | 6, _ => rw [DG_o (by omega)]; exact (CG_e 6 (by decide) rfl).trans (CG_e 6 (by decide) rfl).symm
    | 7, _ => rw [DG_o (by omega)]; exact (CG_e 7 (by decide) rfl).trans (CG_e 7 (by decide) rfl).symm
    | 8, _ => exact (DG_e (s := a + 8) 0 (by decide) rfl).trans (CG_e 8 (by decide) rfl).symm
    | 9, _ => exact (DG_e (s := a + 8) 1 (by decide) rfl).trans (CG_e 9 (by decide) rfl).symm
    | 10, _ => exact (DG_e (s := a + 8) 2 (by decide) rfl).trans (CG_e 10 (by decide) rfl).symm
    | 11, _ => exact (DG_e (s := a + 8) 3 (by decide) rfl).trans (CG_e 11 (by decide) rfl).symm
    | 12, _ => exact (DG_e (s := a + 8) 4 (by decide) rfl).trans (CG_e 12 (by decide) rfl).symm
    | 13, _ => exact (DG_e (s := a + 8) 5 (by decide) rfl).trans (CG_e 13 (by decide) rfl).symm
    | j + 14, hj => omega
  · rw [DG_o (by omega), CG_o (by omega), CG_o (by omega)]
theorem CGw_th {Γ : TG} {cI cJ cZ cT : ClassId} {a : Nat} {ct : Int} {rv : Int} {th : Nat → Option Nat} {dn : Int} {dd : Int} {da : Int} {df : Nat → Int} {dt : Nat → Int} {dw : Nat → Int} {dc : Nat → Int} {kn : Int} {kd : Int} {ka : Int} {kf : Nat → Int} {kt : Nat → Int} {kw : Nat → Int} {kc : Nat → Int} {hp : MH} {f : Nat → Option Nat} (ht : Tw (ov (CG Γ cI cJ cZ cT a ct rv th dn dd da df dt dw dc kn kd ka kf kt kw kc) (a + 1) (xQ cT 120 f)) hp) : Tw (CG Γ cI cJ cZ cT a ct rv f dn dd da df dt dw dc kn kd ka kf kt kw kc) hp := CG_w 1 (by decide) rfl ht
theorem TyG.cg {Γ : TG} {cI cJ cZ cT : ClassId} {ga : Nat} {gF : Nat} {gT : Nat} {gW : Nat} {gC : Nat} {gTl : Nat} {gHd : Nat} {gBy : Nat} {gOu : Nat} {gIn : Nat} {gJo : Nat} {gn : Nat} {gm : Nat} {gq : Nat} {gdr : Int} {a : Nat} {ct : Int} {rv : Int} {th : Nat → Option Nat} {dn : Int} {dd : Int} {da : Int} {df : Nat → Int} {dt : Nat → Int} {dw : Nat → Int} {dc : Nat → Int} {kn : Int} {kd : Int} {ka : Int} {kf : Nat → Int} {kt : Nat → Int} {kw : Nat → Int} {kc : Nat → Int} (hlt : a + 14 ≤ ga ∧ a + 14 ≤ gF ∧ a + 14 ≤ gT ∧ a + 14 ≤ gW ∧ a + 14 ≤ gC ∧ a + 14 ≤ gTl ∧ a + 14 ≤ gHd ∧ a + 14 ≤ gBy ∧ a + 14 ≤ gOu ∧ a + 14 ≤ gIn ∧ a + 14 ≤ gJo) (h : TyG Γ cI cJ cZ ga gF gT gW gC gTl gHd gBy gOu gIn gJo gn gm gq gdr) : TyG (CG Γ cI cJ cZ cT a ct rv th dn dd da df dt dw dc kn kd ka kf kt kw kc) cI cJ cZ ga gF gT gW gC gTl gHd gBy gOu gIn gJo gn gm gq gdr := ⟨rd_CG (by omega) h.1, rd_CG (by omega) h.2.1, rd_CG (by omega) h.2.2.1, rd_CG (by omega) h.2.2.2.1, rd_CG (by omega) h.2.2.2.2.1, rd_CG (by omega) h.2.2.2.2.2.1, rd_CG (by omega) h.2.2.2.2.2.2.1, rd_CG (by omega) h.2.2.2.2.2.2.2.1, rd_CG (by omega) h.2.2.2.2.2.2.2.2.1, rd_CG (by omega) h.2.2.2.2.2.2.2.2.2.1, rd_CG (by omega) h.2.2.2.2.2.2.2.2.2.2.1, h.2.2.2.2.2.2.2.2.2.2.2⟩
theorem TyC.cg {Γ : TG} {cI cJ cZ cT : ClassId} {ga : Nat} {gM : Nat} {gn : Nat} {a : Nat} {ct : Int} {rv : Int} {th : Nat → Option Nat} {dn : Int} {dd : Int} {da : Int} {df : Nat → Int} {dt : Nat → Int} {dw : Nat → Int} {dc : Nat → Int} {kn : Int} {kd : Int} {ka : Int} {kf : Nat → Int} {kt : Nat → Int} {kw : Nat → Int} {kc : Nat → Int} (hlt : a + 14 ≤ ga ∧ a + 14 ≤ gM) (h : TyC Γ cI cJ cZ ga gM gn) : TyC (CG Γ cI cJ cZ cT a ct rv th dn dd da df dt dw dc kn kd ka kf kt kw kc) cI cJ cZ ga gM gn := ⟨rd_CG (by omega) h.1, rd_CG (by omega) h.2.1, h.2.2⟩
theorem TyCw.cg {Γ : TG} {cI cJ cZ cT : ClassId} {ga : Nat} {gM : Nat} {gn : Nat} {a : Nat} {ct : Int} {rv : Int} {th : Nat → Option Nat} {dn : Int} {dd : Int} {da : Int} {df : Nat → Int} {dt : Nat → Int} {dw : Nat → Int} {dc : Nat → Int} {kn : Int} {kd : Int} {ka : Int} {kf : Nat → Int} {kt : Nat → Int} {kw : Nat → Int} {kc : Nat → Int} (hlt : a + 14 ≤ ga ∧ a + 14 ≤ gM) (h : TyCw Γ cI cJ cZ ga gM gn) : TyCw (CG Γ cI cJ cZ cT a ct rv th dn dd da df dt dw dc kn kd ka kf kt kw kc) cI cJ cZ ga gM gn := ⟨rd_CG (by omega) h.1, eq_CG (by omega) h.2.1, h.2.2⟩
theorem TyP.cg {Γ : TG} {cI cJ cZ cT : ClassId} {ga : Nat} {gN : Nat} {gO : Nat} {gn : Nat} {gz : Nat} {a : Nat} {ct : Int} {rv : Int} {th : Nat → Option Nat} {dn : Int} {dd : Int} {da : Int} {df : Nat → Int} {dt : Nat → Int} {dw : Nat → Int} {dc : Nat → Int} {kn : Int} {kd : Int} {ka : Int} {kf : Nat → Int} {kt : Nat → Int} {kw : Nat → Int} {kc : Nat → Int} (hlt : a + 14 ≤ ga ∧ a + 14 ≤ gN ∧ a + 14 ≤ gO) (h : TyP Γ cI cJ cZ ga gN gO gn gz) : TyP (CG Γ cI cJ cZ cT a ct rv th dn dd da df dt dw dc kn kd ka kf kt kw kc) cI cJ cZ ga gN gO gn gz := ⟨rd_CG (by omega) h.1, rd_CG (by omega) h.2.1, rd_CG (by omega) h.2.2.1, h.2.2.2⟩
theorem TyW.cg {Γ : TG} {cI cJ cZ cT : ClassId} {ga : Nat} {gn : Nat} {a : Nat} {ct : Int} {rv : Int} {th : Nat → Option Nat} {dn : Int} {dd : Int} {da : Int} {df : Nat → Int} {dt : Nat → Int} {dw : Nat → Int} {dc : Nat → Int} {kn : Int} {kd : Int} {ka : Int} {kf : Nat → Int} {kt : Nat → Int} {kw : Nat → Int} {kc : Nat → Int} (hlt : a + 14 ≤ ga ∧ a + 14 ≤ (ga + 1) ∧ a + 14 ≤ (ga + 2) ∧ a + 14 ≤ (ga + 3) ∧ a + 14 ≤ (ga + 4) ∧ a + 14 ≤ (ga + 5)) (h : TyW Γ cI cJ cZ ga gn) : TyW (CG Γ cI cJ cZ cT a ct rv th dn dd da df dt dw dc kn kd ka kf kt kw kc) cI cJ cZ ga gn := ⟨rd_CG (by omega) h.1, rd_CG (by omega) h.2.1, rd_CG (by omega) h.2.2.1, rd_CG (by omega) h.2.2.2.1, rd_CG (by omega) h.2.2.2.2.1, rd_CG (by omega) h.2.2.2.2.2.1, h.2.2.2.2.2.2⟩
theorem TyShape.cg {Γ : TG} {cI cJ cZ cT : ClassId} {gs : Nat} {a : Nat} {ct : Int} {rv : Int} {th : Nat → Option Nat} {dn : Int} {dd : Int} {da : Int} {df : Nat → Int} {dt : Nat → Int} {dw : Nat → Int} {dc : Nat → Int} {kn : Int} {kd : Int} {ka : Int} {kf : Nat → Int} {kt : Nat → Int} {kw : Nat → Int} {kc : Nat → Int} (hlt : a + 14 ≤ gs ∧ a + 14 ≤ (gs + 1)) (h : TyShape Γ cI cJ cZ gs) : TyShape (CG Γ cI cJ cZ cT a ct rv th dn dd da df dt dw dc kn kd ka kf kt kw kc) cI cJ cZ gs := ⟨eq_CG (by omega) h.1, eq_CG (by omega) h.2⟩
theorem TySets.cg {Γ : TG} {cI cJ cZ cT : ClassId} {gs : Nat} {a : Nat} {ct : Int} {rv : Int} {th : Nat → Option Nat} {dn : Int} {dd : Int} {da : Int} {df : Nat → Int} {dt : Nat → Int} {dw : Nat → Int} {dc : Nat → Int} {kn : Int} {kd : Int} {ka : Int} {kf : Nat → Int} {kt : Nat → Int} {kw : Nat → Int} {kc : Nat → Int} (hlt : a + 14 ≤ gs ∧ a + 14 ≤ (gs + 1) ∧ a + 14 ≤ (gs + 2) ∧ a + 14 ≤ (gs + 3) ∧ a + 14 ≤ (gs + 4) ∧ a + 14 ≤ (gs + 5)) (h : TySets Γ cI cJ cZ gs) : TySets (CG Γ cI cJ cZ cT a ct rv th dn dd da df dt dw dc kn kd ka kf kt kw kc) cI cJ cZ gs := ⟨eq_CG (by omega) h.1, eq_CG (by omega) h.2.1, eq_CG (by omega) h.2.2.1, eq_CG (by omega) h.2.2.2.1, eq_CG (by omega) h.2.2.2.2.1, eq_CG (by omega) h.2.2.2.2.2⟩
theorem TyPairs.cg {Γ : TG} {cI cJ cZ cT : ClassId} {gs : Nat} {a : Nat} {ct : Int} {rv : Int} {th : Nat → Option Nat} {dn : Int} {dd : Int} {da : Int} {df : Nat → Int} {dt : Nat → Int} {dw : Nat → Int} {dc : Nat → Int} {kn : Int} {kd : Int} {ka : Int} {kf : Nat → Int} {kt : Nat → Int} {kw : Nat → Int} {kc : Nat → Int} (hlt : a + 14 ≤ gs ∧ a + 14 ≤ (gs + 1) ∧ a + 14 ≤ (gs + 2) ∧ a + 14 ≤ (gs + 3) ∧ a + 14 ≤ (gs + 4)) (h : TyPairs Γ cI cJ cZ gs) : TyPairs (CG Γ cI cJ cZ cT a ct rv th dn dd da df dt dw dc kn kd ka kf kt kw kc) cI cJ cZ gs := ⟨eq_CG (by omega) h.1, eq_CG (by omega) h.2.1, eq_CG (by omega) h.2.2.1, eq_CG (by omega) h.2.2.2.1, eq_CG (by omega) h.2.2.2.2⟩
theorem TyFlows.cg {Γ : TG} {cI cJ cZ cT : ClassId} {gs : Nat} {a : Nat} {ct : Int} {rv : Int} {th : Nat → Option Nat} {dn : Int} {dd : Int} {da : Int} {df : Nat → Int} {dt : Nat → Int} {dw : Nat → Int} {dc : Nat → Int} {kn : Int} {kd : Int} {ka : Int} {kf : Nat → Int} {kt : Nat → Int} {kw : Nat → Int} {kc : Nat → Int} (hlt : a + 14 ≤ gs ∧ a + 14 ≤ (gs + 1) ∧ a + 14 ≤ (gs + 2) ∧ a + 14 ≤ (gs + 3) ∧ a + 14 ≤ (gs + 4) ∧ a + 14 ≤ (gs + 5) ∧ a + 14 ≤ (gs + 6) ∧ a + 14 ≤ (gs + 7) ∧ a + 14 ≤ (gs + 8)) (h : TyFlows Γ cI cJ cZ gs) : TyFlows (CG Γ cI cJ cZ cT a ct rv th dn dd da df dt dw dc kn kd ka kf kt kw kc) cI cJ cZ gs := ⟨eq_CG (by omega) h.1, eq_CG (by omega) h.2.1, eq_CG (by omega) h.2.2.1, eq_CG (by omega) h.2.2.2.1, eq_CG (by omega) h.2.2.2.2.1, eq_CG (by omega) h.2.2.2.2.2.1, eq_CG (by omega) h.2.2.2.2.2.2.1, eq_CG (by omega) h.2.2.2.2.2.2.2.1, eq_CG (by omega) h.2.2.2.2.2.2.2.2⟩
def EK (Γ : TG) (cI cJ cZ : ClassId) (a : Nat) (ct : Int) (th : Nat → Option Nat) (dn : Int) (dd : Int) (da : Int) (df : Nat → Int) (dt : Nat → Int) (dw : Nat → Int) (dc : Nat → Int) (kn : Int) (kd : Int) (ka : Int) : Prop := (0 ≤ ct ∧ ct ≤ 120) ∧ (∀ i : Nat, (i : Int) < ct → ∃ t : Nat, th i = some t ∧ ThA Γ cI cJ cZ a t) ∧ ((1 ≤ dn ∧ dn ≤ 16) ∧ (0 ≤ dd ∧ dd ≤ 1) ∧ (0 ≤ da ∧ da ≤ 60) ∧ arP df dt dw dc da dn) ∧ ((1 ≤ kn ∧ kn ≤ 16) ∧ (0 ≤ kd ∧ kd ≤ 1) ∧ (0 ≤ ka ∧ ka ≤ 60)) ∧ TyShape Γ cI cJ cZ (a + 14) ∧ TySets Γ cI cJ cZ (a + 16) ∧ TyPairs Γ cI cJ cZ (a + 22) ∧ TyFlows Γ cI cJ cZ (a + 27) ∧ TySm Γ cI cJ (a + 36)
theorem EK.ext {Γ : TG} {cI cJ cZ : ClassId} {a : Nat} {ct : Int} {th : Nat → Option Nat} {dn : Int} {dd : Int} {da : Int} {df : Nat → Int} {dt : Nat → Int} {dw : Nat → Int} {dc : Nat → Int} {kn : Int} {kd : Int} {ka : Int} {Γ1 : TG} (hE : Ext Γ Γ1) (h : EK Γ cI cJ cZ a ct th dn dd da df dt dw dc kn kd ka) : EK Γ1 cI cJ cZ a ct th dn dd da df dt dw dc kn kd ka := by
  obtain ⟨h1, h2, h3, h4, h5, h6, h7, h8, h9⟩ := h
  refine ⟨h1, fun i hi => ?_, h3, h4, TyShape.ext hE h5, TySets.ext hE h6, TyPairs.ext hE h7, TyFlows.ext hE h8, TySm.ext hE h9⟩
  obtain ⟨t, e1, e2⟩ := h2 i hi
  exact ⟨t, e1, ThA.ext hE e2⟩
theorem EK.keep {Γ : TG} {cI cJ cZ : ClassId} {a : Nat} {ct : Int} {th : Nat → Option Nat} {dn : Int} {dd : Int} {da : Int} {df : Nat → Int} {dt : Nat → Int} {dw : Nat → Int} {dc : Nat → Int} {kn : Int} {kd : Int} {ka : Int} {t : Nat} (h : EK Γ cI cJ cZ a ct th dn dd da df dt dw dc kn kd ka) (hc : ct < 120) (ht : ThA Γ cI cJ cZ a t) : EK Γ cI cJ cZ a (ct + 1) (va_up th ct.toNat (some t)) dn dd da df dt dw dc kn kd ka := by
  obtain ⟨h1, h2, h3⟩ := h
  refine ⟨by omega, fun i hi => ?_, h3⟩
  by_cases hq : i = ct.toNat
  · exact ⟨t, by simp [va_up, hq], ht⟩
  · obtain ⟨u, e1, e2⟩ := h2 i (by omega)
    exact ⟨u, by simp only [va_up, if_neg hq]; exact e1, e2⟩
theorem EK.drop {Γ : TG} {cI cJ cZ : ClassId} {a : Nat} {ct : Int} {th : Nat → Option Nat} {dn : Int} {dd : Int} {da : Int} {df : Nat → Int} {dt : Nat → Int} {dw : Nat → Int} {dc : Nat → Int} {kn : Int} {kd : Int} {ka : Int} (h : EK Γ cI cJ cZ a ct th dn dd da df dt dw dc kn kd ka) (hc : 0 < ct) : EK Γ cI cJ cZ a (ct - 1) (va_up th (ct - 1).toNat none) dn dd da df dt dw dc kn kd ka := by
  obtain ⟨h1, h2, h3⟩ := h
  refine ⟨by omega, fun i hi => ?_, h3⟩
  obtain ⟨u, e1, e2⟩ := h2 i (by omega)
  exact ⟨u, by simp only [va_up, if_neg (show ¬ i = (ct - 1).toNat by omega)]; exact e1, e2⟩
theorem EK.sk {Γ : TG} {cI cJ cZ : ClassId} {a : Nat} {ct : Int} {th : Nat → Option Nat} {dn : Int} {dd : Int} {da : Int} {df : Nat → Int} {dt : Nat → Int} {dw : Nat → Int} {dc : Nat → Int} {kn : Int} {kd : Int} {ka : Int} {kn1 kd1 ka1 : Int} (h : EK Γ cI cJ cZ a ct th dn dd da df dt dw dc kn kd ka) (hn : 1 ≤ kn1 ∧ kn1 ≤ 16) (hd : 0 ≤ kd1 ∧ kd1 ≤ 1) (ha : 0 ≤ ka1 ∧ ka1 ≤ 60) : EK Γ cI cJ cZ a ct th dn dd da df dt dw dc kn1 kd1 ka1 := by
  obtain ⟨h1, h2, h3, h4, h5⟩ := h
  exact ⟨h1, h2, h3, ⟨hn, hd, ha⟩, h5⟩
theorem EK.dr {Γ : TG} {cI cJ cZ : ClassId} {a : Nat} {ct : Int} {th : Nat → Option Nat} {dn : Int} {dd : Int} {da : Int} {df : Nat → Int} {dt : Nat → Int} {dw : Nat → Int} {dc : Nat → Int} {kn : Int} {kd : Int} {ka : Int} {dn1 dd1 da1 : Int} {df1 dt1 dw1 dc1 : Nat → Int} (h : EK Γ cI cJ cZ a ct th dn dd da df dt dw dc kn kd ka) (hn : 1 ≤ dn1 ∧ dn1 ≤ 16) (hd : 0 ≤ dd1 ∧ dd1 ≤ 1) (ha : 0 ≤ da1 ∧ da1 ≤ 60) (hr : arP df1 dt1 dw1 dc1 da1 dn1) : EK Γ cI cJ cZ a ct th dn1 dd1 da1 df1 dt1 dw1 dc1 kn kd ka := by
  obtain ⟨h1, h2, h3, h4⟩ := h
  exact ⟨h1, h2, ⟨hn, hd, ha, hr⟩, h4⟩
theorem CG_obj {Γ : TG} {cI cJ cZ cT : ClassId} {a : Nat} {ct : Int} {rv : Int} {th : Nat → Option Nat} {dn : Int} {dd : Int} {da : Int} {df : Nat → Int} {dt : Nat → Int} {dw : Nat → Int} {dc : Nat → Int} {kn : Int} {kd : Int} {ka : Int} {kf : Nat → Int} {kt : Nat → Int} {kw : Nat → Int} {kc : Nat → Int} {hp : MH} (hc : 0 ≤ ct) (ht : Tw (CG Γ cI cJ cZ cT a ct rv th dn dd da df dt dw dc kn kd ka kf kt kw kc) hp) : hp a = some (.inr (10, [.ref (a + 1), .int (nI ct.toNat), .int (iv rv), .ref (a + 2), .ref (a + 8), .ref (a + 14), .ref (a + 16), .ref (a + 22), .ref (a + 27), .ref (a + 36)])) := by
  obtain ⟨e, h1, h2⟩ := ht a _ CG_0
  have h3 := tO_ex (vs := [.ref (a + 1), .int (iv ct), .int (iv rv), .ref (a + 2), .ref (a + 8), .ref (a + 14), .ref (a + 16), .ref (a + 22), .ref (a + 27), .ref (a + 36)]) h2
  rw [h1, h3, iv_nI hc]
theorem CG_th {Γ : TG} {cI cJ cZ cT : ClassId} {a : Nat} {ct : Int} {rv : Int} {th : Nat → Option Nat} {dn : Int} {dd : Int} {da : Int} {df : Nat → Int} {dt : Nat → Int} {dw : Nat → Int} {dc : Nat → Int} {kn : Int} {kd : Int} {ka : Int} {kf : Nat → Int} {kt : Nat → Int} {kw : Nat → Int} {kc : Nat → Int} {hp : MH} (ht : Tw (CG Γ cI cJ cZ cT a ct rv th dn dd da df dt dw dc kn kd ka kf kt kw kc) hp) : ∃ f : Nat → Option Nat, hp (a + 1) = some (.inl (cT, 120, .inr (.inr (.inr (.inr f))))) ∧ ∀ i, i < 120 → f i = th i := by
  obtain ⟨e, h1, f, rfl, h2⟩ := ht (a + 1) _ CG_1
  exact ⟨f, h1, h2⟩
def qE (Γ : TG) (cI cJ cZ cT : ClassId) (a : Nat) (dn dd da : Int) (df dt dw dc : Nat → Int) (n : Nat) (Q : Option Value → Prop) : Option Value → MH → Nat → Prop := fun r hp1 n1 => n ≤ n1 ∧ ∃ (Γ1 : TG) (ct rv : Int) (th : Nat → Option Nat) (kn kd ka : Int) (kf kt kw kc : Nat → Int), Ext Γ Γ1 ∧ Tw (CG Γ1 cI cJ cZ cT a ct rv th dn dd da df dt dw dc kn kd ka kf kt kw kc) hp1 ∧ EK Γ1 cI cJ cZ a ct th dn dd da df dt dw dc kn kd ka ∧ (-2147483648 ≤ rv ∧ rv ≤ 2147483647) ∧ Q r
def qI (lo hi : Int) : Option Value → Prop := fun r => ∃ v : Int, r = some (.int (iv v)) ∧ lo ≤ v ∧ v ≤ hi
def qL : Option Value → Prop := fun r => ∃ v : Int64, r = some (.long v)
theorem len2 {fs : List Value} (h : fs.length = 2) : ∃ v0 v1 : Value, fs = [v0, v1] := by
  rcases fs with _ | ⟨v0, _ | ⟨v1, _ | ⟨w, fs⟩⟩⟩
  all_goals first | exact ⟨_, _, rfl⟩ | (simp at h)
theorem len4 {fs : List Value} (h : fs.length = 4) : ∃ v0 v1 v2 v3 : Value, fs = [v0, v1, v2, v3] := by
  rcases fs with _ | ⟨v0, _ | ⟨v1, _ | ⟨v2, _ | ⟨v3, _ | ⟨w, fs⟩⟩⟩⟩⟩
  all_goals first | exact ⟨_, _, _, _, rfl⟩ | (simp at h)
theorem len6 {fs : List Value} (h : fs.length = 6) : ∃ v0 v1 v2 v3 v4 v5 : Value, fs = [v0, v1, v2, v3, v4, v5] := by
  rcases fs with _ | ⟨v0, _ | ⟨v1, _ | ⟨v2, _ | ⟨v3, _ | ⟨v4, _ | ⟨v5, _ | ⟨w, fs⟩⟩⟩⟩⟩⟩⟩
  all_goals first | exact ⟨_, _, _, _, _, _, rfl⟩ | (simp at h)
theorem len14 {fs : List Value} (h : fs.length = 14) : ∃ v0 v1 v2 v3 v4 v5 v6 v7 v8 v9 v10 v11 v12 v13 : Value, fs = [v0, v1, v2, v3, v4, v5, v6, v7, v8, v9, v10, v11, v12, v13] := by
  rcases fs with _ | ⟨v0, _ | ⟨v1, _ | ⟨v2, _ | ⟨v3, _ | ⟨v4, _ | ⟨v5, _ | ⟨v6, _ | ⟨v7, _ | ⟨v8, _ | ⟨v9, _ | ⟨v10, _ | ⟨v11, _ | ⟨v12, _ | ⟨v13, _ | ⟨w, fs⟩⟩⟩⟩⟩⟩⟩⟩⟩⟩⟩⟩⟩⟩⟩
  all_goals first | exact ⟨_, _, _, _, _, _, _, _, _, _, _, _, _, _, rfl⟩ | (simp at h)
theorem t_objL {Γ : TG} {hp : MH} {ci a : Nat} {Fs : List (Value → Prop)} (ht : Tw Γ hp) (hΓ : rd Γ a (tO ci Fs)) : ∃ fs : List Value, hp a = some (.inr (ci, fs)) ∧ fs.length = Fs.length := by
  obtain ⟨e, h1, fs, rfl, h2, -⟩ := rd_at ht hΓ
  exact ⟨fs, h1, h2⟩
theorem ThG_obj {Γ : TG} {cI cJ cZ cT : ClassId} {a : Nat} {ct : Int} {rv : Int} {th : Nat → Option Nat} {dn : Int} {dd : Int} {da : Int} {df : Nat → Int} {dt : Nat → Int} {dw : Nat → Int} {dc : Nat → Int} {kn : Int} {kd : Int} {ka : Int} {kf : Nat → Int} {kt : Nat → Int} {kw : Nat → Int} {kc : Nat → Int} {hp : MH} {t : Nat} (ht : Tw (CG Γ cI cJ cZ cT a ct rv th dn dd da df dt dw dc kn kd ka kf kt kw kc) hp) (h : ThG Γ cI cJ cZ a t) : ∃ v0 v1 v2 v3 v4 v5 v6 v7 v8 v9 v10 v11 v12 v13 : Value, hp t = some (.inr (3, [v0, v1, v2, v3, v4, v5, v6, v7, v8, v9, v10, v11, v12, v13])) := by
  obtain ⟨gF, gT, gW, gC, gTl, gHd, gBy, gOu, gIn, gJo, gn, gm, gq, gdr, fF, fT, fW, fC, fTl, fHd, fBy, fOu, fIn, fJo, h1, h2, h5⟩ := h
  obtain ⟨fs, h3, h4⟩ := t_objL ht (rd_CG (by omega) h1.1)
  obtain ⟨v0, v1, v2, v3, v4, v5, v6, v7, v8, v9, v10, v11, v12, v13, rfl⟩ := len14 h4
  exact ⟨v0, v1, v2, v3, v4, v5, v6, v7, v8, v9, v10, v11, v12, v13, h3⟩
theorem ThC_obj {Γ : TG} {cI cJ cZ cT : ClassId} {a : Nat} {ct : Int} {rv : Int} {th : Nat → Option Nat} {dn : Int} {dd : Int} {da : Int} {df : Nat → Int} {dt : Nat → Int} {dw : Nat → Int} {dc : Nat → Int} {kn : Int} {kd : Int} {ka : Int} {kf : Nat → Int} {kt : Nat → Int} {kw : Nat → Int} {kc : Nat → Int} {hp : MH} {t : Nat} (ht : Tw (CG Γ cI cJ cZ cT a ct rv th dn dd da df dt dw dc kn kd ka kf kt kw kc) hp) (h : ThC Γ cI cJ cZ a t) : ∃ v0 v1 : Value, hp t = some (.inr (0, [v0, v1])) := by
  obtain ⟨cM, cn, h1, h2⟩ := h
  obtain ⟨fs, h3, h4⟩ := t_objL ht (rd_CG (by omega) h1.1)
  obtain ⟨v0, v1, rfl⟩ := len2 h4
  exact ⟨v0, v1, h3⟩
theorem ThW_obj {Γ : TG} {cI cJ cZ cT : ClassId} {a : Nat} {ct : Int} {rv : Int} {th : Nat → Option Nat} {dn : Int} {dd : Int} {da : Int} {df : Nat → Int} {dt : Nat → Int} {dw : Nat → Int} {dc : Nat → Int} {kn : Int} {kd : Int} {ka : Int} {kf : Nat → Int} {kt : Nat → Int} {kw : Nat → Int} {kc : Nat → Int} {hp : MH} {t : Nat} (ht : Tw (CG Γ cI cJ cZ cT a ct rv th dn dd da df dt dw dc kn kd ka kf kt kw kc) hp) (h : ThW Γ cI cJ cZ a t) : ∃ v0 v1 v2 v3 v4 v5 : Value, hp t = some (.inr (9, [v0, v1, v2, v3, v4, v5])) := by
  obtain ⟨wn, h1, h2⟩ := h
  obtain ⟨fs, h3, h4⟩ := t_objL ht (rd_CG (by omega) h1.1)
  obtain ⟨v0, v1, v2, v3, v4, v5, rfl⟩ := len6 h4
  exact ⟨v0, v1, v2, v3, v4, v5, h3⟩
theorem ThQ_obj {Γ : TG} {cI cJ cZ cT : ClassId} {a : Nat} {ct : Int} {rv : Int} {th : Nat → Option Nat} {dn : Int} {dd : Int} {da : Int} {df : Nat → Int} {dt : Nat → Int} {dw : Nat → Int} {dc : Nat → Int} {kn : Int} {kd : Int} {ka : Int} {kf : Nat → Int} {kt : Nat → Int} {kw : Nat → Int} {kc : Nat → Int} {hp : MH} {t : Nat} (ht : Tw (CG Γ cI cJ cZ cT a ct rv th dn dd da df dt dw dc kn kd ka kf kt kw kc) hp) (h : ThQ Γ cI cJ cZ a t) : ∃ v0 v1 v2 v3 : Value, hp t = some (.inr (5, [v0, v1, v2, v3])) := by
  obtain ⟨pN, pO, pn, pz, h1, h2⟩ := h
  obtain ⟨fs, h3, h4⟩ := t_objL ht (rd_CG (by omega) h1.1)
  obtain ⟨v0, v1, v2, v3, rfl⟩ := len4 h4
  exact ⟨v0, v1, v2, v3, h3⟩
theorem t_thingAt {D : va_G} {cI cJ cZ cT : ClassId} {lo b L : Nat} {xs : Nat → Int32} {M : MM} {d pc : Nat} {lv : List (Nat × Value)} {st : List Value} {hp : MH} {n kr wr : Nat} {Po : Option Value → MH → Nat → Prop} {Γ : TG} {a : Nat} {ct : Int} {rv : Int} {th : Nat → Option Nat} {dn : Int} {dd : Int} {da : Int} {df : Nat → Int} {dt : Nat → Int} {dw : Nat → Int} {dc : Nat → Int} {kn : Int} {kd : Int} {ka : Int} {kf : Nat → Int} {kt : Nat → Int} {kw : Nat → Int} {kc : Nat → Int} {ix : Nat} {x : Int} (hk : EK Γ cI cJ cZ a ct th dn dd da df dt dw dc kn kd ka) (ht : Tw (CG Γ cI cJ cZ cT a ct rv th dn dd da df dt dw dc kn kd ka kf kt kw kc) hp) (F : lkK (gG D cI cJ cZ cT lo b L xs) M.1.cls ix mX11_thingAt 1 ∧ Cond.instanceMethod mX11_thingAt.1 ∈ g_ws (gG D cI cJ cZ cT lo b L xs) ∧ Cond.selects RX11 mX11_thingAt.1 mX11_thingAt.1 ∈ g_ws (gG D cI cJ cZ cT lo b L xs) ∧ mX11_thingAt.1.cls = RX11) (hd : decode M.2.1 pc = .ok (.invokevirtual ix, 3)) (hdd : 3 ≤ d) (hst : (st.map fun v => v.category).sum ≤ 8) (hx : -2147483648 ≤ x ∧ x ≤ 2147483647) (k0 : (∀ hp1 : MH, Tw (CG Γ cI cJ cZ cT a ct rv th dn dd da df dt dw dc kn kd ka kf kt kw kc) hp1 → Rn (gG D cI cJ cZ cT lo b L xs) M d (pc + 3) lv (.null :: st) hp1 n kr wr Po)) (k1 : (∀ (hp1 : MH) (t : Nat), Tw (CG Γ cI cJ cZ cT a ct rv th dn dd da df dt dw dc kn kd ka kf kt kw kc) hp1 → ThA Γ cI cJ cZ a t → Rn (gG D cI cJ cZ cT lo b L xs) M d (pc + 3) lv (.ref t :: st) hp1 n kr wr Po)) : Rn (gG D cI cJ cZ cT lo b L xs) M d pc lv (.int (iv x) :: .ref a :: st) hp n kr wr Po := by
  have hct := hk.1
  have h0 := CG_obj hct.1 ht
  obtain ⟨f, h1, hf⟩ := CG_th ht
  by_cases hc : 0 ≤ x ∧ x < ct
  · obtain ⟨t, e1, e2⟩ := hk.2.1 x.toNat (by omega)
    have hft : f x.toNat = some t := (hf _ (by omega)).trans e1
    rw [iv_nI hc.1]
    refine r_callV (pc := pc) (as := [.int (nI x.toNat)]) (st := st) F rfl hd h0 (c_X11_thingAt_y (d := d - 1) (by omega) h0 h1 (by omega) (by omega) hft) rfl (by omega) hst (Nat.zero_le _) (Nat.zero_le _) rfl (fun r hp1 n1 hq => ?_)
    obtain ⟨rfl, rfl, hfr⟩ := hq
    exact k1 hp1 t (Tw_fr ht hfr) e2
  · have hno : iv x < 0 ∨ nI ct.toNat ≤ iv x := by
      rw [← iv_nI hct.1]
      have z0 : (0 : Int32) = iv 0 := rfl
      rcases Int.lt_or_le x 0 with h9 | h9
      · left; rw [z0, iv_lt (by omega) (by omega)]; exact h9
      · right; rw [iv_le (by omega) (by omega)]; omega
    refine r_callV (pc := pc) (as := [.int (iv x)]) (st := st) F rfl hd h0 (c_X11_thingAt_n (d := d - 1) (by omega) h0 hno) rfl (by omega) hst (Nat.zero_le _) (Nat.zero_le _) rfl (fun r hp1 n1 hq => ?_)
    obtain ⟨rfl, rfl, hfr⟩ := hq
    exact k0 hp1 (Tw_fr ht hfr)
theorem t_graphAt {D : va_G} {cI cJ cZ cT : ClassId} {lo b L : Nat} {xs : Nat → Int32} {M : MM} {d pc : Nat} {lv : List (Nat × Value)} {st : List Value} {hp : MH} {n kr wr : Nat} {Po : Option Value → MH → Nat → Prop} {Γ : TG} {a : Nat} {ct : Int} {rv : Int} {th : Nat → Option Nat} {dn : Int} {dd : Int} {da : Int} {df : Nat → Int} {dt : Nat → Int} {dw : Nat → Int} {dc : Nat → Int} {kn : Int} {kd : Int} {ka : Int} {kf : Nat → Int} {kt : Nat → Int} {kw : Nat → Int} {kc : Nat → Int} {ix : Nat} {x : Int} (hk : EK Γ cI cJ cZ a ct th dn dd da df dt dw dc kn kd ka) (ht : Tw (CG Γ cI cJ cZ cT a ct rv th dn dd da df dt dw dc kn kd ka kf kt kw kc) hp) (F : lkK (gG D cI cJ cZ cT lo b L xs) M.1.cls ix mX11_graphAt 1 ∧ Cond.instanceMethod mX11_graphAt.1 ∈ g_ws (gG D cI cJ cZ cT lo b L xs) ∧ Cond.selects RX11 mX11_graphAt.1 mX11_graphAt.1 ∈ g_ws (gG D cI cJ cZ cT lo b L xs) ∧ mX11_graphAt.1.cls = RX11) (hd : decode M.2.1 pc = .ok (.invokevirtual ix, 3)) (hdd : 3 ≤ d) (hst : (st.map fun v => v.category).sum ≤ 8) (hx : -2147483648 ≤ x ∧ x ≤ 2147483647) (k0 : (∀ hp1 : MH, Tw (CG Γ cI cJ cZ cT a ct rv th dn dd da df dt dw dc kn kd ka kf kt kw kc) hp1 → Rn (gG D cI cJ cZ cT lo b L xs) M d (pc + 3) lv (.null :: st) hp1 n kr wr Po)) (k1 : (∀ (hp1 : MH) (t : Nat), Tw (CG Γ cI cJ cZ cT a ct rv th dn dd da df dt dw dc kn kd ka kf kt kw kc) hp1 → ThG Γ cI cJ cZ a t → Rn (gG D cI cJ cZ cT lo b L xs) M d (pc + 3) lv (.ref t :: st) hp1 n kr wr Po)) : Rn (gG D cI cJ cZ cT lo b L xs) M d pc lv (.int (iv x) :: .ref a :: st) hp n kr wr Po := by
  have hct := hk.1
  have h0 := CG_obj hct.1 ht
  obtain ⟨f, h1, hf⟩ := CG_th ht
  by_cases hc : 0 ≤ x ∧ x < ct
  · obtain ⟨t, e1, e2⟩ := hk.2.1 x.toNat (by omega)
    have hft : f x.toNat = some t := (hf _ (by omega)).trans e1
    rw [iv_nI hc.1]
    rcases e2 with hT | hT | hT | hT
    · obtain ⟨v0, v1, v2, v3, v4, v5, v6, v7, v8, v9, v10, v11, v12, v13, hob⟩ := ThG_obj ht hT
      refine r_callV (pc := pc) (as := [.int (nI x.toNat)]) (st := st) F rfl hd h0 (c_X11_graphAt_X3 (d := d - 1) (by omega) h0 h1 hob (by omega) (by omega) hft) rfl (by omega) hst (Nat.zero_le _) (Nat.zero_le _) rfl (fun r hp1 n1 hq => ?_)
      obtain ⟨rfl, rfl, hfr⟩ := hq
      exact k1 hp1 t (Tw_fr ht hfr) hT
    · obtain ⟨v0, v1, hob⟩ := ThC_obj ht hT
      refine r_callV (pc := pc) (as := [.int (nI x.toNat)]) (st := st) F rfl hd h0 (c_X11_graphAt_X0 (d := d - 1) (by omega) h0 h1 hob (by omega) (by omega) hft) rfl (by omega) hst (Nat.zero_le _) (Nat.zero_le _) rfl (fun r hp1 n1 hq => ?_)
      obtain ⟨rfl, rfl, hfr⟩ := hq
      exact k0 hp1 (Tw_fr ht hfr)
    · obtain ⟨v0, v1, v2, v3, v4, v5, hob⟩ := ThW_obj ht hT
      refine r_callV (pc := pc) (as := [.int (nI x.toNat)]) (st := st) F rfl hd h0 (c_X11_graphAt_X10 (d := d - 1) (by omega) h0 h1 hob (by omega) (by omega) hft) rfl (by omega) hst (Nat.zero_le _) (Nat.zero_le _) rfl (fun r hp1 n1 hq => ?_)
      obtain ⟨rfl, rfl, hfr⟩ := hq
      exact k0 hp1 (Tw_fr ht hfr)
    · obtain ⟨v0, v1, v2, v3, hob⟩ := ThQ_obj ht hT
      refine r_callV (pc := pc) (as := [.int (nI x.toNat)]) (st := st) F rfl hd h0 (c_X11_graphAt_X5 (d := d - 1) (by omega) h0 h1 hob (by omega) (by omega) hft) rfl (by omega) hst (Nat.zero_le _) (Nat.zero_le _) rfl (fun r hp1 n1 hq => ?_)
      obtain ⟨rfl, rfl, hfr⟩ := hq
      exact k0 hp1 (Tw_fr ht hfr)
  · have hno : iv x < 0 ∨ nI ct.toNat ≤ iv x := by
      rw [← iv_nI hct.1]
      have z0 : (0 : Int32) = iv 0 := rfl
      rcases Int.lt_or_le x 0 with h9 | h9
      · left; rw [z0, iv_lt (by omega) (by omega)]; exact h9
      · right; rw [iv_le (by omega) (by omega)]; omega
    refine r_callV (pc := pc) (as := [.int (iv x)]) (st := st) F rfl hd h0 (c_X11_graphAt_n (d := d - 1) (by omega) h0 hno) rfl (by omega) hst (Nat.zero_le _) (Nat.zero_le _) rfl (fun r hp1 n1 hq => ?_)
    obtain ⟨rfl, rfl, hfr⟩ := hq
    exact k0 hp1 (Tw_fr ht hfr)
theorem t_columnAt {D : va_G} {cI cJ cZ cT : ClassId} {lo b L : Nat} {xs : Nat → Int32} {M : MM} {d pc : Nat} {lv : List (Nat × Value)} {st : List Value} {hp : MH} {n kr wr : Nat} {Po : Option Value → MH → Nat → Prop} {Γ : TG} {a : Nat} {ct : Int} {rv : Int} {th : Nat → Option Nat} {dn : Int} {dd : Int} {da : Int} {df : Nat → Int} {dt : Nat → Int} {dw : Nat → Int} {dc : Nat → Int} {kn : Int} {kd : Int} {ka : Int} {kf : Nat → Int} {kt : Nat → Int} {kw : Nat → Int} {kc : Nat → Int} {ix : Nat} {x : Int} (hk : EK Γ cI cJ cZ a ct th dn dd da df dt dw dc kn kd ka) (ht : Tw (CG Γ cI cJ cZ cT a ct rv th dn dd da df dt dw dc kn kd ka kf kt kw kc) hp) (F : lkK (gG D cI cJ cZ cT lo b L xs) M.1.cls ix mX11_columnAt 1 ∧ Cond.instanceMethod mX11_columnAt.1 ∈ g_ws (gG D cI cJ cZ cT lo b L xs) ∧ Cond.selects RX11 mX11_columnAt.1 mX11_columnAt.1 ∈ g_ws (gG D cI cJ cZ cT lo b L xs) ∧ mX11_columnAt.1.cls = RX11) (hd : decode M.2.1 pc = .ok (.invokevirtual ix, 3)) (hdd : 3 ≤ d) (hst : (st.map fun v => v.category).sum ≤ 8) (hx : -2147483648 ≤ x ∧ x ≤ 2147483647) (k0 : (∀ hp1 : MH, Tw (CG Γ cI cJ cZ cT a ct rv th dn dd da df dt dw dc kn kd ka kf kt kw kc) hp1 → Rn (gG D cI cJ cZ cT lo b L xs) M d (pc + 3) lv (.null :: st) hp1 n kr wr Po)) (k1 : (∀ (hp1 : MH) (t : Nat), Tw (CG Γ cI cJ cZ cT a ct rv th dn dd da df dt dw dc kn kd ka kf kt kw kc) hp1 → ThC Γ cI cJ cZ a t → Rn (gG D cI cJ cZ cT lo b L xs) M d (pc + 3) lv (.ref t :: st) hp1 n kr wr Po)) : Rn (gG D cI cJ cZ cT lo b L xs) M d pc lv (.int (iv x) :: .ref a :: st) hp n kr wr Po := by
  have hct := hk.1
  have h0 := CG_obj hct.1 ht
  obtain ⟨f, h1, hf⟩ := CG_th ht
  by_cases hc : 0 ≤ x ∧ x < ct
  · obtain ⟨t, e1, e2⟩ := hk.2.1 x.toNat (by omega)
    have hft : f x.toNat = some t := (hf _ (by omega)).trans e1
    rw [iv_nI hc.1]
    rcases e2 with hT | hT | hT | hT
    · obtain ⟨v0, v1, v2, v3, v4, v5, v6, v7, v8, v9, v10, v11, v12, v13, hob⟩ := ThG_obj ht hT
      refine r_callV (pc := pc) (as := [.int (nI x.toNat)]) (st := st) F rfl hd h0 (c_X11_columnAt_X3 (d := d - 1) (by omega) h0 h1 hob (by omega) (by omega) hft) rfl (by omega) hst (Nat.zero_le _) (Nat.zero_le _) rfl (fun r hp1 n1 hq => ?_)
      obtain ⟨rfl, rfl, hfr⟩ := hq
      exact k0 hp1 (Tw_fr ht hfr)
    · obtain ⟨v0, v1, hob⟩ := ThC_obj ht hT
      refine r_callV (pc := pc) (as := [.int (nI x.toNat)]) (st := st) F rfl hd h0 (c_X11_columnAt_X0 (d := d - 1) (by omega) h0 h1 hob (by omega) (by omega) hft) rfl (by omega) hst (Nat.zero_le _) (Nat.zero_le _) rfl (fun r hp1 n1 hq => ?_)
      obtain ⟨rfl, rfl, hfr⟩ := hq
      exact k1 hp1 t (Tw_fr ht hfr) hT
    · obtain ⟨v0, v1, v2, v3, v4, v5, hob⟩ := ThW_obj ht hT
      refine r_callV (pc := pc) (as := [.int (nI x.toNat)]) (st := st) F rfl hd h0 (c_X11_columnAt_X10 (d := d - 1) (by omega) h0 h1 hob (by omega) (by omega) hft) rfl (by omega) hst (Nat.zero_le _) (Nat.zero_le _) rfl (fun r hp1 n1 hq => ?_)
      obtain ⟨rfl, rfl, hfr⟩ := hq
      exact k0 hp1 (Tw_fr ht hfr)
    · obtain ⟨v0, v1, v2, v3, hob⟩ := ThQ_obj ht hT
      refine r_callV (pc := pc) (as := [.int (nI x.toNat)]) (st := st) F rfl hd h0 (c_X11_columnAt_X5 (d := d - 1) (by omega) h0 h1 hob (by omega) (by omega) hft) rfl (by omega) hst (Nat.zero_le _) (Nat.zero_le _) rfl (fun r hp1 n1 hq => ?_)
      obtain ⟨rfl, rfl, hfr⟩ := hq
      exact k0 hp1 (Tw_fr ht hfr)
  · have hno : iv x < 0 ∨ nI ct.toNat ≤ iv x := by
      rw [← iv_nI hct.1]
      have z0 : (0 : Int32) = iv 0 := rfl
      rcases Int.lt_or_le x 0 with h9 | h9
      · left; rw [z0, iv_lt (by omega) (by omega)]; exact h9
      · right; rw [iv_le (by omega) (by omega)]; omega
    refine r_callV (pc := pc) (as := [.int (iv x)]) (st := st) F rfl hd h0 (c_X11_columnAt_n (d := d - 1) (by omega) h0 hno) rfl (by omega) hst (Nat.zero_le _) (Nat.zero_le _) rfl (fun r hp1 n1 hq => ?_)
    obtain ⟨rfl, rfl, hfr⟩ := hq
    exact k0 hp1 (Tw_fr ht hfr)
theorem t_waysAt {D : va_G} {cI cJ cZ cT : ClassId} {lo b L : Nat} {xs : Nat → Int32} {M : MM} {d pc : Nat} {lv : List (Nat × Value)} {st : List Value} {hp : MH} {n kr wr : Nat} {Po : Option Value → MH → Nat → Prop} {Γ : TG} {a : Nat} {ct : Int} {rv : Int} {th : Nat → Option Nat} {dn : Int} {dd : Int} {da : Int} {df : Nat → Int} {dt : Nat → Int} {dw : Nat → Int} {dc : Nat → Int} {kn : Int} {kd : Int} {ka : Int} {kf : Nat → Int} {kt : Nat → Int} {kw : Nat → Int} {kc : Nat → Int} {ix : Nat} {x : Int} (hk : EK Γ cI cJ cZ a ct th dn dd da df dt dw dc kn kd ka) (ht : Tw (CG Γ cI cJ cZ cT a ct rv th dn dd da df dt dw dc kn kd ka kf kt kw kc) hp) (F : lkK (gG D cI cJ cZ cT lo b L xs) M.1.cls ix mX11_waysAt 1 ∧ Cond.instanceMethod mX11_waysAt.1 ∈ g_ws (gG D cI cJ cZ cT lo b L xs) ∧ Cond.selects RX11 mX11_waysAt.1 mX11_waysAt.1 ∈ g_ws (gG D cI cJ cZ cT lo b L xs) ∧ mX11_waysAt.1.cls = RX11) (hd : decode M.2.1 pc = .ok (.invokevirtual ix, 3)) (hdd : 3 ≤ d) (hst : (st.map fun v => v.category).sum ≤ 8) (hx : -2147483648 ≤ x ∧ x ≤ 2147483647) (k0 : (∀ hp1 : MH, Tw (CG Γ cI cJ cZ cT a ct rv th dn dd da df dt dw dc kn kd ka kf kt kw kc) hp1 → Rn (gG D cI cJ cZ cT lo b L xs) M d (pc + 3) lv (.null :: st) hp1 n kr wr Po)) (k1 : (∀ (hp1 : MH) (t : Nat), Tw (CG Γ cI cJ cZ cT a ct rv th dn dd da df dt dw dc kn kd ka kf kt kw kc) hp1 → ThW Γ cI cJ cZ a t → Rn (gG D cI cJ cZ cT lo b L xs) M d (pc + 3) lv (.ref t :: st) hp1 n kr wr Po)) : Rn (gG D cI cJ cZ cT lo b L xs) M d pc lv (.int (iv x) :: .ref a :: st) hp n kr wr Po := by
  have hct := hk.1
  have h0 := CG_obj hct.1 ht
  obtain ⟨f, h1, hf⟩ := CG_th ht
  by_cases hc : 0 ≤ x ∧ x < ct
  · obtain ⟨t, e1, e2⟩ := hk.2.1 x.toNat (by omega)
    have hft : f x.toNat = some t := (hf _ (by omega)).trans e1
    rw [iv_nI hc.1]
    rcases e2 with hT | hT | hT | hT
    · obtain ⟨v0, v1, v2, v3, v4, v5, v6, v7, v8, v9, v10, v11, v12, v13, hob⟩ := ThG_obj ht hT
      refine r_callV (pc := pc) (as := [.int (nI x.toNat)]) (st := st) F rfl hd h0 (c_X11_waysAt_X3 (d := d - 1) (by omega) h0 h1 hob (by omega) (by omega) hft) rfl (by omega) hst (Nat.zero_le _) (Nat.zero_le _) rfl (fun r hp1 n1 hq => ?_)
      obtain ⟨rfl, rfl, hfr⟩ := hq
      exact k0 hp1 (Tw_fr ht hfr)
    · obtain ⟨v0, v1, hob⟩ := ThC_obj ht hT
      refine r_callV (pc := pc) (as := [.int (nI x.toNat)]) (st := st) F rfl hd h0 (c_X11_waysAt_X0 (d := d - 1) (by omega) h0 h1 hob (by omega) (by omega) hft) rfl (by omega) hst (Nat.zero_le _) (Nat.zero_le _) rfl (fun r hp1 n1 hq => ?_)
      obtain ⟨rfl, rfl, hfr⟩ := hq
      exact k0 hp1 (Tw_fr ht hfr)
    · obtain ⟨v0, v1, v2, v3, v4, v5, hob⟩ := ThW_obj ht hT
      refine r_callV (pc := pc) (as := [.int (nI x.toNat)]) (st := st) F rfl hd h0 (c_X11_waysAt_X10 (d := d - 1) (by omega) h0 h1 hob (by omega) (by omega) hft) rfl (by omega) hst (Nat.zero_le _) (Nat.zero_le _) rfl (fun r hp1 n1 hq => ?_)
      obtain ⟨rfl, rfl, hfr⟩ := hq
      exact k1 hp1 t (Tw_fr ht hfr) hT
    · obtain ⟨v0, v1, v2, v3, hob⟩ := ThQ_obj ht hT
      refine r_callV (pc := pc) (as := [.int (nI x.toNat)]) (st := st) F rfl hd h0 (c_X11_waysAt_X5 (d := d - 1) (by omega) h0 h1 hob (by omega) (by omega) hft) rfl (by omega) hst (Nat.zero_le _) (Nat.zero_le _) rfl (fun r hp1 n1 hq => ?_)
      obtain ⟨rfl, rfl, hfr⟩ := hq
      exact k0 hp1 (Tw_fr ht hfr)
  · have hno : iv x < 0 ∨ nI ct.toNat ≤ iv x := by
      rw [← iv_nI hct.1]
      have z0 : (0 : Int32) = iv 0 := rfl
      rcases Int.lt_or_le x 0 with h9 | h9
      · left; rw [z0, iv_lt (by omega) (by omega)]; exact h9
      · right; rw [iv_le (by omega) (by omega)]; omega
    refine r_callV (pc := pc) (as := [.int (iv x)]) (st := st) F rfl hd h0 (c_X11_waysAt_n (d := d - 1) (by omega) h0 hno) rfl (by omega) hst (Nat.zero_le _) (Nat.zero_le _) rfl (fun r hp1 n1 hq => ?_)
    obtain ⟨rfl, rfl, hfr⟩ := hq
    exact k0 hp1 (Tw_fr ht hfr)
theorem t_partsAt {D : va_G} {cI cJ cZ cT : ClassId} {lo b L : Nat} {xs : Nat → Int32} {M : MM} {d pc : Nat} {lv : List (Nat × Value)} {st : List Value} {hp : MH} {n kr wr : Nat} {Po : Option Value → MH → Nat → Prop} {Γ : TG} {a : Nat} {ct : Int} {rv : Int} {th : Nat → Option Nat} {dn : Int} {dd : Int} {da : Int} {df : Nat → Int} {dt : Nat → Int} {dw : Nat → Int} {dc : Nat → Int} {kn : Int} {kd : Int} {ka : Int} {kf : Nat → Int} {kt : Nat → Int} {kw : Nat → Int} {kc : Nat → Int} {ix : Nat} {x : Int} (hk : EK Γ cI cJ cZ a ct th dn dd da df dt dw dc kn kd ka) (ht : Tw (CG Γ cI cJ cZ cT a ct rv th dn dd da df dt dw dc kn kd ka kf kt kw kc) hp) (F : lkK (gG D cI cJ cZ cT lo b L xs) M.1.cls ix mX11_partsAt 1 ∧ Cond.instanceMethod mX11_partsAt.1 ∈ g_ws (gG D cI cJ cZ cT lo b L xs) ∧ Cond.selects RX11 mX11_partsAt.1 mX11_partsAt.1 ∈ g_ws (gG D cI cJ cZ cT lo b L xs) ∧ mX11_partsAt.1.cls = RX11) (hd : decode M.2.1 pc = .ok (.invokevirtual ix, 3)) (hdd : 3 ≤ d) (hst : (st.map fun v => v.category).sum ≤ 8) (hx : -2147483648 ≤ x ∧ x ≤ 2147483647) (k0 : (∀ hp1 : MH, Tw (CG Γ cI cJ cZ cT a ct rv th dn dd da df dt dw dc kn kd ka kf kt kw kc) hp1 → Rn (gG D cI cJ cZ cT lo b L xs) M d (pc + 3) lv (.null :: st) hp1 n kr wr Po)) (k1 : (∀ (hp1 : MH) (t : Nat), Tw (CG Γ cI cJ cZ cT a ct rv th dn dd da df dt dw dc kn kd ka kf kt kw kc) hp1 → ThQ Γ cI cJ cZ a t → Rn (gG D cI cJ cZ cT lo b L xs) M d (pc + 3) lv (.ref t :: st) hp1 n kr wr Po)) : Rn (gG D cI cJ cZ cT lo b L xs) M d pc lv (.int (iv x) :: .ref a :: st) hp n kr wr Po := by
  have hct := hk.1
  have h0 := CG_obj hct.1 ht
  obtain ⟨f, h1, hf⟩ := CG_th ht
  by_cases hc : 0 ≤ x ∧ x < ct
  · obtain ⟨t, e1, e2⟩ := hk.2.1 x.toNat (by omega)
    have hft : f x.toNat = some t := (hf _ (by omega)).trans e1
    rw [iv_nI hc.1]
    rcases e2 with hT | hT | hT | hT
    · obtain ⟨v0, v1, v2, v3, v4, v5, v6, v7, v8, v9, v10, v11, v12, v13, hob⟩ := ThG_obj ht hT
      refine r_callV (pc := pc) (as := [.int (nI x.toNat)]) (st := st) F rfl hd h0 (c_X11_partsAt_X3 (d := d - 1) (by omega) h0 h1 hob (by omega) (by omega) hft) rfl (by omega) hst (Nat.zero_le _) (Nat.zero_le _) rfl (fun r hp1 n1 hq => ?_)
      obtain ⟨rfl, rfl, hfr⟩ := hq
      exact k0 hp1 (Tw_fr ht hfr)
    · obtain ⟨v0, v1, hob⟩ := ThC_obj ht hT
      refine r_callV (pc := pc) (as := [.int (nI x.toNat)]) (st := st) F rfl hd h0 (c_X11_partsAt_X0 (d := d - 1) (by omega) h0 h1 hob (by omega) (by omega) hft) rfl (by omega) hst (Nat.zero_le _) (Nat.zero_le _) rfl (fun r hp1 n1 hq => ?_)
      obtain ⟨rfl, rfl, hfr⟩ := hq
      exact k0 hp1 (Tw_fr ht hfr)
    · obtain ⟨v0, v1, v2, v3, v4, v5, hob⟩ := ThW_obj ht hT
      refine r_callV (pc := pc) (as := [.int (nI x.toNat)]) (st := st) F rfl hd h0 (c_X11_partsAt_X10 (d := d - 1) (by omega) h0 h1 hob (by omega) (by omega) hft) rfl (by omega) hst (Nat.zero_le _) (Nat.zero_le _) rfl (fun r hp1 n1 hq => ?_)
      obtain ⟨rfl, rfl, hfr⟩ := hq
      exact k0 hp1 (Tw_fr ht hfr)
    · obtain ⟨v0, v1, v2, v3, hob⟩ := ThQ_obj ht hT
      refine r_callV (pc := pc) (as := [.int (nI x.toNat)]) (st := st) F rfl hd h0 (c_X11_partsAt_X5 (d := d - 1) (by omega) h0 h1 hob (by omega) (by omega) hft) rfl (by omega) hst (Nat.zero_le _) (Nat.zero_le _) rfl (fun r hp1 n1 hq => ?_)
      obtain ⟨rfl, rfl, hfr⟩ := hq
      exact k1 hp1 t (Tw_fr ht hfr) hT
  · have hno : iv x < 0 ∨ nI ct.toNat ≤ iv x := by
      rw [← iv_nI hct.1]
      have z0 : (0 : Int32) = iv 0 := rfl
      rcases Int.lt_or_le x 0 with h9 | h9
      · left; rw [z0, iv_lt (by omega) (by omega)]; exact h9
      · right; rw [iv_le (by omega) (by omega)]; omega
    refine r_callV (pc := pc) (as := [.int (iv x)]) (st := st) F rfl hd h0 (c_X11_partsAt_n (d := d - 1) (by omega) h0 hno) rfl (by omega) hst (Nat.zero_le _) (Nat.zero_le _) rfl (fun r hp1 n1 hq => ?_)
    obtain ⟨rfl, rfl, hfr⟩ := hq
    exact k0 hp1 (Tw_fr ht hfr)
