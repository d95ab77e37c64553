def xI (cA : ClassId) (L : Nat) (f : Nat → Int) : va_E → Prop := tI cA L (fun i v => v = f i)
def xJ (cA : ClassId) (L : Nat) (f : Nat → Int64) : va_E → Prop := tJ cA L (fun i v => v = f i)
def ov (Γ : TG) (a : Nat) (T : va_E → Prop) : TG := va_up Γ a (some T)
def fup (f : Nat → Int) (i : Nat) (v : Int) : Nat → Int := fun j => if j = i then v else f j
def fuj (f : Nat → Int64) (i : Nat) (v : Int64) : Nat → Int64 := fun j => if j = i then v else f j
theorem fup_s (f : Nat → Int) (i : Nat) (v : Int) : fup f i v i = v := by simp [fup]
theorem fup_o (f : Nat → Int) {i j : Nat} (v : Int) (h : j ≠ i) : fup f i v j = f j := by simp [fup, h]
theorem ov_s (Γ : TG) (a : Nat) (T : va_E → Prop) : ov Γ a T a = some T := by simp [ov, va_up]
theorem ov_o (Γ : TG) {a b : Nat} (T : va_E → Prop) (h : b ≠ a) : ov Γ a T b = Γ b := by simp [ov, va_up, h]
theorem ov_ov (Γ : TG) (a : Nat) (T T1 : va_E → Prop) : ov (ov Γ a T) a T1 = ov Γ a T1 := by
  funext b
  by_cases h : b = a
  · subst h; rw [ov_s, ov_s]
  · rw [ov_o _ _ h, ov_o _ _ h, ov_o _ _ h]
theorem rd_ov {Γ : TG} {a b : Nat} {T T1 : va_E → Prop} (h : b ≠ a) (hr : rd Γ b T) : rd (ov Γ a T1) b T := by
  obtain ⟨T0, h0, h1⟩ := hr
  exact ⟨T0, by rw [ov_o _ _ h]; exact h0, h1⟩
theorem eq_ov {Γ : TG} {a b : Nat} {T T1 : va_E → Prop} (h : b ≠ a) (hr : Γ b = some T) : ov Γ a T1 b = some T := by rw [ov_o _ _ h]; exact hr
theorem Tw.openI {Γ : TG} {hp : MH} {a L : Nat} {cA : ClassId} {P : Nat → Int → Prop} (ht : Tw Γ hp) (h : rd Γ a (tI cA L P)) : ∃ f : Nat → Int, (∀ i, i < L → P i (f i) ∧ -2147483648 ≤ f i ∧ f i ≤ 2147483647) ∧ Tw (ov Γ a (xI cA L f)) hp := by
  obtain ⟨e, h1, f, rfl, h2⟩ := rd_at ht h
  exact ⟨fun i => (f i).toInt, fun i hi => ⟨h2 i hi, iv_lo _, iv_hi _⟩, ht.up h1 ⟨f, rfl, fun _ _ => rfl⟩ (fun _ _ => rfl)⟩
theorem Tw.openJ {Γ : TG} {hp : MH} {a L : Nat} {cA : ClassId} {P : Nat → Int64 → Prop} (ht : Tw Γ hp) (h : rd Γ a (tJ cA L P)) : ∃ f : Nat → Int64, (∀ i, i < L → P i (f i)) ∧ Tw (ov Γ a (xJ cA L f)) hp := by
  obtain ⟨e, h1, f, rfl, h2⟩ := rd_at ht h
  exact ⟨f, h2, ht.up h1 ⟨f, rfl, fun _ _ => rfl⟩ (fun _ _ => rfl)⟩
theorem Tw.closeI {Γ : TG} {hp : MH} {a L : Nat} {cA : ClassId} {P : Nat → Int → Prop} {f : Nat → Int} (ht : Tw (ov Γ a (xI cA L f)) hp) (h : Γ a = some (tI cA L P)) (hf : ∀ i, i < L → P i (f i)) : Tw Γ hp :=
  Tw.weak ht h (fun e he => by
    obtain ⟨g, h1, h2⟩ := he
    exact ⟨g, h1, fun i hi => by rw [h2 i hi]; exact hf i hi⟩)
theorem Tw.closeJ {Γ : TG} {hp : MH} {a L : Nat} {cA : ClassId} {P : Nat → Int64 → Prop} {f : Nat → Int64} (ht : Tw (ov Γ a (xJ cA L f)) hp) (h : Γ a = some (tJ cA L P)) (hf : ∀ i, i < L → P i (f i)) : Tw Γ hp :=
  Tw.weak ht h (fun e he => by
    obtain ⟨g, h1, h2⟩ := he
    exact ⟨g, h1, fun i hi => by rw [h2 i hi]; exact hf i hi⟩)
theorem rd_xr {Γ : TG} {a L : Nat} {cA : ClassId} {lo hi : Int} {f : Nat → Int} (h : rd Γ a (xI cA L f)) (hf : ∀ i, i < L → lo ≤ f i ∧ f i ≤ hi) : rd Γ a (tI cA L (rg lo hi)) := by
  obtain ⟨T0, h0, h1⟩ := h
  refine ⟨T0, h0, fun e he => ?_⟩
  obtain ⟨g, h2, h3⟩ := h1 e he
  exact ⟨g, h2, fun i hi => by rw [h3 i hi]; exact hf i hi⟩
theorem rd_xa {Γ : TG} {a L : Nat} {cA : ClassId} {f : Nat → Int} (h : rd Γ a (xI cA L f)) : rd Γ a (tI cA L anyI) := by
  obtain ⟨T0, h0, h1⟩ := h
  refine ⟨T0, h0, fun e he => ?_⟩
  obtain ⟨g, h2, h3⟩ := h1 e he
  exact ⟨g, h2, fun _ _ => trivial⟩
theorem rd_xj {Γ : TG} {a L : Nat} {cA : ClassId} {f : Nat → Int64} (h : rd Γ a (xJ cA L f)) : rd Γ a (tJ cA L anyJ) := by
  obtain ⟨T0, h0, h1⟩ := h
  refine ⟨T0, h0, fun e he => ?_⟩
  obtain ⟨g, h2, h3⟩ := h1 e he
  exact ⟨g, h2, fun _ _ => trivial⟩
theorem ov_c (Γ : TG) {a b : Nat} (T U : va_E → Prop) (h : a ≠ b) : ov (ov Γ a T) b U = ov (ov Γ b U) a T := by
  funext q
  by_cases h1 : q = a
  · subst h1; rw [ov_o _ _ h, ov_s, ov_s]
  · by_cases h2 : q = b
    · subst h2; rw [ov_s, ov_o _ _ h1, ov_s]
    · rw [ov_o _ _ h2, ov_o _ _ h1, ov_o _ _ h1, ov_o _ _ h2]
theorem ov_in2 {Γ : TG} {a b : Nat} {T U T1 : va_E → Prop} (h : a ≠ b) : ov (ov (ov Γ a T) b U) a T1 = ov (ov Γ a T1) b U := by
  rw [ov_c Γ T U h, ov_ov, ov_c Γ T1 U h]
theorem ov_in3 {Γ : TG} {a b c : Nat} {T U V T1 : va_E → Prop} (h : a ≠ b) (h1 : a ≠ c) : ov (ov (ov (ov Γ a T) b U) c V) a T1 = ov (ov (ov Γ a T1) b U) c V := by
  rw [ov_c (ov (ov Γ a T) b U) V T1 (Ne.symm h1), ov_in2 h]
theorem ov_in4 {Γ : TG} {a b c e : Nat} {T U V W T1 : va_E → Prop} (h : a ≠ b) (h1 : a ≠ c) (h2 : a ≠ e) : ov (ov (ov (ov (ov Γ a T) b U) c V) e W) a T1 = ov (ov (ov (ov Γ a T1) b U) c V) e W := by
  rw [ov_c (ov (ov (ov Γ a T) b U) c V) W T1 (Ne.symm h2), ov_in3 h h1]
theorem tO_close {ci k : Nat} {Fs : List (Value → Prop)} {F0 : Value → Prop} {w : Value} (h0 : Fs[k]? = some F0) (h1 : F0 w) (e : va_E) (h : tO ci (Fs.set k (fE w)) e) : tO ci Fs e := by
  obtain ⟨fs, rfl, h2, h3⟩ := h
  refine ⟨fs, rfl, by rw [h2, List.length_set], fun j T hj => ?_⟩
  by_cases hq : j = k
  · subst hq
    rw [h0] at hj
    cases hj
    obtain ⟨v, h4, h5⟩ := h3 j (fE w) (by rw [List.getElem?_set_self (List.getElem?_eq_some_iff.mp h0).1])
    have h6 : v = w := h5
    subst h6
    exact ⟨v, h4, h1⟩
  · exact h3 j T (by rw [List.getElem?_set_ne (Ne.symm hq)]; exact hj)
theorem Tw.openF {Γ : TG} {hp : MH} {a ci : Nat} {Fs : List (Value → Prop)} (k : Nat) {lo hi : Int} (ht : Tw Γ hp) (h : rd Γ a (tO ci Fs)) (hk : Fs[k]? = some (fI lo hi)) : ∃ R : Int, lo ≤ R ∧ R ≤ hi ∧ Tw (ov Γ a (tO ci (Fs.set k (fE (.int (iv R)))))) hp := by
  obtain ⟨e, h1, fs, rfl, h2, h3⟩ := rd_at ht h
  obtain ⟨v, h4, R, rfl, h5, h6⟩ := h3 k _ hk
  refine ⟨R, h5, h6, ht.up h1 ⟨fs, rfl, by rw [List.length_set]; exact h2, fun j T hj => ?_⟩ (fun _ _ => rfl)⟩
  by_cases hq : j = k
  · subst hq
    rw [List.getElem?_set_self (List.getElem?_eq_some_iff.mp hk).1] at hj
    cases hj
    exact ⟨_, h4, rfl⟩
  · rw [List.getElem?_set_ne (Ne.symm hq)] at hj
    exact h3 j T hj
section TX
variable {G : MG} {M : MM} {d pc : Nat} {lv : List (Nat × Value)} {st : List Value} {hp : MH} {n kr wr : Nat} {Po : Option Value → MH → Nat → Prop}
theorem t_ialdX {Γ : TG} {a t0 L : Nat} {cA : ClassId} {f : Nat → Int} {x : Int} (ht : Tw Γ hp) (hΓ : rd Γ a (xI cA L f)) (hd : decode M.2.1 pc = .ok (.iaload, 1)) (hty : (g_ty G)[t0]? = some (cA, .int)) (hL : L ≤ 2147483647) (hx : 0 ≤ x ∧ x < (L : Int)) (kk : -2147483648 ≤ f x.toNat ∧ f x.toNat ≤ 2147483647 → Rn G M d (pc + 1) lv (.int (iv (f x.toNat)) :: st) hp n kr wr Po) : Rn G M d pc lv (.int (iv x) :: .ref a :: st) hp n kr wr Po :=
  t_iald ht hΓ hd hty hL hx (fun y h1 h2 => by
    have h3 : y = f x.toNat := h2
    subst h3
    exact kk h1)
theorem t_zaldX {Γ : TG} {a t0 L : Nat} {cA : ClassId} {f : Nat → Int} {x : Int} (ht : Tw Γ hp) (hΓ : rd Γ a (xI cA L f)) (hd : decode M.2.1 pc = .ok (.baload, 1)) (hty : (g_ty G)[t0]? = some (cA, .boolean)) (hL : L ≤ 2147483647) (hx : 0 ≤ x ∧ x < (L : Int)) (kk : -2147483648 ≤ f x.toNat ∧ f x.toNat ≤ 2147483647 → Rn G M d (pc + 1) lv (.int (iv (f x.toNat)) :: st) hp n kr wr Po) : Rn G M d pc lv (.int (iv x) :: .ref a :: st) hp n kr wr Po :=
  t_zald ht hΓ hd hty hL hx (fun y h1 h2 => by
    have h3 : y = f x.toNat := h2
    subst h3
    exact kk h1)
theorem t_laldX {Γ : TG} {a t0 L : Nat} {cA : ClassId} {f : Nat → Int64} {x : Int} (ht : Tw Γ hp) (hΓ : rd Γ a (xJ cA L f)) (hd : decode M.2.1 pc = .ok (.laload, 1)) (hty : (g_ty G)[t0]? = some (cA, .long)) (hL : L ≤ 2147483647) (hx : 0 ≤ x ∧ x < (L : Int)) (kk : Rn G M d (pc + 1) lv (.long (f x.toNat) :: st) hp n kr wr Po) : Rn G M d pc lv (.int (iv x) :: .ref a :: st) hp n kr wr Po :=
  t_lald ht hΓ hd hty hL hx (fun y h2 => by
    have h3 : y = f x.toNat := h2
    subst h3
    exact kk)
theorem t_iastX {Γ : TG} {a t0 L : Nat} {cA : ClassId} {f : Nat → Int} {x y : Int} (ht : Tw Γ hp) (hΓ : Γ a = some (xI cA L f)) (hd : decode M.2.1 pc = .ok (.iastore, 1)) (hty : (g_ty G)[t0]? = some (cA, .int)) (hL : L ≤ 2147483647) (hx : 0 ≤ x ∧ x < (L : Int)) (hy : -2147483648 ≤ y ∧ y ≤ 2147483647) (kk : ∀ hp1 : MH, Tw (ov Γ a (xI cA L (fup f x.toNat y))) hp1 → Rn G M d (pc + 1) lv st hp1 n kr wr Po) : Rn G M d pc lv (.int (iv y) :: .int (iv x) :: .ref a :: st) hp n kr wr Po := by
  obtain ⟨e, h1, g, rfl, h2⟩ := rd_at ht (rd_of hΓ)
  refine w_iast (f' := upd g x.toNat (iv y)) hd hty h1 (iv_in hx hL) (by rw [iv_clamp hx.1 (by omega)]) (fun hp1 h3 h4 => kk hp1 ?_)
  refine ht.up h3 ⟨_, rfl, fun i hi => ?_⟩ h4
  by_cases hq : i = x.toNat
  · subst hq; simp only [upd, if_pos]; rw [iv_toInt hy.1 hy.2, fup_s]
  · simp only [upd, if_neg hq]; rw [fup_o _ _ hq]; exact h2 i hi
theorem t_zastX {Γ : TG} {a t0 L : Nat} {cA : ClassId} {f : Nat → Int} {x y : Int} (ht : Tw Γ hp) (hΓ : Γ a = some (xI cA L f)) (hd : decode M.2.1 pc = .ok (.bastore, 1)) (hty : (g_ty G)[t0]? = some (cA, .boolean)) (hL : L ≤ 2147483647) (hx : 0 ≤ x ∧ x < (L : Int)) (hy : 0 ≤ y ∧ y ≤ 1) (kk : ∀ hp1 : MH, Tw (ov Γ a (xI cA L (fup f x.toNat y))) hp1 → Rn G M d (pc + 1) lv st hp1 n kr wr Po) : Rn G M d pc lv (.int (iv y) :: .int (iv x) :: .ref a :: st) hp n kr wr Po := by
  obtain ⟨e, h1, g, rfl, h2⟩ := rd_at ht (rd_of hΓ)
  refine w_zast (f' := upd g x.toNat (iv y)) hd hty h1 (iv_in hx hL) (by rw [iv_clamp hx.1 (by omega), iv_vnar hy]) (fun hp1 h3 h4 => kk hp1 ?_)
  refine ht.up h3 ⟨_, rfl, fun i hi => ?_⟩ h4
  by_cases hq : i = x.toNat
  · subst hq; simp only [upd, if_pos]; rw [iv_toInt (by omega) (by omega), fup_s]
  · simp only [upd, if_neg hq]; rw [fup_o _ _ hq]; exact h2 i hi
theorem t_lastX {Γ : TG} {a t0 L : Nat} {cA : ClassId} {f : Nat → Int64} {x : Int} {y : Int64} (ht : Tw Γ hp) (hΓ : Γ a = some (xJ cA L f)) (hd : decode M.2.1 pc = .ok (.lastore, 1)) (hty : (g_ty G)[t0]? = some (cA, .long)) (hL : L ≤ 2147483647) (hx : 0 ≤ x ∧ x < (L : Int)) (kk : ∀ hp1 : MH, Tw (ov Γ a (xJ cA L (fuj f x.toNat y))) hp1 → Rn G M d (pc + 1) lv st hp1 n kr wr Po) : Rn G M d pc lv (.long y :: .int (iv x) :: .ref a :: st) hp n kr wr Po := by
  obtain ⟨e, h1, g, rfl, h2⟩ := rd_at ht (rd_of hΓ)
  refine w_last (f' := vp_updL g x.toNat y) hd hty h1 (iv_in hx hL) (by rw [iv_clamp hx.1 (by omega)]) (fun hp1 h3 h4 => kk hp1 ?_)
  refine ht.up h3 ⟨_, rfl, fun i hi => ?_⟩ h4
  by_cases hq : i = x.toNat
  · subst hq; simp [vp_updL, fuj]
  · simp only [vp_updL, if_neg hq, fuj]; exact h2 i hi
theorem t_putX {Γ : TG} {ix ci k a : Nat} {ref Cn : String} {T : u_T} {N : Nat} {Fs Fs' : List (Value → Prop)} {ty : FieldType} {w : Value} (ht : Tw Γ hp) (hΓ : Γ a = some (tO ci Fs)) (F : lkF G M.1.cls ix ci k ref Cn T N) (ty0 : Nat → FieldType) (hty : ∀ k, k < N → parseFieldDescriptor (T k).2.2.1 = some (ty0 k)) (hnm : ∀ a, a < N → ∀ b, b < N → a ≠ b → (T a).2.1 ≠ (T b).2.1) (hdt : parseFieldDescriptor (T k).2.2.1 = some ty) (hf : (T k).2.2.2 = false ∨ ((T k).2.2.2 = true ∧ M.1.name = "<init>" ∧ (T k).1 = M.1.cls)) (hd : decode M.2.1 pc = .ok (.putfield ix, 3)) (hk : k < Fs.length) (hn : narrow ty w = w) (hfit : fits ty w = true) (hF : Fs.set k (fE w) = Fs') (kk : ∀ hp1 : MH, Tw (ov Γ a (tO ci Fs')) hp1 → Rn G M d (pc + 3) lv st hp1 n kr wr Po) : Rn G M d pc lv (w :: .ref a :: st) hp n kr wr Po := by
  subst hF
  obtain ⟨e, h1, fs, rfl, h2, h3⟩ := rd_at ht (rd_of hΓ)
  refine w_put (fs' := fs.set k w) F ty0 hty hnm hdt hf hd h1 (by rw [h2]; exact hk) hn hfit rfl (fun hp1 h4 h5 => kk hp1 (ht.up h4 ⟨_, rfl, by rw [List.length_set, List.length_set]; exact h2, fun j T' hj => ?_⟩ h5))
  by_cases hq : j = k
  · subst hq
    rw [List.getElem?_set_self hk] at hj
    cases hj
    exact ⟨w, by rw [List.getElem?_set_self (by rw [h2]; exact hk)], rfl⟩
  · rw [List.getElem?_set_ne (Ne.symm hq)] at hj
    obtain ⟨v, h6, h7⟩ := h3 j T' hj
    exact ⟨v, by rw [List.getElem?_set_ne (Ne.symm hq)]; exact h6, h7⟩
end TX
