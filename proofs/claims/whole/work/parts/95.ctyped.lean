def Ext (Γ Γ1 : TG) : Prop := ∀ (a : Nat) (T : va_E → Prop), Γ a = some T → Γ1 a = some T
theorem rd_ext {Γ Γ1 : TG} {a : Nat} {T : va_E → Prop} (hE : Ext Γ Γ1) (h : rd Γ a T) : rd Γ1 a T := by
  obtain ⟨T0, h0, h1⟩ := h
  exact ⟨T0, hE a T0 h0, h1⟩
theorem Tw_ext {Γ Γ1 : TG} {hp : MH} (hE : Ext Γ Γ1) (h : Tw Γ1 hp) : Tw Γ hp := fun a T h0 => h a T (hE a T h0)
theorem Tw.weak {Γ : TG} {hp : MH} {a : Nat} {T T1 : va_E → Prop} (h : Tw (va_up Γ a (some T1)) hp) (h0 : Γ a = some T) (h1 : ∀ e, T1 e → T e) : Tw Γ hp := by
  intro q T' h2
  by_cases hq : q = a
  · subst hq
    rw [h0] at h2
    cases h2
    obtain ⟨e, h3, h4⟩ := h q T1 (by simp [va_up])
    exact ⟨e, h3, h1 e h4⟩
  · exact h q T' (by simp [va_up, hq]; exact h2)
theorem rd_rg {Γ : TG} {a L : Nat} {cA : ClassId} {lo hi lo1 hi1 : Int} (h : rd Γ a (tI cA L (rg lo hi))) (h1 : lo1 ≤ lo ∧ hi ≤ hi1) : rd Γ a (tI cA L (rg lo1 hi1)) := by
  obtain ⟨T0, h0, h2⟩ := h
  refine ⟨T0, h0, fun e he => ?_⟩
  obtain ⟨f, h3, h4⟩ := h2 e he
  exact ⟨f, h3, fun i hj => by have h5 : lo ≤ (f i).toInt ∧ (f i).toInt ≤ hi := h4 i hj; show lo1 ≤ (f i).toInt ∧ (f i).toInt ≤ hi1; omega⟩
theorem min_b (x y : Int) (hx : -2147483648 ≤ x ∧ x ≤ 2147483647) (hy : -2147483648 ≤ y ∧ y ≤ 2147483647) : ∃ z : Int, (if iv y < iv x then iv y else iv x) = iv z ∧ (z = x ∨ z = y) ∧ z ≤ x ∧ z ≤ y := by
  by_cases h : iv y < iv x
  · rw [if_pos h]; have h1 := (iv_lt hy hx).mp h; exact ⟨y, rfl, Or.inr rfl, by omega, by omega⟩
  · rw [if_neg h]; have h1 := mt (iv_lt hy hx).mpr h; exact ⟨x, rfl, Or.inl rfl, by omega, by omega⟩
theorem max_b (x y : Int) (hx : -2147483648 ≤ x ∧ x ≤ 2147483647) (hy : -2147483648 ≤ y ∧ y ≤ 2147483647) : ∃ z : Int, (if iv x < iv y then iv y else iv x) = iv z ∧ (z = x ∨ z = y) ∧ x ≤ z ∧ y ≤ z := by
  by_cases h : iv x < iv y
  · rw [if_pos h]; have h1 := (iv_lt hx hy).mp h; exact ⟨y, rfl, Or.inr rfl, by omega, by omega⟩
  · rw [if_neg h]; have h1 := mt (iv_lt hx hy).mpr h; exact ⟨x, rfl, Or.inl rfl, by omega, by omega⟩
theorem xor_1 (x : Int) (h : 0 ≤ x ∧ x ≤ 65535) : ∃ z : Int, iv x ^^^ iv 1 = iv z ∧ (x % 2 = 0 → z = x + 1) ∧ (x % 2 = 1 → z = x - 1) := by
  obtain ⟨a, rfl⟩ := Int.eq_ofNat_of_zero_le h.1
  have h1 : iv 1 = iv ((1 : Nat) : Int) := rfl
  rw [h1, iv_xor (by omega) (by omega)]
  refine ⟨((a ^^^ 1 : Nat) : Int), rfl, ?_⟩
  have e : ∀ j : Nat, (2 * j) ^^^ 1 = 2 * j + 1 ∧ (2 * j + 1) ^^^ 1 = 2 * j := by
    intro j
    constructor
    · apply Nat.eq_of_testBit_eq
      intro i
      cases i with
      | zero => simp [Nat.testBit_xor, Nat.testBit_zero]
      | succ i =>
        rw [Nat.testBit_xor, Nat.testBit_succ (2 * j), Nat.testBit_succ 1, Nat.testBit_succ (2 * j + 1), show 2 * j / 2 = j by omega, show (2 * j + 1) / 2 = j by omega, show 1 / 2 = 0 from rfl]
        simp
    · apply Nat.eq_of_testBit_eq
      intro i
      cases i with
      | zero => simp [Nat.testBit_xor, Nat.testBit_zero]
      | succ i =>
        rw [Nat.testBit_xor, Nat.testBit_succ (2 * j + 1), Nat.testBit_succ 1, Nat.testBit_succ (2 * j), show 2 * j / 2 = j by omega, show (2 * j + 1) / 2 = j by omega, show 1 / 2 = 0 from rfl]
        simp
  rcases Nat.mod_two_eq_zero_or_one a with h2 | h2
  · have e1 := (e (a / 2)).1
    rw [show 2 * (a / 2) = a by omega] at e1
    rw [e1]; omega
  · have e1 := (e (a / 2)).2
    rw [show 2 * (a / 2) + 1 = a by omega] at e1
    rw [e1]; omega
section TC
variable {G : MG} {M : MM} {d pc : Nat} {lv : List (Nat × Value)} {st : List Value} {hp : MH} {n kr wr : Nat} {Po : Option Value → MH → Nat → Prop}
theorem t_putI {Γ : TG} {ix ci k a : Nat} {ref Cn : String} {T : u_T} {N : Nat} {Fs : List (Value → Prop)} {ty : FieldType} {lo hi x : Int} (ht : Tw Γ hp) (hΓ : Γ a = some (tO ci Fs)) (F : lkF G M.1.cls ix ci k ref Cn T N) (ty0 : Nat → FieldType) (hty : ∀ k, k < N → parseFieldDescriptor (T k).2.2.1 = some (ty0 k)) (hnm : ∀ a, a < N → ∀ b, b < N → a ≠ b → (T a).2.1 ≠ (T b).2.1) (hdt : parseFieldDescriptor (T k).2.2.1 = some ty) (hf : (T k).2.2.2 = false ∨ ((T k).2.2.2 = true ∧ M.1.name = "<init>" ∧ (T k).1 = M.1.cls)) (hd : decode M.2.1 pc = .ok (.putfield ix, 3)) (hv : Fs[k]? = some (fI lo hi)) (hn : narrow ty (.int (iv x)) = .int (iv x)) (hfit : fits ty (.int (iv x)) = true) (hx : lo ≤ x ∧ x ≤ hi) (kk : ∀ hp1 : MH, Tw Γ hp1 → Rn G M d (pc + 3) lv st hp1 n kr wr Po) : Rn G M d pc lv (.int (iv x) :: .ref a :: st) hp n kr wr Po := by
  obtain ⟨e, h1, fs, rfl, h2, h3⟩ := rd_at ht (rd_of hΓ)
  have hk : k < fs.length := by rw [h2]; exact (List.getElem?_eq_some_iff.mp hv).1
  refine w_put (fs' := fs.set k (.int (iv x))) F ty0 hty hnm hdt hf hd h1 hk hn hfit rfl (fun hp1 h4 h5 => kk hp1 (ht.set hΓ h4 ⟨_, rfl, by rw [List.length_set]; exact h2, fun j T' hj => ?_⟩ h5))
  by_cases hq : j = k
  · subst hq
    rw [hv] at hj
    cases hj
    exact ⟨.int (iv x), by rw [List.getElem?_set_self hk], x, rfl, hx⟩
  · obtain ⟨v, h6, h7⟩ := h3 j T' hj
    exact ⟨v, by rw [List.getElem?_set_ne (Ne.symm hq)]; exact h6, h7⟩
theorem t_copyI {Γ : TG} {ix t0 a0 a L0 L : Nat} {c0 : ClassId} {lo hi lo1 hi1 sp dp x : Int} (ht : Tw Γ hp) (h0 : rd Γ a0 (tI c0 L0 (rg lo hi))) (hΓ : Γ a = some (tI c0 L (rg lo1 hi1))) (F : lkA G M.1.cls ix) (hd : decode M.2.1 pc = .ok (.invokestatic ix, 3)) (hty : (g_ty G)[t0]? = some (c0, .int)) (hL : L0 ≤ 2147483647 ∧ L ≤ 2147483647) (hb : lo1 ≤ lo ∧ hi ≤ hi1) (hx : 0 ≤ x ∧ 0 ≤ sp ∧ 0 ≤ dp ∧ sp + x ≤ (L0 : Int) ∧ dp + x ≤ (L : Int)) (hst : (st.map fun v => v.category).sum ≤ 8) (kk : ∀ hp1 : MH, Tw Γ hp1 → Rn G M d (pc + 3) lv st hp1 n kr wr Po) : Rn G M d pc lv (.int (iv x) :: .int (iv dp) :: .ref a :: .int (iv sp) :: .ref a0 :: st) hp n kr wr Po := by
  obtain ⟨e, h1, f, rfl, h2⟩ := rd_at ht h0
  obtain ⟨e', h3, g, rfl, h4⟩ := rd_at ht (rd_of hΓ)
  have nn : ∀ z : Int, 0 ≤ z ∧ z ≤ 2147483647 → iv z = nI z.toNat := fun z hz => by rw [nI_iv]; congr 1; omega
  refine w_copyi (s0 := sp.toNat) (d0 := dp.toNat) (N := x.toNat) (g' := va_cpy f g sp.toNat dp.toNat x.toNat) F hd hty hty h1 h3 (nn _ (by omega)) (nn _ (by omega)) (nn _ (by omega)) (by omega) (by omega) (by omega) (by omega) hst rfl (fun hp1 h5 h6 => kk hp1 (ht.set hΓ h5 ⟨_, rfl, fun i hj => ?_⟩ h6))
  show lo1 ≤ (va_cpy f g sp.toNat dp.toNat x.toNat i).toInt ∧ (va_cpy f g sp.toNat dp.toNat x.toNat i).toInt ≤ hi1
  unfold va_cpy
  split
  · have h7 : lo ≤ (f (sp.toNat + (i - dp.toNat))).toInt ∧ (f (sp.toNat + (i - dp.toNat))).toInt ≤ hi := h2 _ (by omega)
    omega
  · exact h4 i hj
theorem t_copyJ {Γ : TG} {ix t0 a0 a L0 L : Nat} {c0 : ClassId} {sp dp x : Int} (ht : Tw Γ hp) (h0 : rd Γ a0 (tJ c0 L0 anyJ)) (hΓ : Γ a = some (tJ c0 L anyJ)) (F : lkA G M.1.cls ix) (hd : decode M.2.1 pc = .ok (.invokestatic ix, 3)) (hty : (g_ty G)[t0]? = some (c0, .long)) (hL : L0 ≤ 2147483647 ∧ L ≤ 2147483647) (hx : 0 ≤ x ∧ 0 ≤ sp ∧ 0 ≤ dp ∧ sp + x ≤ (L0 : Int) ∧ dp + x ≤ (L : Int)) (hst : (st.map fun v => v.category).sum ≤ 8) (kk : ∀ hp1 : MH, Tw Γ hp1 → Rn G M d (pc + 3) lv st hp1 n kr wr Po) : Rn G M d pc lv (.int (iv x) :: .int (iv dp) :: .ref a :: .int (iv sp) :: .ref a0 :: st) hp n kr wr Po := by
  obtain ⟨e, h1, f, rfl, h2⟩ := rd_at ht h0
  obtain ⟨e', h3, g, rfl, h4⟩ := rd_at ht (rd_of hΓ)
  have nn : ∀ z : Int, 0 ≤ z ∧ z ≤ 2147483647 → iv z = nI z.toNat := fun z hz => by rw [nI_iv]; congr 1; omega
  refine w_copyl (s0 := sp.toNat) (d0 := dp.toNat) (N := x.toNat) (g' := va_cpy f g sp.toNat dp.toNat x.toNat) F hd hty hty h1 h3 (nn _ (by omega)) (nn _ (by omega)) (nn _ (by omega)) (by omega) (by omega) (by omega) (by omega) hst rfl (fun hp1 h5 h6 => kk hp1 (ht.set hΓ h5 ⟨_, rfl, fun _ _ => trivial⟩ h6))
theorem ext_new {Γ : TG} {T : va_E → Prop} (ht : Tw Γ hp) (bd : ∀ (q : Nat) (e : va_E), hp q = some e → q < n) : Ext Γ (va_up Γ n (some T)) := by
  intro a T' h
  obtain ⟨e, h1, -⟩ := ht a T' h
  have h2 := bd a e h1
  simp [va_up, Nat.ne_of_lt h2]; exact h
theorem t_newI {Γ : TG} {t0 N : Nat} {cA : ClassId} {x : Int} (lo hi : Int) (ht : Tw Γ hp) (hd : decode M.2.1 pc = .ok (.newarray .int, 2)) (harr : Cond.arrayClass .int ∈ g_ws G) (hty : (g_ty G)[t0]? = some (cA, .int)) (hx : x = (N : Int)) (hN : N ≤ 1000000) (h0 : lo ≤ 0 ∧ 0 ≤ hi) (hkr : 1 ≤ kr) (hwr : N ≤ wr) (kk : ∀ (hp1 : MH) (Γ1 : TG), Ext Γ Γ1 → Γ1 n = some (tI cA N (rg lo hi)) → Tw Γ1 hp1 → Rn G M d (pc + 2) lv (.ref n :: st) hp1 (n + 1) (kr - 1) (wr - N) Po) : Rn G M d pc lv (.int (iv x) :: st) hp n kr wr Po := by
  refine Rn.bd (fun bd => ?_)
  refine w_newi (N := N) hd harr hty (by rw [hx, nI_iv]) hN hkr hwr (fun hp1 h1 _ h3 => kk hp1 (va_up Γ n (some (tI cA N (rg lo hi)))) (ext_new ht bd) (by simp [va_up]) (ht.up h1 ⟨_, rfl, fun _ _ => ?_⟩ h3))
  show lo ≤ (0 : Int32).toInt ∧ (0 : Int32).toInt ≤ hi
  have e : (0 : Int32).toInt = 0 := by decide
  rw [e]; exact h0
theorem t_newJ {Γ : TG} {t0 N : Nat} {cA : ClassId} {x : Int} (ht : Tw Γ hp) (hd : decode M.2.1 pc = .ok (.newarray .long, 2)) (harr : Cond.arrayClass .long ∈ g_ws G) (hty : (g_ty G)[t0]? = some (cA, .long)) (hx : x = (N : Int)) (hN : N ≤ 1000000) (hkr : 1 ≤ kr) (hwr : N ≤ wr) (kk : ∀ (hp1 : MH) (Γ1 : TG), Ext Γ Γ1 → Γ1 n = some (tJ cA N anyJ) → Tw Γ1 hp1 → Rn G M d (pc + 2) lv (.ref n :: st) hp1 (n + 1) (kr - 1) (wr - N) Po) : Rn G M d pc lv (.int (iv x) :: st) hp n kr wr Po := by
  refine Rn.bd (fun bd => ?_)
  refine w_newl (N := N) hd harr hty (by rw [hx, nI_iv]) hN hkr hwr (fun hp1 h1 _ h3 => kk hp1 (va_up Γ n (some (tJ cA N anyJ))) (ext_new ht bd) (by simp [va_up]) (ht.up h1 ⟨_, rfl, fun _ _ => trivial⟩ h3))
theorem t_clone {Γ : TG} {ix t0 a L : Nat} {cA : ClassId} {lo hi : Int} (ht : Tw Γ hp) (hΓ : rd Γ a (tI cA L (rg lo hi))) (F : lkC G M.1.cls ix "[I") (hd : decode M.2.1 pc = .ok (.invokevirtual ix, 3)) (hty : (g_ty G)[t0]? = some (cA, .int)) (hst : (st.map fun v => v.category).sum ≤ 8) (hkr : 1 ≤ kr) (hwr : L ≤ wr) (kk : ∀ (hp1 : MH) (Γ1 : TG), Ext Γ Γ1 → Γ1 n = some (tI cA L (rg lo hi)) → Tw Γ1 hp1 → Rn G M d (pc + 3) lv (.ref n :: st) hp1 (n + 1) (kr - 1) (wr - L) Po) : Rn G M d pc lv (.ref a :: st) hp n kr wr Po := by
  refine Rn.bd (fun bd => ?_)
  obtain ⟨e, h1, f, rfl, h2⟩ := rd_at ht hΓ
  exact w_clone F hd hty h1 hst hkr hwr (fun hp1 h3 _ h5 => kk hp1 (va_up Γ n (some (tI cA L (rg lo hi)))) (ext_new ht bd) (by simp [va_up]) (ht.up h3 ⟨_, rfl, h2⟩ h5))
theorem t_castA {Γ : TG} {ix t0 a L : Nat} {cA : ClassId} {P : Nat → Int → Prop} (ht : Tw Γ hp) (hΓ : rd Γ a (tI cA L P)) (hd : decode M.2.1 pc = .ok (.checkcast ix, 3)) (hlk : Cond.classLink M.1.cls ix "[I" ∈ g_ws G) (hty : (g_ty G)[t0]? = some (cA, .int)) (kk : Rn G M d (pc + 3) lv (.ref a :: st) hp n kr wr Po) : Rn G M d pc lv (.ref a :: st) hp n kr wr Po := by
  obtain ⟨e, h1, f, rfl, h2⟩ := rd_at ht hΓ
  exact r_castA hd hlk hty h1 kk
def lk_lmax (G : MG) (own : String) (ix : Nat) : Prop := Cond.methodLink own ix Lib.MathLoose.max_long.x ∈ g_ws G ∧ Cond.static Lib.MathLoose.max_long.x ∈ g_ws G ∧ Cond.initialized "java/lang/Math" ∈ g_ws G ∧ Cond.code Lib.MathLoose.max_long.x Lib.MathLoose.max_long.code 4 (some .long) ∈ g_ws G
def lk_lmin (G : MG) (own : String) (ix : Nat) : Prop := Cond.methodLink own ix Lib.MathLoose.min_long.x ∈ g_ws G ∧ Cond.static Lib.MathLoose.min_long.x ∈ g_ws G ∧ Cond.initialized "java/lang/Math" ∈ g_ws G ∧ Cond.code Lib.MathLoose.min_long.x Lib.MathLoose.min_long.code 4 (some .long) ∈ g_ws G
theorem r_lmax {ix : Nat} {x y v : Int64} (F : lk_lmax G M.1.cls ix) (hd : decode M.2.1 pc = .ok (.invokestatic ix, 3)) (hst : (st.map fun v => v.category).sum ≤ 8) (hv : (if y < x then x else y) = v) (k : Rn G M d (pc + 3) lv (.long v :: st) hp n kr wr Po) : Rn G M d pc lv (.long y :: .long x :: st) hp n kr wr Po := by
  subst hv
  intro p l e s m args below meth c H locs cells slots mc ms ls C hl hw hS h1 h2
  exact va_mmax_long C.1 C.2.1 (by rw [C.2.2.1]; exact hl.1.symm) C.own (C.ts F.1) (C.ts F.2.1) (C.ts F.2.2.1) (C.ts F.2.2.2) (by show 1 ≤ d + 1; omega) (by show _ + 15 ≤ 64 * (d + 1); omega) (by show cells ≤ mc; omega) (by show slots ≤ ms; omega) hd (k p l e s m args below meth c H locs cells slots mc ms ls C hl hw hS h1 h2)
theorem r_lmin {ix : Nat} {x y v : Int64} (F : lk_lmin G M.1.cls ix) (hd : decode M.2.1 pc = .ok (.invokestatic ix, 3)) (hst : (st.map fun v => v.category).sum ≤ 8) (hv : (if y < x then y else x) = v) (k : Rn G M d (pc + 3) lv (.long v :: st) hp n kr wr Po) : Rn G M d pc lv (.long y :: .long x :: st) hp n kr wr Po := by
  subst hv
  intro p l e s m args below meth c H locs cells slots mc ms ls C hl hw hS h1 h2
  exact va_mmin_long C.1 C.2.1 (by rw [C.2.2.1]; exact hl.1.symm) C.own (C.ts F.1) (C.ts F.2.1) (C.ts F.2.2.1) (C.ts F.2.2.2) (by show 1 ≤ d + 1; omega) (by show _ + 15 ≤ 64 * (d + 1); omega) (by show cells ≤ mc; omega) (by show slots ≤ ms; omega) hd (k p l e s m args below meth c H locs cells slots mc ms ls C hl hw hS h1 h2)
theorem t_callVRN {Γ : TG} {st0 : List Value} {ix d' na b ci mc' ms' n' : Nat} {q : vw_C} {Fs : List (Value → Prop)} {M' : MM} {as : List Value} {lo hi : Int} (ht : Tw Γ hp) (hΓ : rd Γ b (tO ci Fs)) (F : lkK G M.1.cls ix M' na ∧ Cond.instanceMethod M'.1 ∈ g_ws G ∧ Cond.selects q.1 M'.1 M'.1 ∈ g_ws G ∧ M'.1.cls = q.1) (hc : (g_cl G)[ci]? = some q) (hd : decode M.2.1 pc = .ok (.invokevirtual ix, 3)) (hm : Mt G M' d' mc' ms' (.ref b :: as) hp n (pR Γ n' lo hi)) (ha : as.length = na) (hdd : d' + 1 ≤ d) (hst : (st.map fun v => v.category).sum ≤ 8) (hs0 : st0 = as.reverse ++ .ref b :: st) (hkr : mc' ≤ kr) (hwr : ms' ≤ wr) (kk : ∀ (hp1 : MH) (y : Int), Tw Γ hp1 → lo ≤ y ∧ y ≤ hi → Rn G M d (pc + 3) lv (.int (iv y) :: st) hp1 n' (kr - mc') (wr - ms') Po) : Rn G M d pc lv st0 hp n kr wr Po := by
  obtain ⟨fs, hb⟩ := t_obj ht hΓ
  refine r_callV F hc hd hb hm ha hdd hst hkr hwr hs0 (fun r hp1 n1 hq => ?_)
  obtain ⟨h1, h2, y, h3, h4⟩ := hq
  subst h1 h3
  exact kk hp1 y h2 h4
theorem t_callSRN {Γ : TG} {st0 : List Value} {ix d' na mc' ms' n' : Nat} {M' : MM} {as : List Value} {lo hi : Int} (F : lkK G M.1.cls ix M' na ∧ Cond.static M'.1 ∈ g_ws G) (hd : decode M.2.1 pc = .ok (.invokestatic ix, 3)) (hm : Mt G M' d' mc' ms' as hp n (pR Γ n' lo hi)) (ha : as.length = na) (hdd : d' + 1 ≤ d) (hst : (st.map fun v => v.category).sum ≤ 8) (hs0 : st0 = as.reverse ++ st) (hkr : mc' ≤ kr) (hwr : ms' ≤ wr) (kk : ∀ (hp1 : MH) (y : Int), Tw Γ hp1 → lo ≤ y ∧ y ≤ hi → Rn G M d (pc + 3) lv (.int (iv y) :: st) hp1 n' (kr - mc') (wr - ms') Po) : Rn G M d pc lv st0 hp n kr wr Po := by
  refine r_callS F hd hm ha hdd hst hkr hwr hs0 (fun r hp1 n1 hq => ?_)
  obtain ⟨h1, h2, y, h3, h4⟩ := hq
  subst h1 h3
  exact kk hp1 y h2 h4
theorem t_callVJN {Γ : TG} {st0 : List Value} {ix d' na b ci mc' ms' n' : Nat} {q : vw_C} {Fs : List (Value → Prop)} {M' : MM} {as : List Value} {Q : Int64 → Prop} (ht : Tw Γ hp) (hΓ : rd Γ b (tO ci Fs)) (F : lkK G M.1.cls ix M' na ∧ Cond.instanceMethod M'.1 ∈ g_ws G ∧ Cond.selects q.1 M'.1 M'.1 ∈ g_ws G ∧ M'.1.cls = q.1) (hc : (g_cl G)[ci]? = some q) (hd : decode M.2.1 pc = .ok (.invokevirtual ix, 3)) (hm : Mt G M' d' mc' ms' (.ref b :: as) hp n (pJ Γ n' Q)) (ha : as.length = na) (hdd : d' + 1 ≤ d) (hst : (st.map fun v => v.category).sum ≤ 8) (hs0 : st0 = as.reverse ++ .ref b :: st) (hkr : mc' ≤ kr) (hwr : ms' ≤ wr) (kk : ∀ (hp1 : MH) (y : Int64), Tw Γ hp1 → Q y → Rn G M d (pc + 3) lv (.long y :: st) hp1 n' (kr - mc') (wr - ms') Po) : Rn G M d pc lv st0 hp n kr wr Po := by
  obtain ⟨fs, hb⟩ := t_obj ht hΓ
  refine r_callV F hc hd hb hm ha hdd hst hkr hwr hs0 (fun r hp1 n1 hq => ?_)
  obtain ⟨h1, h2, y, h3, h4⟩ := hq
  subst h1 h3
  exact kk hp1 y h2 h4
theorem t_callSJN {Γ : TG} {st0 : List Value} {ix d' na mc' ms' n' : Nat} {M' : MM} {as : List Value} {Q : Int64 → Prop} (F : lkK G M.1.cls ix M' na ∧ Cond.static M'.1 ∈ g_ws G) (hd : decode M.2.1 pc = .ok (.invokestatic ix, 3)) (hm : Mt G M' d' mc' ms' as hp n (pJ Γ n' Q)) (ha : as.length = na) (hdd : d' + 1 ≤ d) (hst : (st.map fun v => v.category).sum ≤ 8) (hs0 : st0 = as.reverse ++ st) (hkr : mc' ≤ kr) (hwr : ms' ≤ wr) (kk : ∀ (hp1 : MH) (y : Int64), Tw Γ hp1 → Q y → Rn G M d (pc + 3) lv (.long y :: st) hp1 n' (kr - mc') (wr - ms') Po) : Rn G M d pc lv st0 hp n kr wr Po := by
  refine r_callS F hd hm ha hdd hst hkr hwr hs0 (fun r hp1 n1 hq => ?_)
  obtain ⟨h1, h2, y, h3, h4⟩ := hq
  subst h1 h3
  exact kk hp1 y h2 h4
theorem t_callVVN {Γ : TG} {st0 : List Value} {ix d' na b ci mc' ms' n' : Nat} {q : vw_C} {Fs : List (Value → Prop)} {M' : MM} {as : List Value} (ht : Tw Γ hp) (hΓ : rd Γ b (tO ci Fs)) (F : lkK G M.1.cls ix M' na ∧ Cond.instanceMethod M'.1 ∈ g_ws G ∧ Cond.selects q.1 M'.1 M'.1 ∈ g_ws G ∧ M'.1.cls = q.1) (hc : (g_cl G)[ci]? = some q) (hd : decode M.2.1 pc = .ok (.invokevirtual ix, 3)) (hm : Mt G M' d' mc' ms' (.ref b :: as) hp n (pV Γ n')) (ha : as.length = na) (hdd : d' + 1 ≤ d) (hst : (st.map fun v => v.category).sum ≤ 8) (hs0 : st0 = as.reverse ++ .ref b :: st) (hkr : mc' ≤ kr) (hwr : ms' ≤ wr) (kk : ∀ (hp1 : MH), Tw Γ hp1 → Rn G M d (pc + 3) lv st hp1 n' (kr - mc') (wr - ms') Po) : Rn G M d pc lv st0 hp n kr wr Po := by
  obtain ⟨fs, hb⟩ := t_obj ht hΓ
  refine r_callV F hc hd hb hm ha hdd hst hkr hwr hs0 (fun r hp1 n1 hq => ?_)
  obtain ⟨h1, h2, h3⟩ := hq
  subst h1 h3
  exact kk hp1 h2
theorem t_callSVN {Γ : TG} {st0 : List Value} {ix d' na mc' ms' n' : Nat} {M' : MM} {as : List Value} (F : lkK G M.1.cls ix M' na ∧ Cond.static M'.1 ∈ g_ws G) (hd : decode M.2.1 pc = .ok (.invokestatic ix, 3)) (hm : Mt G M' d' mc' ms' as hp n (pV Γ n')) (ha : as.length = na) (hdd : d' + 1 ≤ d) (hst : (st.map fun v => v.category).sum ≤ 8) (hs0 : st0 = as.reverse ++ st) (hkr : mc' ≤ kr) (hwr : ms' ≤ wr) (kk : ∀ (hp1 : MH), Tw Γ hp1 → Rn G M d (pc + 3) lv st hp1 n' (kr - mc') (wr - ms') Po) : Rn G M d pc lv st0 hp n kr wr Po := by
  refine r_callS F hd hm ha hdd hst hkr hwr hs0 (fun r hp1 n1 hq => ?_)
  obtain ⟨h1, h2, h3⟩ := hq
  subst h1 h3
  exact kk hp1 h2
end TC
section TM2
variable {X : va_G × List (ClassId × FieldType) × (Nat × Nat × Nat × (Nat → Int32))}
theorem qX0_111 : lk_lmin (gS, X) RX0 111 := ⟨(tb_t (k := 600) (w := Cond.methodLink RX0 111 Lib.MathLoose.min_long.x) (by decide +kernel)), (tb_t (k := 601) (w := Cond.static Lib.MathLoose.min_long.x) (by decide +kernel)), (tb_t (k := 12) (w := Cond.initialized "java/lang/Math") (by decide +kernel)), (tb_t (k := 602) (w := Cond.code Lib.MathLoose.min_long.x Lib.MathLoose.min_long.code 4 (some .long)) (by decide +kernel))⟩
theorem qX0_115 : lk_lmax (gS, X) RX0 115 := ⟨(tb_t (k := 603) (w := Cond.methodLink RX0 115 Lib.MathLoose.max_long.x) (by decide +kernel)), (tb_t (k := 604) (w := Cond.static Lib.MathLoose.max_long.x) (by decide +kernel)), (tb_t (k := 12) (w := Cond.initialized "java/lang/Math") (by decide +kernel)), (tb_t (k := 605) (w := Cond.code Lib.MathLoose.max_long.x Lib.MathLoose.max_long.code 4 (some .long)) (by decide +kernel))⟩
theorem qX10_107 : lk_lmin (gS, X) RX10 107 := ⟨(tb_t (k := 637) (w := Cond.methodLink RX10 107 Lib.MathLoose.min_long.x) (by decide +kernel)), (tb_t (k := 601) (w := Cond.static Lib.MathLoose.min_long.x) (by decide +kernel)), (tb_t (k := 12) (w := Cond.initialized "java/lang/Math") (by decide +kernel)), (tb_t (k := 602) (w := Cond.code Lib.MathLoose.min_long.x Lib.MathLoose.min_long.code 4 (some .long)) (by decide +kernel))⟩
end TM2
theorem t_fillI {D : va_G} {cI cJ cZ cT : ClassId} {lo b L : Nat} {xs : Nat → Int32} {M : MM} {d pc : Nat} {lv : List (Nat × Value)} {st : List Value} {hp : MH} {n kr wr : Nat} {Po : Option Value → MH → Nat → Prop} {Γ : TG} {ix a N : Nat} {l1 h1 x : Int} (ht : Tw Γ hp) (hΓ : Γ a = some (tI cI N (rg l1 h1))) (F : lkK (gG D cI cJ cZ cT lo b L xs) M.1.cls ix mJ7_fill_53178 2 ∧ Cond.static mJ7_fill_53178.1 ∈ g_ws (gG D cI cJ cZ cT lo b L xs)) (hd : decode M.2.1 pc = .ok (.invokestatic ix, 3)) (hN : N < 2 ^ 31) (hb : -2147483648 ≤ l1 ∧ h1 ≤ 2147483647) (hx : l1 ≤ x ∧ x ≤ h1) (hdd : 1 ≤ d) (hst : (st.map fun v => v.category).sum ≤ 8) (kk : ∀ hp1 : MH, Tw Γ hp1 → Rn (gG D cI cJ cZ cT lo b L xs) M d (pc + 3) lv st hp1 n kr wr Po) : Rn (gG D cI cJ cZ cT lo b L xs) M d pc lv (.int (iv x) :: .ref a :: st) hp n kr wr Po := by
  obtain ⟨e, h1', f, rfl, h2⟩ := rd_at ht (rd_of hΓ)
  refine r_callS (as := [.ref a, .int (iv x)]) (st := st) F hd (c_J7_fill_53178 (d := 0) (Nat.zero_le _) h1' hN) rfl (by omega) hst (Nat.zero_le _) (Nat.zero_le _) rfl (fun r hp1 n1 hq => ?_)
  obtain ⟨rfl, rfl, h4, h5⟩ := hq
  refine kk hp1 ?_
  intro q T' h7
  by_cases hq : q = a
  · subst hq
    rw [hΓ] at h7
    cases h7
    refine ⟨_, h4, _, rfl, ?_⟩
    intro i hi
    show l1 ≤ (if i < N then iv x else f i).toInt ∧ (if i < N then iv x else f i).toInt ≤ h1
    rw [if_pos hi, iv_toInt (by omega) (by omega)]; exact hx
  · obtain ⟨e', h8, h9⟩ := ht q T' h7
    exact ⟨e', h5 q e' h8 hq, h9⟩
theorem t_fillA {D : va_G} {cI cJ cZ cT : ClassId} {lo b L : Nat} {xs : Nat → Int32} {M : MM} {d pc : Nat} {lv : List (Nat × Value)} {st : List Value} {hp : MH} {n kr wr : Nat} {Po : Option Value → MH → Nat → Prop} {Γ : TG} {ix a N : Nat} {x : Int} (ht : Tw Γ hp) (hΓ : Γ a = some (tI cI N anyI)) (F : lkK (gG D cI cJ cZ cT lo b L xs) M.1.cls ix mJ7_fill_53178 2 ∧ Cond.static mJ7_fill_53178.1 ∈ g_ws (gG D cI cJ cZ cT lo b L xs)) (hd : decode M.2.1 pc = .ok (.invokestatic ix, 3)) (hN : N < 2 ^ 31) (hdd : 1 ≤ d) (hst : (st.map fun v => v.category).sum ≤ 8) (kk : ∀ hp1 : MH, Tw Γ hp1 → Rn (gG D cI cJ cZ cT lo b L xs) M d (pc + 3) lv st hp1 n kr wr Po) : Rn (gG D cI cJ cZ cT lo b L xs) M d pc lv (.int (iv x) :: .ref a :: st) hp n kr wr Po := by
  obtain ⟨e, h1', f, rfl, h2⟩ := rd_at ht (rd_of hΓ)
  refine r_callS (as := [.ref a, .int (iv x)]) (st := st) F hd (c_J7_fill_53178 (d := 0) (Nat.zero_le _) h1' hN) rfl (by omega) hst (Nat.zero_le _) (Nat.zero_le _) rfl (fun r hp1 n1 hq => ?_)
  obtain ⟨rfl, rfl, h4, h5⟩ := hq
  refine kk hp1 ?_
  intro q T' h7
  by_cases hq : q = a
  · subst hq
    rw [hΓ] at h7
    cases h7
    refine ⟨_, h4, _, rfl, ?_⟩
    intro i hi
    exact trivial
    
  · obtain ⟨e', h8, h9⟩ := ht q T' h7
    exact ⟨e', h5 q e' h8 hq, h9⟩
theorem t_fillJ {D : va_G} {cI cJ cZ cT : ClassId} {lo b L : Nat} {xs : Nat → Int32} {M : MM} {d pc : Nat} {lv : List (Nat × Value)} {st : List Value} {hp : MH} {n kr wr : Nat} {Po : Option Value → MH → Nat → Prop} {Γ : TG} {ix a N : Nat} {x : Int64} (ht : Tw Γ hp) (hΓ : Γ a = some (tJ cJ N anyJ)) (F : lkK (gG D cI cJ cZ cT lo b L xs) M.1.cls ix mJ7_fill_d0a16 2 ∧ Cond.static mJ7_fill_d0a16.1 ∈ g_ws (gG D cI cJ cZ cT lo b L xs)) (hd : decode M.2.1 pc = .ok (.invokestatic ix, 3)) (hN : N < 2 ^ 31) (hdd : 1 ≤ d) (hst : (st.map fun v => v.category).sum ≤ 8) (kk : ∀ hp1 : MH, Tw Γ hp1 → Rn (gG D cI cJ cZ cT lo b L xs) M d (pc + 3) lv st hp1 n kr wr Po) : Rn (gG D cI cJ cZ cT lo b L xs) M d pc lv (.long x :: .ref a :: st) hp n kr wr Po := by
  obtain ⟨e, h1', f, rfl, h2⟩ := rd_at ht (rd_of hΓ)
  refine r_callS (as := [.ref a, .long x]) (st := st) F hd (c_J7_fill_d0a16 (d := 0) (Nat.zero_le _) h1' hN) rfl (by omega) hst (Nat.zero_le _) (Nat.zero_le _) rfl (fun r hp1 n1 hq => ?_)
  obtain ⟨rfl, rfl, h4, h5⟩ := hq
  refine kk hp1 ?_
  intro q T' h7
  by_cases hq : q = a
  · subst hq
    rw [hΓ] at h7
    cases h7
    refine ⟨_, h4, _, rfl, ?_⟩
    intro i hi
    exact trivial
    
  · obtain ⟨e', h8, h9⟩ := ht q T' h7
    exact ⟨e', h5 q e' h8 hq, h9⟩
