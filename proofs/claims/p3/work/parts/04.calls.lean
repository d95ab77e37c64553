section RC
variable {G : MG} {M : MM} {d pc : Nat} {lv : List (Nat × Value)} {st : List Value} {hp : MH} {n kr wr : Nat} {Po : Option Value → MH → Nat → Prop}
theorem mw.lo {H : Heap} {s : State} {locs : List Loc} (hk : g_k G s) (hw : g_mw G hp n H) (hS : va_S (g_A G) s.heap H locs) : g_lo G ≤ n := by rw [← hw.1]; exact Nat.le_trans hk.2.2.2.2.2.2 hS.1
theorem va_S.grow {A : Nat → Prop} {H0 H H1 : Heap} {locs : List Loc} (hS : va_S A H0 H locs) (z : H1.size = H.size + 1) (o1 : ∀ q : Nat, q < H.size → H1[q]? = H[q]?) : va_S A H0 H1 locs := ⟨Nat.le_trans hS.1 (by omega), fun x h1 h2 => (o1 x (Nat.lt_of_lt_of_le h1 hS.1)).trans (hS.2.1 x h1 h2), hS.2.2⟩
def lkN (G : MG) (own : String) (ix ci : Nat) (Cn : String) (T : u_T) (N : Nat) : Prop := (g_cl G)[ci]? = some (Cn, T, N) ∧ (∀ w ∈ u_ws Cn T N, w ∈ g_ws G) ∧ Cond.classLink own ix Cn ∈ g_ws G ∧ Cond.instantiable Cn N ∈ g_ws G ∧ Cond.initialized Cn ∈ g_ws G
theorem r_new {ix ci : Nat} {Cn : String} {T : u_T} {N : Nat} {fs : List Value} (F : lkN G M.1.cls ix ci Cn T N) (ty : Nat → FieldType) (hty : ∀ k, k < N → parseFieldDescriptor (T k).2.2.1 = some (ty k)) (hfs : ∀ j, j < N → defaultValue (ty j) = vp_V fs j) (hd : decode M.2.1 pc = .ok (.new ix, 3)) (hkr : 1 ≤ kr) (hwr : N ≤ wr) (kk : Rn G M d (pc + 3) lv (.ref n :: st) (va_up hp n (some (.inr (ci, fs)))) (n + 1) (kr - 1) (wr - N) Po) : Rn G M d pc lv st hp n kr wr Po := by
  intro p l e s m args below meth c H locs cells slots mc ms ls C hl hw hS h1 h2
  obtain ⟨hc, hin, hcl, hinst, hini⟩ := F
  have hKn := C.K.1 ci _ hc
  refine W.newcK C.1 C.2.1 C.own (C.ts hcl) (C.ts hinst) (C.ts hini) rfl hd (by show _ ≤ mc; omega) (by show _ ≤ ms; omega) hKn.2.1 hw.1 fun H1 kC hkC e1 z1 o1 => ?_
  exact kk p l e s m args below meth c H1 locs (cells + 1) (slots + N) mc ms ls C hl (hw.push (mw.lo C.k hw hS) ⟨_, hc, (u_born ty (fun w h => C.ts h) hin hKn hkC e1 hty).to hfs⟩ z1 o1) (hS.grow (by rw [z1, hw.1]) (by rw [hw.1]; exact o1)) (by omega) (by omega)
theorem r_newa {atype : ArrayType} {t0 : Nat} {cA : ClassId} {ty : FieldType} {x : Int32} {N : Nat} {a0 : vp_A} (hty : newarray.typeOf atype = ty) (hd : decode M.2.1 pc = .ok (.newarray atype, 2)) (harr : Cond.arrayClass ty ∈ g_ws G) (ht : (g_ty G)[t0]? = some (cA, ty)) (hp0 : ∀ C : String, ty ≠ .object C) (ha : ∀ cA : ClassId, vp_cell cA a0 = arrV cA N (fun _ => defaultValue ty)) (hx : ¬ x < 0) (hN : x.toNatClampNeg = N) (hby : N * componentBytes ty ≤ 536870912) (hkr : 1 ≤ kr) (hwr : N ≤ wr)
    (kk : Rn G M d (pc + 2) lv (.ref n :: st) (va_up hp n (some (.inl (cA, a0)))) (n + 1) (kr - 1) (wr - N) Po) : Rn G M d pc lv (.int x :: st) hp n kr wr Po := by
  subst hty
  intro p l e s m args below meth c H locs cells slots mc ms ls C hl hw hS h1 h2
  refine va_newaK C.1 C.2.1 (C.ts harr) rfl hd rfl hx hN hby (by show _ ≤ mc; omega) (by show _ ≤ ms; omega) hw.1 fun H1 cA' e1 z1 o1 hAr hNm => ?_
  have hcA : cA' = cA := by
    have h9 := (C.K.2 t0 _ ht).2
    have h8 : s.vm.findClass ("[" ++ (newarray.typeOf atype).toString) = some cA := by cases atype <;> exact h9
    exact Option.some.inj (hNm.symm.trans h8)
  subst hcA
  exact kk p l e s m args below meth c H1 locs (cells + 1) (slots + N) mc ms ls C hl (hw.push (mw.lo C.k hw hS) (show H1[n]? = some (vp_cell _ _) by rw [ha]; exact e1) z1 o1) (hS.grow (by rw [z1, hw.1]) (by rw [hw.1]; exact o1)) (by omega) (by omega)
theorem r_anew {ix t0 : Nat} {cA : ClassId} {Cn : String} {x : Int32} {N : Nat} (hd : decode M.2.1 pc = .ok (.anewarray ix, 3)) (hcl : Cond.classLink M.1.cls ix Cn ∈ g_ws G) (hov : Cn ∈ g_ao G) (ht : (g_ty G)[t0]? = some (cA, .object Cn)) (hx : ¬ x < 0) (hN : x.toNatClampNeg = N) (hby : N * 4 ≤ 536870912) (hkr : 1 ≤ kr) (hwr : N ≤ wr)
    (kk : Rn G M d (pc + 3) lv (.ref n :: st) (va_up hp n (some (.inl (cA, N, .inr (.inr (.inr (.inr (fun _ => none)))))))) (n + 1) (kr - 1) (wr - N) Po) : Rn G M d pc lv (.int x :: st) hp n kr wr Po := by
  subst hN
  intro p l e s m args below meth c H locs cells slots mc ms ls C hl hw hS h1 h2
  refine W.anew C.1 C.2.1 C.own (C.ts hcl) (va_AO.use (C.k.2.2.2.1 _ hov).1) rfl hd rfl hx hby (by show _ ≤ mc; omega) (by show _ ≤ ms; omega) fun cA' kA comp f1 f2 f3 f4 => ?_
  have hcA : cA' = cA := by
    obtain ⟨_, _, _, _, _, h9⟩ := (C.K.2 t0 _ ht).2
    exact Option.some.inj (f1.symm.trans h9)
  subst hcA
  generalize hH1 : H.push ({ cls := cA', slots := Array.replicate x.toNatClampNeg .null, vm := .none } : Cell) = H1
  have z1 : H1.size = n + 1 := by rw [← hH1, Array.size_push, hw.1]
  have e1 : H1[n]? = some (arrV cA' x.toNatClampNeg (fun _ => .null)) := by rw [← hH1, ← hw.1, Array.getElem?_push_size, ← arrV_new]
  have o1 : ∀ q : Nat, q < n → H1[q]? = H[q]? := fun q hq => by rw [← hH1, Array.getElem?_push, if_neg (Nat.ne_of_lt (by rw [hw.1]; exact hq))]
  rw [hw.1]
  exact kk p l e s m args below meth c H1 locs (cells + 1) (slots + x.toNatClampNeg) mc ms ls C hl (hw.push (mw.lo C.k hw hS) (show H1[n]? = some (vp_cell _ _) by rw [vp_cell_q]; exact e1) z1 o1) (hS.grow (by rw [z1, hw.1]) (by rw [hw.1]; exact o1)) (by omega) (by omega)
def lkA (G : MG) (own : String) (ix : Nat) : Prop := Cond.methodLink own ix arraycopyName ∈ g_ws G ∧ Cond.native arraycopyName ∈ g_ws G ∧ Cond.static arraycopyName ∈ g_ws G ∧ Cond.initialized "java/lang/System" ∈ g_ws G
theorem nn_of {z : Int32} (hz : ¬ z < 0) : z.toInt = (z.toNatClampNeg : Int) := by
  have hz0 : (0 : Int) ≤ z.toInt := by
    have := Int32.not_lt.mp hz
    simpa using Int32.le_iff_toInt_le.mp this
  show z.toInt = ((z.toInt.toNat : Nat) : Int)
  omega
theorem r_copyi {ix t0 t1 a0 a : Nat} {c0 c1 : ClassId} {n0 n1 : Nat} {f g : Nat → Int32} {sp dp x : Int32} (F : lkA G M.1.cls ix) (hd : decode M.2.1 pc = .ok (.invokestatic ix, 3)) (ht0 : (g_ty G)[t0]? = some (c0, .int)) (ht1 : (g_ty G)[t1]? = some (c1, .int)) (ha0 : hp a0 = some (.inl (c0, n0, .inl f))) (ha : hp a = some (.inl (c1, n1, .inl g))) (g1 : ¬ sp < 0) (g2 : ¬ dp < 0) (g3 : ¬ x < 0) (g4 : sp.toNatClampNeg + x.toNatClampNeg ≤ n0) (g5 : dp.toNatClampNeg + x.toNatClampNeg ≤ n1) (hst : (st.map fun v => v.category).sum ≤ 8)
    (kk : Rn G M d (pc + 3) lv st (va_up hp a (some (.inl (c1, n1, .inl (va_cpy f g sp.toNatClampNeg dp.toNatClampNeg x.toNatClampNeg))))) n kr wr Po) : Rn G M d pc lv (.int x :: .int dp :: .ref a :: .int sp :: .ref a0 :: st) hp n kr wr Po := by
  intro p l e s m args below meth c H locs cells slots mc ms ls C hl hw hS h1 h2 T hT X
  have hc0 : H[a0]? = some (vp_cell c0 (n0, .inl f)) := (hw.2 a0 _ ha0).2
  have hc1 : H[a]? = some (vp_cell c1 (n1, .inl g)) := (hw.2 a _ ha).2
  obtain ⟨-, k0, hk0, cm0, hkk0⟩ := (C.K.2 t0 _ ht0).1 n0 (fun j => .int (f j))
  obtain ⟨-, k1, hk1, cm1, hkk1⟩ := (C.K.2 t1 _ ht1).1 n1 (fun j => .int (g j))
  obtain ⟨vm', X', step⟩ := X.arraycopy C.1 C.own (C.ts F.1) (C.ts F.2.1) (C.ts F.2.2.1) (C.ts F.2.2.2) (src := a0) (dst := a) (cs := vp_cell c0 (n0, .inl f)) (cd := vp_cell c1 (n1, .inl g)) (srcPos := sp) (destPos := dp) (n := x) (by rw [hT]; exact hc0) (by rw [hT]; exact hc1)
    (fun _ h => by cases h) (fun _ h => by cases h) (fun h => by cases h) (fun h => by cases h) hk0 hk1 hkk0 hkk1 (by simp [refKind]) g1 g2 g3
    (by rw [nn_of g1, nn_of g3]; show ¬ _ > ((arrV c0 n0 (fun j => .int (f j))).slots.size : Int); rw [arrV_size]; omega)
    (by rw [nn_of g2, nn_of g3]; show ¬ _ > ((arrV c1 n1 (fun j => .int (g j))).slots.size : Int); rw [arrV_size]; omega)
    (fun vm₁ _ i hi => by
      have e9 : (vp_cell c0 (n0, .inl f)).slots.getD (sp.toNatClampNeg + i) .null = .int (f (sp.toNatClampNeg + i)) := by
        show (arrV c0 n0 (fun j => .int (f j))).slots.getD _ _ = _
        rw [Array.getD_eq_getD_getElem?, arrV_read _ _ (by omega)]
        rfl
      refine ⟨?_, ?_⟩
      · rw [e9]; rfl
      · rw [e9]; exact trivial)
    (g := F0 m pc ls (.int x :: .int dp :: .ref a :: .int sp :: .ref a0 :: st)) rfl (by rw [C.2.2.1]; exact hl.1) (rest := st) rfl (by rw [C.2.1]; exact hd) (by show 1 ≤ d + 1; omega) (by
      show 2 * 0 + _ + (nativeFrameWords "java/lang/System" "arraycopy" 5 + 11) ≤ 64 * (d + 1)
      have : nativeFrameWords "java/lang/System" "arraycopy" 5 ≤ 40 := by decide +kernel
      omega)
  have e1 : copied (vp_cell c0 (n0, .inl f)) (vp_cell c1 (n1, .inl g)) sp dp x = vp_cell c1 (n1, .inl (va_cpy f g sp.toNatClampNeg dp.toNatClampNeg x.toNatClampNeg)) := va_copied (fun z => .int z) c0 c1 f g g4
  rw [e1] at X' step
  have hla : a < H.size := (Array.getElem?_eq_some_iff.mp hc1).1
  have hheap : ((T.setVm vm').setCell a (vp_cell c1 (n1, .inl (va_cpy f g sp.toNatClampNeg dp.toNatClampNeg x.toNatClampNeg)))).heap = H.setIfInBounds a (vp_cell c1 (n1, .inl (va_cpy f g sp.toNatClampNeg dp.toNatClampNeg x.toNatClampNeg))) := by rw [← hT]; rfl
  have oq : ∀ q : Nat, q ≠ a → (H.setIfInBounds a (vp_cell c1 (n1, .inl (va_cpy f g sp.toNatClampNeg dp.toNatClampNeg x.toNatClampNeg))))[q]? = H[q]? := fun q hq => by simp [Array.getElem?_setIfInBounds, Ne.symm hq]
  obtain ⟨t, a1, b1⟩ := kk p l e s m args below meth c _ _ cells slots mc ms ls C hl (hw.set ha (show (H.setIfInBounds a _)[a]? = some _ by simp [Array.getElem?_setIfInBounds, hla]) (by simp) oq) ⟨by simp; exact hS.1, fun q g1 g2 => by
      rw [oq q (fun e => g2 (by rw [e]; exact (hw.2 a _ ha).1))]
      exact hS.2.1 q g1 g2, fun q hq => by
      rcases List.mem_append.mp hq with h | h
      · exact hS.2.2 q h
      · obtain ⟨z, -, hz⟩ := List.mem_map.mp h
        rw [← hz]
        exact (hw.2 a _ ha).1⟩ h1 h2 _ hheap X'
  exact ⟨t, step t a1, b1⟩
theorem r_copyl {ix t0 t1 a0 a : Nat} {c0 c1 : ClassId} {n0 n1 : Nat} {f g : Nat → Int64} {sp dp x : Int32} (F : lkA G M.1.cls ix) (hd : decode M.2.1 pc = .ok (.invokestatic ix, 3)) (ht0 : (g_ty G)[t0]? = some (c0, .long)) (ht1 : (g_ty G)[t1]? = some (c1, .long)) (ha0 : hp a0 = some (.inl (c0, n0, .inr (.inl f)))) (ha : hp a = some (.inl (c1, n1, .inr (.inl g)))) (g1 : ¬ sp < 0) (g2 : ¬ dp < 0) (g3 : ¬ x < 0) (g4 : sp.toNatClampNeg + x.toNatClampNeg ≤ n0) (g5 : dp.toNatClampNeg + x.toNatClampNeg ≤ n1) (hst : (st.map fun v => v.category).sum ≤ 8)
    (kk : Rn G M d (pc + 3) lv st (va_up hp a (some (.inl (c1, n1, .inr (.inl (va_cpy f g sp.toNatClampNeg dp.toNatClampNeg x.toNatClampNeg)))))) n kr wr Po) : Rn G M d pc lv (.int x :: .int dp :: .ref a :: .int sp :: .ref a0 :: st) hp n kr wr Po := by
  intro p l e s m args below meth c H locs cells slots mc ms ls C hl hw hS h1 h2 T hT X
  have hc0 : H[a0]? = some (vp_cell c0 (n0, .inr (.inl f))) := (hw.2 a0 _ ha0).2
  have hc1 : H[a]? = some (vp_cell c1 (n1, .inr (.inl g))) := (hw.2 a _ ha).2
  obtain ⟨-, k0, hk0, cm0, hkk0⟩ := (C.K.2 t0 _ ht0).1 n0 (fun j => .long (f j))
  obtain ⟨-, k1, hk1, cm1, hkk1⟩ := (C.K.2 t1 _ ht1).1 n1 (fun j => .long (g j))
  obtain ⟨vm', X', step⟩ := X.arraycopy C.1 C.own (C.ts F.1) (C.ts F.2.1) (C.ts F.2.2.1) (C.ts F.2.2.2) (src := a0) (dst := a) (cs := vp_cell c0 (n0, .inr (.inl f))) (cd := vp_cell c1 (n1, .inr (.inl g))) (srcPos := sp) (destPos := dp) (n := x) (by rw [hT]; exact hc0) (by rw [hT]; exact hc1)
    (fun _ h => by cases h) (fun _ h => by cases h) (fun h => by cases h) (fun h => by cases h) hk0 hk1 hkk0 hkk1 (by simp [refKind]) g1 g2 g3
    (by rw [nn_of g1, nn_of g3]; show ¬ _ > ((arrV c0 n0 (fun j => .long (f j))).slots.size : Int); rw [arrV_size]; omega)
    (by rw [nn_of g2, nn_of g3]; show ¬ _ > ((arrV c1 n1 (fun j => .long (g j))).slots.size : Int); rw [arrV_size]; omega)
    (fun vm₁ _ i hi => by
      have e9 : (vp_cell c0 (n0, .inr (.inl f))).slots.getD (sp.toNatClampNeg + i) .null = .long (f (sp.toNatClampNeg + i)) := by
        show (arrV c0 n0 (fun j => .long (f j))).slots.getD _ _ = _
        rw [Array.getD_eq_getD_getElem?, arrV_read _ _ (by omega)]
        rfl
      refine ⟨?_, ?_⟩
      · rw [e9]; rfl
      · rw [e9]; exact trivial)
    (g := F0 m pc ls (.int x :: .int dp :: .ref a :: .int sp :: .ref a0 :: st)) rfl (by rw [C.2.2.1]; exact hl.1) (rest := st) rfl (by rw [C.2.1]; exact hd) (by show 1 ≤ d + 1; omega) (by
      show 2 * 0 + _ + (nativeFrameWords "java/lang/System" "arraycopy" 5 + 11) ≤ 64 * (d + 1)
      have : nativeFrameWords "java/lang/System" "arraycopy" 5 ≤ 40 := by decide +kernel
      omega)
  have e1 : copied (vp_cell c0 (n0, .inr (.inl f))) (vp_cell c1 (n1, .inr (.inl g))) sp dp x = vp_cell c1 (n1, .inr (.inl (va_cpy f g sp.toNatClampNeg dp.toNatClampNeg x.toNatClampNeg))) := va_copied (fun z => .long z) c0 c1 f g g4
  rw [e1] at X' step
  have hla : a < H.size := (Array.getElem?_eq_some_iff.mp hc1).1
  have hheap : ((T.setVm vm').setCell a (vp_cell c1 (n1, .inr (.inl (va_cpy f g sp.toNatClampNeg dp.toNatClampNeg x.toNatClampNeg))))).heap = H.setIfInBounds a (vp_cell c1 (n1, .inr (.inl (va_cpy f g sp.toNatClampNeg dp.toNatClampNeg x.toNatClampNeg)))) := by rw [← hT]; rfl
  have oq : ∀ q : Nat, q ≠ a → (H.setIfInBounds a (vp_cell c1 (n1, .inr (.inl (va_cpy f g sp.toNatClampNeg dp.toNatClampNeg x.toNatClampNeg)))))[q]? = H[q]? := fun q hq => by simp [Array.getElem?_setIfInBounds, Ne.symm hq]
  obtain ⟨t, a1, b1⟩ := kk p l e s m args below meth c _ _ cells slots mc ms ls C hl (hw.set ha (show (H.setIfInBounds a _)[a]? = some _ by simp [Array.getElem?_setIfInBounds, hla]) (by simp) oq) ⟨by simp; exact hS.1, fun q g1 g2 => by
      rw [oq q (fun e => g2 (by rw [e]; exact (hw.2 a _ ha).1))]
      exact hS.2.1 q g1 g2, fun q hq => by
      rcases List.mem_append.mp hq with h | h
      · exact hS.2.2 q h
      · obtain ⟨z, -, hz⟩ := List.mem_map.mp h
        rw [← hz]
        exact (hw.2 a _ ha).1⟩ h1 h2 _ hheap X'
  exact ⟨t, step t a1, b1⟩
def lkC (G : MG) (own : String) (ix : Nat) (ad : String) : Prop := Cond.methodLink own ix ⟨ad, "clone", "()Ljava/lang/Object;"⟩ ∈ g_ws G ∧ Cond.sameMethod ad "java/lang/Object" "clone" "()Ljava/lang/Object;" ∈ g_ws G ∧ Cond.native ⟨"java/lang/Object", "clone", "()Ljava/lang/Object;"⟩ ∈ g_ws G ∧ Cond.instanceMethod ⟨"java/lang/Object", "clone", "()Ljava/lang/Object;"⟩ ∈ g_ws G ∧ Cond.selects ad ⟨ad, "clone", "()Ljava/lang/Object;"⟩ ⟨"java/lang/Object", "clone", "()Ljava/lang/Object;"⟩ ∈ g_ws G ∧ (ad, "java/lang/Cloneable") ∈ g_ca G
theorem r_clone {ix t0 a N : Nat} {cA : ClassId} {f : Nat → Int32} (F : lkC G M.1.cls ix "[I") (hd : decode M.2.1 pc = .ok (.invokevirtual ix, 3)) (ht : (g_ty G)[t0]? = some (cA, .int)) (ha : hp a = some (.inl (cA, N, .inl f))) (hst : (st.map fun v => v.category).sum ≤ 8) (hkr : 1 ≤ kr) (hwr : N ≤ wr)
    (kk : Rn G M d (pc + 3) lv (.ref n :: st) (va_up hp n (some (.inl (cA, N, .inl f)))) (n + 1) (kr - 1) (wr - N) Po) : Rn G M d pc lv (.ref a :: st) hp n kr wr Po := by
  intro p l e s m args below meth c H locs cells slots mc ms ls C hl hw hS h1 h2 T hT X
  have hsz : (vp_cell cA (N, .inl f)).slots.size = N := arrV_size _ _ _
  have hcellE : ({ cls := (vp_cell cA (N, .inl f)).cls, slots := (vp_cell cA (N, .inl f)).slots } : Cell) = vp_cell cA (N, .inl f) := rfl
  have hnm := va_nm_int (C.K.2 t0 _ ht).2
  obtain ⟨c0, t0', f1, f2, f3⟩ := Cond.castable_spec (va_Nw.use (A := args) rfl (C.k.2.2.1 _ F.2.2.2.2.2))
  cases hnm.symm.trans f1
  have hcellT : T.heap[a]? = some (vp_cell cA (N, .inl f)) := by rw [hT]; exact (hw.2 a _ ha).2
  obtain ⟨-, kA, hkA, comp, hkind⟩ := State.isArrayOf_alike X.warmed.alike ((C.K.2 t0 _ ht).1 0 (fun _ => .null))
  obtain ⟨-, kS, hkS, compS, hkindS⟩ := (C.K.2 t0 _ ht).1 0 (fun _ => .null)
  obtain ⟨vm', X', stp⟩ := X.cloneArray C.1 C.own (C.ts F.1) (C.ts F.2.1) (C.ts F.2.2.1) (C.ts F.2.2.2.1) (C.ts F.2.2.2.2.1) (a := a) (cell := vp_cell cA (N, .inl f)) hcellT (fun k h => by cases h) (fun h => by cases h) hnm f2 f3
    (fun i v hv => by
      have hk' : T.vm.classes[cA]? = some kA := hkA
      have hv9 : (arrV cA N (fun j => .int (f j))).slots[i]? = some v := hv
      have hi : i < N := by
        have := (Array.getElem?_eq_some_iff.mp hv9).1
        rwa [arrV_size] at this
      rw [arrV_read _ _ hi] at hv9
      cases hv9
      have hkd : kA.kind = .array comp .int := hkind
      show T.fitsSlot cA _ i (.int (f i)) = true
      simp [State.fitsSlot, State.slotType?, hk', hkd, fits])
    (g := F0 m pc ls (.ref a :: st)) rfl (by rw [C.2.2.1]; exact hl.1) rfl (by rw [C.2.1]; exact hd) (by show 1 ≤ d + 1; omega) (by show 2 * 0 + _ + 14 ≤ 64 * (d + 1); omega) (by show _ ≤ mc; omega) (by rw [hsz]; show _ ≤ ms; omega) (hloader := Vm.clonesLoader_of_array hkS hkindS)
  rw [hcellE, hsz] at X'
  generalize hH1 : H.push (vp_cell cA (N, .inl f)) = H1
  have z1 : H1.size = n + 1 := by rw [← hH1, Array.size_push, hw.1]
  have e1 : H1[n]? = some (vp_cell cA (N, .inl f)) := by rw [← hH1, ← hw.1, Array.getElem?_push_size]
  have o1 : ∀ q : Nat, q < n → H1[q]? = H[q]? := fun q hq => by rw [← hH1, Array.getElem?_push, if_neg (Nat.ne_of_lt (by rw [hw.1]; exact hq))]
  obtain ⟨t, b1, b2⟩ := kk p l e s m args below meth c H1 locs (cells + 1) (slots + N) mc ms ls C hl (hw.push (mw.lo C.k hw hS) e1 z1 o1) (hS.grow (by rw [z1, hw.1]) (by rw [hw.1]; exact o1)) (by omega) (by omega) ((T.setVm vm').pushCell (vp_cell cA (N, .inl f))) (by rw [← hH1, ← hT]; rfl) X'
  refine ⟨t, stp t ?_, b2⟩
  rw [hcellE, hT, hw.1]
  exact b1
theorem mw.recv {H : Heap} {s : State} {a ci : Nat} {q : vw_C} {fs : List Value} (hk : g_k G s) (hw : g_mw G hp n H) (hc : (g_cl G)[ci]? = some q) (ha : hp a = some (.inr (ci, fs))) : ∃ cell : Cell, H[a]? = some cell ∧ cell.vm.isStatics = false ∧ s.vm.findClass q.1 = some cell.cls := va_recv hk.1 (hw.P ha) hc (q0 := 0) rfl
theorem r_castN {ix : Nat} (hd : decode M.2.1 pc = .ok (.checkcast ix, 3))  (k : Rn G M d (pc + 3) lv (.null :: st) hp n kr wr Po) : Rn G M d pc lv (.null :: st) hp n kr wr Po := by
  intro p l e s m args below meth c H locs cells slots mc ms ls C hl hw hS h1 h2
  exact lv_castN C.1 C.2.1 hd (k p l e s m args below meth c H locs cells slots mc ms ls C hl hw hS h1 h2)
theorem r_instN {ix : Nat} (hd : decode M.2.1 pc = .ok (.instanceof ix, 3))  (k : Rn G M d (pc + 3) lv (.int 0 :: st) hp n kr wr Po) : Rn G M d pc lv (.null :: st) hp n kr wr Po := by
  intro p l e s m args below meth c H locs cells slots mc ms ls C hl hw hS h1 h2
  exact lv_instN C.1 C.2.1 hd (k p l e s m args below meth c H locs cells slots mc ms ls C hl hw hS h1 h2)
theorem r_castS {ix a ci : Nat} {q : vw_C} {fs : List Value} {nm : String} (hd : decode M.2.1 pc = .ok (.checkcast ix, 3)) (hc : (g_cl G)[ci]? = some q) (ha : hp a = some (.inr (ci, fs))) (hlk : Cond.classLink M.1.cls ix nm ∈ g_ws G) (he : q.1 = nm) (k : Rn G M d (pc + 3) lv (.ref a :: st) hp n kr wr Po) : Rn G M d pc lv (.ref a :: st) hp n kr wr Po := by
  intro p l e s m args below meth c H locs cells slots mc ms ls C hl hw hS h1 h2
  subst he
  exact va_castS C.1 C.2.1 C.own (C.ts hlk) (C.K.1 ci q hc).2 (mw.recv C.k hw hc ha) hd (k p l e s m args below meth c H locs cells slots mc ms ls C hl hw hS h1 h2)
theorem r_instS {ix a ci : Nat} {q : vw_C} {fs : List Value} {nm : String} (hd : decode M.2.1 pc = .ok (.instanceof ix, 3)) (hc : (g_cl G)[ci]? = some q) (ha : hp a = some (.inr (ci, fs))) (hlk : Cond.classLink M.1.cls ix nm ∈ g_ws G) (he : q.1 = nm) (k : Rn G M d (pc + 3) lv (.int 1 :: st) hp n kr wr Po) : Rn G M d pc lv (.ref a :: st) hp n kr wr Po := by
  intro p l e s m args below meth c H locs cells slots mc ms ls C hl hw hS h1 h2
  subst he
  exact va_instS C.1 C.2.1 C.own (C.ts hlk) (C.K.1 ci q hc).2 (mw.recv C.k hw hc ha) hd (k p l e s m args below meth c H locs cells slots mc ms ls C hl hw hS h1 h2)
theorem r_instNo {ix a ci : Nat} {q : vw_C} {fs : List Value} {nm : String} (hd : decode M.2.1 pc = .ok (.instanceof ix, 3)) (hc : (g_cl G)[ci]? = some q) (ha : hp a = some (.inr (ci, fs))) (hlk : Cond.classLink M.1.cls ix nm ∈ g_ws G) (he : (q.1, nm) ∈ g_nc G) (k : Rn G M d (pc + 3) lv (.int 0 :: st) hp n kr wr Po) : Rn G M d pc lv (.ref a :: st) hp n kr wr Po := by
  intro p l e s m args below meth c H locs cells slots mc ms ls C hl hw hS h1 h2
  exact va_instNo C.1 C.2.1 C.own (C.ts hlk) (C.k.2.1 _ he) (mw.recv C.k hw hc ha) hd (k p l e s m args below meth c H locs cells slots mc ms ls C hl hw hS h1 h2)
theorem r_iret {v : Int32} (hd : decode M.2.1 pc = .ok (.ireturn, 1)) (hr : M.2.2.2 = some .int) (hq : Po (some (.int v)) hp n) : Rn G M d pc lv [.int v] hp n kr wr Po := by
  intro p l e s m args below meth c H locs cells slots mc ms ls C hl hw hS h1 h2
  refine W.widen (k := mc) (n := ms) (by omega) (by omega) ?_
  exact W.iret C.1 C.2.1 (C.2.2.2.1.trans hr) (fun t ht hW => ⟨⟨_, hp, n, rfl, hq, by rw [ht]; exact hw⟩, hS.F ht⟩) hS.2.2 hd C.2.2.2.2.1
theorem r_zret {v : Int32} (hd : decode M.2.1 pc = .ok (.ireturn, 1)) (hr : M.2.2.2 = some .boolean) (hn : narrow .boolean (.int v) = .int v) (hq : Po (some (.int v)) hp n) : Rn G M d pc lv [.int v] hp n kr wr Po := by
  intro p l e s m args below meth c H locs cells slots mc ms ls C hl hw hS h1 h2
  refine W.widen (k := mc) (n := ms) (by omega) (by omega) ?_
  exact W.zret C.1 C.2.1 (C.2.2.2.1.trans hr) hn (fun t ht hW => ⟨⟨_, hp, n, rfl, hq, by rw [ht]; exact hw⟩, hS.F ht⟩) hS.2.2 hd C.2.2.2.2.1
theorem r_lret {v : Int64} (hd : decode M.2.1 pc = .ok (.lreturn, 1)) (hr : M.2.2.2 = some .long) (hq : Po (some (.long v)) hp n) : Rn G M d pc lv [.long v] hp n kr wr Po := by
  intro p l e s m args below meth c H locs cells slots mc ms ls C hl hw hS h1 h2
  refine W.widen (k := mc) (n := ms) (by omega) (by omega) ?_
  exact W.lret C.1 C.2.1 (C.2.2.2.1.trans hr) (fun t ht hW => ⟨⟨_, hp, n, rfl, hq, by rw [ht]; exact hw⟩, hS.F ht⟩) hS.2.2 hd C.2.2.2.2.1
theorem r_vret  (hd : decode M.2.1 pc = .ok (.return_, 1)) (hr : M.2.2.2 = none) (hq : Po (none) hp n) : Rn G M d pc lv [] hp n kr wr Po := by
  intro p l e s m args below meth c H locs cells slots mc ms ls C hl hw hS h1 h2
  refine W.widen (k := mc) (n := ms) (by omega) (by omega) ?_
  exact W.vret C.1 C.2.1 (C.2.2.2.1.trans hr) (fun t ht hW => ⟨⟨_, hp, n, rfl, hq, by rw [ht]; exact hw⟩, hS.F ht⟩) hS.2.2 hd C.2.2.2.2.1
theorem r_aret {a : Nat} {rt : FieldType} (hd : decode M.2.1 pc = .ok (.areturn, 1)) (hr : M.2.2.2 = some rt) (hrt : (∃ n, rt = .object n) ∨ ∃ t, rt = .array t) (hq : Po (some (.ref a)) hp n) : Rn G M d pc lv [.ref a] hp n kr wr Po := by
  intro p l e s m args below meth c H locs cells slots mc ms ls C hl hw hS h1 h2
  refine W.widen (k := mc) (n := ms) (by omega) (by omega) ?_
  exact W.aret (v := .ref a) C.1 C.2.1 (C.2.2.2.1.trans hr) hrt (Or.inr ⟨_, rfl⟩) (fun t ht hW => ⟨⟨_, hp, n, rfl, hq, by rw [ht]; exact hw⟩, hS.F ht⟩) hS.2.2 hd C.2.2.2.2.1
theorem r_aretN {rt : FieldType} (hd : decode M.2.1 pc = .ok (.areturn, 1)) (hr : M.2.2.2 = some rt) (hrt : (∃ n, rt = .object n) ∨ ∃ t, rt = .array t) (hq : Po (some .null) hp n) : Rn G M d pc lv [.null] hp n kr wr Po := by
  intro p l e s m args below meth c H locs cells slots mc ms ls C hl hw hS h1 h2
  refine W.widen (k := mc) (n := ms) (by omega) (by omega) ?_
  exact W.aret (v := .null) C.1 C.2.1 (C.2.2.2.1.trans hr) hrt (Or.inl rfl) (fun t ht hW => ⟨⟨_, hp, n, rfl, hq, by rw [ht]; exact hw⟩, hS.F ht⟩) hS.2.2 hd C.2.2.2.2.1
theorem gw_in {big : List Cond} (hall : big.all goodWord = true) {ws : List Cond} (h : ∀ w ∈ ws, w ∈ big) : GoodIn big ws := fun w hw => ⟨h w hw, good_of_word (List.all_eq_true.mp hall w (h w hw))⟩
abbrev g_cw (G : MG) (M : MM) : List Cond := Cond.code M.1 M.2.1 M.2.2.1 M.2.2.2 :: g_ws G
theorem run_to {p : Program} {l : Launch} {e : Env} {s : State} {m : MethodId} {args : Array Value} {below : List Frame} {meth : Method} {c : Code} {H : Heap} {locs : List Loc} {cells slots mc ms : Nat} {ls : Array Slot} (C : mC G M p s m args meth c) (hl : lv_has ls M.2.2.1 lv) (hS : va_S (g_A G) s.heap H locs) (h1 : cells + kr ≤ mc) (h2 : slots + wr ≤ ms) {mc' ms' : Nat} {Po' : Option Value → MH → Nat → Prop} {av : Array Value} {st0 : List Value} (hkr : mc' ≤ kr) (hwr : ms' ≤ wr)
    (hr : va_Run p l e (mR d mc ms) s m args below meth c H locs cells slots mc' ms' (F0 m pc ls st0) st ((Qg G Po') av) (g_A G))
    (k : ∀ (r : Option Value) (hp1 : MH) (n1 : Nat), Po' r hp1 n1 → Rn G M d (pc + 3) lv (r.toList ++ st) hp1 n1 (kr - mc') (wr - ms') Po) :
    W p l e (mR d mc ms) s m args below meth c H locs cells slots (MQ below (Qg G Po) args s mc ms (g_A G)) (F0 m pc ls st0) := by
  intro T hT X
  obtain ⟨v, st₀, t, T', L, h0, X', hL, e1, e2, ⟨⟨r, hp1, n1, hv, hpo, hw1⟩, hz, hk⟩, stp⟩ := hr T hT X
  cases hv
  rw [h0] at hz hk
  have hS' : va_S (g_A G) s.heap T'.heap (locs ++ L) := ⟨Nat.le_trans hS.1 (by rw [e1]; exact hz), fun q g1 g2 => by rw [e1, hk q (Nat.lt_of_lt_of_le g1 hS.1) g2]; exact hS.2.1 q g1 g2, fun q hq => by
      rcases List.mem_append.mp hq with h | h
      · exact hS.2.2 q h
      · exact hL q h⟩
  obtain ⟨t2, a1, b1⟩ := k _ hp1 n1 hpo p l e s m args below meth c T'.heap (locs ++ L) (cells + mc') (slots + ms') mc ms ls C hl (by rw [e1]; exact hw1) hS' (by omega) (by omega) T' rfl X'
  exact ⟨t2, stp t2 a1, b1⟩
theorem pre_of {p : Program} {s : State} {m : MethodId} {args : Array Value} {meth : Method} {c : Code} {H : Heap} {locs : List Loc} {as : List Value} (C : mC G M p s m args meth c) (hw : g_mw G hp n H) (hS : va_S (g_A G) s.heap H locs) : PreS s H (va_Pc as (fun U => g_mw G hp n U.heap ∧ g_k G U)) as := by
  refine ⟨fun a U g mk q => ?_, fun U hU hW => ⟨rfl, by rw [hU]; exact hw, C.k.moved hW.alike hS hU⟩⟩
  obtain ⟨q0, q1, q2⟩ := q
  exact ⟨q0, q1, g_k.moved (u := U) (U := U.calling g mk a) (H := U.heap) (locs := []) q2 (Vm.Alike.refl U.vm) va_S.rf rfl⟩
def lkK (G : MG) (own : String) (ix : Nat) (M' : MM) (na : Nat) : Prop := (g_ws G).all goodWord = true ∧ Cond.methodLink own ix M'.1 ∈ g_ws G ∧ Cond.initialized M'.1.cls ∈ g_ws G ∧ Cond.code M'.1 M'.2.1 M'.2.2.1 M'.2.2.2 ∈ g_ws G ∧ (M'.1.cls ≠ "java/lang/invoke/MethodHandle" ∧ M'.1.cls ≠ "java/lang/invoke/VarHandle" ∧ (parseMethodDescriptor M'.1.desc).map (fun d => d.parameters.length) = some na) ∧ M'.2.2.1 ≤ 45
theorem lkK.in {own : String} {ix : Nat} {M' : MM} {na : Nat} (F : lkK G own ix M' na) : ∀ w ∈ g_cw G M', w ∈ g_ws G := fun w hw => by
  rcases List.mem_cons.mp hw with rfl | h
  · exact F.2.2.2.1
  · exact h
theorem r_callS {st0 : List Value} {ix d' mc' ms' na : Nat} {M' : MM} {as : List Value} {Po' : Option Value → MH → Nat → Prop} (F : lkK G M.1.cls ix M' na ∧ Cond.static M'.1 ∈ g_ws G) (hd : decode M.2.1 pc = .ok (.invokestatic ix, 3)) (hm : Mt G M' d' mc' ms' as hp n Po') (ha : as.length = na) (hdd : d' + 1 ≤ d) (hst : (st.map fun v => v.category).sum ≤ 8) (hkr : mc' ≤ kr) (hwr : ms' ≤ wr)
    (hs0 : st0 = as.reverse ++ st) (k : ∀ (r : Option Value) (hp1 : MH) (n1 : Nat), Po' r hp1 n1 → Rn G M d (pc + 3) lv (r.toList ++ st) hp1 n1 (kr - mc') (wr - ms') Po) : Rn G M d pc lv st0 hp n kr wr Po := by
  subst hs0
  intro p l e s m args below meth c H locs cells slots mc ms ls C hl hw hS h1 h2
  have hG : GoodIn (g_ws G) (va_wsS M.1.cls ix M'.1 (g_cw G M')) := gw_in F.1.1 (fun w hw => by
    rcases List.mem_append.mp hw with h | h
    · simp only [List.mem_cons, List.not_mem_nil, or_false] at h
      rcases h with rfl | rfl | rfl
      · exact F.1.2.1
      · exact F.2
      · exact F.1.2.2.1
    · exact F.1.in w h)
  exact run_to C hl hS h1 h2 hkr hwr (va_runS (As := as) (rest := st) ⟨C.1, C.2.1, C.2.2.1, C.own, fun w h => C.ts h⟩ (hm l) (va_cwS na (fun w h => C.ts h) hG rfl rfl rfl F.1.2.2.2.2.1 ⟨by show d' + 1 + 1 ≤ d + 1; omega, by show 8 + (M'.2.2.1 + 11) + 64 * (d' + 1) ≤ 64 * (d + 1); have := F.1.2.2.2.2.2; omega⟩) (pre_of C hw hS) rfl ha hl.1 rfl (lv_room hst) hd ⟨by show _ ≤ mc; omega, by show _ ≤ ms; omega⟩) k
theorem r_callI {st0 : List Value} {ix d' mc' ms' na b : Nat} {M' : MM} {as : List Value} {Po' : Option Value → MH → Nat → Prop} (F : lkK G M.1.cls ix M' na ∧ Cond.instanceMethod M'.1 ∈ g_ws G ∧ M'.1.name = "<init>" ∧ M'.2.2.2 = none) (hd : decode M.2.1 pc = .ok (.invokespecial ix, 3)) (hm : Mt G M' d' mc' ms' (.ref b :: as) hp n Po') (ha : as.length = na) (hdd : d' + 1 ≤ d) (hst : (st.map fun v => v.category).sum ≤ 8) (hkr : mc' ≤ kr) (hwr : ms' ≤ wr)
    (hs0 : st0 = as.reverse ++ .ref b :: st) (k : ∀ (r : Option Value) (hp1 : MH) (n1 : Nat), Po' r hp1 n1 → Rn G M d (pc + 3) lv (r.toList ++ st) hp1 n1 (kr - mc') (wr - ms') Po) : Rn G M d pc lv st0 hp n kr wr Po := by
  subst hs0
  obtain ⟨y', cc', mL', rt'⟩ := M'
  obtain ⟨F1, F2, F3, F4⟩ := F
  simp only at F4
  subst F4
  intro p l e s m args below meth c H locs cells slots mc ms ls C hl hw hS h1 h2
  exact run_to C hl hS h1 h2 hkr hwr (va_runI (As := as) (rest := st) ⟨C.1, C.2.1, C.2.2.1, C.own, fun w h => C.ts h⟩ (hm l) (cwI na (fun w h => C.ts h) (gw_in F1.1 F1.in) rfl rfl rfl (C.ts F1.2.2.1) (C.ts F1.2.1) (C.ts F2) F3 F1.2.2.2.2.1 ⟨by show d' + 1 + 1 ≤ d + 1; omega, by show 8 + (mL' + 11) + 64 * (d' + 1) ≤ 64 * (d + 1); have h9 : mL' ≤ 45 := F1.2.2.2.2.2; omega⟩) (pre_of C hw hS) rfl ha hl.1 rfl (lv_room hst) hd ⟨by show _ ≤ mc; omega, by show _ ≤ ms; omega⟩) k
theorem r_callV {st0 : List Value} {ix d' mc' ms' na b ci : Nat} {q : vw_C} {fs : List Value} {M' : MM} {as : List Value} {Po' : Option Value → MH → Nat → Prop} (F : lkK G M.1.cls ix M' na ∧ Cond.instanceMethod M'.1 ∈ g_ws G ∧ Cond.selects q.1 M'.1 M'.1 ∈ g_ws G ∧ M'.1.cls = q.1) (hc : (g_cl G)[ci]? = some q) (hd : decode M.2.1 pc = .ok (.invokevirtual ix, 3)) (hb : hp b = some (.inr (ci, fs))) (hm : Mt G M' d' mc' ms' (.ref b :: as) hp n Po') (ha : as.length = na) (hdd : d' + 1 ≤ d) (hst : (st.map fun v => v.category).sum ≤ 8) (hkr : mc' ≤ kr) (hwr : ms' ≤ wr)
    (hs0 : st0 = as.reverse ++ .ref b :: st) (k : ∀ (r : Option Value) (hp1 : MH) (n1 : Nat), Po' r hp1 n1 → Rn G M d (pc + 3) lv (r.toList ++ st) hp1 n1 (kr - mc') (wr - ms') Po) : Rn G M d pc lv st0 hp n kr wr Po := by
  subst hs0
  intro p l e s m args below meth c H locs cells slots mc ms ls C hl hw hS h1 h2
  have hG : GoodIn (g_ws G) (wsV M.1.cls ix q.1 M'.1 (g_cw G M')) := gw_in F.1.1 (fun w hw => by
    rcases List.mem_append.mp hw with h | h
    · simp only [List.mem_cons, List.not_mem_nil, or_false] at h
      rcases h with rfl | rfl | rfl | rfl
      · exact F.1.2.1
      · exact F.2.1
      · exact F.2.2.1
      · rw [← F.2.2.2]; exact F.1.2.2.1
    · exact F.1.in w h)
  have hpre := pre_of (as := .ref b :: as) C hw hS
  exact run_to C hl hS h1 h2 hkr hwr (va_runV (C := q.1) (As := as) (rest := st) ⟨C.1, C.2.1, C.2.2.1, C.own, fun w h => C.ts h⟩ (hm l) (cwV na (fun w h => C.ts h) hG rfl rfl rfl ⟨F.2.2.2, F.1.2.2.2.2.1⟩ ⟨by show d' + 1 + 1 ≤ d + 1; omega, by show 8 + (M'.2.2.1 + 11) + 64 * (d' + 1) ≤ 64 * (d + 1); have := F.1.2.2.2.2.2; omega⟩) ⟨hpre.1, mw.recv C.k hw hc hb, hpre.2⟩ rfl ha hl.1 rfl (lv_room hst) hd ⟨by show _ ≤ mc; omega, by show _ ≤ ms; omega⟩) k
theorem r_objInit {ix b : Nat} (F : Cond.methodLink M.1.cls ix objectInit ∈ g_ws G ∧ Cond.instanceMethod objectInit ∈ g_ws G ∧ Cond.code objectInit ⟨#[0xb1]⟩ 1 none ∈ g_ws G) (hd : decode M.2.1 pc = .ok (.invokespecial ix, 3)) (hst : (st.map fun v => v.category).sum ≤ 8) (k : Rn G M d (pc + 3) lv st hp n kr wr Po) : Rn G M d pc lv (.ref b :: st) hp n kr wr Po := by
  intro p l e s m args below meth c H locs cells slots mc ms ls C hl hw hS h1 h2
  exact W.objInit C.1 C.2.1 C.own (C.ts F.1) (C.ts F.2.1) (C.ts F.2.2) rfl (by rw [C.2.2.1]; exact hl.1) rfl hd (by show 1 ≤ d + 1; omega) (by show 2 * 0 + _ + 12 ≤ 64 * (d + 1); omega) (k p l e s m args below meth c H locs cells slots mc ms ls C hl hw hS h1 h2)
end RC
