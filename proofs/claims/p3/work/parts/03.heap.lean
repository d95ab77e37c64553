section RH
variable {G : MG} {M : MM} {d pc : Nat} {lv : List (Nat × Value)} {st : List Value} {hp : MH} {n kr wr : Nat} {Po : Option Value → MH → Nat → Prop}
theorem mC.ts {p : Program} {s : State} {m : MethodId} {args : Array Value} {meth : Method} {c : Code} (C : mC G M p s m args meth c) {w : Cond} (h : w ∈ g_ws G) : w.before args s = true := C.2.2.2.2.2.2.2.1 w h
theorem mC.own {p : Program} {s : State} {m : MethodId} {args : Array Value} {meth : Method} {c : Code} (C : mC G M p s m args meth c) : s.vm.findClass M.1.cls = some m.cls := C.2.2.2.2.2.1
theorem mC.k {p : Program} {s : State} {m : MethodId} {args : Array Value} {meth : Method} {c : Code} (C : mC G M p s m args meth c) : g_k G s := C.2.2.2.2.2.2.2.2
theorem mC.K {p : Program} {s : State} {m : MethodId} {args : Array Value} {meth : Method} {c : Code} (C : mC G M p s m args meth c) : va_K (g_D G) (g_cl G) (g_ty G) s := C.k.1
theorem r_lconst {j : Fin 2} {v : Int64} (hd : decode M.2.1 pc = .ok (.lconst j, 1)) (hv : Int64.ofNat (j : Nat) = v) (k : Rn G M d (pc + 1) lv (.long v :: st) hp n kr wr Po) : Rn G M d pc lv st hp n kr wr Po := by
  intro p l e s m args below meth c H locs cells slots mc ms ls C hl hw hS h1 h2
  exact lv_lconst C.1 C.2.1 hd hv (k p l e s m args below meth c H locs cells slots mc ms ls C hl hw hS h1 h2)
theorem r_lshl {x : Int64} {y : Int32} (hd : decode M.2.1 pc = .ok (.lshl, 1))  (k : Rn G M d (pc + 1) lv (.long (x <<< (y.toInt64 &&& 63)) :: st) hp n kr wr Po) : Rn G M d pc lv (.int y :: .long x :: st) hp n kr wr Po := by
  intro p l e s m args below meth c H locs cells slots mc ms ls C hl hw hS h1 h2
  exact lv_lshl C.1 C.2.1 hd rfl (k p l e s m args below meth c H locs cells slots mc ms ls C hl hw hS h1 h2)
theorem r_lshr {x : Int64} {y : Int32} (hd : decode M.2.1 pc = .ok (.lshr, 1))  (k : Rn G M d (pc + 1) lv (.long (x >>> (y.toInt64 &&& 63)) :: st) hp n kr wr Po) : Rn G M d pc lv (.int y :: .long x :: st) hp n kr wr Po := by
  intro p l e s m args below meth c H locs cells slots mc ms ls C hl hw hS h1 h2
  exact lv_lshr C.1 C.2.1 hd rfl (k p l e s m args below meth c H locs cells slots mc ms ls C hl hw hS h1 h2)
theorem r_lushr {x : Int64} {y : Int32} (hd : decode M.2.1 pc = .ok (.lushr, 1))  (k : Rn G M d (pc + 1) lv (.long ((x.toUInt64 >>> (y.toInt64.toUInt64 &&& Int64.toUInt64 63)).toInt64) :: st) hp n kr wr Po) : Rn G M d pc lv (.int y :: .long x :: st) hp n kr wr Po := by
  intro p l e s m args below meth c H locs cells slots mc ms ls C hl hw hS h1 h2
  exact lv_lushr C.1 C.2.1 hd rfl (k p l e s m args below meth c H locs cells slots mc ms ls C hl hw hS h1 h2)
theorem r_lcmp {x y : Int64} (hd : decode M.2.1 pc = .ok (.lcmp, 1))  (k : Rn G M d (pc + 1) lv (.int (lg_cmp x y) :: st) hp n kr wr Po) : Rn G M d pc lv (.long y :: .long x :: st) hp n kr wr Po := by
  intro p l e s m args below meth c H locs cells slots mc ms ls C hl hw hS h1 h2
  exact W.lcmp C.1 C.2.1 hd (k p l e s m args below meth c H locs cells slots mc ms ls C hl hw hS h1 h2)
theorem r_dup2_11 {v u : Value} (hd : decode M.2.1 pc = .ok (.dup2, 1)) (hv : v.category = 1) (hu : u.category = 1) (k : Rn G M d (pc + 1) lv (v :: u :: v :: u :: st) hp n kr wr Po) : Rn G M d pc lv (v :: u :: st) hp n kr wr Po := by
  intro p l e s m args below meth c H locs cells slots mc ms ls C hl hw hS h1 h2
  exact lv_dup2_11 C.1 C.2.1 hd hv hu (k p l e s m args below meth c H locs cells slots mc ms ls C hl hw hS h1 h2)
theorem r_dup2_2 {v : Value} (hd : decode M.2.1 pc = .ok (.dup2, 1)) (hv : v.category = 2) (k : Rn G M d (pc + 1) lv (v :: v :: st) hp n kr wr Po) : Rn G M d pc lv (v :: st) hp n kr wr Po := by
  intro p l e s m args below meth c H locs cells slots mc ms ls C hl hw hS h1 h2
  exact lv_dup2_2 C.1 C.2.1 hd hv (k p l e s m args below meth c H locs cells slots mc ms ls C hl hw hS h1 h2)
theorem r_pop2_2 {v : Value} (hd : decode M.2.1 pc = .ok (.pop2, 1)) (hv : v.category = 2) (k : Rn G M d (pc + 1) lv st hp n kr wr Po) : Rn G M d pc lv (v :: st) hp n kr wr Po := by
  intro p l e s m args below meth c H locs cells slots mc ms ls C hl hw hS h1 h2
  exact lv_pop2_2 C.1 C.2.1 hd hv (k p l e s m args below meth c H locs cells slots mc ms ls C hl hw hS h1 h2)
theorem r_ldc {ix : Nat} {v : Int32} (hd : decode M.2.1 pc = .ok (.ldc ix, 2)) (hc : Cond.constant M.1.cls ix v ∈ g_ws G) (k : Rn G M d (pc + 2) lv (.int v :: st) hp n kr wr Po) : Rn G M d pc lv st hp n kr wr Po := by
  intro p l e s m args below meth c H locs cells slots mc ms ls C hl hw hS h1 h2
  exact lv_ldc C.1 C.2.1 C.own (C.ts hc) hd (k p l e s m args below meth c H locs cells slots mc ms ls C hl hw hS h1 h2)
theorem r_ldcw {ix : Nat} {v : Int32} (hd : decode M.2.1 pc = .ok (.ldc_w ix, 3)) (hc : Cond.constant M.1.cls ix v ∈ g_ws G) (k : Rn G M d (pc + 3) lv (.int v :: st) hp n kr wr Po) : Rn G M d pc lv st hp n kr wr Po := by
  intro p l e s m args below meth c H locs cells slots mc ms ls C hl hw hS h1 h2
  exact lv_ldcw C.1 C.2.1 C.own (C.ts hc) hd (k p l e s m args below meth c H locs cells slots mc ms ls C hl hw hS h1 h2)
theorem r_ldc2 {ix : Nat} {v : Int64} (hd : decode M.2.1 pc = .ok (.ldc2_w ix, 3)) (hc : Cond.constantLong M.1.cls ix v ∈ g_ws G) (k : Rn G M d (pc + 3) lv (.long v :: st) hp n kr wr Po) : Rn G M d pc lv st hp n kr wr Po := by
  intro p l e s m args below meth c H locs cells slots mc ms ls C hl hw hS h1 h2
  exact lv_ldc2 C.1 C.2.1 C.own (C.ts hc) hd (k p l e s m args below meth c H locs cells slots mc ms ls C hl hw hS h1 h2)
def lkF (G : MG) (own : String) (ix ci k : Nat) (ref Cn : String) (T : u_T) (N : Nat) : Prop := (g_cl G)[ci]? = some (Cn, T, N) ∧ (∀ w ∈ u_ws Cn T N, w ∈ g_ws G) ∧ k < N ∧ Cond.fieldLink own ix ref (T k).2.1 (T k).2.2.1 ∈ g_ws G ∧ (ref = (T k).1 ∨ Cond.sameField ref (T k).1 (T k).2.1 (T k).2.2.1 ∈ g_ws G)
theorem lkF.same {own : String} {ix ci k : Nat} {ref Cn : String} {T : u_T} {N : Nat} (h : lkF G own ix ci k ref Cn T N) {p : Program} {s : State} {m : MethodId} {args : Array Value} {meth : Method} {c : Code} (C : mC G M p s m args meth c) : ∀ x, s.fieldFound? (T k).1 (T k).2.1 (T k).2.2.1 = some x → s.fieldFound? ref (T k).2.1 (T k).2.2.1 = some x := by
  intro x hx
  rcases h.2.2.2.2 with e | e
  · rw [e]; exact hx
  · exact u_same (C.ts e) x hx
theorem r_get {ix ci k a : Nat} {ref Cn : String} {T : u_T} {N : Nat} {fs : List Value} {v : Value} (F : lkF G M.1.cls ix ci k ref Cn T N) (hd : decode M.2.1 pc = .ok (.getfield ix, 3)) (ha : hp a = some (.inr (ci, fs))) (hv : fs[k]? = some v) (kk : Rn G M d (pc + 3) lv (v :: st) hp n kr wr Po) : Rn G M d pc lv (.ref a :: st) hp n kr wr Po := by
  intro p l e s m args below meth c H locs cells slots mc ms ls C hl hw hS h1 h2
  exact va_get (q0 := 0) C.1 C.2.1 (fun w h => C.ts h) F.2.1 C.own C.K (hw.P ha) rfl F.1 k F.2.2.1 (C.ts F.2.2.2.1) (F.same C) hv hd (kk p l e s m args below meth c H locs cells slots mc ms ls C hl hw hS h1 h2)
theorem r_put {ix ci k a : Nat} {ref Cn : String} {T : u_T} {N : Nat} {fs : List Value} {v : Value} {ty : FieldType} (F : lkF G M.1.cls ix ci k ref Cn T N) (ty0 : Nat → FieldType) (hty : ∀ k, k < N → parseFieldDescriptor (T k).2.2.1 = some (ty0 k)) (hnm : ∀ a, a < N → ∀ b, b < N → a ≠ b → (T a).2.1 ≠ (T b).2.1) (hdt : parseFieldDescriptor (T k).2.2.1 = some ty)
    (hf : (T k).2.2.2 = false ∨ ((T k).2.2.2 = true ∧ M.1.name = "<init>" ∧ (T k).1 = M.1.cls)) (hd : decode M.2.1 pc = .ok (.putfield ix, 3)) (ha : hp a = some (.inr (ci, fs))) (hl9 : k < fs.length) (hn : narrow ty v = v) (hfit : fits ty v = true) (kk : Rn G M d (pc + 3) lv st (va_up hp a (some (.inr (ci, fs.set k v)))) n kr wr Po) : Rn G M d pc lv (v :: .ref a :: st) hp n kr wr Po := by
  intro p l e s m args below meth c H locs cells slots mc ms ls C hl hw hS h1 h2
  have hts : ∀ w ∈ g_ws G, w.before args s = true := fun w h => C.ts h
  have hP := hw.P ha
  obtain ⟨hc, hin, hk, hlink, -⟩ := id F
  have hap := va_apart (own := M.1.cls) hts hin ty0 hty hnm C.K hc
  obtain ⟨r, q0, cell, q1, q2, q3, q4⟩ := (hw.2 a _ ha).2
  have hr : r = (Cn, T, N) := Option.some.inj (q0.symm.trans hc)
  subst hr
  obtain ⟨hSl, hfc, kC, hkC, hkind⟩ := C.K.1 ci _ hc
  obtain ⟨cf, kf, fi, f, hi, hsl⟩ := hSl k hk
  have hlay := hts _ (hin _ (u_in_lay hk))
  have hst := (u_facts hfc hkC (u_lays hts hin hk) hi).1
  have fin : ∀ H' : Heap, H'[a]? = some (cell.setSlot f.slot v) → H'.size = H.size → (∀ q, q ≠ a → H'[q]? = H[q]?) → W p l e (mR d mc ms) s m args below meth c H' (locs ++ [⟨a, f.slot⟩]) cells slots (MQ below (Qg G Po) args s mc ms (g_A G)) (F0 m (pc + 3) ls st) := by
    intro H' e1 e2 e3
    rw [hsl] at e1 ⊢
    exact kk p l e s m args below meth c H' _ cells slots mc ms ls C hl (hw.set ha ⟨_, hc, t_OB.to (V := updV (vp_V fs) k v) ⟨_, e1, q2, q3, t_set q4 hap hk v⟩ (fun j _ => vp_updV_set hl9 v j)⟩ e2 e3) (hS.put e2 e3 (hw.2 a _ ha).1) h1 h2
  rcases hf with hf | ⟨hf, hini, hdecl⟩
  · unfold u_lay at hlay
    rw [if_neg (by rw [hf]; decide)] at hlay
    exact W.putK C.1 C.2.1 (f := f) ⟨C.own, C.ts hlink, ⟨_, _, _, F.same C _ hi⟩, hst⟩ (by rw [q2]; exact u_store hfc hkC hkind hlay hi hdt hn hfit) q1 q3 (by rw [hsl]; exact k2_hasslot (q4 k hk)) rfl rfl hd fin
  · unfold u_lay at hlay
    rw [if_pos hf] at hlay
    have hcf : m.cls = cf := by
      obtain ⟨_, _, c', _, _, _, -, -, hf', -, -, -, hown2, -⟩ := Cond.laysFinal_spec hlay
      have e1 : c' = cf := by have := hi.symm.trans hf'; simp at this; exact this.1.symm
      rw [hdecl] at hown2
      rw [← e1]; exact Option.some.inj (C.own.symm.trans hown2)
    exact W.putFinK C.1 C.2.1 C.own (C.ts hlink) (F.same C _ hi) hst hcf (C.2.2.2.2.2.2.1.trans hini) (by rw [q2]; exact u_fits hfc hkC hkind (Or.inr hlay) hi hdt hn hfit) q1 q3 (by rw [hsl]; exact k2_hasslot (q4 k hk)) rfl rfl hd fin
theorem r_iald {a t0 : Nat} {cA : ClassId} {N : Nat} {f : Nat → Int32} {i : Int32} (hd : decode M.2.1 pc = .ok (.iaload, 1)) (ht : (g_ty G)[t0]? = some (cA, .int)) (ha : hp a = some (.inl (cA, N, .inl f))) (hin : vp_in i N) (kk : Rn G M d (pc + 1) lv (.int (f i.toNatClampNeg) :: st) hp n kr wr Po) : Rn G M d pc lv (.int i :: .ref a :: st) hp n kr wr Po := by
  intro p l e s m args below meth c H locs cells slots mc ms ls C hl hw hS h1 h2
  exact va_iald C.1 C.2.1 C.K (hw.P ha) 0 t0 rfl ht hin hd (kk p l e s m args below meth c H locs cells slots mc ms ls C hl hw hS h1 h2)
theorem r_zald {a t0 : Nat} {cA : ClassId} {N : Nat} {f : Nat → Int32} {i : Int32} (hd : decode M.2.1 pc = .ok (.baload, 1)) (ht : (g_ty G)[t0]? = some (cA, .boolean)) (ha : hp a = some (.inl (cA, N, .inl f))) (hin : vp_in i N) (kk : Rn G M d (pc + 1) lv (.int (f i.toNatClampNeg) :: st) hp n kr wr Po) : Rn G M d pc lv (.int i :: .ref a :: st) hp n kr wr Po := by
  intro p l e s m args below meth c H locs cells slots mc ms ls C hl hw hS h1 h2
  exact va_zald C.1 C.2.1 C.K (hw.P ha) 0 t0 rfl ht hin hd (kk p l e s m args below meth c H locs cells slots mc ms ls C hl hw hS h1 h2)
theorem r_lald {a t0 : Nat} {cA : ClassId} {N : Nat} {f : Nat → Int64} {i : Int32} (hd : decode M.2.1 pc = .ok (.laload, 1)) (ht : (g_ty G)[t0]? = some (cA, .long)) (ha : hp a = some (.inl (cA, N, .inr (.inl f)))) (hin : vp_in i N) (kk : Rn G M d (pc + 1) lv (.long (f i.toNatClampNeg) :: st) hp n kr wr Po) : Rn G M d pc lv (.int i :: .ref a :: st) hp n kr wr Po := by
  intro p l e s m args below meth c H locs cells slots mc ms ls C hl hw hS h1 h2
  exact va_lald C.1 C.2.1 C.K (hw.P ha) 0 t0 rfl ht hin hd (kk p l e s m args below meth c H locs cells slots mc ms ls C hl hw hS h1 h2)
theorem r_aald {a t0 : Nat} {cA : ClassId} {N : Nat} {f : Nat → Option Nat} {i : Int32} {Cn : String} (hd : decode M.2.1 pc = .ok (.aaload, 1)) (ht : (g_ty G)[t0]? = some (cA, .object Cn)) (ha : hp a = some (.inl (cA, N, .inr (.inr (.inr (.inr f)))))) (hin : vp_in i N) (kk : Rn G M d (pc + 1) lv (va_rf (f i.toNatClampNeg) :: st) hp n kr wr Po) : Rn G M d pc lv (.int i :: .ref a :: st) hp n kr wr Po := by
  intro p l e s m args below meth c H locs cells slots mc ms ls C hl hw hS h1 h2
  exact va_aldq C.1 C.2.1 C.K (hw.P ha) 0 t0 rfl ht hin hd (kk p l e s m args below meth c H locs cells slots mc ms ls C hl hw hS h1 h2)
theorem r_alen {a t0 : Nat} {cA : ClassId} {x : vp_A} {ty : FieldType} (hd : decode M.2.1 pc = .ok (.arraylength, 1)) (ht : (g_ty G)[t0]? = some (cA, ty)) (ha : hp a = some (.inl (cA, x))) (kk : Rn G M d (pc + 1) lv (.int (nI x.1) :: st) hp n kr wr Po) : Rn G M d pc lv (.ref a :: st) hp n kr wr Po := by
  intro p l e s m args below meth c H locs cells slots mc ms ls C hl hw hS h1 h2
  exact va_alen C.1 C.2.1 C.K (hw.P ha) 0 t0 rfl ht rfl hd (kk p l e s m args below meth c H locs cells slots mc ms ls C hl hw hS h1 h2)
theorem r_sld {i : Int32} (hd : decode M.2.1 pc = .ok (.iaload, 1)) (hin : vp_in i (g_L G)) (kk : Rn G M d (pc + 1) lv (.int (g_xs G i.toNatClampNeg) :: st) hp n kr wr Po) : Rn G M d pc lv (.int i :: .ref (g_b G) :: st) hp n kr wr Po := by
  intro p l e s m args below meth c H locs cells slots mc ms ls C hl hw hS h1 h2
  obtain ⟨-, -, -, -, hX, hb1, hb2⟩ := C.k
  exact va_sld C.1 C.2.1 hX (Nat.lt_of_lt_of_le hb1 hb2) (Nat.not_le.mpr hb1) hS hin hd (kk p l e s m args below meth c H locs cells slots mc ms ls C hl hw hS h1 h2)
theorem r_slen (hd : decode M.2.1 pc = .ok (.arraylength, 1)) (kk : Rn G M d (pc + 1) lv (.int (nI (g_L G)) :: st) hp n kr wr Po) : Rn G M d pc lv (.ref (g_b G) :: st) hp n kr wr Po := by
  intro p l e s m args below meth c H locs cells slots mc ms ls C hl hw hS h1 h2
  obtain ⟨-, -, -, -, hX, hb1, hb2⟩ := C.k
  exact va_slen C.1 C.2.1 hX (Nat.lt_of_lt_of_le hb1 hb2) (Nat.not_le.mpr hb1) hS hd (kk p l e s m args below meth c H locs cells slots mc ms ls C hl hw hS h1 h2)
theorem r_iast {a t0 : Nat} {cA : ClassId} {N : Nat} {f : Nat → Int32} {i : Int32} {x : Int32} (hd : decode M.2.1 pc = .ok (.iastore, 1)) (ht : (g_ty G)[t0]? = some (cA, .int)) (ha : hp a = some (.inl (cA, N, .inl f))) (hin : vp_in i N) (kk : Rn G M d (pc + 1) lv st (va_up hp a (some (.inl (cA, N, .inl (upd f i.toNatClampNeg x))))) n kr wr Po) : Rn G M d pc lv (.int x :: .int i :: .ref a :: st) hp n kr wr Po := by
  intro p l e s m args below meth c H locs cells slots mc ms ls C hl hw hS h1 h2
  refine W.iast C.1 C.2.1 (hw.2 a _ ha).2 ((C.K.2 t0 _ ht).1 N _) (fun q => by cases q) (by show ¬ (i < 0 ∨ (arrV _ _ _).slots.size ≤ _); rw [arrV_size]; exact hin) rfl rfl hd fun H1 e1 z oq => ?_
  refine kk p l e s m args below meth c H1 _ cells slots mc ms ls C hl (hw.set ha ?_ z oq) (hS.put z oq (hw.2 a _ ha).1) h1 h2
  show H1[a]? = some (vp_cell _ _)
  rw [e1, vp_cell_i, vp_cell_i, arrV_store]
  congr 2
  funext q
  by_cases hq : q = i.toNatClampNeg
  · subst hq
    simp [updV, upd]
    try rfl
  · simp [updV, upd, hq]
theorem r_zast {a t0 : Nat} {cA : ClassId} {N : Nat} {f : Nat → Int32} {i : Int32} {x : Int32} (hd : decode M.2.1 pc = .ok (.bastore, 1)) (ht : (g_ty G)[t0]? = some (cA, .boolean)) (ha : hp a = some (.inl (cA, N, .inl f))) (hin : vp_in i N) (kk : Rn G M d (pc + 1) lv st (va_up hp a (some (.inl (cA, N, .inl (upd f i.toNatClampNeg (vp_nar .boolean x)))))) n kr wr Po) : Rn G M d pc lv (.int x :: .int i :: .ref a :: st) hp n kr wr Po := by
  intro p l e s m args below meth c H locs cells slots mc ms ls C hl hw hS h1 h2
  refine W.zast C.1 C.2.1 (hw.2 a _ ha).2 ((C.K.2 t0 _ ht).1 N _) (fun q => by cases q) (by show ¬ (i < 0 ∨ (arrV _ _ _).slots.size ≤ _); rw [arrV_size]; exact hin) rfl rfl hd fun H1 e1 z oq => ?_
  refine kk p l e s m args below meth c H1 _ cells slots mc ms ls C hl (hw.set ha ?_ z oq) (hS.put z oq (hw.2 a _ ha).1) h1 h2
  show H1[a]? = some (vp_cell _ _)
  rw [e1, vp_cell_i, vp_cell_i, arrV_store]
  congr 2
  funext q
  by_cases hq : q = i.toNatClampNeg
  · subst hq
    simp [updV, upd, vp_nar]
    try rfl
  · simp [updV, upd, vp_nar, hq]
theorem r_last {a t0 : Nat} {cA : ClassId} {N : Nat} {f : Nat → Int64} {i : Int32} {x : Int64} (hd : decode M.2.1 pc = .ok (.lastore, 1)) (ht : (g_ty G)[t0]? = some (cA, .long)) (ha : hp a = some (.inl (cA, N, .inr (.inl f)))) (hin : vp_in i N) (kk : Rn G M d (pc + 1) lv st (va_up hp a (some (.inl (cA, N, .inr (.inl (vp_updL f i.toNatClampNeg x)))))) n kr wr Po) : Rn G M d pc lv (.long x :: .int i :: .ref a :: st) hp n kr wr Po := by
  intro p l e s m args below meth c H locs cells slots mc ms ls C hl hw hS h1 h2
  refine W.last C.1 C.2.1 (hw.2 a _ ha).2 ((C.K.2 t0 _ ht).1 N _) (fun q => by cases q) (by show ¬ (i < 0 ∨ (arrV _ _ _).slots.size ≤ _); rw [arrV_size]; exact hin) rfl rfl hd fun H1 e1 z oq => ?_
  refine kk p l e s m args below meth c H1 _ cells slots mc ms ls C hl (hw.set ha ?_ z oq) (hS.put z oq (hw.2 a _ ha).1) h1 h2
  show H1[a]? = some (vp_cell _ _)
  rw [e1, vp_cell_l, vp_cell_l, arrV_store]
  congr 2
  funext q
  by_cases hq : q = i.toNatClampNeg
  · subst hq
    simp [updV, vp_updL]
    try rfl
  · simp [updV, vp_updL, hq]
theorem r_aastN {a t0 : Nat} {cA : ClassId} {N : Nat} {f : Nat → Option Nat} {i : Int32} {Cn : String} (hd : decode M.2.1 pc = .ok (.aastore, 1)) (ht : (g_ty G)[t0]? = some (cA, .object Cn)) (ha : hp a = some (.inl (cA, N, .inr (.inr (.inr (.inr f)))))) (hin : vp_in i N) (kk : Rn G M d (pc + 1) lv st (va_up hp a (some (.inl (cA, N, .inr (.inr (.inr (.inr (va_up f i.toNatClampNeg none)))))))) n kr wr Po) : Rn G M d pc lv (.null :: .int i :: .ref a :: st) hp n kr wr Po := by
  intro p l e s m args below meth c H locs cells slots mc ms ls C hl hw hS h1 h2
  refine va_WaastN (C := Cn) C.1 C.2.1 (hw.2 a _ ha).2 ((C.K.2 t0 _ ht).1 N (fun j => va_rf (f j))) (fun h => by cases h) (by show ¬ (i < 0 ∨ (arrV _ _ _).slots.size ≤ _); rw [arrV_size]; exact hin) rfl rfl hd fun H1 e1 z oq => ?_
  refine kk p l e s m args below meth c H1 _ cells slots mc ms ls C hl (hw.set ha ?_ z oq) (hS.put z oq (hw.2 a _ ha).1) h1 h2
  show H1[a]? = some (vp_cell _ _)
  rw [e1, vp_cell_q, vp_cell_q, arrV_store]
  congr 2
  funext q
  by_cases hq : q = i.toNatClampNeg
  · subst hq
    simp [updV, va_up, va_rf]
  · simp [updV, va_up, hq]
theorem r_aast {a t0 v ci : Nat} {cA : ClassId} {N : Nat} {f : Nat → Option Nat} {i : Int32} {Cn : String} {r : vw_C} {vs : List Value} (hd : decode M.2.1 pc = .ok (.aastore, 1)) (ht : (g_ty G)[t0]? = some (cA, .object Cn)) (hc : (g_cl G)[ci]? = some r) (hca : (r.1, Cn) ∈ g_ca G) (ha : hp a = some (.inl (cA, N, .inr (.inr (.inr (.inr f)))))) (hv : hp v = some (.inr (ci, vs))) (hin : vp_in i N) (kk : Rn G M d (pc + 1) lv st (va_up hp a (some (.inl (cA, N, .inr (.inr (.inr (.inr (va_up f i.toNatClampNeg (some v))))))))) n kr wr Po) : Rn G M d pc lv (.ref v :: .int i :: .ref a :: st) hp n kr wr Po := by
  intro p l e s m args below meth c H locs cells slots mc ms ls C hl hw hS h1 h2
  have hlt : i.toNatClampNeg < N := Nat.not_le.mp fun q => hin (Or.inr q)
  have h0 : ¬ i < 0 := fun q => hin (Or.inl q)
  obtain ⟨r', hr', cellV, g1, g2, g3, -⟩ := (hw.2 v _ hv).2
  have hcls := (C.K.1 ci r hc).2
  obtain ⟨kA, comp, k1, k2, k3, -⟩ := (C.K.2 t0 _ ht).2
  obtain ⟨kE, hkE, -⟩ := Vm.findClass_spec k3
  obtain ⟨c0, t1, f1, f2, f3⟩ := Cond.castable_spec (va_Nw.use (A := args) rfl (C.k.2.2.1 _ hca))
  cases hcls.1.symm.trans f1
  cases k3.symm.trans f2
  obtain ⟨kC, hkC, -⟩ := hcls.2
  refine W.aast C.1 C.2.1 (hw.2 a _ ha).2 (fun q h => by cases h) (fun h => by cases h) k1 k2 rfl hkE ⟨h0, by show _ < (arrV _ _ _).slots.size; rw [arrV_size]; exact hlt⟩ g1 (fun q h => by rw [g3] at h; cases h) (by rw [g2]; exact hkC) (by rw [g2]; exact f3) rfl rfl hd fun H1 e1 z oq => ?_
  refine kk p l e s m args below meth c H1 _ cells slots mc ms ls C hl (hw.set ha ?_ z oq) (hS.put z oq (hw.2 a _ ha).1) h1 h2
  show H1[a]? = some (vp_cell _ _)
  rw [e1, vp_cell_q, vp_cell_q, arrV_store]
  congr 2
  funext q
  by_cases hq : q = i.toNatClampNeg
  · subst hq
    simp [updV, va_up, va_rf]
  · simp [updV, va_up, hq]
end RH
