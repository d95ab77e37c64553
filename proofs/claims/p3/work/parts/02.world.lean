abbrev MH : Type := Nat → Option va_E
def mw (D : va_G) (cl : List vw_C) (lo : Nat) (hp : MH) (n : Nat) (H : Heap) : Prop := H.size = n ∧ ∀ (a : Nat) (e : va_E), hp a = some e → lo ≤ a ∧ va_at D cl (a, e) H
theorem mw.P {D : va_G} {cl : List vw_C} {lo n : Nat} {hp : MH} {H : Heap} (h : mw D cl lo hp n H) {a : Nat} {e : va_E} (ha : hp a = some e) : va_P D cl [(a, e)] H := by
  intro k q hk
  have hz : k < 1 := (List.getElem?_eq_some_iff.mp hk).1
  obtain rfl : k = 0 := by omega
  cases hk
  exact (h.2 a e ha).2
theorem mw.set {D : va_G} {cl : List vw_C} {lo n : Nat} {hp : MH} {H H1 : Heap} (h : mw D cl lo hp n H) {a : Nat} {e0 e : va_E} (ha : hp a = some e0) (he : va_at D cl (a, e) H1) (z : H1.size = H.size) (oq : ∀ q : Nat, q ≠ a → H1[q]? = H[q]?) : mw D cl lo (va_up hp a (some e)) n H1 := by
  refine ⟨z.trans h.1, fun a' e' h' => ?_⟩
  by_cases hq : a' = a
  · subst hq
    simp only [va_up, if_pos] at h'
    cases h'
    exact ⟨(h.2 a' e0 ha).1, he⟩
  · simp only [va_up, if_neg hq] at h'
    exact ⟨(h.2 a' e' h').1, (h.2 a' e' h').2.kept (oq a' hq)⟩
theorem mw.push {D : va_G} {cl : List vw_C} {lo n : Nat} {hp : MH} {H H1 : Heap} (h : mw D cl lo hp n H) (hlo : lo ≤ n) {e : va_E} (he : va_at D cl (n, e) H1) (z : H1.size = n + 1) (oq : ∀ q : Nat, q < n → H1[q]? = H[q]?) : mw D cl lo (va_up hp n (some e)) (n + 1) H1 := by
  refine ⟨z, fun a' e' h' => ?_⟩
  by_cases hq : a' = n
  · subst hq
    simp only [va_up, if_pos] at h'
    cases h'
    exact ⟨hlo, he⟩
  · simp only [va_up, if_neg hq] at h'
    have hlt : a' < n := by rw [← h.1]; exact (h.2 a' e' h').2.lt
    exact ⟨(h.2 a' e' h').1, (h.2 a' e' h').2.kept (oq a' hlt)⟩
abbrev MG : Type := (List vw_C × List (String × String) × List (String × String) × List String × List Cond) × va_G × List (ClassId × FieldType) × (Nat × Nat × Nat × (Nat → Int32))
abbrev g_cl (G : MG) : List vw_C := G.1.1
abbrev g_nc (G : MG) : List (String × String) := G.1.2.1
abbrev g_ca (G : MG) : List (String × String) := G.1.2.2.1
abbrev g_ao (G : MG) : List String := G.1.2.2.2.1
abbrev g_ws (G : MG) : List Cond := G.1.2.2.2.2
abbrev g_D (G : MG) : va_G := G.2.1
abbrev g_ty (G : MG) : List (ClassId × FieldType) := G.2.2.1
abbrev g_lo (G : MG) : Nat := G.2.2.2.1
abbrev g_b (G : MG) : Nat := G.2.2.2.2.1
abbrev g_L (G : MG) : Nat := G.2.2.2.2.2.1
abbrev g_xs (G : MG) : Nat → Int32 := G.2.2.2.2.2.2
abbrev g_A (G : MG) : Nat → Prop := fun q => g_lo G ≤ q
abbrev g_mw (G : MG) (hp : MH) (n : Nat) (H : Heap) : Prop := mw (g_D G) (g_cl G) (g_lo G) hp n H
def g_k (G : MG) (U : State) : Prop := va_K (g_D G) (g_cl G) (g_ty G) U ∧ (∀ q ∈ g_nc G, va_Nc q.1 q.2 U) ∧ (∀ q ∈ g_ca G, va_Nw (.castable q.1 q.2) U) ∧ (∀ q ∈ g_ao G, va_AO q U ∧ va_Nw (.declares ⟨q, "sortNumber", "()I"⟩) U) ∧ va_X (g_b G) (g_L G) (g_xs G) U U.heap ∧ g_b G < g_lo G ∧ g_lo G ≤ U.heap.size
theorem g_k.moved {G : MG} {u U : State} {H : Heap} {locs : List Loc} (h : g_k G u) (hvm : u.vm.Alike U.vm) (hS : va_S (g_A G) u.heap H locs) (hU : U.heap = H) : g_k G U := by
  obtain ⟨h1, h2, h6, h7, h3, h4, h5⟩ := h
  refine ⟨va_K.moved hvm h1, fun q hq => va_Nc.moved hvm (h2 q hq), fun q hq => va_tabs rfl (rfl : (u.setVm U.vm).vm = U.vm) (by rw [Cond.castable_setVm hvm]; exact h6 q hq), fun q hq => ⟨va_AO.moved hvm (h7 q hq).1, va_tabs rfl (rfl : (u.setVm U.vm).vm = U.vm) (by rw [Cond.declares_setVm hvm]; exact (h7 q hq).2)⟩, ?_, h4, by rw [hU]; exact Nat.le_trans h5 hS.1⟩
  rw [hU]
  exact va_X.moved hvm (va_X.kept h3 (hS.2.1 _ (Nat.lt_of_lt_of_le h4 h5) (Nat.not_le.mpr h4)))
abbrev MM : Type := MethodName × ByteArray × Nat × Option FieldType
def mR (d mc ms : Nat) : Room := { frames := d + 1, cells := mc, slots := ms, locals := 64 * (d + 1) }
def Qg (G : MG) (Po : Option Value → MH → Nat → Prop) : Array Value → State → Outcome → State → Prop := fun _ st oc t => (∃ (r : Option Value) (hp : MH) (n : Nat), oc = .returned r ∧ Po r hp n ∧ g_mw G hp n t.heap) ∧ va_F (g_A G) st t
def mC (G : MG) (M : MM) (p : Program) (s : State) (m : MethodId) (args : Array Value) (meth : Method) (c : Code) : Prop :=
  p.tables.exec = Jvm.exec ∧ c.code = M.2.1 ∧ c.maxLocals = M.2.2.1 ∧ meth.sig.returnType = M.2.2.2 ∧ meth.locks = false ∧ s.vm.findClass M.1.cls = some m.cls ∧ meth.name = M.1.name ∧ (∀ w ∈ g_ws G, w.before args s = true) ∧ g_k G s
def Rn (G : MG) (M : MM) (d pc : Nat) (lv : List (Nat × Value)) (st : List Value) (hp : MH) (n kr wr : Nat) (Po : Option Value → MH → Nat → Prop) : Prop :=
  ∀ (p : Program) (l : Launch) (e : Env) (s : State) (m : MethodId) (args : Array Value) (below : List Frame) (meth : Method) (c : Code) (H : Heap) (locs : List Loc) (cells slots mc ms : Nat) (ls : Array Slot),
    mC G M p s m args meth c → lv_has ls M.2.2.1 lv → g_mw G hp n H → va_S (g_A G) s.heap H locs → cells + kr ≤ mc → slots + wr ≤ ms →
    W p l e (mR d mc ms) s m args below meth c H locs cells slots (MQ below (Qg G Po) args s mc ms (g_A G)) (F0 m pc ls st)
def Mt (G : MG) (M : MM) (d mc ms : Nat) (as : List Value) (hp : MH) (n : Nat) (Po : Option Value → MH → Nat → Prop) : Prop :=
  ∀ l : Launch, Met l M.1 (Cond.code M.1 M.2.1 M.2.2.1 M.2.2.2 :: g_ws G) (mR d mc ms) (va_Pc as (fun U => g_mw G hp n U.heap ∧ g_k G U)) (Qg G Po) mc ms (g_A G)
theorem lk_at {ls : Array Slot} {nL : Nat} {lv : List (Nat × Value)} (h : lv_has ls nL lv) {i : Nat} {v : Value} (hk : lv.lookup i = some v) : ls[i]? = some (.val v) := by
  refine h.2.2 (i, v) ?_
  clear h
  induction lv with
  | nil => simp at hk
  | cons q l ih =>
    obtain ⟨j, w⟩ := q
    by_cases hj : i = j
    · subst hj
      simp at hk
      subst hk
      exact List.mem_cons_self
    · have hne : (i == j) = false := by simpa using hj
      rw [List.lookup_cons, hne] at hk
      exact List.mem_cons_of_mem _ (ih hk)
section RN
variable {G : MG} {M : MM} {d pc : Nat} {lv : List (Nat × Value)} {st : List Value} {hp : MH} {n kr wr : Nat} {Po : Option Value → MH → Nat → Prop}
theorem Mt.of {mc ms : Nat} {as : List Value} (hy : plainName M.1.cls = true) (hn : (lg_sl as).length ≤ M.2.2.1) (k : Rn G M d 0 (lv_args 0 as) [] hp n mc ms Po) : Mt G M d mc ms as hp n Po := by
  intro l
  refine Met.ofW (cc := M.2.1) (maxL := M.2.2.1) (ret := M.2.2.2) hy rfl ?_
  intro p e s m args below meth c s₁ B hml hv
  obtain ⟨rfl, hw, hk⟩ := hv
  have hts := atoms_spec (ws := Cond.code M.1 M.2.1 M.2.2.1 M.2.2.2 :: g_ws G) B.pre
  rw [lg_entry_eq]
  exact k p l e s m _ below meth c s.heap [] 0 0 mc ms _ ⟨B.exec, B.bytes, hml, B.returns, B.notSynchronized, findClass_of_methodNamed B.named, (name_of_methodNamed B.named B.method).1, fun w h => hts w (List.mem_cons_of_mem _ h), hk⟩ (lv_entry as hn) hw va_S.rf (by omega) (by omega)
theorem Rn.pick {lv' : List (Nat × Value)} (ks : List Nat) (h : lv_pick lv ks = lv') (k : Rn G M d pc lv' st hp n kr wr Po) : Rn G M d pc lv st hp n kr wr Po :=
  fun p l e s m args below meth c H locs cells slots mc ms ls C hl hw hS h1 h2 => k p l e s m args below meth c H locs cells slots mc ms ls C (lv_sub hl ks h) hw hS h1 h2
theorem Rn.fit {kr' wr' : Nat} (h3 : kr' ≤ kr) (h4 : wr' ≤ wr) (k : Rn G M d pc lv st hp n kr' wr' Po) : Rn G M d pc lv st hp n kr wr Po :=
  fun p l e s m args below meth c H locs cells slots mc ms ls C hl hw hS h1 h2 => k p l e s m args below meth c H locs cells slots mc ms ls C hl hw hS (by omega) (by omega)
theorem r_iconst {i : Int} {v : Int32} (hd : decode M.2.1 pc = .ok (.iconst i, 1)) (hv : Int32.ofInt i = v) (k : Rn G M d (pc + 1) lv (.int v :: st) hp n kr wr Po) : Rn G M d pc lv st hp n kr wr Po := by
  intro p l e s m args below meth c H locs cells slots mc ms ls C hl hw hS h1 h2
  exact lv_iconst C.1 C.2.1 hd hv (k p l e s m args below meth c H locs cells slots mc ms ls C hl hw hS h1 h2)
theorem r_bipush {i : Int} {v : Int32} (hd : decode M.2.1 pc = .ok (.bipush i, 2)) (hv : (Int8.ofInt i).toInt32 = v) (k : Rn G M d (pc + 2) lv (.int v :: st) hp n kr wr Po) : Rn G M d pc lv st hp n kr wr Po := by
  intro p l e s m args below meth c H locs cells slots mc ms ls C hl hw hS h1 h2
  exact lv_bipush C.1 C.2.1 hd hv (k p l e s m args below meth c H locs cells slots mc ms ls C hl hw hS h1 h2)
theorem r_sipush {i : Int} {v : Int32} (hd : decode M.2.1 pc = .ok (.sipush i, 3)) (hv : (Int16.ofInt i).toInt32 = v) (k : Rn G M d (pc + 3) lv (.int v :: st) hp n kr wr Po) : Rn G M d pc lv st hp n kr wr Po := by
  intro p l e s m args below meth c H locs cells slots mc ms ls C hl hw hS h1 h2
  exact lv_sipush C.1 C.2.1 hd hv (k p l e s m args below meth c H locs cells slots mc ms ls C hl hw hS h1 h2)
theorem r_null  (hd : decode M.2.1 pc = .ok (.aconst_null, 1))  (k : Rn G M d (pc + 1) lv (.null :: st) hp n kr wr Po) : Rn G M d pc lv st hp n kr wr Po := by
  intro p l e s m args below meth c H locs cells slots mc ms ls C hl hw hS h1 h2
  exact lv_null C.1 C.2.1 hd (k p l e s m args below meth c H locs cells slots mc ms ls C hl hw hS h1 h2)
theorem r_iload_n {j : Fin 4} {i : Nat} {x : Int32} (hd : decode M.2.1 pc = .ok (.iload_n j, 1)) (hi : (j : Nat) = i) (hx : lv.lookup i = some (.int x)) (k : Rn G M d (pc + 1) lv (.int x :: st) hp n kr wr Po) : Rn G M d pc lv st hp n kr wr Po := by
  intro p l e s m args below meth c H locs cells slots mc ms ls C hl hw hS h1 h2
  exact lv_iload_n C.1 C.2.1 hd hi (lk_at hl hx) (k p l e s m args below meth c H locs cells slots mc ms ls C hl hw hS h1 h2)
theorem r_iload {i : Nat} {x : Int32} (hd : decode M.2.1 pc = .ok (.iload i, 2)) (hx : lv.lookup i = some (.int x)) (k : Rn G M d (pc + 2) lv (.int x :: st) hp n kr wr Po) : Rn G M d pc lv st hp n kr wr Po := by
  intro p l e s m args below meth c H locs cells slots mc ms ls C hl hw hS h1 h2
  exact lv_iload C.1 C.2.1 hd (lk_at hl hx) (k p l e s m args below meth c H locs cells slots mc ms ls C hl hw hS h1 h2)
theorem r_lload_n {j : Fin 4} {i : Nat} {x : Int64} (hd : decode M.2.1 pc = .ok (.lload_n j, 1)) (hi : (j : Nat) = i) (hx : lv.lookup i = some (.long x)) (k : Rn G M d (pc + 1) lv (.long x :: st) hp n kr wr Po) : Rn G M d pc lv st hp n kr wr Po := by
  intro p l e s m args below meth c H locs cells slots mc ms ls C hl hw hS h1 h2
  exact lv_lload_n C.1 C.2.1 hd hi (lk_at hl hx) (k p l e s m args below meth c H locs cells slots mc ms ls C hl hw hS h1 h2)
theorem r_lload {i : Nat} {x : Int64} (hd : decode M.2.1 pc = .ok (.lload i, 2)) (hx : lv.lookup i = some (.long x)) (k : Rn G M d (pc + 2) lv (.long x :: st) hp n kr wr Po) : Rn G M d pc lv st hp n kr wr Po := by
  intro p l e s m args below meth c H locs cells slots mc ms ls C hl hw hS h1 h2
  exact lv_lload C.1 C.2.1 hd (lk_at hl hx) (k p l e s m args below meth c H locs cells slots mc ms ls C hl hw hS h1 h2)
theorem r_aload_n {j : Fin 4} {i : Nat} {x : Nat} (hd : decode M.2.1 pc = .ok (.aload_n j, 1)) (hi : (j : Nat) = i) (hx : lv.lookup i = some (.ref x)) (k : Rn G M d (pc + 1) lv (.ref x :: st) hp n kr wr Po) : Rn G M d pc lv st hp n kr wr Po := by
  intro p l e s m args below meth c H locs cells slots mc ms ls C hl hw hS h1 h2
  exact lv_aload_n C.1 C.2.1 hd hi (lk_at hl hx) (k p l e s m args below meth c H locs cells slots mc ms ls C hl hw hS h1 h2)
theorem r_aload {i : Nat} {x : Nat} (hd : decode M.2.1 pc = .ok (.aload i, 2)) (hx : lv.lookup i = some (.ref x)) (k : Rn G M d (pc + 2) lv (.ref x :: st) hp n kr wr Po) : Rn G M d pc lv st hp n kr wr Po := by
  intro p l e s m args below meth c H locs cells slots mc ms ls C hl hw hS h1 h2
  exact lv_aload C.1 C.2.1 hd (lk_at hl hx) (k p l e s m args below meth c H locs cells slots mc ms ls C hl hw hS h1 h2)
theorem r_aload_nN {j : Fin 4} {i : Nat} (hd : decode M.2.1 pc = .ok (.aload_n j, 1)) (hi : (j : Nat) = i) (hx : lv.lookup i = some .null) (k : Rn G M d (pc + 1) lv (.null :: st) hp n kr wr Po) : Rn G M d pc lv st hp n kr wr Po := by
  intro p l e s m args below meth c H locs cells slots mc ms ls C hl hw hS h1 h2
  exact lv_aload_nN C.1 C.2.1 hd hi (lk_at hl hx) (k p l e s m args below meth c H locs cells slots mc ms ls C hl hw hS h1 h2)
theorem r_aloadN {i : Nat} (hd : decode M.2.1 pc = .ok (.aload i, 2)) (hx : lv.lookup i = some .null) (k : Rn G M d (pc + 2) lv (.null :: st) hp n kr wr Po) : Rn G M d pc lv st hp n kr wr Po := by
  intro p l e s m args below meth c H locs cells slots mc ms ls C hl hw hS h1 h2
  exact lv_aloadN C.1 C.2.1 hd (lk_at hl hx) (k p l e s m args below meth c H locs cells slots mc ms ls C hl hw hS h1 h2)
theorem r_istore_n {j : Fin 4} {i : Nat} {x : Int32} {lv' : List (Nat × Value)} (hd : decode M.2.1 pc = .ok (.istore_n j, 1)) (hi : (j : Nat) = i) (hn : i < M.2.2.1) (hlv : (i, Value.int x) :: lv.filter (fun q => !(q.1 == i) && !(q.1 + 1 == i && q.2.category == 2)) = lv') (k : Rn G M d (pc + 1) lv' st hp n kr wr Po) : Rn G M d pc lv (Value.int x :: st) hp n kr wr Po := by
  intro p l e s m args below meth c H locs cells slots mc ms ls C hl hw hS h1 h2
  exact lv_istore_n C.1 C.2.1 hd hi hl hn hlv (fun ls' hl' => k p l e s m args below meth c H locs cells slots mc ms ls' C hl' hw hS h1 h2)
theorem r_istore {i : Nat} {x : Int32} {lv' : List (Nat × Value)} (hd : decode M.2.1 pc = .ok (.istore i, 2)) (hn : i < M.2.2.1) (hlv : (i, Value.int x) :: lv.filter (fun q => !(q.1 == i) && !(q.1 + 1 == i && q.2.category == 2)) = lv') (k : Rn G M d (pc + 2) lv' st hp n kr wr Po) : Rn G M d pc lv (Value.int x :: st) hp n kr wr Po := by
  intro p l e s m args below meth c H locs cells slots mc ms ls C hl hw hS h1 h2
  exact lv_istore C.1 C.2.1 hd hl hn hlv (fun ls' hl' => k p l e s m args below meth c H locs cells slots mc ms ls' C hl' hw hS h1 h2)
theorem r_lstore_n {j : Fin 4} {i : Nat} {x : Int64} {lv' : List (Nat × Value)} (hd : decode M.2.1 pc = .ok (.lstore_n j, 1)) (hi : (j : Nat) = i) (hn : i + 1 < M.2.2.1) (hlv : (i, Value.long x) :: lv.filter (fun q => !(q.1 == i) && (!(q.1 == i + 1) && !(q.1 + 1 == i && q.2.category == 2))) = lv') (k : Rn G M d (pc + 1) lv' st hp n kr wr Po) : Rn G M d pc lv (Value.long x :: st) hp n kr wr Po := by
  intro p l e s m args below meth c H locs cells slots mc ms ls C hl hw hS h1 h2
  exact lv_lstore_n C.1 C.2.1 hd hi hl hn hlv (fun ls' hl' => k p l e s m args below meth c H locs cells slots mc ms ls' C hl' hw hS h1 h2)
theorem r_lstore {i : Nat} {x : Int64} {lv' : List (Nat × Value)} (hd : decode M.2.1 pc = .ok (.lstore i, 2)) (hn : i + 1 < M.2.2.1) (hlv : (i, Value.long x) :: lv.filter (fun q => !(q.1 == i) && (!(q.1 == i + 1) && !(q.1 + 1 == i && q.2.category == 2))) = lv') (k : Rn G M d (pc + 2) lv' st hp n kr wr Po) : Rn G M d pc lv (Value.long x :: st) hp n kr wr Po := by
  intro p l e s m args below meth c H locs cells slots mc ms ls C hl hw hS h1 h2
  exact lv_lstore C.1 C.2.1 hd hl hn hlv (fun ls' hl' => k p l e s m args below meth c H locs cells slots mc ms ls' C hl' hw hS h1 h2)
theorem r_astore_n {j : Fin 4} {i : Nat} {x : Nat} {lv' : List (Nat × Value)} (hd : decode M.2.1 pc = .ok (.astore_n j, 1)) (hi : (j : Nat) = i) (hn : i < M.2.2.1) (hlv : (i, Value.ref x) :: lv.filter (fun q => !(q.1 == i) && !(q.1 + 1 == i && q.2.category == 2)) = lv') (k : Rn G M d (pc + 1) lv' st hp n kr wr Po) : Rn G M d pc lv (Value.ref x :: st) hp n kr wr Po := by
  intro p l e s m args below meth c H locs cells slots mc ms ls C hl hw hS h1 h2
  exact lv_astore_n C.1 C.2.1 hd hi hl hn hlv (fun ls' hl' => k p l e s m args below meth c H locs cells slots mc ms ls' C hl' hw hS h1 h2)
theorem r_astore {i : Nat} {x : Nat} {lv' : List (Nat × Value)} (hd : decode M.2.1 pc = .ok (.astore i, 2)) (hn : i < M.2.2.1) (hlv : (i, Value.ref x) :: lv.filter (fun q => !(q.1 == i) && !(q.1 + 1 == i && q.2.category == 2)) = lv') (k : Rn G M d (pc + 2) lv' st hp n kr wr Po) : Rn G M d pc lv (Value.ref x :: st) hp n kr wr Po := by
  intro p l e s m args below meth c H locs cells slots mc ms ls C hl hw hS h1 h2
  exact lv_astore C.1 C.2.1 hd hl hn hlv (fun ls' hl' => k p l e s m args below meth c H locs cells slots mc ms ls' C hl' hw hS h1 h2)
theorem r_astore_nN {j : Fin 4} {i : Nat} {lv' : List (Nat × Value)} (hd : decode M.2.1 pc = .ok (.astore_n j, 1)) (hi : (j : Nat) = i) (hn : i < M.2.2.1) (hlv : (i, Value.null) :: lv.filter (fun q => !(q.1 == i) && !(q.1 + 1 == i && q.2.category == 2)) = lv') (k : Rn G M d (pc + 1) lv' st hp n kr wr Po) : Rn G M d pc lv (Value.null :: st) hp n kr wr Po := by
  intro p l e s m args below meth c H locs cells slots mc ms ls C hl hw hS h1 h2
  exact lv_astore_nN C.1 C.2.1 hd hi hl hn hlv (fun ls' hl' => k p l e s m args below meth c H locs cells slots mc ms ls' C hl' hw hS h1 h2)
theorem r_astoreN {i : Nat} {lv' : List (Nat × Value)} (hd : decode M.2.1 pc = .ok (.astore i, 2)) (hn : i < M.2.2.1) (hlv : (i, Value.null) :: lv.filter (fun q => !(q.1 == i) && !(q.1 + 1 == i && q.2.category == 2)) = lv') (k : Rn G M d (pc + 2) lv' st hp n kr wr Po) : Rn G M d pc lv (Value.null :: st) hp n kr wr Po := by
  intro p l e s m args below meth c H locs cells slots mc ms ls C hl hw hS h1 h2
  exact lv_astoreN C.1 C.2.1 hd hl hn hlv (fun ls' hl' => k p l e s m args below meth c H locs cells slots mc ms ls' C hl' hw hS h1 h2)
theorem r_iinc {i : Nat} {j : Int} {x v : Int32} {lv' : List (Nat × Value)} (hd : decode M.2.1 pc = .ok (.iinc i j, 3)) (hx : lv.lookup i = some (.int x)) (hv : x + Int32.ofInt j = v) (hn : i < M.2.2.1) (hlv : (i, Value.int v) :: lv.filter (fun q => !(q.1 == i) && !(q.1 + 1 == i && q.2.category == 2)) = lv') (k : Rn G M d (pc + 3) lv' st hp n kr wr Po) : Rn G M d pc lv st hp n kr wr Po := by
  intro p l e s m args below meth c H locs cells slots mc ms ls C hl hw hS h1 h2
  have hm : lv_has ls M.2.2.1 ((i, Value.int x) :: lv) := ⟨hl.1, hl.2.1, fun q hq => by
    rcases List.mem_cons.mp hq with rfl | h
    · exact lk_at hl hx
    · exact hl.2.2 q h⟩
  refine lv_iinc (k := 0) C.1 C.2.1 hd hm rfl hv hn rfl (fun ls' hl' => k p l e s m args below meth c H locs cells slots mc ms ls' C ?_ hw hS h1 h2)
  have e9 : ((i, Value.int x) :: lv).filter (fun q => !(q.1 == i) && !(q.1 + 1 == i && q.2.category == 2)) = lv.filter (fun q => !(q.1 == i) && !(q.1 + 1 == i && q.2.category == 2)) := by simp
  rw [e9, hlv] at hl'
  exact hl'
theorem r_iadd {x y v : Int32} (hd : decode M.2.1 pc = .ok (.iadd, 1)) (hv : x + y = v) (k : Rn G M d (pc + 1) lv (.int v :: st) hp n kr wr Po) : Rn G M d pc lv (.int y :: .int x :: st) hp n kr wr Po := by
  subst hv
  intro p l e s m args below meth c H locs cells slots mc ms ls C hl hw hS h1 h2
  exact lv_iadd C.1 C.2.1 hd (k p l e s m args below meth c H locs cells slots mc ms ls C hl hw hS h1 h2)
theorem r_isub {x y v : Int32} (hd : decode M.2.1 pc = .ok (.isub, 1)) (hv : x - y = v) (k : Rn G M d (pc + 1) lv (.int v :: st) hp n kr wr Po) : Rn G M d pc lv (.int y :: .int x :: st) hp n kr wr Po := by
  subst hv
  intro p l e s m args below meth c H locs cells slots mc ms ls C hl hw hS h1 h2
  exact lv_isub C.1 C.2.1 hd (k p l e s m args below meth c H locs cells slots mc ms ls C hl hw hS h1 h2)
theorem r_imul {x y v : Int32} (hd : decode M.2.1 pc = .ok (.imul, 1)) (hv : x * y = v) (k : Rn G M d (pc + 1) lv (.int v :: st) hp n kr wr Po) : Rn G M d pc lv (.int y :: .int x :: st) hp n kr wr Po := by
  subst hv
  intro p l e s m args below meth c H locs cells slots mc ms ls C hl hw hS h1 h2
  exact lv_imul C.1 C.2.1 hd (k p l e s m args below meth c H locs cells slots mc ms ls C hl hw hS h1 h2)
theorem r_iand {x y v : Int32} (hd : decode M.2.1 pc = .ok (.iand, 1)) (hv : x &&& y = v) (k : Rn G M d (pc + 1) lv (.int v :: st) hp n kr wr Po) : Rn G M d pc lv (.int y :: .int x :: st) hp n kr wr Po := by
  subst hv
  intro p l e s m args below meth c H locs cells slots mc ms ls C hl hw hS h1 h2
  exact lv_iand C.1 C.2.1 hd (k p l e s m args below meth c H locs cells slots mc ms ls C hl hw hS h1 h2)
theorem r_ior {x y v : Int32} (hd : decode M.2.1 pc = .ok (.ior, 1)) (hv : x ||| y = v) (k : Rn G M d (pc + 1) lv (.int v :: st) hp n kr wr Po) : Rn G M d pc lv (.int y :: .int x :: st) hp n kr wr Po := by
  subst hv
  intro p l e s m args below meth c H locs cells slots mc ms ls C hl hw hS h1 h2
  exact lv_ior C.1 C.2.1 hd (k p l e s m args below meth c H locs cells slots mc ms ls C hl hw hS h1 h2)
theorem r_ixor {x y v : Int32} (hd : decode M.2.1 pc = .ok (.ixor, 1)) (hv : x ^^^ y = v) (k : Rn G M d (pc + 1) lv (.int v :: st) hp n kr wr Po) : Rn G M d pc lv (.int y :: .int x :: st) hp n kr wr Po := by
  subst hv
  intro p l e s m args below meth c H locs cells slots mc ms ls C hl hw hS h1 h2
  exact lv_ixor C.1 C.2.1 hd (k p l e s m args below meth c H locs cells slots mc ms ls C hl hw hS h1 h2)
theorem r_ishl {x y v : Int32} (hd : decode M.2.1 pc = .ok (.ishl, 1)) (hv : x <<< (y &&& 31) = v) (k : Rn G M d (pc + 1) lv (.int v :: st) hp n kr wr Po) : Rn G M d pc lv (.int y :: .int x :: st) hp n kr wr Po := by
  subst hv
  intro p l e s m args below meth c H locs cells slots mc ms ls C hl hw hS h1 h2
  exact lv_ishl C.1 C.2.1 hd (k p l e s m args below meth c H locs cells slots mc ms ls C hl hw hS h1 h2)
theorem r_ishr {x y v : Int32} (hd : decode M.2.1 pc = .ok (.ishr, 1)) (hv : x >>> (y &&& 31) = v) (k : Rn G M d (pc + 1) lv (.int v :: st) hp n kr wr Po) : Rn G M d pc lv (.int y :: .int x :: st) hp n kr wr Po := by
  subst hv
  intro p l e s m args below meth c H locs cells slots mc ms ls C hl hw hS h1 h2
  exact lv_ishr C.1 C.2.1 hd (k p l e s m args below meth c H locs cells slots mc ms ls C hl hw hS h1 h2)
theorem r_iushr {x y v : Int32} (hd : decode M.2.1 pc = .ok (.iushr, 1)) (hv : (x.toUInt32 >>> (y.toUInt32 &&& Int32.toUInt32 31)).toInt32 = v) (k : Rn G M d (pc + 1) lv (.int v :: st) hp n kr wr Po) : Rn G M d pc lv (.int y :: .int x :: st) hp n kr wr Po := by
  intro p l e s m args below meth c H locs cells slots mc ms ls C hl hw hS h1 h2
  exact lv_iushr C.1 C.2.1 hd hv (k p l e s m args below meth c H locs cells slots mc ms ls C hl hw hS h1 h2)
theorem r_irem {x y v : Int32} (hd : decode M.2.1 pc = .ok (.irem, 1)) (hne : ¬ y = 0) (hv : x - x / y * y = v) (k : Rn G M d (pc + 1) lv (.int v :: st) hp n kr wr Po) : Rn G M d pc lv (.int y :: .int x :: st) hp n kr wr Po := by
  subst hv
  intro p l e s m args below meth c H locs cells slots mc ms ls C hl hw hS h1 h2
  exact lv_irem C.1 C.2.1 hd hne (k p l e s m args below meth c H locs cells slots mc ms ls C hl hw hS h1 h2)
theorem r_ineg {x v : Int32} (hd : decode M.2.1 pc = .ok (.ineg, 1)) (hv : -x = v) (k : Rn G M d (pc + 1) lv (.int v :: st) hp n kr wr Po) : Rn G M d pc lv (.int x :: st) hp n kr wr Po := by
  subst hv
  intro p l e s m args below meth c H locs cells slots mc ms ls C hl hw hS h1 h2
  exact lv_ineg C.1 C.2.1 hd (k p l e s m args below meth c H locs cells slots mc ms ls C hl hw hS h1 h2)
theorem r_ladd {x y v : Int64} (hd : decode M.2.1 pc = .ok (.ladd, 1)) (hv : x + y = v) (k : Rn G M d (pc + 1) lv (.long v :: st) hp n kr wr Po) : Rn G M d pc lv (.long y :: .long x :: st) hp n kr wr Po := by
  subst hv
  intro p l e s m args below meth c H locs cells slots mc ms ls C hl hw hS h1 h2
  exact lv_ladd C.1 C.2.1 hd (k p l e s m args below meth c H locs cells slots mc ms ls C hl hw hS h1 h2)
theorem r_lsub {x y v : Int64} (hd : decode M.2.1 pc = .ok (.lsub, 1)) (hv : x - y = v) (k : Rn G M d (pc + 1) lv (.long v :: st) hp n kr wr Po) : Rn G M d pc lv (.long y :: .long x :: st) hp n kr wr Po := by
  subst hv
  intro p l e s m args below meth c H locs cells slots mc ms ls C hl hw hS h1 h2
  exact lv_lsub C.1 C.2.1 hd (k p l e s m args below meth c H locs cells slots mc ms ls C hl hw hS h1 h2)
theorem r_lmul {x y v : Int64} (hd : decode M.2.1 pc = .ok (.lmul, 1)) (hv : x * y = v) (k : Rn G M d (pc + 1) lv (.long v :: st) hp n kr wr Po) : Rn G M d pc lv (.long y :: .long x :: st) hp n kr wr Po := by
  subst hv
  intro p l e s m args below meth c H locs cells slots mc ms ls C hl hw hS h1 h2
  exact lv_lmul C.1 C.2.1 hd (k p l e s m args below meth c H locs cells slots mc ms ls C hl hw hS h1 h2)
theorem r_land {x y v : Int64} (hd : decode M.2.1 pc = .ok (.land, 1)) (hv : x &&& y = v) (k : Rn G M d (pc + 1) lv (.long v :: st) hp n kr wr Po) : Rn G M d pc lv (.long y :: .long x :: st) hp n kr wr Po := by
  subst hv
  intro p l e s m args below meth c H locs cells slots mc ms ls C hl hw hS h1 h2
  exact lv_land C.1 C.2.1 hd (k p l e s m args below meth c H locs cells slots mc ms ls C hl hw hS h1 h2)
theorem r_lor {x y v : Int64} (hd : decode M.2.1 pc = .ok (.lor, 1)) (hv : x ||| y = v) (k : Rn G M d (pc + 1) lv (.long v :: st) hp n kr wr Po) : Rn G M d pc lv (.long y :: .long x :: st) hp n kr wr Po := by
  subst hv
  intro p l e s m args below meth c H locs cells slots mc ms ls C hl hw hS h1 h2
  exact lv_lor C.1 C.2.1 hd (k p l e s m args below meth c H locs cells slots mc ms ls C hl hw hS h1 h2)
theorem r_lxor {x y v : Int64} (hd : decode M.2.1 pc = .ok (.lxor, 1)) (hv : x ^^^ y = v) (k : Rn G M d (pc + 1) lv (.long v :: st) hp n kr wr Po) : Rn G M d pc lv (.long y :: .long x :: st) hp n kr wr Po := by
  subst hv
  intro p l e s m args below meth c H locs cells slots mc ms ls C hl hw hS h1 h2
  exact lv_lxor C.1 C.2.1 hd (k p l e s m args below meth c H locs cells slots mc ms ls C hl hw hS h1 h2)
theorem r_lrem {x y v : Int64} (hd : decode M.2.1 pc = .ok (.lrem, 1)) (hne : ¬ y = 0) (hv : x - x / y * y = v) (k : Rn G M d (pc + 1) lv (.long v :: st) hp n kr wr Po) : Rn G M d pc lv (.long y :: .long x :: st) hp n kr wr Po := by
  subst hv
  intro p l e s m args below meth c H locs cells slots mc ms ls C hl hw hS h1 h2
  exact lv_lrem C.1 C.2.1 hd hne (k p l e s m args below meth c H locs cells slots mc ms ls C hl hw hS h1 h2)
theorem r_lneg {x : Int64} (hd : decode M.2.1 pc = .ok (.lneg, 1))  (k : Rn G M d (pc + 1) lv (.long (-x) :: st) hp n kr wr Po) : Rn G M d pc lv (.long x :: st) hp n kr wr Po := by
  intro p l e s m args below meth c H locs cells slots mc ms ls C hl hw hS h1 h2
  exact lv_lneg C.1 C.2.1 hd (k p l e s m args below meth c H locs cells slots mc ms ls C hl hw hS h1 h2)
theorem r_i2l {x : Int32} {v : Int64} (hd : decode M.2.1 pc = .ok (.i2l, 1)) (hv : x.toInt64 = v) (k : Rn G M d (pc + 1) lv (.long v :: st) hp n kr wr Po) : Rn G M d pc lv (.int x :: st) hp n kr wr Po := by
  intro p l e s m args below meth c H locs cells slots mc ms ls C hl hw hS h1 h2
  exact lv_i2l C.1 C.2.1 hd hv (k p l e s m args below meth c H locs cells slots mc ms ls C hl hw hS h1 h2)
theorem r_l2i {x : Int64} (hd : decode M.2.1 pc = .ok (.l2i, 1))  (k : Rn G M d (pc + 1) lv (.int x.toInt32 :: st) hp n kr wr Po) : Rn G M d pc lv (.long x :: st) hp n kr wr Po := by
  intro p l e s m args below meth c H locs cells slots mc ms ls C hl hw hS h1 h2
  exact lv_l2i C.1 C.2.1 hd rfl (k p l e s m args below meth c H locs cells slots mc ms ls C hl hw hS h1 h2)
theorem r_dup {v : Value} (hd : decode M.2.1 pc = .ok (.dup, 1)) (hv : v.category = 1) (k : Rn G M d (pc + 1) lv (v :: v :: st) hp n kr wr Po) : Rn G M d pc lv (v :: st) hp n kr wr Po := by
  intro p l e s m args below meth c H locs cells slots mc ms ls C hl hw hS h1 h2
  exact lv_dup C.1 C.2.1 hd hv (k p l e s m args below meth c H locs cells slots mc ms ls C hl hw hS h1 h2)
theorem r_pop {v : Value} (hd : decode M.2.1 pc = .ok (.pop, 1)) (hv : v.category = 1) (k : Rn G M d (pc + 1) lv st hp n kr wr Po) : Rn G M d pc lv (v :: st) hp n kr wr Po := by
  intro p l e s m args below meth c H locs cells slots mc ms ls C hl hw hS h1 h2
  exact lv_pop C.1 C.2.1 hd hv (k p l e s m args below meth c H locs cells slots mc ms ls C hl hw hS h1 h2)
theorem r_dup_x1 {v u : Value} (hd : decode M.2.1 pc = .ok (.dup_x1, 1)) (hv : v.category = 1) (hu : u.category = 1) (k : Rn G M d (pc + 1) lv (v :: u :: v :: st) hp n kr wr Po) : Rn G M d pc lv (v :: u :: st) hp n kr wr Po := by
  intro p l e s m args below meth c H locs cells slots mc ms ls C hl hw hS h1 h2
  exact lv_dup_x1 C.1 C.2.1 hd hv hu (k p l e s m args below meth c H locs cells slots mc ms ls C hl hw hS h1 h2)
theorem r_if_eq {x : Int32} {off : Int} {tgt : Nat} (hd : decode M.2.1 pc = .ok (.ifCond .eq off, 3)) (ht : (pc : Int) + off = (tgt : Int)) (kt : x = 0 → Rn G M d tgt lv st hp n kr wr Po) (kf : ¬ (x = 0) → Rn G M d (pc + 3) lv st hp n kr wr Po) : Rn G M d pc lv (.int x :: st) hp n kr wr Po := by
  intro p l e s m args below meth c H locs cells slots mc ms ls C hl hw hS h1 h2
  exact lv_if_eq C.1 C.2.1 hd ht (fun q => kt (by simpa using q) p l e s m args below meth c H locs cells slots mc ms ls C hl hw hS h1 h2) (fun q => kf (by simpa using q) p l e s m args below meth c H locs cells slots mc ms ls C hl hw hS h1 h2)
theorem r_icmp_eq {x y : Int32} {off : Int} {tgt : Nat} (hd : decode M.2.1 pc = .ok (.if_icmp .eq off, 3)) (ht : (pc : Int) + off = (tgt : Int)) (kt : x = y → Rn G M d tgt lv st hp n kr wr Po) (kf : ¬ (x = y) → Rn G M d (pc + 3) lv st hp n kr wr Po) : Rn G M d pc lv (.int y :: .int x :: st) hp n kr wr Po := by
  intro p l e s m args below meth c H locs cells slots mc ms ls C hl hw hS h1 h2
  exact lv_icmp_eq C.1 C.2.1 hd ht (fun q => kt (by simpa using q) p l e s m args below meth c H locs cells slots mc ms ls C hl hw hS h1 h2) (fun q => kf (by simpa using q) p l e s m args below meth c H locs cells slots mc ms ls C hl hw hS h1 h2)
theorem r_if_ne {x : Int32} {off : Int} {tgt : Nat} (hd : decode M.2.1 pc = .ok (.ifCond .ne off, 3)) (ht : (pc : Int) + off = (tgt : Int)) (kt : x ≠ 0 → Rn G M d tgt lv st hp n kr wr Po) (kf : ¬ (x ≠ 0) → Rn G M d (pc + 3) lv st hp n kr wr Po) : Rn G M d pc lv (.int x :: st) hp n kr wr Po := by
  intro p l e s m args below meth c H locs cells slots mc ms ls C hl hw hS h1 h2
  exact lv_if_ne C.1 C.2.1 hd ht (fun q => kt (by simpa using q) p l e s m args below meth c H locs cells slots mc ms ls C hl hw hS h1 h2) (fun q => kf (by simpa using q) p l e s m args below meth c H locs cells slots mc ms ls C hl hw hS h1 h2)
theorem r_icmp_ne {x y : Int32} {off : Int} {tgt : Nat} (hd : decode M.2.1 pc = .ok (.if_icmp .ne off, 3)) (ht : (pc : Int) + off = (tgt : Int)) (kt : x ≠ y → Rn G M d tgt lv st hp n kr wr Po) (kf : ¬ (x ≠ y) → Rn G M d (pc + 3) lv st hp n kr wr Po) : Rn G M d pc lv (.int y :: .int x :: st) hp n kr wr Po := by
  intro p l e s m args below meth c H locs cells slots mc ms ls C hl hw hS h1 h2
  exact lv_icmp_ne C.1 C.2.1 hd ht (fun q => kt (by simpa using q) p l e s m args below meth c H locs cells slots mc ms ls C hl hw hS h1 h2) (fun q => kf (by simpa using q) p l e s m args below meth c H locs cells slots mc ms ls C hl hw hS h1 h2)
theorem r_if_lt {x : Int32} {off : Int} {tgt : Nat} (hd : decode M.2.1 pc = .ok (.ifCond .lt off, 3)) (ht : (pc : Int) + off = (tgt : Int)) (kt : x < 0 → Rn G M d tgt lv st hp n kr wr Po) (kf : ¬ (x < 0) → Rn G M d (pc + 3) lv st hp n kr wr Po) : Rn G M d pc lv (.int x :: st) hp n kr wr Po := by
  intro p l e s m args below meth c H locs cells slots mc ms ls C hl hw hS h1 h2
  exact lv_if_lt C.1 C.2.1 hd ht (fun q => kt (by simpa using q) p l e s m args below meth c H locs cells slots mc ms ls C hl hw hS h1 h2) (fun q => kf (by simpa using q) p l e s m args below meth c H locs cells slots mc ms ls C hl hw hS h1 h2)
theorem r_icmp_lt {x y : Int32} {off : Int} {tgt : Nat} (hd : decode M.2.1 pc = .ok (.if_icmp .lt off, 3)) (ht : (pc : Int) + off = (tgt : Int)) (kt : x < y → Rn G M d tgt lv st hp n kr wr Po) (kf : ¬ (x < y) → Rn G M d (pc + 3) lv st hp n kr wr Po) : Rn G M d pc lv (.int y :: .int x :: st) hp n kr wr Po := by
  intro p l e s m args below meth c H locs cells slots mc ms ls C hl hw hS h1 h2
  exact lv_icmp_lt C.1 C.2.1 hd ht (fun q => kt (by simpa using q) p l e s m args below meth c H locs cells slots mc ms ls C hl hw hS h1 h2) (fun q => kf (by simpa using q) p l e s m args below meth c H locs cells slots mc ms ls C hl hw hS h1 h2)
theorem r_if_ge {x : Int32} {off : Int} {tgt : Nat} (hd : decode M.2.1 pc = .ok (.ifCond .ge off, 3)) (ht : (pc : Int) + off = (tgt : Int)) (kt : 0 ≤ x → Rn G M d tgt lv st hp n kr wr Po) (kf : ¬ (0 ≤ x) → Rn G M d (pc + 3) lv st hp n kr wr Po) : Rn G M d pc lv (.int x :: st) hp n kr wr Po := by
  intro p l e s m args below meth c H locs cells slots mc ms ls C hl hw hS h1 h2
  exact lv_if_ge C.1 C.2.1 hd ht (fun q => kt (by simpa using q) p l e s m args below meth c H locs cells slots mc ms ls C hl hw hS h1 h2) (fun q => kf (by simpa using q) p l e s m args below meth c H locs cells slots mc ms ls C hl hw hS h1 h2)
theorem r_icmp_ge {x y : Int32} {off : Int} {tgt : Nat} (hd : decode M.2.1 pc = .ok (.if_icmp .ge off, 3)) (ht : (pc : Int) + off = (tgt : Int)) (kt : y ≤ x → Rn G M d tgt lv st hp n kr wr Po) (kf : ¬ (y ≤ x) → Rn G M d (pc + 3) lv st hp n kr wr Po) : Rn G M d pc lv (.int y :: .int x :: st) hp n kr wr Po := by
  intro p l e s m args below meth c H locs cells slots mc ms ls C hl hw hS h1 h2
  exact lv_icmp_ge C.1 C.2.1 hd ht (fun q => kt (by simpa using q) p l e s m args below meth c H locs cells slots mc ms ls C hl hw hS h1 h2) (fun q => kf (by simpa using q) p l e s m args below meth c H locs cells slots mc ms ls C hl hw hS h1 h2)
theorem r_if_gt {x : Int32} {off : Int} {tgt : Nat} (hd : decode M.2.1 pc = .ok (.ifCond .gt off, 3)) (ht : (pc : Int) + off = (tgt : Int)) (kt : 0 < x → Rn G M d tgt lv st hp n kr wr Po) (kf : ¬ (0 < x) → Rn G M d (pc + 3) lv st hp n kr wr Po) : Rn G M d pc lv (.int x :: st) hp n kr wr Po := by
  intro p l e s m args below meth c H locs cells slots mc ms ls C hl hw hS h1 h2
  exact lv_if_gt C.1 C.2.1 hd ht (fun q => kt (by simpa using q) p l e s m args below meth c H locs cells slots mc ms ls C hl hw hS h1 h2) (fun q => kf (by simpa using q) p l e s m args below meth c H locs cells slots mc ms ls C hl hw hS h1 h2)
theorem r_icmp_gt {x y : Int32} {off : Int} {tgt : Nat} (hd : decode M.2.1 pc = .ok (.if_icmp .gt off, 3)) (ht : (pc : Int) + off = (tgt : Int)) (kt : y < x → Rn G M d tgt lv st hp n kr wr Po) (kf : ¬ (y < x) → Rn G M d (pc + 3) lv st hp n kr wr Po) : Rn G M d pc lv (.int y :: .int x :: st) hp n kr wr Po := by
  intro p l e s m args below meth c H locs cells slots mc ms ls C hl hw hS h1 h2
  exact lv_icmp_gt C.1 C.2.1 hd ht (fun q => kt (by simpa using q) p l e s m args below meth c H locs cells slots mc ms ls C hl hw hS h1 h2) (fun q => kf (by simpa using q) p l e s m args below meth c H locs cells slots mc ms ls C hl hw hS h1 h2)
theorem r_if_le {x : Int32} {off : Int} {tgt : Nat} (hd : decode M.2.1 pc = .ok (.ifCond .le off, 3)) (ht : (pc : Int) + off = (tgt : Int)) (kt : x ≤ 0 → Rn G M d tgt lv st hp n kr wr Po) (kf : ¬ (x ≤ 0) → Rn G M d (pc + 3) lv st hp n kr wr Po) : Rn G M d pc lv (.int x :: st) hp n kr wr Po := by
  intro p l e s m args below meth c H locs cells slots mc ms ls C hl hw hS h1 h2
  exact lv_if_le C.1 C.2.1 hd ht (fun q => kt (by simpa using q) p l e s m args below meth c H locs cells slots mc ms ls C hl hw hS h1 h2) (fun q => kf (by simpa using q) p l e s m args below meth c H locs cells slots mc ms ls C hl hw hS h1 h2)
theorem r_icmp_le {x y : Int32} {off : Int} {tgt : Nat} (hd : decode M.2.1 pc = .ok (.if_icmp .le off, 3)) (ht : (pc : Int) + off = (tgt : Int)) (kt : x ≤ y → Rn G M d tgt lv st hp n kr wr Po) (kf : ¬ (x ≤ y) → Rn G M d (pc + 3) lv st hp n kr wr Po) : Rn G M d pc lv (.int y :: .int x :: st) hp n kr wr Po := by
  intro p l e s m args below meth c H locs cells slots mc ms ls C hl hw hS h1 h2
  exact lv_icmp_le C.1 C.2.1 hd ht (fun q => kt (by simpa using q) p l e s m args below meth c H locs cells slots mc ms ls C hl hw hS h1 h2) (fun q => kf (by simpa using q) p l e s m args below meth c H locs cells slots mc ms ls C hl hw hS h1 h2)
theorem r_goto {off : Int} {tgt : Nat} (hd : decode M.2.1 pc = .ok (.goto off, 3)) (ht : (pc : Int) + off = (tgt : Int)) (k : Rn G M d tgt lv st hp n kr wr Po) : Rn G M d pc lv st hp n kr wr Po := by
  intro p l e s m args below meth c H locs cells slots mc ms ls C hl hw hS h1 h2
  exact lv_goto C.1 C.2.1 hd ht (k p l e s m args below meth c H locs cells slots mc ms ls C hl hw hS h1 h2)
theorem r_ifnull {x : Nat} {off : Int} (hd : decode M.2.1 pc = .ok (.ifnull off, 3)) (k : Rn G M d (pc + 3) lv st hp n kr wr Po) : Rn G M d pc lv (.ref x :: st) hp n kr wr Po := by
  intro p l e s m args below meth c H locs cells slots mc ms ls C hl hw hS h1 h2
  exact lv_ifnull C.1 C.2.1 hd (k p l e s m args below meth c H locs cells slots mc ms ls C hl hw hS h1 h2)
theorem r_ifnullN {off : Int} {tgt : Nat} (hd : decode M.2.1 pc = .ok (.ifnull off, 3)) (ht : (pc : Int) + off = (tgt : Int)) (k : Rn G M d tgt lv st hp n kr wr Po) : Rn G M d pc lv (.null :: st) hp n kr wr Po := by
  intro p l e s m args below meth c H locs cells slots mc ms ls C hl hw hS h1 h2
  exact lv_ifnullN C.1 C.2.1 hd ht (k p l e s m args below meth c H locs cells slots mc ms ls C hl hw hS h1 h2)
theorem r_ifnonnull {x : Nat} {off : Int} {tgt : Nat} (hd : decode M.2.1 pc = .ok (.ifnonnull off, 3)) (ht : (pc : Int) + off = (tgt : Int)) (k : Rn G M d tgt lv st hp n kr wr Po) : Rn G M d pc lv (.ref x :: st) hp n kr wr Po := by
  intro p l e s m args below meth c H locs cells slots mc ms ls C hl hw hS h1 h2
  exact lv_ifnonnull C.1 C.2.1 hd ht (k p l e s m args below meth c H locs cells slots mc ms ls C hl hw hS h1 h2)
theorem r_ifnonnullN {off : Int} (hd : decode M.2.1 pc = .ok (.ifnonnull off, 3)) (k : Rn G M d (pc + 3) lv st hp n kr wr Po) : Rn G M d pc lv (.null :: st) hp n kr wr Po := by
  intro p l e s m args below meth c H locs cells slots mc ms ls C hl hw hS h1 h2
  exact lv_ifnonnullN C.1 C.2.1 hd (k p l e s m args below meth c H locs cells slots mc ms ls C hl hw hS h1 h2)
theorem r_tableOut {dflt lo hi : Int} {offs : Array Int} {len : Nat} {x : Int32} {tgt : Nat} (hd : decode M.2.1 pc = .ok (.tableswitch dflt lo hi offs, len)) (h : x.toInt < lo ∨ hi < x.toInt) (ht : (pc : Int) + dflt = (tgt : Int)) (k : Rn G M d tgt lv st hp n kr wr Po) : Rn G M d pc lv (.int x :: st) hp n kr wr Po := by
  intro p l e s m args below meth c H locs cells slots mc ms ls C hl hw hS h1 h2
  exact lv_tableOut C.1 C.2.1 hd h ht (k p l e s m args below meth c H locs cells slots mc ms ls C hl hw hS h1 h2)
theorem r_tableIn {dflt lo hi : Int} {offs : Array Int} {len : Nat} {x : Int32} {off : Int} {tgt : Nat} (hd : decode M.2.1 pc = .ok (.tableswitch dflt lo hi offs, len)) (h3 : ¬ x.toInt < lo) (h4 : ¬ hi < x.toInt) (ho : offs[(x.toInt - lo).toNat]? = some off) (ht : (pc : Int) + off = (tgt : Int)) (k : Rn G M d tgt lv st hp n kr wr Po) : Rn G M d pc lv (.int x :: st) hp n kr wr Po := by
  intro p l e s m args below meth c H locs cells slots mc ms ls C hl hw hS h1 h2
  exact lv_tableIn C.1 C.2.1 hd h3 h4 ho ht (k p l e s m args below meth c H locs cells slots mc ms ls C hl hw hS h1 h2)
end RN
