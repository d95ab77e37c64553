section RW
variable {G : MG} {M : MM} {d pc : Nat} {lv : List (Nat × Value)} {st : List Value} {hp : MH} {n kr wr : Nat} {Po : Option Value → MH → Nat → Prop}
theorem up_s {hp : MH} {a : Nat} {e : va_E} : va_up hp a (some e) a = some e := by simp [va_up]
theorem up_o {hp : MH} {a : Nat} {e : va_E} : ∀ q : Nat, q ≠ a → va_up hp a (some e) q = hp q := fun q h => by simp [va_up, h]
theorem ne_c {hp : MH} {a b : Nat} {ea eb : va_E} (hb : hp b = some eb) (ha : hp a = some ea) (h : eb ≠ ea) : b ≠ a := fun e => h (by rw [e, ha] at hb; exact (Option.some.inj hb).symm)
theorem Rn.lt {a : Nat} {e : va_E} (ha : hp a = some e) (k : a < n → Rn G M d pc lv st hp n kr wr Po) : Rn G M d pc lv st hp n kr wr Po := by
  intro p l e' s m args below meth c H locs cells slots mc ms ls C hl hw hS h1 h2
  exact k (by rw [← hw.1]; exact (hw.2 a e ha).2.lt) p l e' s m args below meth c H locs cells slots mc ms ls C hl hw hS h1 h2
theorem Rn.lo (k : g_lo G ≤ n ∧ g_b G < g_lo G → Rn G M d pc lv st hp n kr wr Po) : Rn G M d pc lv st hp n kr wr Po := by
  intro p l e' s m args below meth c H locs cells slots mc ms ls C hl hw hS h1 h2
  exact k ⟨mw.lo C.k hw hS, C.k.2.2.2.2.2.1⟩ p l e' s m args below meth c H locs cells slots mc ms ls C hl hw hS h1 h2
theorem Rn.bd (k : (∀ (q : Nat) (e : va_E), hp q = some e → q < n) → Rn G M d pc lv st hp n kr wr Po) : Rn G M d pc lv st hp n kr wr Po := by
  intro p l e' s m args below meth c H locs cells slots mc ms ls C hl hw hS h1 h2
  exact k (fun a e ha => by rw [← hw.1]; exact (hw.2 a e ha).2.lt) p l e' s m args below meth c H locs cells slots mc ms ls C hl hw hS h1 h2
theorem ne_nn (n : Nat) {i j : Nat} (h : (i == j) = false) : n + i ≠ n + j := fun e => by
  have : i = j := Nat.add_left_cancel e
  simp [this] at h
theorem ne_an {a n : Nat} (h : a < n) (j : Nat) : a ≠ n + j := by omega
theorem Rn.fresh (k : hp n = none → Rn G M d pc lv st hp n kr wr Po) : Rn G M d pc lv st hp n kr wr Po := by
  intro p l e' s m args below meth c H locs cells slots mc ms ls C hl hw hS h1 h2
  refine k ?_ p l e' s m args below meth c H locs cells slots mc ms ls C hl hw hS h1 h2
  cases h : hp n with
  | none => rfl
  | some e => exact absurd (hw.2 n e h).2.lt (by rw [hw.1]; omega)
theorem r_topi {x : Int32} (k : ∀ y : Int32, y = x → Rn G M d pc lv (.int y :: st) hp n kr wr Po) : Rn G M d pc lv (.int x :: st) hp n kr wr Po := k x rfl
theorem r_topl {x : Int64} (k : ∀ y : Int64, y = x → Rn G M d pc lv (.long y :: st) hp n kr wr Po) : Rn G M d pc lv (.long x :: st) hp n kr wr Po := k x rfl
theorem w_put {ix ci k a : Nat} {ref Cn : String} {T : u_T} {N : Nat} {fs fs' : List Value} {v : Value} {ty : FieldType} (F : lkF G M.1.cls ix ci k ref Cn T N) (ty0 : Nat → FieldType) (hty : ∀ k, k < N → parseFieldDescriptor (T k).2.2.1 = some (ty0 k)) (hnm : ∀ a, a < N → ∀ b, b < N → a ≠ b → (T a).2.1 ≠ (T b).2.1) (hdt : parseFieldDescriptor (T k).2.2.1 = some ty)
    (hf : (T k).2.2.2 = false ∨ ((T k).2.2.2 = true ∧ M.1.name = "<init>" ∧ (T k).1 = M.1.cls)) (hd : decode M.2.1 pc = .ok (.putfield ix, 3)) (ha : hp a = some (.inr (ci, fs))) (hl9 : k < fs.length) (hn : narrow ty v = v) (hfit : fits ty v = true) (hfs : fs.set k v = fs') (kk : ∀ hp1 : MH, hp1 a = some (.inr (ci, fs')) → (∀ q : Nat, q ≠ a → hp1 q = hp q) → Rn G M d (pc + 3) lv st hp1 n kr wr Po) : Rn G M d pc lv (v :: .ref a :: st) hp n kr wr Po := by
  subst hfs
  exact r_put F ty0 hty hnm hdt hf hd ha hl9 hn hfit (kk _ up_s up_o)
theorem w_iast {a t0 : Nat} {cA : ClassId} {N : Nat} {f f' : Nat → Int32} {i : Int32} {x : Int32} (hd : decode M.2.1 pc = .ok (.iastore, 1)) (ht : (g_ty G)[t0]? = some (cA, .int)) (ha : hp a = some (.inl (cA, N, .inl f))) (hin : vp_in i N) (hf : upd f i.toNatClampNeg x = f') (kk : ∀ hp1 : MH, hp1 a = some (.inl (cA, N, .inl f')) → (∀ q : Nat, q ≠ a → hp1 q = hp q) → Rn G M d (pc + 1) lv st hp1 n kr wr Po) : Rn G M d pc lv (.int x :: .int i :: .ref a :: st) hp n kr wr Po := by
  subst hf
  exact r_iast hd ht ha hin (kk _ up_s up_o)
theorem w_zast {a t0 : Nat} {cA : ClassId} {N : Nat} {f f' : Nat → Int32} {i : Int32} {x : Int32} (hd : decode M.2.1 pc = .ok (.bastore, 1)) (ht : (g_ty G)[t0]? = some (cA, .boolean)) (ha : hp a = some (.inl (cA, N, .inl f))) (hin : vp_in i N) (hf : upd f i.toNatClampNeg (vp_nar .boolean x) = f') (kk : ∀ hp1 : MH, hp1 a = some (.inl (cA, N, .inl f')) → (∀ q : Nat, q ≠ a → hp1 q = hp q) → Rn G M d (pc + 1) lv st hp1 n kr wr Po) : Rn G M d pc lv (.int x :: .int i :: .ref a :: st) hp n kr wr Po := by
  subst hf
  exact r_zast hd ht ha hin (kk _ up_s up_o)
theorem w_last {a t0 : Nat} {cA : ClassId} {N : Nat} {f f' : Nat → Int64} {i : Int32} {x : Int64} (hd : decode M.2.1 pc = .ok (.lastore, 1)) (ht : (g_ty G)[t0]? = some (cA, .long)) (ha : hp a = some (.inl (cA, N, .inr (.inl f)))) (hin : vp_in i N) (hf : vp_updL f i.toNatClampNeg x = f') (kk : ∀ hp1 : MH, hp1 a = some (.inl (cA, N, .inr (.inl f'))) → (∀ q : Nat, q ≠ a → hp1 q = hp q) → Rn G M d (pc + 1) lv st hp1 n kr wr Po) : Rn G M d pc lv (.long x :: .int i :: .ref a :: st) hp n kr wr Po := by
  subst hf
  exact r_last hd ht ha hin (kk _ up_s up_o)
theorem w_aastN {a t0 : Nat} {cA : ClassId} {N : Nat} {f f' : Nat → Option Nat} {i : Int32} {Cn : String} (hd : decode M.2.1 pc = .ok (.aastore, 1)) (ht : (g_ty G)[t0]? = some (cA, .object Cn)) (ha : hp a = some (.inl (cA, N, .inr (.inr (.inr (.inr f)))))) (hin : vp_in i N) (hf : va_up f i.toNatClampNeg none = f') (kk : ∀ hp1 : MH, hp1 a = some (.inl (cA, N, .inr (.inr (.inr (.inr f'))))) → (∀ q : Nat, q ≠ a → hp1 q = hp q) → Rn G M d (pc + 1) lv st hp1 n kr wr Po) : Rn G M d pc lv (.null :: .int i :: .ref a :: st) hp n kr wr Po := by
  subst hf
  exact r_aastN hd ht ha hin (kk _ up_s up_o)
theorem w_aast {a t0 v ci : Nat} {cA : ClassId} {N : Nat} {f f' : Nat → Option Nat} {i : Int32} {Cn : String} {r : vw_C} {vs : List Value} (hd : decode M.2.1 pc = .ok (.aastore, 1)) (ht : (g_ty G)[t0]? = some (cA, .object Cn)) (hc : (g_cl G)[ci]? = some r) (hca : (r.1, Cn) ∈ g_ca G) (ha : hp a = some (.inl (cA, N, .inr (.inr (.inr (.inr f)))))) (hv : hp v = some (.inr (ci, vs))) (hin : vp_in i N) (hf : va_up f i.toNatClampNeg (some v) = f') (kk : ∀ hp1 : MH, hp1 a = some (.inl (cA, N, .inr (.inr (.inr (.inr f'))))) → (∀ q : Nat, q ≠ a → hp1 q = hp q) → Rn G M d (pc + 1) lv st hp1 n kr wr Po) : Rn G M d pc lv (.ref v :: .int i :: .ref a :: st) hp n kr wr Po := by
  subst hf
  exact r_aast hd ht hc hca ha hv hin (kk _ up_s up_o)
theorem w_new {ix ci : Nat} {Cn : String} {T : u_T} {N : Nat} {fs : List Value} (F : lkN G M.1.cls ix ci Cn T N) (ty : Nat → FieldType) (hty : ∀ k, k < N → parseFieldDescriptor (T k).2.2.1 = some (ty k)) (hfs : ∀ j, j < N → defaultValue (ty j) = vp_V fs j) (hd : decode M.2.1 pc = .ok (.new ix, 3)) (hkr : 1 ≤ kr) (hwr : N ≤ wr) (kk : ∀ hp1 : MH, hp1 n = some (.inr (ci, fs)) → (∀ (q : Nat) (e : va_E), hp q = some e → hp1 q = some e) → (∀ q : Nat, q ≠ n → hp1 q = hp q) → Rn G M d (pc + 3) lv (.ref n :: st) hp1 (n + 1) (kr - 1) (wr - N) Po) : Rn G M d pc lv st hp n kr wr Po :=
  Rn.fresh (fun h0 => r_new F ty hty hfs hd hkr hwr (kk _ up_s (fun q e h => by rw [up_o q (fun z => by rw [z, h0] at h; cases h)]; exact h) up_o))
theorem w_newi {t0 N : Nat} {cA : ClassId} {x : Int32} (hd : decode M.2.1 pc = .ok (.newarray .int, 2)) (harr : Cond.arrayClass .int ∈ g_ws G) (ht : (g_ty G)[t0]? = some (cA, .int)) (hx : x = nI N) (hN : N ≤ 1000000) (hkr : 1 ≤ kr) (hwr : N ≤ wr) (kk : ∀ hp1 : MH, hp1 n = some (.inl (cA, (N, .inl (fun _ => 0)))) → (∀ (q : Nat) (e : va_E), hp q = some e → hp1 q = some e) → (∀ q : Nat, q ≠ n → hp1 q = hp q) → Rn G M d (pc + 2) lv (.ref n :: st) hp1 (n + 1) (kr - 1) (wr - N) Po) : Rn G M d pc lv (.int x :: st) hp n kr wr Po := by
  subst hx
  exact Rn.fresh (fun h0 => r_newa rfl hd harr ht (fun _ h => by cases h) (fun _ => rfl) (nI_pos (by omega)) (nI_clamp (by omega)) (by show N * 4 ≤ _; omega) hkr hwr (kk _ up_s (fun q e h => by rw [up_o q (fun z => by rw [z, h0] at h; cases h)]; exact h) up_o))
theorem w_newl {t0 N : Nat} {cA : ClassId} {x : Int32} (hd : decode M.2.1 pc = .ok (.newarray .long, 2)) (harr : Cond.arrayClass .long ∈ g_ws G) (ht : (g_ty G)[t0]? = some (cA, .long)) (hx : x = nI N) (hN : N ≤ 1000000) (hkr : 1 ≤ kr) (hwr : N ≤ wr) (kk : ∀ hp1 : MH, hp1 n = some (.inl (cA, (N, .inr (.inl (fun _ => 0))))) → (∀ (q : Nat) (e : va_E), hp q = some e → hp1 q = some e) → (∀ q : Nat, q ≠ n → hp1 q = hp q) → Rn G M d (pc + 2) lv (.ref n :: st) hp1 (n + 1) (kr - 1) (wr - N) Po) : Rn G M d pc lv (.int x :: st) hp n kr wr Po := by
  subst hx
  exact Rn.fresh (fun h0 => r_newa rfl hd harr ht (fun _ h => by cases h) (fun _ => rfl) (nI_pos (by omega)) (nI_clamp (by omega)) (by show N * 8 ≤ _; omega) hkr hwr (kk _ up_s (fun q e h => by rw [up_o q (fun z => by rw [z, h0] at h; cases h)]; exact h) up_o))
theorem w_newz {t0 N : Nat} {cA : ClassId} {x : Int32} (hd : decode M.2.1 pc = .ok (.newarray .boolean, 2)) (harr : Cond.arrayClass .boolean ∈ g_ws G) (ht : (g_ty G)[t0]? = some (cA, .boolean)) (hx : x = nI N) (hN : N ≤ 1000000) (hkr : 1 ≤ kr) (hwr : N ≤ wr) (kk : ∀ hp1 : MH, hp1 n = some (.inl (cA, (N, .inl (fun _ => 0)))) → (∀ (q : Nat) (e : va_E), hp q = some e → hp1 q = some e) → (∀ q : Nat, q ≠ n → hp1 q = hp q) → Rn G M d (pc + 2) lv (.ref n :: st) hp1 (n + 1) (kr - 1) (wr - N) Po) : Rn G M d pc lv (.int x :: st) hp n kr wr Po := by
  subst hx
  exact Rn.fresh (fun h0 => r_newa rfl hd harr ht (fun _ h => by cases h) (fun _ => rfl) (nI_pos (by omega)) (nI_clamp (by omega)) (by show N * 1 ≤ _; omega) hkr hwr (kk _ up_s (fun q e h => by rw [up_o q (fun z => by rw [z, h0] at h; cases h)]; exact h) up_o))
theorem w_anew {ix t0 N : Nat} {cA : ClassId} {Cn : String} {x : Int32} (hd : decode M.2.1 pc = .ok (.anewarray ix, 3)) (hcl : Cond.classLink M.1.cls ix Cn ∈ g_ws G) (hov : Cn ∈ g_ao G) (ht : (g_ty G)[t0]? = some (cA, .object Cn)) (hx : x = nI N) (hN : N ≤ 1000000) (hkr : 1 ≤ kr) (hwr : N ≤ wr) (kk : ∀ hp1 : MH, hp1 n = some (.inl (cA, N, .inr (.inr (.inr (.inr (fun _ => none)))))) → (∀ (q : Nat) (e : va_E), hp q = some e → hp1 q = some e) → (∀ q : Nat, q ≠ n → hp1 q = hp q) → Rn G M d (pc + 3) lv (.ref n :: st) hp1 (n + 1) (kr - 1) (wr - N) Po) : Rn G M d pc lv (.int x :: st) hp n kr wr Po := by
  subst hx
  exact Rn.fresh (fun h0 => r_anew hd hcl hov ht (nI_pos (by omega)) (nI_clamp (by omega)) (by omega) hkr hwr (kk _ up_s (fun q e h => by rw [up_o q (fun z => by rw [z, h0] at h; cases h)]; exact h) up_o))
theorem w_clone {ix t0 a N : Nat} {cA : ClassId} {f : Nat → Int32} (F : lkC G M.1.cls ix "[I") (hd : decode M.2.1 pc = .ok (.invokevirtual ix, 3)) (ht : (g_ty G)[t0]? = some (cA, .int)) (ha : hp a = some (.inl (cA, N, .inl f))) (hst : (st.map fun v => v.category).sum ≤ 8) (hkr : 1 ≤ kr) (hwr : N ≤ wr) (kk : ∀ hp1 : MH, hp1 n = some (.inl (cA, N, .inl f)) → (∀ (q : Nat) (e : va_E), hp q = some e → hp1 q = some e) → (∀ q : Nat, q ≠ n → hp1 q = hp q) → Rn G M d (pc + 3) lv (.ref n :: st) hp1 (n + 1) (kr - 1) (wr - N) Po) : Rn G M d pc lv (.ref a :: st) hp n kr wr Po :=
  Rn.fresh (fun h0 => r_clone F hd ht ha hst hkr hwr (kk _ up_s (fun q e h => by rw [up_o q (fun z => by rw [z, h0] at h; cases h)]; exact h) up_o))
theorem r_castA {ix t0 a : Nat} {cA : ClassId} {x : vp_A} (hd : decode M.2.1 pc = .ok (.checkcast ix, 3)) (hlk : Cond.classLink M.1.cls ix "[I" ∈ g_ws G) (ht : (g_ty G)[t0]? = some (cA, .int)) (ha : hp a = some (.inl (cA, x))) (k : Rn G M d (pc + 3) lv (.ref a :: st) hp n kr wr Po) : Rn G M d pc lv (.ref a :: st) hp n kr wr Po := by
  intro p l e s m args below meth c H locs cells slots mc ms ls C hl hw hS h1 h2
  exact va_castA C.1 C.2.1 C.own (C.ts hlk) (hw.P ha) 0 rfl (va_nm_int (C.K.2 t0 _ ht).2) hd (k p l e s m args below meth c H locs cells slots mc ms ls C hl hw hS h1 h2)
theorem w_copyi {ix t0 t1 a0 a : Nat} {c0 c1 : ClassId} {n0 n1 N s0 d0 : Nat} {f g g' : Nat → Int32} {sp dp x : Int32} (F : lkA G M.1.cls ix) (hd : decode M.2.1 pc = .ok (.invokestatic ix, 3)) (ht0 : (g_ty G)[t0]? = some (c0, .int)) (ht1 : (g_ty G)[t1]? = some (c1, .int)) (ha0 : hp a0 = some (.inl (c0, n0, .inl f))) (ha : hp a = some (.inl (c1, n1, .inl g))) (e1 : sp = nI s0) (e2 : dp = nI d0) (e3 : x = nI N) (g4 : s0 + N ≤ n0) (g5 : d0 + N ≤ n1) (g6 : n0 < 2 ^ 31) (g7 : n1 < 2 ^ 31) (hst : (st.map fun v => v.category).sum ≤ 8) (hg : va_cpy f g s0 d0 N = g')
    (kk : ∀ hp1 : MH, hp1 a = some (.inl (c1, n1, .inl g')) → (∀ q : Nat, q ≠ a → hp1 q = hp q) → Rn G M d (pc + 3) lv st hp1 n kr wr Po) : Rn G M d pc lv (.int x :: .int dp :: .ref a :: .int sp :: .ref a0 :: st) hp n kr wr Po := by
  subst hg e1 e2 e3
  have c1 : (nI s0).toNatClampNeg = s0 := nI_clamp (by omega)
  have c2 : (nI d0).toNatClampNeg = d0 := nI_clamp (by omega)
  have c3 : (nI N).toNatClampNeg = N := nI_clamp (by omega)
  refine r_copyi F hd ht0 ht1 ha0 ha (nI_pos (by omega)) (nI_pos (by omega)) (nI_pos (by omega)) (by rw [c1, c3]; exact g4) (by rw [c2, c3]; exact g5) hst ?_
  rw [c1, c2, c3]
  exact kk _ up_s up_o
theorem w_copyl {ix t0 t1 a0 a : Nat} {c0 c1 : ClassId} {n0 n1 N s0 d0 : Nat} {f g g' : Nat → Int64} {sp dp x : Int32} (F : lkA G M.1.cls ix) (hd : decode M.2.1 pc = .ok (.invokestatic ix, 3)) (ht0 : (g_ty G)[t0]? = some (c0, .long)) (ht1 : (g_ty G)[t1]? = some (c1, .long)) (ha0 : hp a0 = some (.inl (c0, n0, .inr (.inl f)))) (ha : hp a = some (.inl (c1, n1, .inr (.inl g)))) (e1 : sp = nI s0) (e2 : dp = nI d0) (e3 : x = nI N) (g4 : s0 + N ≤ n0) (g5 : d0 + N ≤ n1) (g6 : n0 < 2 ^ 31) (g7 : n1 < 2 ^ 31) (hst : (st.map fun v => v.category).sum ≤ 8) (hg : va_cpy f g s0 d0 N = g')
    (kk : ∀ hp1 : MH, hp1 a = some (.inl (c1, n1, .inr (.inl g'))) → (∀ q : Nat, q ≠ a → hp1 q = hp q) → Rn G M d (pc + 3) lv st hp1 n kr wr Po) : Rn G M d pc lv (.int x :: .int dp :: .ref a :: .int sp :: .ref a0 :: st) hp n kr wr Po := by
  subst hg e1 e2 e3
  have c1 : (nI s0).toNatClampNeg = s0 := nI_clamp (by omega)
  have c2 : (nI d0).toNatClampNeg = d0 := nI_clamp (by omega)
  have c3 : (nI N).toNatClampNeg = N := nI_clamp (by omega)
  refine r_copyl F hd ht0 ht1 ha0 ha (nI_pos (by omega)) (nI_pos (by omega)) (nI_pos (by omega)) (by rw [c1, c3]; exact g4) (by rw [c2, c3]; exact g5) hst ?_
  rw [c1, c2, c3]
  exact kk _ up_s up_o
theorem w_iald {a t0 : Nat} {cA : ClassId} {N : Nat} {f : Nat → Int32} {i : Int32} {v : Int32} (hd : decode M.2.1 pc = .ok (.iaload, 1)) (ht : (g_ty G)[t0]? = some (cA, .int)) (ha : hp a = some (.inl (cA, N, .inl f))) (hin : vp_in i N) (hv : f i.toNatClampNeg = v) (kk : Rn G M d (pc + 1) lv (.int v :: st) hp n kr wr Po) : Rn G M d pc lv (.int i :: .ref a :: st) hp n kr wr Po := by
  subst hv
  exact r_iald hd ht ha hin kk
theorem w_zald {a t0 : Nat} {cA : ClassId} {N : Nat} {f : Nat → Int32} {i : Int32} {v : Int32} (hd : decode M.2.1 pc = .ok (.baload, 1)) (ht : (g_ty G)[t0]? = some (cA, .boolean)) (ha : hp a = some (.inl (cA, N, .inl f))) (hin : vp_in i N) (hv : f i.toNatClampNeg = v) (kk : Rn G M d (pc + 1) lv (.int v :: st) hp n kr wr Po) : Rn G M d pc lv (.int i :: .ref a :: st) hp n kr wr Po := by
  subst hv
  exact r_zald hd ht ha hin kk
theorem w_lald {a t0 : Nat} {cA : ClassId} {N : Nat} {f : Nat → Int64} {i : Int32} {v : Int64} (hd : decode M.2.1 pc = .ok (.laload, 1)) (ht : (g_ty G)[t0]? = some (cA, .long)) (ha : hp a = some (.inl (cA, N, .inr (.inl f)))) (hin : vp_in i N) (hv : f i.toNatClampNeg = v) (kk : Rn G M d (pc + 1) lv (.long v :: st) hp n kr wr Po) : Rn G M d pc lv (.int i :: .ref a :: st) hp n kr wr Po := by
  subst hv
  exact r_lald hd ht ha hin kk
theorem w_aald {a t0 : Nat} {cA : ClassId} {N : Nat} {f : Nat → Option Nat} {i : Int32} {Cn : String} {v : Value} (hd : decode M.2.1 pc = .ok (.aaload, 1)) (ht : (g_ty G)[t0]? = some (cA, .object Cn)) (ha : hp a = some (.inl (cA, N, .inr (.inr (.inr (.inr f)))))) (hin : vp_in i N) (hv : va_rf (f i.toNatClampNeg) = v) (kk : Rn G M d (pc + 1) lv (v :: st) hp n kr wr Po) : Rn G M d pc lv (.int i :: .ref a :: st) hp n kr wr Po := by
  subst hv
  exact r_aald hd ht ha hin kk
theorem w_sld {i v : Int32} (hd : decode M.2.1 pc = .ok (.iaload, 1)) (hin : vp_in i (g_L G)) (hv : g_xs G i.toNatClampNeg = v) (kk : Rn G M d (pc + 1) lv (.int v :: st) hp n kr wr Po) : Rn G M d pc lv (.int i :: .ref (g_b G) :: st) hp n kr wr Po := by
  subst hv
  exact r_sld hd hin kk
end RW
