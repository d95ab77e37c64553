/-- how many of the first arcs can be gone both ways -/
def gc (q : Bool) (f t : Nat → Int32) : Nat → Nat
  | 0 => 0
  | i + 1 => gc q f t i + (if q = false ∧ f i ≠ t i then 1 else 0)
theorem gc_le (q : Bool) (f t : Nat → Int32) (i : Nat) : gc q f t i ≤ i := by
  induction i with
  | zero => exact Nat.le_refl _
  | succ i ih => simp only [gc]; split <;> omega
theorem gc_t {q : Bool} {f t : Nat → Int32} {i : Nat} (h1 : q = false) (h2 : f i ≠ t i) : gc q f t (i + 1) = gc q f t i + 1 := by simp [gc, h1, h2]
theorem gc_f {q : Bool} {f t : Nat → Int32} {i : Nat} (h : ¬ (q = false ∧ f i ≠ t i)) : gc q f t (i + 1) = gc q f t i := by simp only [gc, if_neg h]; rfl
theorem bI_f' {q : Bool} (h : ¬ (bI q ≠ 0)) : q = false := bI_0 (Decidable.not_not.mp h)
set_option maxHeartbeats 4000000 in
set_option maxRecDepth 100000 in
theorem c_copyOf {D : va_G} {cI cJ cZ cT : ClassId} {lo b L : Nat} {xs : Nat → Int32} {hp : MH} {n d : Nat} {a N m : Nat} {f : Nat → Int32} (hd0 : 1 ≤ d) (gc0 : hp a = some (.inl (cI, N, .inl (f)))) (hN : N ≤ 1000) (hm : m ≤ N) : Mt (gG D cI cJ cZ cT lo b L xs) mJ7_copyOf_59c91 d 1 m [.ref a, .int ((nI m))] hp n (fun r hp1 n1 => r = some (.ref n) ∧ n1 = n + 1 ∧ hp1 n = some (.inl (cI, m, .inl (f))) ∧ ∀ (q : Nat) (e9 : va_E), hp q = some e9 → hp1 q = some e9) := by
  refine Mt.of rfl (Nat.le_of_ble_eq_true rfl) ?_
  refine Rn.pick (lv' := [(0, .ref a), (1, .int ((nI m)))]) [0, 1] rfl ?_
  refine Rn.bd (fun bd => ?_)
  have l_a := bd _ _ gc0
  refine r_iload_n (pc := 0) dJ7_copyOf_59c91_0 (i := 1) rfl rfl ?_
  refine r_aload_n (pc := 1) dJ7_copyOf_59c91_1 (i := 0) rfl rfl ?_
  refine r_alen (pc := 2) (t0 := 0) dJ7_copyOf_59c91_2 rfl gc0 ?_
  refine r_icmp_ne (pc := 3) (tgt := 14) dJ7_copyOf_59c91_3 (by decide) (fun c3 => ?_) (fun c3 => ?_)
  · have hlt : m < N := by
      rcases Nat.lt_or_ge m N with h | h
      · exact h
      · exact absurd (by rw [show m = N by omega]) c3
    refine r_iload_n (pc := 14) dJ7_copyOf_59c91_14 (i := 1) rfl rfl ?_
    refine w_newi (pc := 15) (t0 := 0) (N := m) dJ7_copyOf_59c91_15 (tb_t (k := 68) (w := Cond.arrayClass .int) (by decide +kernel)) rfl (rfl) (by omega) (by omega) (by omega) (fun hp_1 h_2 hk_3 ho_4 => ?_)
    refine r_astore_n (pc := 17) (lv' := [(2, .ref n), (0, .ref a), (1, .int ((nI m)))]) dJ7_copyOf_59c91_17 (i := 2) rfl (by decide) rfl ?_
    refine r_aload_n (pc := 18) dJ7_copyOf_59c91_18 (i := 0) rfl rfl ?_
    refine r_iconst (pc := 19) (v := 0) dJ7_copyOf_59c91_19 (by decide) ?_
    refine r_aload_n (pc := 20) dJ7_copyOf_59c91_20 (i := 2) rfl rfl ?_
    refine r_iconst (pc := 21) (v := 0) dJ7_copyOf_59c91_21 (by decide) ?_
    refine r_aload_n (pc := 22) dJ7_copyOf_59c91_22 (i := 0) rfl rfl ?_
    have h_5 : hp_1 a = some (.inl (cI, N, .inl (f))) := (hk_3 a _ gc0)
    refine r_alen (pc := 23) (t0 := 0) dJ7_copyOf_59c91_23 rfl h_5 ?_
    refine r_iload_n (pc := 24) dJ7_copyOf_59c91_24 (i := 1) rfl rfl ?_
    refine r_mmin (pc := 25) (v := (nI m)) qJ7_304 dJ7_copyOf_59c91_25 (Nat.le_of_ble_eq_true rfl) (if_pos (nI_lt (by omega) (by omega))) ?_
    refine w_copyi (pc := 28) (t0 := 0) (t1 := 0) (s0 := 0) (d0 := 0) (N := m) (g' := va_cpy (f) (fun _ => 0) 0 0 m) aJ7_150 dJ7_copyOf_59c91_28 rfl rfl h_5 h_2 rfl rfl rfl (by omega) (by omega) (by omega) (by omega) (Nat.le_of_ble_eq_true rfl) (rfl) (fun hp_6 h_7 ho_8 => ?_)
    refine w_alti (pc := 31) (f) h_7 (fun j hj => by simp [va_cpy, hj]) (fun hp_9 h_10 ho_11 => ?_)
    refine r_aload_n (pc := 31) dJ7_copyOf_59c91_31 (i := 2) rfl rfl ?_
    exact r_aret (pc := 32) dJ7_copyOf_59c91_32 rfl (Or.inr ⟨_, rfl⟩) (⟨rfl, rfl, h_10, fun q e9 h9 => have l9 := bd q e9 h9; ((ho_11 q (ne_an l9 0)).trans ((ho_8 q (ne_an l9 0)).trans (hk_3 q e9 h9)))⟩)
  · have e9 : m = N := (nI_eq (by omega) (by omega)).mp (Decidable.not_not.mp c3)
    subst e9
    refine r_aload_n (pc := 6) dJ7_copyOf_59c91_6 (i := 0) rfl rfl ?_
    refine w_clone (pc := 7) (t0 := 0) aJ7_316 dJ7_copyOf_59c91_7 rfl gc0 (Nat.le_of_ble_eq_true rfl) (by omega) (by omega) (fun hp_12 h_13 hk_14 ho_15 => ?_)
    refine r_castA (pc := 10) (t0 := 0) dJ7_copyOf_59c91_10 (tb_t (k := 266) (by decide +kernel)) rfl h_13 ?_
    exact r_aret (pc := 13) dJ7_copyOf_59c91_13 rfl (Or.inr ⟨_, rfl⟩) (⟨rfl, rfl, h_13, fun q e9 h9 => (hk_14 q e9 h9)⟩)
set_option maxHeartbeats 4000000 in
set_option maxRecDepth 100000 in
theorem c_X3_countGoings {D : va_G} {cI cJ cZ cT : ClassId} {lo b L : Nat} {xs : Nat → Int32} {hp : MH} {n d : Nat} {a af au aw ac al m : Nat} {x0 : Int32} {q : Bool} {f1 f2 : Nat → Int32} (hd0 : 0 ≤ d) (gc0 : hp a = some (.inr (1, [.int x0, .int ((bI q)), .int ((nI m)), .ref af, .ref au, .ref aw, .ref ac, .ref al]))) (gc1 : hp af = some (.inl (cI, 60, .inl (f1)))) (gc2 : hp au = some (.inl (cI, 60, .inl (f2)))) (hm : m ≤ 60) : Mt (gG D cI cJ cZ cT lo b L xs) mX3_countGoings d 0 0 [.ref a] hp n (fun r hp1 n1 => r = some (.int ((nI (m + gc q f1 f2 m)))) ∧ n1 = n ∧ ∀ (q : Nat) (e9 : va_E), hp q = some e9 → hp1 q = some e9) := by
  refine Mt.of rfl (Nat.le_of_ble_eq_true rfl) ?_
  refine Rn.pick (lv' := [(0, .ref a)]) [0] rfl ?_
  refine r_aload_n (pc := 0) dX3_countGoings_0 (i := 0) rfl rfl ?_
  refine r_get (pc := 1) (v := .int ((nI m))) fX3_22 dX3_countGoings_1 gc0 rfl ?_
  refine r_istore_n (pc := 4) (lv' := [(1, .int ((nI m))), (0, .ref a)]) dX3_countGoings_4 (i := 1) rfl (by decide) rfl ?_
  refine r_iconst (pc := 5) (v := 0) dX3_countGoings_5 (by decide) ?_
  refine r_istore_n (pc := 6) (lv' := [(2, .int 0), (1, .int ((nI m))), (0, .ref a)]) dX3_countGoings_6 (i := 2) rfl (by decide) rfl ?_
  have lp : ∀ i : Nat, i ≤ m → Rn (gG D cI cJ cZ cT lo b L xs) mX3_countGoings d 7 [(0, .ref a), (1, .int ((nI (m + gc q f1 f2 i)))), (2, .int ((nI i)))] [] hp n 0 0 (fun r hp1 n1 => r = some (.int ((nI (m + gc q f1 f2 m)))) ∧ n1 = n ∧ ∀ (q : Nat) (e9 : va_E), hp q = some e9 → hp1 q = some e9) := by
    refine lpN _ m ?_
    intro i hi ih
    have hgc := gc_le q f1 f2 i
    refine r_iload_n (pc := 7) dX3_countGoings_7 (i := 2) rfl rfl ?_
    refine r_aload_n (pc := 8) dX3_countGoings_8 (i := 0) rfl rfl ?_
    refine r_get (pc := 9) (v := .int ((nI m))) fX3_22 dX3_countGoings_9 gc0 rfl ?_
    refine r_icmp_ge (pc := 12) (tgt := 46) dX3_countGoings_12 (by decide) (fun c12 => ?_) (fun c12 => ?_)
    · have e9 : i = m := by have := (nI_leI (a := m) (b := i) (by omega) (by omega)).mp c12; omega
      subst e9
      refine r_iload_n (pc := 46) dX3_countGoings_46 (i := 1) rfl rfl ?_
      exact r_iret (pc := 47) dX3_countGoings_47 rfl (⟨rfl, rfl, fun q e9 h9 => h9⟩)
    · have hlt : i < m := by have := mt (nI_leI (a := m) (b := i) (by omega) (by omega)).mpr c12; omega
      refine r_aload_n (pc := 15) dX3_countGoings_15 (i := 0) rfl rfl ?_
      refine r_get (pc := 16) (v := .int ((bI q))) fX3_15 dX3_countGoings_16 gc0 rfl ?_
      refine r_if_ne (pc := 19) (tgt := 40) dX3_countGoings_19 (by decide) (fun c19 => ?_) (fun c19 => ?_)
      · refine r_iinc (pc := 40) (v := (nI (i + 1))) (lv' := [(2, .int ((nI (i + 1)))), (0, .ref a), (1, .int ((nI (m + gc q f1 f2 i))))]) dX3_countGoings_40 rfl (nI_1 i) (by decide) rfl ?_
        refine r_goto (pc := 43) (tgt := 7) dX3_countGoings_43 (by decide) ?_
        refine Rn.pick (lv' := [(0, .ref a), (1, .int ((nI (m + gc q f1 f2 i)))), (2, .int ((nI (i + 1))))]) [1, 2, 0] rfl ?_
        have h9 := ih (i + 1) (by omega) (by omega)
        rw [gc_f (fun h => by rw [bI_f h.1] at c19; exact c19 rfl)] at h9
        exact h9
      · refine r_aload_n (pc := 22) dX3_countGoings_22 (i := 0) rfl rfl ?_
        refine r_get (pc := 23) (v := .ref af) fX3_26 dX3_countGoings_23 gc0 rfl ?_
        refine r_iload_n (pc := 26) dX3_countGoings_26 (i := 2) rfl rfl ?_
        refine w_iald (pc := 27) (t0 := 0) (v := (f1 i)) dX3_countGoings_27 rfl gc1 (vp_in_nI (by omega) (by omega)) (congrArg f1 (nI_clamp (by omega))) ?_
        refine r_aload_n (pc := 28) dX3_countGoings_28 (i := 0) rfl rfl ?_
        refine r_get (pc := 29) (v := .ref au) fX3_37 dX3_countGoings_29 gc0 rfl ?_
        refine r_iload_n (pc := 32) dX3_countGoings_32 (i := 2) rfl rfl ?_
        refine w_iald (pc := 33) (t0 := 0) (v := (f2 i)) dX3_countGoings_33 rfl gc2 (vp_in_nI (by omega) (by omega)) (congrArg f2 (nI_clamp (by omega))) ?_
        refine r_icmp_eq (pc := 34) (tgt := 40) dX3_countGoings_34 (by decide) (fun c34 => ?_) (fun c34 => ?_)
        · refine r_iinc (pc := 40) (v := (nI (i + 1))) (lv' := [(2, .int ((nI (i + 1)))), (0, .ref a), (1, .int ((nI (m + gc q f1 f2 i))))]) dX3_countGoings_40 rfl (nI_1 i) (by decide) rfl ?_
          refine r_goto (pc := 43) (tgt := 7) dX3_countGoings_43 (by decide) ?_
          refine Rn.pick (lv' := [(0, .ref a), (1, .int ((nI (m + gc q f1 f2 i)))), (2, .int ((nI (i + 1))))]) [1, 2, 0] rfl ?_
          have h9 := ih (i + 1) (by omega) (by omega)
          rw [gc_f (fun h => h.2 c34)] at h9
          exact h9
        · refine r_iinc (pc := 37) (v := (nI (m + gc q f1 f2 i + 1))) (lv' := [(1, .int ((nI (m + gc q f1 f2 i + 1)))), (0, .ref a), (2, .int ((nI i)))]) dX3_countGoings_37 rfl (nI_1 _) (by decide) rfl ?_
          refine r_iinc (pc := 40) (v := (nI (i + 1))) (lv' := [(2, .int ((nI (i + 1)))), (1, .int ((nI (m + gc q f1 f2 i + 1)))), (0, .ref a)]) dX3_countGoings_40 rfl (nI_1 i) (by decide) rfl ?_
          refine r_goto (pc := 43) (tgt := 7) dX3_countGoings_43 (by decide) ?_
          refine Rn.pick (lv' := [(0, .ref a), (1, .int ((nI (m + gc q f1 f2 i + 1)))), (2, .int ((nI (i + 1))))]) [2, 1, 0] rfl ?_
          have h9 := ih (i + 1) (by omega) (by omega)
          rw [gc_t (bI_f' c19) c34] at h9
          exact h9
  refine Rn.pick (lv' := [(0, .ref a), (1, .int ((nI m))), (2, .int 0)]) [2, 1, 0] rfl ?_
  exact lp 0 (Nat.zero_le _)
theorem gc_mono (q : Bool) (f t : Nat → Int32) {i m : Nat} (h : i ≤ m) : gc q f t i ≤ gc q f t m := by
  induction m with
  | zero => rw [show i = 0 by omega]; exact Nat.le_refl _
  | succ m ih =>
    rcases Nat.lt_or_ge m i with h1 | h1
    · rw [show i = m + 1 by omega]; exact Nat.le_refl _
    · exact Nat.le_trans (ih h1) (by simp only [gc]; omega)
/-- the goings' tails, heads and arcs, when i arcs have been gone through -/
def goF (q : Bool) (f t v w : Nat → Int32) : Nat → (Nat → Int32)
  | 0 => fun _ => 0
  | i + 1 => if q = false ∧ f i ≠ t i then upd (upd (goF q f t v w i) (i + gc q f t i) (v i)) (i + gc q f t i + 1) (w i) else upd (goF q f t v w i) (i + gc q f t i) (v i)
theorem goF_t {q : Bool} {f t v w : Nat → Int32} {i : Nat} (h1 : q = false) (h2 : f i ≠ t i) : goF q f t v w (i + 1) = upd (upd (goF q f t v w i) (i + gc q f t i) (v i)) (i + gc q f t i + 1) (w i) := by simp only [goF]; rw [if_pos ⟨h1, h2⟩]
theorem goF_f {q : Bool} {f t v w : Nat → Int32} {i : Nat} (h : ¬ (q = false ∧ f i ≠ t i)) : goF q f t v w (i + 1) = upd (goF q f t v w i) (i + gc q f t i) (v i) := by simp only [goF]; rw [if_neg h]
set_option maxHeartbeats 4000000 in
set_option maxRecDepth 100000 in
theorem c_X3_fillGoings {D : va_G} {cI cJ cZ cT : ClassId} {lo b L : Nat} {xs : Nat → Int32} {hp : MH} {n d : Nat} {a r3 r4 r5 r6 r8 r9 r10 r11 r12 r13 m : Nat} {x0 : Int32} {q : Bool} {f1 f2 : Nat → Int32} (hd0 : 0 ≤ d) (gc0 : hp a = some (.inr (3, [.int x0, .int ((bI q)), .int ((nI m)), .ref r3, .ref r4, .ref r5, .ref r6, .int ((nI (m + gc q f1 f2 m))), .ref r8, .ref r9, .ref r10, .ref r11, .ref r12, .ref r13]))) (gc1 : hp r3 = some (.inl (cI, m, .inl (f1)))) (gc2 : hp r4 = some (.inl (cI, m, .inl (f2)))) (gc3 : hp r8 = some (.inl (cI, (m + gc q f1 f2 m), .inl (fun _ => 0)))) (gc4 : hp r9 = some (.inl (cI, (m + gc q f1 f2 m), .inl (fun _ => 0)))) (gc5 : hp r10 = some (.inl (cI, (m + gc q f1 f2 m), .inl (fun _ => 0)))) (hm : m ≤ 60) (m01 : r3 ≠ r4) (m02 : r3 ≠ r8) (m03 : r3 ≠ r9) (m04 : r3 ≠ r10) (m12 : r4 ≠ r8) (m13 : r4 ≠ r9) (m14 : r4 ≠ r10) (m23 : r8 ≠ r9) (m24 : r8 ≠ r10) (m34 : r9 ≠ r10) : Mt (gG D cI cJ cZ cT lo b L xs) mX3_fillGoings d 0 0 [.ref a] hp n (fun r hp1 n1 => r = none ∧ n1 = n ∧ hp1 r8 = some (.inl (cI, (m + gc q f1 f2 m), .inl (goF q f1 f2 f1 f2 m))) ∧ hp1 r9 = some (.inl (cI, (m + gc q f1 f2 m), .inl (goF q f1 f2 f2 f1 m))) ∧ hp1 r10 = some (.inl (cI, (m + gc q f1 f2 m), .inl (goF q f1 f2 nI nI m))) ∧ ∀ (q : Nat) (e9 : va_E), hp q = some e9 → q ≠ r8 → q ≠ r9 → q ≠ r10 → hp1 q = some e9) := by
  refine Mt.of rfl (Nat.le_of_ble_eq_true rfl) ?_
  refine Rn.pick (lv' := [(0, .ref a)]) [0] rfl ?_
  refine r_iconst (pc := 0) (v := 0) dX3_fillGoings_0 (by decide) ?_
  refine r_istore_n (pc := 1) (lv' := [(1, .int 0), (0, .ref a)]) dX3_fillGoings_1 (i := 1) rfl (by decide) rfl ?_
  refine r_iconst (pc := 2) (v := 0) dX3_fillGoings_2 (by decide) ?_
  refine r_istore_n (pc := 3) (lv' := [(2, .int 0), (1, .int 0), (0, .ref a)]) dX3_fillGoings_3 (i := 2) rfl (by decide) rfl ?_
  have lp : ∀ i : Nat, i ≤ m → ∀ hp2 : MH, hp2 a = some (.inr (3, [.int x0, .int ((bI q)), .int ((nI m)), .ref r3, .ref r4, .ref r5, .ref r6, .int ((nI (m + gc q f1 f2 m))), .ref r8, .ref r9, .ref r10, .ref r11, .ref r12, .ref r13])) → hp2 r3 = some (.inl (cI, m, .inl (f1))) → hp2 r4 = some (.inl (cI, m, .inl (f2))) → hp2 r8 = some (.inl (cI, (m + gc q f1 f2 m), .inl (goF q f1 f2 f1 f2 i))) → hp2 r9 = some (.inl (cI, (m + gc q f1 f2 m), .inl (goF q f1 f2 f2 f1 i))) → hp2 r10 = some (.inl (cI, (m + gc q f1 f2 m), .inl (goF q f1 f2 nI nI i))) → (∀ (q : Nat) (e9 : va_E), hp q = some e9 → q ≠ r8 → q ≠ r9 → q ≠ r10 → hp2 q = some e9) → Rn (gG D cI cJ cZ cT lo b L xs) mX3_fillGoings d 4 [(0, .ref a), (1, .int ((nI (i + gc q f1 f2 i)))), (2, .int ((nI i)))] [] hp2 n 0 0 (fun r hp1 n1 => r = none ∧ n1 = n ∧ hp1 r8 = some (.inl (cI, (m + gc q f1 f2 m), .inl (goF q f1 f2 f1 f2 m))) ∧ hp1 r9 = some (.inl (cI, (m + gc q f1 f2 m), .inl (goF q f1 f2 f2 f1 m))) ∧ hp1 r10 = some (.inl (cI, (m + gc q f1 f2 m), .inl (goF q f1 f2 nI nI m))) ∧ ∀ (q : Nat) (e9 : va_E), hp q = some e9 → q ≠ r8 → q ≠ r9 → q ≠ r10 → hp1 q = some e9) := by
    refine lpN _ m ?_
    intro i hi ih hp2 w0 w1 w2 w3 w4 w5 w6
    have hgc := gc_le q f1 f2 m
    have hmo := gc_mono q f1 f2 hi
    refine r_iload_n (pc := 4) dX3_fillGoings_4 (i := 2) rfl rfl ?_
    refine r_aload_n (pc := 5) dX3_fillGoings_5 (i := 0) rfl rfl ?_
    refine r_get (pc := 6) (v := .int ((nI m))) fX3_25 dX3_fillGoings_6 w0 rfl ?_
    refine r_icmp_ge (pc := 9) (tgt := 108) dX3_fillGoings_9 (by decide) (fun c9 => ?_) (fun c9 => ?_)
    · have e9 : i = m := by have := (nI_leI (a := m) (b := i) (by omega) (by omega)).mp c9; omega
      subst e9
      exact r_vret (pc := 108) dX3_fillGoings_108 rfl (⟨rfl, rfl, w3, w4, w5, w6⟩)
    · have hlt : i < m := by have := mt (nI_leI (a := m) (b := i) (by omega) (by omega)).mpr c9; omega
      refine r_aload_n (pc := 12) dX3_fillGoings_12 (i := 0) rfl rfl ?_
      refine r_get (pc := 13) (v := .ref r8) fX3_66 dX3_fillGoings_13 w0 rfl ?_
      refine r_iload_n (pc := 16) dX3_fillGoings_16 (i := 1) rfl rfl ?_
      refine r_aload_n (pc := 17) dX3_fillGoings_17 (i := 0) rfl rfl ?_
      refine r_get (pc := 18) (v := .ref r3) fX3_36 dX3_fillGoings_18 w0 rfl ?_
      refine r_iload_n (pc := 21) dX3_fillGoings_21 (i := 2) rfl rfl ?_
      refine w_iald (pc := 22) (t0 := 0) (v := (f1 i)) dX3_fillGoings_22 rfl w1 (vp_in_nI (by omega) (by omega)) (congrArg f1 (nI_clamp (by omega))) ?_
      refine w_iast (pc := 23) (t0 := 0) (f' := upd (goF q f1 f2 f1 f2 i) (i + gc q f1 f2 i) (f1 i)) dX3_fillGoings_23 rfl w3 (vp_in_nI (by omega) (by omega)) (by rw [nI_clamp (by omega)]) (fun hp_101 h_102 ho_103 => ?_)
      refine r_aload_n (pc := 24) dX3_fillGoings_24 (i := 0) rfl rfl ?_
      have h_104 : hp_101 a = some (.inr (3, [.int x0, .int ((bI q)), .int ((nI m)), .ref r3, .ref r4, .ref r5, .ref r6, .int ((nI (m + gc q f1 f2 m))), .ref r8, .ref r9, .ref r10, .ref r11, .ref r12, .ref r13])) := ((ho_103 a (ne_c w0 w3 (by intro h9; cases h9))).trans w0)
      refine r_get (pc := 25) (v := .ref r9) fX3_69 dX3_fillGoings_25 h_104 rfl ?_
      refine r_iload_n (pc := 28) dX3_fillGoings_28 (i := 1) rfl rfl ?_
      refine r_aload_n (pc := 29) dX3_fillGoings_29 (i := 0) rfl rfl ?_
      refine r_get (pc := 30) (v := .ref r4) fX3_40 dX3_fillGoings_30 h_104 rfl ?_
      refine r_iload_n (pc := 33) dX3_fillGoings_33 (i := 2) rfl rfl ?_
      have h_105 : hp_101 r4 = some (.inl (cI, m, .inl (f2))) := ((ho_103 r4 m12).trans w2)
      refine w_iald (pc := 34) (t0 := 0) (v := (f2 i)) dX3_fillGoings_34 rfl h_105 (vp_in_nI (by omega) (by omega)) (congrArg f2 (nI_clamp (by omega))) ?_
      have h_106 : hp_101 r9 = some (.inl (cI, (m + gc q f1 f2 m), .inl (goF q f1 f2 f2 f1 i))) := ((ho_103 r9 (Ne.symm m23)).trans w4)
      refine w_iast (pc := 35) (t0 := 0) (f' := upd (goF q f1 f2 f2 f1 i) (i + gc q f1 f2 i) (f2 i)) dX3_fillGoings_35 rfl h_106 (vp_in_nI (by omega) (by omega)) (by rw [nI_clamp (by omega)]) (fun hp_107 h_108 ho_109 => ?_)
      refine r_aload_n (pc := 36) dX3_fillGoings_36 (i := 0) rfl rfl ?_
      have h_110 : hp_107 a = some (.inr (3, [.int x0, .int ((bI q)), .int ((nI m)), .ref r3, .ref r4, .ref r5, .ref r6, .int ((nI (m + gc q f1 f2 m))), .ref r8, .ref r9, .ref r10, .ref r11, .ref r12, .ref r13])) := ((ho_109 a (ne_c w0 w4 (by intro h9; cases h9))).trans h_104)
      refine r_get (pc := 37) (v := .ref r10) fX3_72 dX3_fillGoings_37 h_110 rfl ?_
      refine r_iload_n (pc := 40) dX3_fillGoings_40 (i := 1) rfl rfl ?_
      refine r_iload_n (pc := 41) dX3_fillGoings_41 (i := 2) rfl rfl ?_
      have h_111 : hp_107 r10 = some (.inl (cI, (m + gc q f1 f2 m), .inl (goF q f1 f2 nI nI i))) := ((ho_109 r10 (Ne.symm m34)).trans ((ho_103 r10 (Ne.symm m24)).trans w5))
      refine w_iast (pc := 42) (t0 := 0) (f' := upd (goF q f1 f2 nI nI i) (i + gc q f1 f2 i) (nI i)) dX3_fillGoings_42 rfl h_111 (vp_in_nI (by omega) (by omega)) (by rw [nI_clamp (by omega)]) (fun hp_112 h_113 ho_114 => ?_)
      refine r_iinc (pc := 43) (v := (nI (i + gc q f1 f2 i + 1))) (lv' := [(1, .int ((nI (i + gc q f1 f2 i + 1)))), (0, .ref a), (2, .int ((nI i)))]) dX3_fillGoings_43 rfl (nI_1 _) (by decide) rfl ?_
      refine r_aload_n (pc := 46) dX3_fillGoings_46 (i := 0) rfl rfl ?_
      have h_115 : hp_112 a = some (.inr (3, [.int x0, .int ((bI q)), .int ((nI m)), .ref r3, .ref r4, .ref r5, .ref r6, .int ((nI (m + gc q f1 f2 m))), .ref r8, .ref r9, .ref r10, .ref r11, .ref r12, .ref r13])) := ((ho_114 a (ne_c w0 w5 (by intro h9; cases h9))).trans h_110)
      refine r_get (pc := 47) (v := .int ((bI q))) fX3_19 dX3_fillGoings_47 h_115 rfl ?_
      refine r_if_ne (pc := 50) (tgt := 102) dX3_fillGoings_50 (by decide) (fun c50 => ?_) (fun c50 => ?_)
      · refine r_iinc (pc := 102) (v := (nI (i + 1))) (lv' := [(2, .int ((nI (i + 1)))), (1, .int ((nI (i + gc q f1 f2 i + 1)))), (0, .ref a)]) dX3_fillGoings_102 rfl (nI_1 i) (by decide) rfl ?_
        refine r_goto (pc := 105) (tgt := 4) dX3_fillGoings_105 (by decide) ?_
        refine Rn.pick (lv' := [(0, .ref a), (1, .int ((nI (i + gc q f1 f2 i + 1)))), (2, .int ((nI (i + 1))))]) [2, 1, 0] rfl ?_
        have h_116 : hp_112 r3 = some (.inl (cI, m, .inl (f1))) := ((ho_114 r3 m04).trans ((ho_109 r3 m03).trans ((ho_103 r3 m02).trans w1)))
        have h_117 : hp_112 r4 = some (.inl (cI, m, .inl (f2))) := ((ho_114 r4 m14).trans ((ho_109 r4 m13).trans h_105))
        have h_118 : hp_112 r8 = some (.inl (cI, (m + gc q f1 f2 m), .inl (upd (goF q f1 f2 f1 f2 i) (i + gc q f1 f2 i) (f1 i)))) := ((ho_114 r8 m24).trans ((ho_109 r8 m23).trans h_102))
        have h_119 : hp_112 r9 = some (.inl (cI, (m + gc q f1 f2 m), .inl (upd (goF q f1 f2 f2 f1 i) (i + gc q f1 f2 i) (f2 i)))) := ((ho_114 r9 m34).trans h_108)
        have h9 := ih (i + 1) (by omega) (by omega)
        rw [goF_f (fun h => by rw [bI_f h.1] at c50; exact c50 rfl), goF_f (fun h => by rw [bI_f h.1] at c50; exact c50 rfl), goF_f (fun h => by rw [bI_f h.1] at c50; exact c50 rfl), gc_f (fun h => by rw [bI_f h.1] at c50; exact c50 rfl)] at h9
        rw [show i + 1 + gc q f1 f2 i = i + gc q f1 f2 i + 1 by omega] at h9
        exact h9 _ h_115 h_116 h_117 h_118 h_119 h_113 (fun z e9 h9 n8 n9 n10 => ((ho_114 z n10).trans ((ho_109 z n9).trans ((ho_103 z n8).trans (w6 z e9 h9 n8 n9 n10)))))
      · refine r_aload_n (pc := 53) dX3_fillGoings_53 (i := 0) rfl rfl ?_
        refine r_get (pc := 54) (v := .ref r3) fX3_36 dX3_fillGoings_54 h_115 rfl ?_
        refine r_iload_n (pc := 57) dX3_fillGoings_57 (i := 2) rfl rfl ?_
        have h_120 : hp_112 r3 = some (.inl (cI, m, .inl (f1))) := ((ho_114 r3 m04).trans ((ho_109 r3 m03).trans ((ho_103 r3 m02).trans w1)))
        refine w_iald (pc := 58) (t0 := 0) (v := (f1 i)) dX3_fillGoings_58 rfl h_120 (vp_in_nI (by omega) (by omega)) (congrArg f1 (nI_clamp (by omega))) ?_
        refine r_aload_n (pc := 59) dX3_fillGoings_59 (i := 0) rfl rfl ?_
        refine r_get (pc := 60) (v := .ref r4) fX3_40 dX3_fillGoings_60 h_115 rfl ?_
        refine r_iload_n (pc := 63) dX3_fillGoings_63 (i := 2) rfl rfl ?_
        have h_121 : hp_112 r4 = some (.inl (cI, m, .inl (f2))) := ((ho_114 r4 m14).trans ((ho_109 r4 m13).trans h_105))
        refine w_iald (pc := 64) (t0 := 0) (v := (f2 i)) dX3_fillGoings_64 rfl h_121 (vp_in_nI (by omega) (by omega)) (congrArg f2 (nI_clamp (by omega))) ?_
        refine r_icmp_eq (pc := 65) (tgt := 102) dX3_fillGoings_65 (by decide) (fun c65 => ?_) (fun c65 => ?_)
        · refine r_iinc (pc := 102) (v := (nI (i + 1))) (lv' := [(2, .int ((nI (i + 1)))), (1, .int ((nI (i + gc q f1 f2 i + 1)))), (0, .ref a)]) dX3_fillGoings_102 rfl (nI_1 i) (by decide) rfl ?_
          refine r_goto (pc := 105) (tgt := 4) dX3_fillGoings_105 (by decide) ?_
          refine Rn.pick (lv' := [(0, .ref a), (1, .int ((nI (i + gc q f1 f2 i + 1)))), (2, .int ((nI (i + 1))))]) [2, 1, 0] rfl ?_
          have h_122 : hp_112 r8 = some (.inl (cI, (m + gc q f1 f2 m), .inl (upd (goF q f1 f2 f1 f2 i) (i + gc q f1 f2 i) (f1 i)))) := ((ho_114 r8 m24).trans ((ho_109 r8 m23).trans h_102))
          have h_123 : hp_112 r9 = some (.inl (cI, (m + gc q f1 f2 m), .inl (upd (goF q f1 f2 f2 f1 i) (i + gc q f1 f2 i) (f2 i)))) := ((ho_114 r9 m34).trans h_108)
          have h9 := ih (i + 1) (by omega) (by omega)
          rw [goF_f (fun h => h.2 c65), goF_f (fun h => h.2 c65), goF_f (fun h => h.2 c65), gc_f (fun h => h.2 c65)] at h9
          rw [show i + 1 + gc q f1 f2 i = i + gc q f1 f2 i + 1 by omega] at h9
          exact h9 _ h_115 h_120 h_121 h_122 h_123 h_113 (fun z e9 h9 n8 n9 n10 => ((ho_114 z n10).trans ((ho_109 z n9).trans ((ho_103 z n8).trans (w6 z e9 h9 n8 n9 n10)))))
        · have hg1 := gc_t (q := q) (f := f1) (t := f2) (i := i) (bI_f' c50) c65
          have hm1 := gc_mono q f1 f2 (show i + 1 ≤ m by omega)
          refine r_aload_n (pc := 68) dX3_fillGoings_68 (i := 0) rfl rfl ?_
          refine r_get (pc := 69) (v := .ref r8) fX3_66 dX3_fillGoings_69 h_115 rfl ?_
          refine r_iload_n (pc := 72) dX3_fillGoings_72 (i := 1) rfl rfl ?_
          refine r_aload_n (pc := 73) dX3_fillGoings_73 (i := 0) rfl rfl ?_
          refine r_get (pc := 74) (v := .ref r4) fX3_40 dX3_fillGoings_74 h_115 rfl ?_
          refine r_iload_n (pc := 77) dX3_fillGoings_77 (i := 2) rfl rfl ?_
          refine w_iald (pc := 78) (t0 := 0) (v := (f2 i)) dX3_fillGoings_78 rfl h_121 (vp_in_nI (by omega) (by omega)) (congrArg f2 (nI_clamp (by omega))) ?_
          have h_124 : hp_112 r8 = some (.inl (cI, (m + gc q f1 f2 m), .inl (upd (goF q f1 f2 f1 f2 i) (i + gc q f1 f2 i) (f1 i)))) := ((ho_114 r8 m24).trans ((ho_109 r8 m23).trans h_102))
          refine w_iast (pc := 79) (t0 := 0) (f' := upd (upd (goF q f1 f2 f1 f2 i) (i + gc q f1 f2 i) (f1 i)) (i + gc q f1 f2 i + 1) (f2 i)) dX3_fillGoings_79 rfl h_124 (vp_in_nI (by omega) (by omega)) (by rw [nI_clamp (by omega)]) (fun hp_125 h_126 ho_127 => ?_)
          refine r_aload_n (pc := 80) dX3_fillGoings_80 (i := 0) rfl rfl ?_
          have h_128 : hp_125 a = some (.inr (3, [.int x0, .int ((bI q)), .int ((nI m)), .ref r3, .ref r4, .ref r5, .ref r6, .int ((nI (m + gc q f1 f2 m))), .ref r8, .ref r9, .ref r10, .ref r11, .ref r12, .ref r13])) := ((ho_127 a (ne_c w0 w3 (by intro h9; cases h9))).trans h_115)
          refine r_get (pc := 81) (v := .ref r9) fX3_69 dX3_fillGoings_81 h_128 rfl ?_
          refine r_iload_n (pc := 84) dX3_fillGoings_84 (i := 1) rfl rfl ?_
          refine r_aload_n (pc := 85) dX3_fillGoings_85 (i := 0) rfl rfl ?_
          refine r_get (pc := 86) (v := .ref r3) fX3_36 dX3_fillGoings_86 h_128 rfl ?_
          refine r_iload_n (pc := 89) dX3_fillGoings_89 (i := 2) rfl rfl ?_
          have h_129 : hp_125 r3 = some (.inl (cI, m, .inl (f1))) := ((ho_127 r3 m02).trans h_120)
          refine w_iald (pc := 90) (t0 := 0) (v := (f1 i)) dX3_fillGoings_90 rfl h_129 (vp_in_nI (by omega) (by omega)) (congrArg f1 (nI_clamp (by omega))) ?_
          have h_130 : hp_125 r9 = some (.inl (cI, (m + gc q f1 f2 m), .inl (upd (goF q f1 f2 f2 f1 i) (i + gc q f1 f2 i) (f2 i)))) := ((ho_127 r9 (Ne.symm m23)).trans ((ho_114 r9 m34).trans h_108))
          refine w_iast (pc := 91) (t0 := 0) (f' := upd (upd (goF q f1 f2 f2 f1 i) (i + gc q f1 f2 i) (f2 i)) (i + gc q f1 f2 i + 1) (f1 i)) dX3_fillGoings_91 rfl h_130 (vp_in_nI (by omega) (by omega)) (by rw [nI_clamp (by omega)]) (fun hp_131 h_132 ho_133 => ?_)
          refine r_aload_n (pc := 92) dX3_fillGoings_92 (i := 0) rfl rfl ?_
          have h_134 : hp_131 a = some (.inr (3, [.int x0, .int ((bI q)), .int ((nI m)), .ref r3, .ref r4, .ref r5, .ref r6, .int ((nI (m + gc q f1 f2 m))), .ref r8, .ref r9, .ref r10, .ref r11, .ref r12, .ref r13])) := ((ho_133 a (ne_c w0 w4 (by intro h9; cases h9))).trans h_128)
          refine r_get (pc := 93) (v := .ref r10) fX3_72 dX3_fillGoings_93 h_134 rfl ?_
          refine r_iload_n (pc := 96) dX3_fillGoings_96 (i := 1) rfl rfl ?_
          refine r_iload_n (pc := 97) dX3_fillGoings_97 (i := 2) rfl rfl ?_
          have h_135 : hp_131 r10 = some (.inl (cI, (m + gc q f1 f2 m), .inl (upd (goF q f1 f2 nI nI i) (i + gc q f1 f2 i) (nI i)))) := ((ho_133 r10 (Ne.symm m34)).trans ((ho_127 r10 (Ne.symm m24)).trans h_113))
          refine w_iast (pc := 98) (t0 := 0) (f' := upd (upd (goF q f1 f2 nI nI i) (i + gc q f1 f2 i) (nI i)) (i + gc q f1 f2 i + 1) (nI i)) dX3_fillGoings_98 rfl h_135 (vp_in_nI (by omega) (by omega)) (by rw [nI_clamp (by omega)]) (fun hp_136 h_137 ho_138 => ?_)
          refine r_iinc (pc := 99) (v := (nI (i + gc q f1 f2 i + 1 + 1))) (lv' := [(1, .int ((nI (i + gc q f1 f2 i + 1 + 1)))), (0, .ref a), (2, .int ((nI i)))]) dX3_fillGoings_99 rfl (nI_1 _) (by decide) rfl ?_
          refine r_iinc (pc := 102) (v := (nI (i + 1))) (lv' := [(2, .int ((nI (i + 1)))), (1, .int ((nI (i + gc q f1 f2 i + 1 + 1)))), (0, .ref a)]) dX3_fillGoings_102 rfl (nI_1 i) (by decide) rfl ?_
          refine r_goto (pc := 105) (tgt := 4) dX3_fillGoings_105 (by decide) ?_
          refine Rn.pick (lv' := [(0, .ref a), (1, .int ((nI (i + gc q f1 f2 i + 1 + 1)))), (2, .int ((nI (i + 1))))]) [2, 1, 0] rfl ?_
          have h_139 : hp_136 a = some (.inr (3, [.int x0, .int ((bI q)), .int ((nI m)), .ref r3, .ref r4, .ref r5, .ref r6, .int ((nI (m + gc q f1 f2 m))), .ref r8, .ref r9, .ref r10, .ref r11, .ref r12, .ref r13])) := ((ho_138 a (ne_c w0 w5 (by intro h9; cases h9))).trans h_134)
          have h_140 : hp_136 r3 = some (.inl (cI, m, .inl (f1))) := ((ho_138 r3 m04).trans ((ho_133 r3 m03).trans h_129))
          have h_141 : hp_136 r4 = some (.inl (cI, m, .inl (f2))) := ((ho_138 r4 m14).trans ((ho_133 r4 m13).trans ((ho_127 r4 m12).trans h_121)))
          have h_142 : hp_136 r8 = some (.inl (cI, (m + gc q f1 f2 m), .inl (upd (upd (goF q f1 f2 f1 f2 i) (i + gc q f1 f2 i) (f1 i)) (i + gc q f1 f2 i + 1) (f2 i)))) := ((ho_138 r8 m24).trans ((ho_133 r8 m23).trans h_126))
          have h_143 : hp_136 r9 = some (.inl (cI, (m + gc q f1 f2 m), .inl (upd (upd (goF q f1 f2 f2 f1 i) (i + gc q f1 f2 i) (f2 i)) (i + gc q f1 f2 i + 1) (f1 i)))) := ((ho_138 r9 m34).trans h_132)
          have h9 := ih (i + 1) (by omega) (by omega)
          rw [goF_t (bI_f' c50) c65, goF_t (bI_f' c50) c65, goF_t (bI_f' c50) c65, gc_t (bI_f' c50) c65] at h9
          rw [show i + 1 + (gc q f1 f2 i + 1) = i + gc q f1 f2 i + 1 + 1 by omega] at h9
          exact h9 _ h_139 h_140 h_141 h_142 h_143 h_137 (fun z e9 h9 n8 n9 n10 => ((ho_138 z n10).trans ((ho_133 z n9).trans ((ho_127 z n8).trans ((ho_114 z n10).trans ((ho_109 z n9).trans ((ho_103 z n8).trans (w6 z e9 h9 n8 n9 n10))))))))
  refine Rn.pick (lv' := [(0, .ref a), (1, .int 0), (2, .int 0)]) [2, 1, 0] rfl ?_
  exact lp 0 (Nat.zero_le _) hp gc0 gc1 gc2 gc3 gc4 gc5 (fun z e9 h9 _ _ _ => h9)
