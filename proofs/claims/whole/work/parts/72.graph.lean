/-- how many of the first arcs can be gone both ways -/
def gc (q : Bool) (f t : Nat → Int32) : Nat → Nat
  | 0 => 0
  | i + 1 => gc q f t i + (if q = false ∧ f i ≠ t i then 1 else 0)
theorem gc_le (q : Bool) (f t : Nat → Int32) (i : Nat) : gc q f t i ≤ i := by
  induction i with
  | zero => exact Nat.le_refl _
  | succ i ih => simp only [gc]; split <;> omega
theorem gc_t {q : Bool} {f t : Nat → Int32} {i : Nat} (h1 : q = false) (h2 : f i ≠ t i) : gc q f t (i + 1) = gc q f t i + 1 := by simp [gc, h1, h2]
theorem gc_f {q : Bool} {f t : Nat → Int32} {i : Nat} (h : ¬ (q = false ∧ f i ≠ t i)) : gc q f t (i + 1) = gc q f t i := by simp only [gc, if_neg h]; rfl
theorem bI_f' {q : Bool} (h : ¬ (bI q ≠ 0)) : q = false := bI_0 (Decidable.not_not.mp h)
set_option maxHeartbeats 4000000 in
set_option maxRecDepth 100000 in
theorem c_copyOf {D : va_G} {cI cJ cZ cT : ClassId} {lo b L : Nat} {xs : Nat → Int32} {hp : MH} {n d : Nat} {a N m : Nat} {f : Nat → Int32} (hd0 : 1 ≤ d) (gc0 : hp a = some (.inl (cI, N, .inl (f)))) (hN : N ≤ 1000) (hm : m ≤ N) : Mt (gG D cI cJ cZ cT lo b L xs) mJ7_copyOf_59c91 d 1 m [.ref a, .int ((nI m))] hp n (fun r hp1 n1 => r = some (.ref n) ∧ n1 = n + 1 ∧ hp1 n = some (.inl (cI, m, .inl (f))) ∧ ∀ (q : Nat) (e9 : va_E), hp q = some e9 → hp1 q = some e9) := by
  refine Mt.of rfl (Nat.le_of_ble_eq_true rfl) ?_
  refine Rn.pick (lv' := [(0, .ref a), (1, .int ((nI m)))]) [0, 1] rfl ?_
  refine Rn.bd (fun bd => ?_)
  have l_a := bd _ _ gc0
  refine r_iload_n (pc := 0) dJ7_copyOf_59c91_0 (i := 1) rfl rfl ?_
  refine r_aload_n (pc := 1) dJ7_copyOf_59c91_1 (i := 0) rfl rfl ?_
  refine r_alen (pc := 2) (t0 := 0) dJ7_copyOf_59c91_2 rfl gc0 ?_
  refine r_icmp_ne (pc := 3) (tgt := 14) dJ7_copyOf_59c91_3 (by decide) (fun c3 => ?_) (fun c3 => ?_)
  · have hlt : m < N := by
      rcases Nat.lt_or_ge m N with h | h
      · exact h
      · exact absurd (by rw [show m = N by omega]) c3
    refine r_iload_n (pc := 14) dJ7_copyOf_59c91_14 (i := 1) rfl rfl ?_
    refine w_newi (pc := 15) (t0 := 0) (N := m) dJ7_copyOf_59c91_15 (tb_t (k := 68) (w := Cond.arrayClass .int) (by decide +kernel)) rfl (rfl) (by omega) (by omega) (by omega) (fun hp_1 h_2 hk_3 ho_4 => ?_)
    refine r_astore_n (pc := 17) (lv' := [(2, .ref n), (0, .ref a), (1, .int ((nI m)))]) dJ7_copyOf_59c91_17 (i := 2) rfl (by decide) rfl ?_
    refine r_aload_n (pc := 18) dJ7_copyOf_59c91_18 (i := 0) rfl rfl ?_
    refine r_iconst (pc := 19) (v := 0) dJ7_copyOf_59c91_19 (by decide) ?_
    refine r_aload_n (pc := 20) dJ7_copyOf_59c91_20 (i := 2) rfl rfl ?_
    refine r_iconst (pc := 21) (v := 0) dJ7_copyOf_59c91_21 (by decide) ?_
    refine r_aload_n (pc := 22) dJ7_copyOf_59c91_22 (i := 0) rfl rfl ?_
    have h_5 : hp_1 a = some (.inl (cI, N, .inl (f))) := (hk_3 a _ gc0)
    refine r_alen (pc := 23) (t0 := 0) dJ7_copyOf_59c91_23 rfl h_5 ?_
    refine r_iload_n (pc := 24) dJ7_copyOf_59c91_24 (i := 1) rfl rfl ?_
    refine r_mmin (pc := 25) (v := (nI m)) qJ7_304 dJ7_copyOf_59c91_25 (Nat.le_of_ble_eq_true rfl) (if_pos (nI_lt (by omega) (by omega))) ?_
    refine w_copyi (pc := 28) (t0 := 0) (t1 := 0) (s0 := 0) (d0 := 0) (N := m) (g' := va_cpy (f) (fun _ => 0) 0 0 m) aJ7_150 dJ7_copyOf_59c91_28 rfl rfl h_5 h_2 rfl rfl rfl (by omega) (by omega) (by omega) (by omega) (Nat.le_of_ble_eq_true rfl) (rfl) (fun hp_6 h_7 ho_8 => ?_)
    refine w_alti (pc := 31) (f) h_7 (fun j hj => by simp [va_cpy, hj]) (fun hp_9 h_10 ho_11 => ?_)
    refine r_aload_n (pc := 31) dJ7_copyOf_59c91_31 (i := 2) rfl rfl ?_
    exact r_aret (pc := 32) dJ7_copyOf_59c91_32 rfl (Or.inr ⟨_, rfl⟩) (⟨rfl, rfl, h_10, fun q e9 h9 => have l9 := bd q e9 h9; ((ho_11 q (ne_an l9 0)).trans ((ho_8 q (ne_an l9 0)).trans (hk_3 q e9 h9)))⟩)
  · have e9 : m = N := (nI_eq (by omega) (by omega)).mp (Decidable.not_not.mp c3)
    subst e9
    refine r_aload_n (pc := 6) dJ7_copyOf_59c91_6 (i := 0) rfl rfl ?_
    refine w_clone (pc := 7) (t0 := 0) aJ7_316 dJ7_copyOf_59c91_7 rfl gc0 (Nat.le_of_ble_eq_true rfl) (by omega) (by omega) (fun hp_12 h_13 hk_14 ho_15 => ?_)
    refine r_castA (pc := 10) (t0 := 0) dJ7_copyOf_59c91_10 (tb_t (k := 272) (by decide +kernel)) rfl h_13 ?_
    exact r_aret (pc := 13) dJ7_copyOf_59c91_13 rfl (Or.inr ⟨_, rfl⟩) (⟨rfl, rfl, h_13, fun q e9 h9 => (hk_14 q e9 h9)⟩)
set_option maxHeartbeats 4000000 in
set_option maxRecDepth 100000 in
theorem c_X3_countGoings {D : va_G} {cI cJ cZ cT : ClassId} {lo b L : Nat} {xs : Nat → Int32} {hp : MH} {n d : Nat} {a af au aw ac al m : Nat} {x0 : Int32} {q : Bool} {f1 f2 : Nat → Int32} (hd0 : 0 ≤ d) (gc0 : hp a = some (.inr (1, [.int x0, .int ((bI q)), .int ((nI m)), .ref af, .ref au, .ref aw, .ref ac, .ref al]))) (gc1 : hp af = some (.inl (cI, 60, .inl (f1)))) (gc2 : hp au = some (.inl (cI, 60, .inl (f2)))) (hm : m ≤ 60) : Mt (gG D cI cJ cZ cT lo b L xs) mX3_countGoings d 0 0 [.ref a] hp n (fun r hp1 n1 => r = some (.int ((nI (m + gc q f1 f2 m)))) ∧ n1 = n ∧ ∀ (q : Nat) (e9 : va_E), hp q = some e9 → hp1 q = some e9) := by
  refine Mt.of rfl (Nat.le_of_ble_eq_true rfl) ?_
  refine Rn.pick (lv' := [(0, .ref a)]) [0] rfl ?_
  refine r_aload_n (pc := 0) dX3_countGoings_0 (i := 0) rfl rfl ?_
  refine r_get (pc := 1) (v := .int ((nI m))) fX3_22 dX3_countGoings_1 gc0 rfl ?_
  refine r_istore_n (pc := 4) (lv' := [(1, .int ((nI m))), (0, .ref a)]) dX3_countGoings_4 (i := 1) rfl (by decide) rfl ?_
  refine r_iconst (pc := 5) (v := 0) dX3_countGoings_5 (by decide) ?_
  refine r_istore_n (pc := 6) (lv' := [(2, .int 0), (1, .int ((nI m))), (0, .ref a)]) dX3_countGoings_6 (i := 2) rfl (by decide) rfl ?_
  have lp : ∀ i : Nat, i ≤ m → Rn (gG D cI cJ cZ cT lo b L xs) mX3_countGoings d 7 [(0, .ref a), (1, .int ((nI (m + gc q f1 f2 i)))), (2, .int ((nI i)))] [] hp n 0 0 (fun r hp1 n1 => r = some (.int ((nI (m + gc q f1 f2 m)))) ∧ n1 = n ∧ ∀ (q : Nat) (e9 : va_E), hp q = some e9 → hp1 q = some e9) := by
    refine lpN _ m ?_
    intro i hi ih
    have hgc := gc_le q f1 f2 i
    refine r_iload_n (pc := 7) dX3_countGoings_7 (i := 2) rfl rfl ?_
    refine r_aload_n (pc := 8) dX3_countGoings_8 (i := 0) rfl rfl ?_
    refine r_get (pc := 9) (v := .int ((nI m))) fX3_22 dX3_countGoings_9 gc0 rfl ?_
    refine r_icmp_ge (pc := 12) (tgt := 46) dX3_countGoings_12 (by decide) (fun c12 => ?_) (fun c12 => ?_)
    · have e9 : i = m := by have := (nI_leI (a := m) (b := i) (by omega) (by omega)).mp c12; omega
      subst e9
      refine r_iload_n (pc := 46) dX3_countGoings_46 (i := 1) rfl rfl ?_
      exact r_iret (pc := 47) dX3_countGoings_47 rfl (⟨rfl, rfl, fun q e9 h9 => h9⟩)
    · have hlt : i < m := by have := mt (nI_leI (a := m) (b := i) (by omega) (by omega)).mpr c12; omega
      refine r_aload_n (pc := 15) dX3_countGoings_15 (i := 0) rfl rfl ?_
      refine r_get (pc := 16) (v := .int ((bI q))) fX3_15 dX3_countGoings_16 gc0 rfl ?_
      refine r_if_ne (pc := 19) (tgt := 40) dX3_countGoings_19 (by decide) (fun c19 => ?_) (fun c19 => ?_)
      · refine r_iinc (pc := 40) (v := (nI (i + 1))) (lv' := [(2, .int ((nI (i + 1)))), (0, .ref a), (1, .int ((nI (m + gc q f1 f2 i))))]) dX3_countGoings_40 rfl (nI_1 i) (by decide) rfl ?_
        refine r_goto (pc := 43) (tgt := 7) dX3_countGoings_43 (by decide) ?_
        refine Rn.pick (lv' := [(0, .ref a), (1, .int ((nI (m + gc q f1 f2 i)))), (2, .int ((nI (i + 1))))]) [1, 2, 0] rfl ?_
        have h9 := ih (i + 1) (by omega) (by omega)
        rw [gc_f (fun h => by rw [bI_f h.1] at c19; exact c19 rfl)] at h9
        exact h9
      · refine r_aload_n (pc := 22) dX3_countGoings_22 (i := 0) rfl rfl ?_
        refine r_get (pc := 23) (v := .ref af) fX3_26 dX3_countGoings_23 gc0 rfl ?_
        refine r_iload_n (pc := 26) dX3_countGoings_26 (i := 2) rfl rfl ?_
        refine w_iald (pc := 27) (t0 := 0) (v := (f1 i)) dX3_countGoings_27 rfl gc1 (vp_in_nI (by omega) (by omega)) (congrArg f1 (nI_clamp (by omega))) ?_
        refine r_aload_n (pc := 28) dX3_countGoings_28 (i := 0) rfl rfl ?_
        refine r_get (pc := 29) (v := .ref au) fX3_37 dX3_countGoings_29 gc0 rfl ?_
        refine r_iload_n (pc := 32) dX3_countGoings_32 (i := 2) rfl rfl ?_
        refine w_iald (pc := 33) (t0 := 0) (v := (f2 i)) dX3_countGoings_33 rfl gc2 (vp_in_nI (by omega) (by omega)) (congrArg f2 (nI_clamp (by omega))) ?_
        refine r_icmp_eq (pc := 34) (tgt := 40) dX3_countGoings_34 (by decide) (fun c34 => ?_) (fun c34 => ?_)
        · refine r_iinc (pc := 40) (v := (nI (i + 1))) (lv' := [(2, .int ((nI (i + 1)))), (0, .ref a), (1, .int ((nI (m + gc q f1 f2 i))))]) dX3_countGoings_40 rfl (nI_1 i) (by decide) rfl ?_
          refine r_goto (pc := 43) (tgt := 7) dX3_countGoings_43 (by decide) ?_
          refine Rn.pick (lv' := [(0, .ref a), (1, .int ((nI (m + gc q f1 f2 i)))), (2, .int ((nI (i + 1))))]) [1, 2, 0] rfl ?_
          have h9 := ih (i + 1) (by omega) (by omega)
          rw [gc_f (fun h => h.2 c34)] at h9
          exact h9
        · refine r_iinc (pc := 37) (v := (nI (m + gc q f1 f2 i + 1))) (lv' := [(1, .int ((nI (m + gc q f1 f2 i + 1)))), (0, .ref a), (2, .int ((nI i)))]) dX3_countGoings_37 rfl (nI_1 _) (by decide) rfl ?_
          refine r_iinc (pc := 40) (v := (nI (i + 1))) (lv' := [(2, .int ((nI (i + 1)))), (1, .int ((nI (m + gc q f1 f2 i + 1)))), (0, .ref a)]) dX3_countGoings_40 rfl (nI_1 i) (by decide) rfl ?_
          refine r_goto (pc := 43) (tgt := 7) dX3_countGoings_43 (by decide) ?_
          refine Rn.pick (lv' := [(0, .ref a), (1, .int ((nI (m + gc q f1 f2 i + 1)))), (2, .int ((nI (i + 1))))]) [2, 1, 0] rfl ?_
          have h9 := ih (i + 1) (by omega) (by omega)
          rw [gc_t (bI_f' c19) c34] at h9
          exact h9
  exact lp 0 (Nat.zero_le _)
