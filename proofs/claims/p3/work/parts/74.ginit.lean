theorem goF_P (Pr : Int32 → Prop) (q : Bool) (f t v w : Nat → Int32) (m : Nat) (hv : ∀ j, j < m → Pr (v j) ∧ Pr (w j)) : ∀ i, i ≤ m → ∀ k, k < i + gc q f t i → Pr (goF q f t v w i k) := by
  intro i
  induction i with
  | zero => intro _ k hk; simp [gc] at hk
  | succ i ih =>
    intro hi k hk
    have h0 := hv i (by omega)
    by_cases hc : q = false ∧ f i ≠ t i
    · rw [goF_t hc.1 hc.2]
      rw [gc_t hc.1 hc.2] at hk
      by_cases e1 : k = i + gc q f t i + 1
      · rw [e1]; simp [upd]; exact h0.2
      · by_cases e2 : k = i + gc q f t i
        · rw [e2]; simp [upd]; exact h0.1
        · simp only [upd, if_neg e1, if_neg e2]; exact ih (by omega) k (by omega)
    · rw [goF_f hc]
      rw [gc_f hc] at hk
      by_cases e2 : k = i + gc q f t i
      · rw [e2]; simp [upd]; exact h0.1
      · simp only [upd, if_neg e2]; exact ih (by omega) k (by omega)
def ndF (f : Nat → Int32) (k : Nat) : Nat := (f k).toNatClampNeg
theorem ndF_ok {q : Bool} {f t v w : Nat → Int32} {m N : Nat} (hN : N ≤ 16) (hv : ∀ j, j < m → (∃ u, u < N ∧ v j = nI u) ∧ ∃ u, u < N ∧ w j = nI u) : ∀ k, k < m + gc q f t m → goF q f t v w m k = nI (ndF (goF q f t v w m) k) ∧ ndF (goF q f t v w m) k < N := by
  intro k hk
  obtain ⟨u, hu, e⟩ := goF_P (fun x => ∃ u, u < N ∧ x = nI u) q f t v w m hv m (Nat.le_refl _) k hk
  have : ndF (goF q f t v w m) k = u := by unfold ndF; rw [e, nI_clamp (by omega)]
  rw [this]
  exact ⟨e, hu⟩
set_option maxHeartbeats 4000000 in
set_option maxRecDepth 100000 in
theorem c_X3_init {D : va_G} {cI cJ cZ cT : ClassId} {lo b L : Nat} {xs : Nat → Int32} {hp : MH} {n d : Nat} {a dr af au aw ac al N m : Nat} {q : Bool} {f1 f2 f3 f4 : Nat → Int32} (hd0 : 2 ≤ d) (gc0 : hp a = some (.inr (3, [.int 0, .int 0, .int 0, .null, .null, .null, .null, .int 0, .null, .null, .null, .null, .null, .null]))) (gc1 : hp dr = some (.inr (1, [.int ((nI N)), .int ((bI q)), .int ((nI m)), .ref af, .ref au, .ref aw, .ref ac, .ref al]))) (gc2 : hp af = some (.inl (cI, 60, .inl (f1)))) (gc3 : hp au = some (.inl (cI, 60, .inl (f2)))) (gc4 : hp aw = some (.inl (cI, 60, .inl (f3)))) (gc5 : hp ac = some (.inl (cI, 60, .inl (f4)))) (h1 : 1 ≤ N) (hN : N ≤ 16) (hm : m ≤ 60) (hv : ∀ i, i < m → (∃ u, u < N ∧ f1 i = nI u) ∧ ∃ u, u < N ∧ f2 i = nI u) : Mt (gG D cI cJ cZ cT lo b L xs) mX3_init d 10 (m + m + m + m + N + N + N + (m + gc q f1 f2 m) + (m + gc q f1 f2 m) + (m + gc q f1 f2 m)) [.ref a, .ref dr] hp n (fun r hp1 n1 => r = none ∧ n1 = n + 10 ∧ hp1 a = some (.inr (3, [.int ((nI N)), .int ((bI q)), .int ((nI m)), .ref n, .ref ((n + 1)), .ref ((n + 2)), .ref ((n + 3)), .int ((nI (m + gc q f1 f2 m))), .ref ((n + 7)), .ref ((n + 8)), .ref ((n + 9)), .ref ((n + 4)), .ref ((n + 5)), .ref ((n + 6))])) ∧ hp1 n = some (.inl (cI, m, .inl (f1))) ∧ hp1 (n + 1) = some (.inl (cI, m, .inl (f2))) ∧ hp1 (n + 2) = some (.inl (cI, m, .inl (f3))) ∧ hp1 (n + 3) = some (.inl (cI, m, .inl (f4))) ∧ hp1 (n + 4) = some (.inl (cI, N, .inl (nbF (ndF (goF q f1 f2 f1 f2 m)) (ndF (goF q f1 f2 f2 f1 m)) (m + gc q f1 f2 m)))) ∧ hp1 (n + 5) = some (.inl (cI, N, .inl (nbF (ndF (goF q f1 f2 f2 f1 m)) (ndF (goF q f1 f2 f1 f2 m)) (m + gc q f1 f2 m)))) ∧ hp1 (n + 6) = some (.inl (cI, N, .inl (joF (ndF (goF q f1 f2 f1 f2 m)) (ndF (goF q f1 f2 f2 f1 m)) (m + gc q f1 f2 m)))) ∧ hp1 (n + 7) = some (.inl (cI, (m + gc q f1 f2 m), .inl (goF q f1 f2 f1 f2 m))) ∧ hp1 (n + 8) = some (.inl (cI, (m + gc q f1 f2 m), .inl (goF q f1 f2 f2 f1 m))) ∧ hp1 (n + 9) = some (.inl (cI, (m + gc q f1 f2 m), .inl (goF q f1 f2 nI nI m))) ∧ ∀ (q : Nat) (e9 : va_E), hp q = some e9 → q ≠ a → hp1 q = some e9) := by
  refine Mt.of rfl (Nat.le_of_ble_eq_true rfl) ?_
  refine Rn.pick (lv' := [(0, .ref a), (1, .ref dr)]) [0, 1] rfl ?_
  refine Rn.bd (fun bd => ?_)
  have l_a := bd _ _ gc0
  have l_dr := bd _ _ gc1
  have l_af := bd _ _ gc2
  have l_au := bd _ _ gc3
  have l_aw := bd _ _ gc4
  have l_ac := bd _ _ gc5
  have hgl := gc_le q f1 f2 m
  refine r_aload_n (pc := 0) dX3_init_0 (i := 0) rfl rfl ?_
  refine r_aload_n (pc := 1) dX3_init_1 (i := 1) rfl rfl ?_
  refine r_get (pc := 2) (v := .int ((nI N))) fX3_3 dX3_init_2 gc1 rfl ?_
  refine r_callI (pc := 5) (as := [.int ((nI N))]) (st := []) kX3_9 dX3_init_5 (c_X9_init_X3 (d := d - 1) (a := a) (x0 := 0) (p1 := (nI N)) (v1 := .int 0) (v2 := .int 0) (v3 := .null) (v4 := .null) (v5 := .null) (v6 := .null) (v7 := .int 0) (v8 := .null) (v9 := .null) (v10 := .null) (v11 := .null) (v12 := .null) (v13 := .null) (by omega) gc0 ) rfl (by omega) (Nat.le_of_ble_eq_true rfl) (by omega) (by omega) rfl (fun r9 hp_1 nn_2 hq_3 => ?_)
  obtain ⟨rfl, hq_3n, h_4, ho_5⟩ := hq_3
  subst nn_2
  change Rn _ _ _ 8 _ [] _ _ _ _ _
  refine r_aload_n (pc := 8) dX3_init_8 (i := 0) rfl rfl ?_
  refine r_aload_n (pc := 9) dX3_init_9 (i := 1) rfl rfl ?_
  have h_6 : hp_1 dr = some (.inr (1, [.int ((nI N)), .int ((bI q)), .int ((nI m)), .ref af, .ref au, .ref aw, .ref ac, .ref al])) := (ho_5 dr _ gc1 (ne_c gc1 gc0 (by intro h9; cases h9)))
  refine r_get (pc := 10) (v := .int ((bI q))) fX3_15 dX3_init_10 h_6 rfl ?_
  refine w_put (pc := 13) (ty := .boolean) (fs' := [.int ((nI N)), .int ((bI q)), .int 0, .null, .null, .null, .null, .int 0, .null, .null, .null, .null, .null, .null]) fX3_19 tyX3 tyX3_ok nmX3 (by decide +kernel) (Or.inr ⟨rfl, rfl, rfl⟩) dX3_init_13 h_4 (Nat.le_of_ble_eq_true rfl) (bI_n q) (bI_fit q) rfl (fun hp_7 h_8 ho_9 => ?_)
  refine r_aload_n (pc := 16) dX3_init_16 (i := 0) rfl rfl ?_
  refine r_aload_n (pc := 17) dX3_init_17 (i := 1) rfl rfl ?_
  have h_10 : hp_7 dr = some (.inr (1, [.int ((nI N)), .int ((bI q)), .int ((nI m)), .ref af, .ref au, .ref aw, .ref ac, .ref al])) := ((ho_9 dr (ne_c gc1 gc0 (by intro h9; cases h9))).trans h_6)
  refine r_get (pc := 18) (v := .int ((nI m))) fX3_22 dX3_init_18 h_10 rfl ?_
  refine w_put (pc := 21) (ty := .int) (fs' := [.int ((nI N)), .int ((bI q)), .int ((nI m)), .null, .null, .null, .null, .int 0, .null, .null, .null, .null, .null, .null]) fX3_25 tyX3 tyX3_ok nmX3 (by decide +kernel) (Or.inr ⟨rfl, rfl, rfl⟩) dX3_init_21 h_8 (Nat.le_of_ble_eq_true rfl) (rfl) (rfl) rfl (fun hp_11 h_12 ho_13 => ?_)
  refine r_aload_n (pc := 24) dX3_init_24 (i := 0) rfl rfl ?_
  refine r_aload_n (pc := 25) dX3_init_25 (i := 1) rfl rfl ?_
  have h_14 : hp_11 dr = some (.inr (1, [.int ((nI N)), .int ((bI q)), .int ((nI m)), .ref af, .ref au, .ref aw, .ref ac, .ref al])) := ((ho_13 dr (ne_c gc1 gc0 (by intro h9; cases h9))).trans h_10)
  refine r_get (pc := 26) (v := .ref af) fX3_26 dX3_init_26 h_14 rfl ?_
  refine r_aload_n (pc := 29) dX3_init_29 (i := 0) rfl rfl ?_
  refine r_get (pc := 30) (v := .int ((nI m))) fX3_25 dX3_init_30 h_12 rfl ?_
  have h_18 : hp_11 af = some (.inl (cI, 60, .inl (f1))) := ((ho_13 af (ne_c gc2 gc0 (by intro h9; cases h9))).trans ((ho_9 af (ne_c gc2 gc0 (by intro h9; cases h9))).trans (ho_5 af _ gc2 (ne_c gc2 gc0 (by intro h9; cases h9)))))
  refine r_callS (pc := 33) (as := [.ref af, .int ((nI m))]) (st := [.ref a]) kX3_30 dX3_init_33 (c_copyOf (d := d - 1) (a := af) (N := 60) (m := m) (f := f1) (by omega) h_18 (by omega) (by omega)) rfl (by omega) (Nat.le_of_ble_eq_true rfl) (by omega) (by omega) rfl (fun r9 hp_15 nn_16 hq_17 => ?_)
  obtain ⟨rfl, hq_17n, h_19, ho_20⟩ := hq_17
  subst nn_16
  change Rn _ _ _ 36 _ [.ref n, .ref a] _ _ _ _ _
  have h_21 : hp_15 a = some (.inr (3, [.int ((nI N)), .int ((bI q)), .int ((nI m)), .null, .null, .null, .null, .int 0, .null, .null, .null, .null, .null, .null])) := (ho_20 a _ h_12)
  refine w_put (pc := 36) (ty := .array .int) (fs' := [.int ((nI N)), .int ((bI q)), .int ((nI m)), .ref n, .null, .null, .null, .int 0, .null, .null, .null, .null, .null, .null]) fX3_36 tyX3 tyX3_ok nmX3 (by decide +kernel) (Or.inr ⟨rfl, rfl, rfl⟩) dX3_init_36 h_21 (Nat.le_of_ble_eq_true rfl) (rfl) (rfl) rfl (fun hp_22 h_23 ho_24 => ?_)
  refine r_aload_n (pc := 39) dX3_init_39 (i := 0) rfl rfl ?_
  refine r_aload_n (pc := 40) dX3_init_40 (i := 1) rfl rfl ?_
  have h_25 : hp_22 dr = some (.inr (1, [.int ((nI N)), .int ((bI q)), .int ((nI m)), .ref af, .ref au, .ref aw, .ref ac, .ref al])) := ((ho_24 dr (ne_c gc1 gc0 (by intro h9; cases h9))).trans (ho_20 dr _ h_14))
  refine r_get (pc := 41) (v := .ref au) fX3_37 dX3_init_41 h_25 rfl ?_
  refine r_aload_n (pc := 44) dX3_init_44 (i := 0) rfl rfl ?_
  refine r_get (pc := 45) (v := .int ((nI m))) fX3_25 dX3_init_45 h_23 rfl ?_
  have h_29 : hp_22 au = some (.inl (cI, 60, .inl (f2))) := ((ho_24 au (ne_c gc3 gc0 (by intro h9; cases h9))).trans (ho_20 au _ ((ho_13 au (ne_c gc3 gc0 (by intro h9; cases h9))).trans ((ho_9 au (ne_c gc3 gc0 (by intro h9; cases h9))).trans (ho_5 au _ gc3 (ne_c gc3 gc0 (by intro h9; cases h9)))))))
  refine r_callS (pc := 48) (as := [.ref au, .int ((nI m))]) (st := [.ref a]) kX3_30 dX3_init_48 (c_copyOf (d := d - 1) (a := au) (N := 60) (m := m) (f := f2) (by omega) h_29 (by omega) (by omega)) rfl (by omega) (Nat.le_of_ble_eq_true rfl) (by omega) (by omega) rfl (fun r9 hp_26 nn_27 hq_28 => ?_)
  obtain ⟨rfl, hq_28n, h_30, ho_31⟩ := hq_28
  subst nn_27
  change Rn _ _ _ 51 _ [.ref ((n + 1)), .ref a] _ _ _ _ _
  have h_32 : hp_26 a = some (.inr (3, [.int ((nI N)), .int ((bI q)), .int ((nI m)), .ref n, .null, .null, .null, .int 0, .null, .null, .null, .null, .null, .null])) := (ho_31 a _ h_23)
  refine w_put (pc := 51) (ty := .array .int) (fs' := [.int ((nI N)), .int ((bI q)), .int ((nI m)), .ref n, .ref ((n + 1)), .null, .null, .int 0, .null, .null, .null, .null, .null, .null]) fX3_40 tyX3 tyX3_ok nmX3 (by decide +kernel) (Or.inr ⟨rfl, rfl, rfl⟩) dX3_init_51 h_32 (Nat.le_of_ble_eq_true rfl) (rfl) (rfl) rfl (fun hp_33 h_34 ho_35 => ?_)
  refine r_aload_n (pc := 54) dX3_init_54 (i := 0) rfl rfl ?_
  refine r_aload_n (pc := 55) dX3_init_55 (i := 1) rfl rfl ?_
  have h_36 : hp_33 dr = some (.inr (1, [.int ((nI N)), .int ((bI q)), .int ((nI m)), .ref af, .ref au, .ref aw, .ref ac, .ref al])) := ((ho_35 dr (ne_c gc1 gc0 (by intro h9; cases h9))).trans (ho_31 dr _ h_25))
  refine r_get (pc := 56) (v := .ref aw) fX3_41 dX3_init_56 h_36 rfl ?_
  refine r_aload_n (pc := 59) dX3_init_59 (i := 0) rfl rfl ?_
  refine r_get (pc := 60) (v := .int ((nI m))) fX3_25 dX3_init_60 h_34 rfl ?_
  have h_40 : hp_33 aw = some (.inl (cI, 60, .inl (f3))) := ((ho_35 aw (ne_c gc4 gc0 (by intro h9; cases h9))).trans (ho_31 aw _ ((ho_24 aw (ne_c gc4 gc0 (by intro h9; cases h9))).trans (ho_20 aw _ ((ho_13 aw (ne_c gc4 gc0 (by intro h9; cases h9))).trans ((ho_9 aw (ne_c gc4 gc0 (by intro h9; cases h9))).trans (ho_5 aw _ gc4 (ne_c gc4 gc0 (by intro h9; cases h9)))))))))
  refine r_callS (pc := 63) (as := [.ref aw, .int ((nI m))]) (st := [.ref a]) kX3_30 dX3_init_63 (c_copyOf (d := d - 1) (a := aw) (N := 60) (m := m) (f := f3) (by omega) h_40 (by omega) (by omega)) rfl (by omega) (Nat.le_of_ble_eq_true rfl) (by omega) (by omega) rfl (fun r9 hp_37 nn_38 hq_39 => ?_)
  obtain ⟨rfl, hq_39n, h_41, ho_42⟩ := hq_39
  subst nn_38
  change Rn _ _ _ 66 _ [.ref ((n + 2)), .ref a] _ _ _ _ _
  have h_43 : hp_37 a = some (.inr (3, [.int ((nI N)), .int ((bI q)), .int ((nI m)), .ref n, .ref ((n + 1)), .null, .null, .int 0, .null, .null, .null, .null, .null, .null])) := (ho_42 a _ h_34)
  refine w_put (pc := 66) (ty := .array .int) (fs' := [.int ((nI N)), .int ((bI q)), .int ((nI m)), .ref n, .ref ((n + 1)), .ref ((n + 2)), .null, .int 0, .null, .null, .null, .null, .null, .null]) fX3_44 tyX3 tyX3_ok nmX3 (by decide +kernel) (Or.inr ⟨rfl, rfl, rfl⟩) dX3_init_66 h_43 (Nat.le_of_ble_eq_true rfl) (rfl) (rfl) rfl (fun hp_44 h_45 ho_46 => ?_)
  refine r_aload_n (pc := 69) dX3_init_69 (i := 0) rfl rfl ?_
  refine r_aload_n (pc := 70) dX3_init_70 (i := 1) rfl rfl ?_
  have h_47 : hp_44 dr = some (.inr (1, [.int ((nI N)), .int ((bI q)), .int ((nI m)), .ref af, .ref au, .ref aw, .ref ac, .ref al])) := ((ho_46 dr (ne_c gc1 gc0 (by intro h9; cases h9))).trans (ho_42 dr _ h_36))
  refine r_get (pc := 71) (v := .ref ac) fX3_45 dX3_init_71 h_47 rfl ?_
  refine r_aload_n (pc := 74) dX3_init_74 (i := 0) rfl rfl ?_
  refine r_get (pc := 75) (v := .int ((nI m))) fX3_25 dX3_init_75 h_45 rfl ?_
  have h_51 : hp_44 ac = some (.inl (cI, 60, .inl (f4))) := ((ho_46 ac (ne_c gc5 gc0 (by intro h9; cases h9))).trans (ho_42 ac _ ((ho_35 ac (ne_c gc5 gc0 (by intro h9; cases h9))).trans (ho_31 ac _ ((ho_24 ac (ne_c gc5 gc0 (by intro h9; cases h9))).trans (ho_20 ac _ ((ho_13 ac (ne_c gc5 gc0 (by intro h9; cases h9))).trans ((ho_9 ac (ne_c gc5 gc0 (by intro h9; cases h9))).trans (ho_5 ac _ gc5 (ne_c gc5 gc0 (by intro h9; cases h9)))))))))))
  refine r_callS (pc := 78) (as := [.ref ac, .int ((nI m))]) (st := [.ref a]) kX3_30 dX3_init_78 (c_copyOf (d := d - 1) (a := ac) (N := 60) (m := m) (f := f4) (by omega) h_51 (by omega) (by omega)) rfl (by omega) (Nat.le_of_ble_eq_true rfl) (by omega) (by omega) rfl (fun r9 hp_48 nn_49 hq_50 => ?_)
  obtain ⟨rfl, hq_50n, h_52, ho_53⟩ := hq_50
  subst nn_49
  change Rn _ _ _ 81 _ [.ref ((n + 3)), .ref a] _ _ _ _ _
  have h_54 : hp_48 a = some (.inr (3, [.int ((nI N)), .int ((bI q)), .int ((nI m)), .ref n, .ref ((n + 1)), .ref ((n + 2)), .null, .int 0, .null, .null, .null, .null, .null, .null])) := (ho_53 a _ h_45)
  refine w_put (pc := 81) (ty := .array .int) (fs' := [.int ((nI N)), .int ((bI q)), .int ((nI m)), .ref n, .ref ((n + 1)), .ref ((n + 2)), .ref ((n + 3)), .int 0, .null, .null, .null, .null, .null, .null]) fX3_48 tyX3 tyX3_ok nmX3 (by decide +kernel) (Or.inr ⟨rfl, rfl, rfl⟩) dX3_init_81 h_54 (Nat.le_of_ble_eq_true rfl) (rfl) (rfl) rfl (fun hp_55 h_56 ho_57 => ?_)
  refine r_aload_n (pc := 84) dX3_init_84 (i := 0) rfl rfl ?_
  refine r_aload_n (pc := 85) dX3_init_85 (i := 0) rfl rfl ?_
  refine r_get (pc := 86) (v := .int ((nI N))) fX3_49 dX3_init_86 h_56 rfl ?_
  refine w_newi (pc := 89) (t0 := 0) (N := N) dX3_init_89 (tb_t (k := 68) (w := Cond.arrayClass .int) (by decide +kernel)) rfl (rfl) (by omega) (by omega) (by omega) (fun hp_58 h_59 hk_60 ho_61 => ?_)
  have h_62 : hp_58 a = some (.inr (3, [.int ((nI N)), .int ((bI q)), .int ((nI m)), .ref n, .ref ((n + 1)), .ref ((n + 2)), .ref ((n + 3)), .int 0, .null, .null, .null, .null, .null, .null])) := (hk_60 a _ h_56)
  refine w_put (pc := 91) (ty := .array .int) (fs' := [.int ((nI N)), .int ((bI q)), .int ((nI m)), .ref n, .ref ((n + 1)), .ref ((n + 2)), .ref ((n + 3)), .int 0, .null, .null, .null, .ref ((n + 4)), .null, .null]) fX3_50 tyX3 tyX3_ok nmX3 (by decide +kernel) (Or.inr ⟨rfl, rfl, rfl⟩) dX3_init_91 h_62 (Nat.le_of_ble_eq_true rfl) (rfl) (rfl) rfl (fun hp_63 h_64 ho_65 => ?_)
  refine r_aload_n (pc := 94) dX3_init_94 (i := 0) rfl rfl ?_
  refine r_aload_n (pc := 95) dX3_init_95 (i := 0) rfl rfl ?_
  refine r_get (pc := 96) (v := .int ((nI N))) fX3_49 dX3_init_96 h_64 rfl ?_
  refine w_newi (pc := 99) (t0 := 0) (N := N) dX3_init_99 (tb_t (k := 68) (w := Cond.arrayClass .int) (by decide +kernel)) rfl (rfl) (by omega) (by omega) (by omega) (fun hp_66 h_67 hk_68 ho_69 => ?_)
  have h_70 : hp_66 a = some (.inr (3, [.int ((nI N)), .int ((bI q)), .int ((nI m)), .ref n, .ref ((n + 1)), .ref ((n + 2)), .ref ((n + 3)), .int 0, .null, .null, .null, .ref ((n + 4)), .null, .null])) := (hk_68 a _ h_64)
  refine w_put (pc := 101) (ty := .array .int) (fs' := [.int ((nI N)), .int ((bI q)), .int ((nI m)), .ref n, .ref ((n + 1)), .ref ((n + 2)), .ref ((n + 3)), .int 0, .null, .null, .null, .ref ((n + 4)), .ref ((n + 5)), .null]) fX3_53 tyX3 tyX3_ok nmX3 (by decide +kernel) (Or.inr ⟨rfl, rfl, rfl⟩) dX3_init_101 h_70 (Nat.le_of_ble_eq_true rfl) (rfl) (rfl) rfl (fun hp_71 h_72 ho_73 => ?_)
  refine r_aload_n (pc := 104) dX3_init_104 (i := 0) rfl rfl ?_
  refine r_aload_n (pc := 105) dX3_init_105 (i := 0) rfl rfl ?_
  refine r_get (pc := 106) (v := .int ((nI N))) fX3_49 dX3_init_106 h_72 rfl ?_
  refine w_newi (pc := 109) (t0 := 0) (N := N) dX3_init_109 (tb_t (k := 68) (w := Cond.arrayClass .int) (by decide +kernel)) rfl (rfl) (by omega) (by omega) (by omega) (fun hp_74 h_75 hk_76 ho_77 => ?_)
  have h_78 : hp_74 a = some (.inr (3, [.int ((nI N)), .int ((bI q)), .int ((nI m)), .ref n, .ref ((n + 1)), .ref ((n + 2)), .ref ((n + 3)), .int 0, .null, .null, .null, .ref ((n + 4)), .ref ((n + 5)), .null])) := (hk_76 a _ h_72)
  refine w_put (pc := 111) (ty := .array .int) (fs' := [.int ((nI N)), .int ((bI q)), .int ((nI m)), .ref n, .ref ((n + 1)), .ref ((n + 2)), .ref ((n + 3)), .int 0, .null, .null, .null, .ref ((n + 4)), .ref ((n + 5)), .ref ((n + 6))]) fX3_56 tyX3 tyX3_ok nmX3 (by decide +kernel) (Or.inr ⟨rfl, rfl, rfl⟩) dX3_init_111 h_78 (Nat.le_of_ble_eq_true rfl) (rfl) (rfl) rfl (fun hp_79 h_80 ho_81 => ?_)
  refine r_aload_n (pc := 114) dX3_init_114 (i := 0) rfl rfl ?_
  refine r_aload_n (pc := 115) dX3_init_115 (i := 1) rfl rfl ?_
  have h_85 : hp_79 dr = some (.inr (1, [.int ((nI N)), .int ((bI q)), .int ((nI m)), .ref af, .ref au, .ref aw, .ref ac, .ref al])) := ((ho_81 dr (ne_c gc1 gc0 (by intro h9; cases h9))).trans (hk_76 dr _ ((ho_73 dr (ne_c gc1 gc0 (by intro h9; cases h9))).trans (hk_68 dr _ ((ho_65 dr (ne_c gc1 gc0 (by intro h9; cases h9))).trans (hk_60 dr _ ((ho_57 dr (ne_c gc1 gc0 (by intro h9; cases h9))).trans (ho_53 dr _ h_47))))))))
  have h_86 : hp_79 af = some (.inl (cI, 60, .inl (f1))) := ((ho_81 af (ne_c gc2 gc0 (by intro h9; cases h9))).trans (hk_76 af _ ((ho_73 af (ne_c gc2 gc0 (by intro h9; cases h9))).trans (hk_68 af _ ((ho_65 af (ne_c gc2 gc0 (by intro h9; cases h9))).trans (hk_60 af _ ((ho_57 af (ne_c gc2 gc0 (by intro h9; cases h9))).trans (ho_53 af _ ((ho_46 af (ne_c gc2 gc0 (by intro h9; cases h9))).trans (ho_42 af _ ((ho_35 af (ne_c gc2 gc0 (by intro h9; cases h9))).trans (ho_31 af _ ((ho_24 af (ne_c gc2 gc0 (by intro h9; cases h9))).trans (ho_20 af _ h_18))))))))))))))
  have h_87 : hp_79 au = some (.inl (cI, 60, .inl (f2))) := ((ho_81 au (ne_c gc3 gc0 (by intro h9; cases h9))).trans (hk_76 au _ ((ho_73 au (ne_c gc3 gc0 (by intro h9; cases h9))).trans (hk_68 au _ ((ho_65 au (ne_c gc3 gc0 (by intro h9; cases h9))).trans (hk_60 au _ ((ho_57 au (ne_c gc3 gc0 (by intro h9; cases h9))).trans (ho_53 au _ ((ho_46 au (ne_c gc3 gc0 (by intro h9; cases h9))).trans (ho_42 au _ ((ho_35 au (ne_c gc3 gc0 (by intro h9; cases h9))).trans (ho_31 au _ h_29))))))))))))
  refine r_callS (pc := 116) (as := [.ref dr]) (st := [.ref a]) kX3_59 dX3_init_116 (c_X3_countGoings (d := d - 1) (a := dr) (x0 := (nI N)) (af := af) (au := au) (aw := aw) (ac := ac) (al := al) (m := m) (q := q) (f1 := f1) (f2 := f2) (by omega) h_85 h_86 h_87 (by omega)) rfl (by omega) (Nat.le_of_ble_eq_true rfl) (by omega) (by omega) rfl (fun r9 hp_82 nn_83 hq_84 => ?_)
  obtain ⟨rfl, hq_84n, ho_88⟩ := hq_84
  subst nn_83
  change Rn _ _ _ 119 _ [.int ((nI (m + gc q f1 f2 m))), .ref a] _ _ _ _ _
  have h_89 : hp_82 a = some (.inr (3, [.int ((nI N)), .int ((bI q)), .int ((nI m)), .ref n, .ref ((n + 1)), .ref ((n + 2)), .ref ((n + 3)), .int 0, .null, .null, .null, .ref ((n + 4)), .ref ((n + 5)), .ref ((n + 6))])) := (ho_88 a _ h_80)
  refine w_put (pc := 119) (ty := .int) (fs' := [.int ((nI N)), .int ((bI q)), .int ((nI m)), .ref n, .ref ((n + 1)), .ref ((n + 2)), .ref ((n + 3)), .int ((nI (m + gc q f1 f2 m))), .null, .null, .null, .ref ((n + 4)), .ref ((n + 5)), .ref ((n + 6))]) fX3_63 tyX3 tyX3_ok nmX3 (by decide +kernel) (Or.inr ⟨rfl, rfl, rfl⟩) dX3_init_119 h_89 (Nat.le_of_ble_eq_true rfl) (rfl) (rfl) rfl (fun hp_90 h_91 ho_92 => ?_)
  refine r_aload_n (pc := 122) dX3_init_122 (i := 0) rfl rfl ?_
  refine r_aload_n (pc := 123) dX3_init_123 (i := 0) rfl rfl ?_
  refine r_get (pc := 124) (v := .int ((nI (m + gc q f1 f2 m)))) fX3_63 dX3_init_124 h_91 rfl ?_
  refine w_newi (pc := 127) (t0 := 0) (N := (m + gc q f1 f2 m)) dX3_init_127 (tb_t (k := 68) (w := Cond.arrayClass .int) (by decide +kernel)) rfl (rfl) (by omega) (by omega) (by omega) (fun hp_93 h_94 hk_95 ho_96 => ?_)
  have h_97 : hp_93 a = some (.inr (3, [.int ((nI N)), .int ((bI q)), .int ((nI m)), .ref n, .ref ((n + 1)), .ref ((n + 2)), .ref ((n + 3)), .int ((nI (m + gc q f1 f2 m))), .null, .null, .null, .ref ((n + 4)), .ref ((n + 5)), .ref ((n + 6))])) := (hk_95 a _ h_91)
  refine w_put (pc := 129) (ty := .array .int) (fs' := [.int ((nI N)), .int ((bI q)), .int ((nI m)), .ref n, .ref ((n + 1)), .ref ((n + 2)), .ref ((n + 3)), .int ((nI (m + gc q f1 f2 m))), .ref ((n + 7)), .null, .null, .ref ((n + 4)), .ref ((n + 5)), .ref ((n + 6))]) fX3_66 tyX3 tyX3_ok nmX3 (by decide +kernel) (Or.inr ⟨rfl, rfl, rfl⟩) dX3_init_129 h_97 (Nat.le_of_ble_eq_true rfl) (rfl) (rfl) rfl (fun hp_98 h_99 ho_100 => ?_)
  refine r_aload_n (pc := 132) dX3_init_132 (i := 0) rfl rfl ?_
  refine r_aload_n (pc := 133) dX3_init_133 (i := 0) rfl rfl ?_
  refine r_get (pc := 134) (v := .int ((nI (m + gc q f1 f2 m)))) fX3_63 dX3_init_134 h_99 rfl ?_
  refine w_newi (pc := 137) (t0 := 0) (N := (m + gc q f1 f2 m)) dX3_init_137 (tb_t (k := 68) (w := Cond.arrayClass .int) (by decide +kernel)) rfl (rfl) (by omega) (by omega) (by omega) (fun hp_101 h_102 hk_103 ho_104 => ?_)
  have h_105 : hp_101 a = some (.inr (3, [.int ((nI N)), .int ((bI q)), .int ((nI m)), .ref n, .ref ((n + 1)), .ref ((n + 2)), .ref ((n + 3)), .int ((nI (m + gc q f1 f2 m))), .ref ((n + 7)), .null, .null, .ref ((n + 4)), .ref ((n + 5)), .ref ((n + 6))])) := (hk_103 a _ h_99)
  refine w_put (pc := 139) (ty := .array .int) (fs' := [.int ((nI N)), .int ((bI q)), .int ((nI m)), .ref n, .ref ((n + 1)), .ref ((n + 2)), .ref ((n + 3)), .int ((nI (m + gc q f1 f2 m))), .ref ((n + 7)), .ref ((n + 8)), .null, .ref ((n + 4)), .ref ((n + 5)), .ref ((n + 6))]) fX3_69 tyX3 tyX3_ok nmX3 (by decide +kernel) (Or.inr ⟨rfl, rfl, rfl⟩) dX3_init_139 h_105 (Nat.le_of_ble_eq_true rfl) (rfl) (rfl) rfl (fun hp_106 h_107 ho_108 => ?_)
  refine r_aload_n (pc := 142) dX3_init_142 (i := 0) rfl rfl ?_
  refine r_aload_n (pc := 143) dX3_init_143 (i := 0) rfl rfl ?_
  refine r_get (pc := 144) (v := .int ((nI (m + gc q f1 f2 m)))) fX3_63 dX3_init_144 h_107 rfl ?_
  refine w_newi (pc := 147) (t0 := 0) (N := (m + gc q f1 f2 m)) dX3_init_147 (tb_t (k := 68) (w := Cond.arrayClass .int) (by decide +kernel)) rfl (rfl) (by omega) (by omega) (by omega) (fun hp_109 h_110 hk_111 ho_112 => ?_)
  have h_113 : hp_109 a = some (.inr (3, [.int ((nI N)), .int ((bI q)), .int ((nI m)), .ref n, .ref ((n + 1)), .ref ((n + 2)), .ref ((n + 3)), .int ((nI (m + gc q f1 f2 m))), .ref ((n + 7)), .ref ((n + 8)), .null, .ref ((n + 4)), .ref ((n + 5)), .ref ((n + 6))])) := (hk_111 a _ h_107)
  refine w_put (pc := 149) (ty := .array .int) (fs' := [.int ((nI N)), .int ((bI q)), .int ((nI m)), .ref n, .ref ((n + 1)), .ref ((n + 2)), .ref ((n + 3)), .int ((nI (m + gc q f1 f2 m))), .ref ((n + 7)), .ref ((n + 8)), .ref ((n + 9)), .ref ((n + 4)), .ref ((n + 5)), .ref ((n + 6))]) fX3_72 tyX3 tyX3_ok nmX3 (by decide +kernel) (Or.inr ⟨rfl, rfl, rfl⟩) dX3_init_149 h_113 (Nat.le_of_ble_eq_true rfl) (rfl) (rfl) rfl (fun hp_114 h_115 ho_116 => ?_)
  refine r_aload_n (pc := 152) dX3_init_152 (i := 0) rfl rfl ?_
  have h_120 : hp_114 n = some (.inl (cI, m, .inl (f1))) := ((ho_116 n (Ne.symm (ne_an l_a 0))).trans (hk_111 n _ ((ho_108 n (Ne.symm (ne_an l_a 0))).trans (hk_103 n _ ((ho_100 n (Ne.symm (ne_an l_a 0))).trans (hk_95 n _ ((ho_92 n (Ne.symm (ne_an l_a 0))).trans (ho_88 n _ ((ho_81 n (Ne.symm (ne_an l_a 0))).trans (hk_76 n _ ((ho_73 n (Ne.symm (ne_an l_a 0))).trans (hk_68 n _ ((ho_65 n (Ne.symm (ne_an l_a 0))).trans (hk_60 n _ ((ho_57 n (Ne.symm (ne_an l_a 0))).trans (ho_53 n _ ((ho_46 n (Ne.symm (ne_an l_a 0))).trans (ho_42 n _ ((ho_35 n (Ne.symm (ne_an l_a 0))).trans (ho_31 n _ ((ho_24 n (Ne.symm (ne_an l_a 0))).trans h_19)))))))))))))))))))))
  have h_121 : hp_114 (n + 1) = some (.inl (cI, m, .inl (f2))) := ((ho_116 (n + 1) (Ne.symm (ne_an l_a 1))).trans (hk_111 (n + 1) _ ((ho_108 (n + 1) (Ne.symm (ne_an l_a 1))).trans (hk_103 (n + 1) _ ((ho_100 (n + 1) (Ne.symm (ne_an l_a 1))).trans (hk_95 (n + 1) _ ((ho_92 (n + 1) (Ne.symm (ne_an l_a 1))).trans (ho_88 (n + 1) _ ((ho_81 (n + 1) (Ne.symm (ne_an l_a 1))).trans (hk_76 (n + 1) _ ((ho_73 (n + 1) (Ne.symm (ne_an l_a 1))).trans (hk_68 (n + 1) _ ((ho_65 (n + 1) (Ne.symm (ne_an l_a 1))).trans (hk_60 (n + 1) _ ((ho_57 (n + 1) (Ne.symm (ne_an l_a 1))).trans (ho_53 (n + 1) _ ((ho_46 (n + 1) (Ne.symm (ne_an l_a 1))).trans (ho_42 (n + 1) _ ((ho_35 (n + 1) (Ne.symm (ne_an l_a 1))).trans h_30)))))))))))))))))))
  have h_122 : hp_114 (n + 7) = some (.inl (cI, (m + gc q f1 f2 m), .inl (fun _ => 0))) := ((ho_116 (n + 7) (Ne.symm (ne_an l_a 7))).trans (hk_111 (n + 7) _ ((ho_108 (n + 7) (Ne.symm (ne_an l_a 7))).trans (hk_103 (n + 7) _ ((ho_100 (n + 7) (Ne.symm (ne_an l_a 7))).trans h_94)))))
  have h_123 : hp_114 (n + 8) = some (.inl (cI, (m + gc q f1 f2 m), .inl (fun _ => 0))) := ((ho_116 (n + 8) (Ne.symm (ne_an l_a 8))).trans (hk_111 (n + 8) _ ((ho_108 (n + 8) (Ne.symm (ne_an l_a 8))).trans h_102)))
  have h_124 : hp_114 (n + 9) = some (.inl (cI, (m + gc q f1 f2 m), .inl (fun _ => 0))) := ((ho_116 (n + 9) (Ne.symm (ne_an l_a 9))).trans h_110)
  refine r_callV (pc := 153) (as := []) (st := []) kX3_75 rfl dX3_init_153 h_115 (c_X3_fillGoings (d := d - 1) (a := a) (x0 := (nI N)) (r3 := n) (r4 := (n + 1)) (r5 := (n + 2)) (r6 := (n + 3)) (r8 := (n + 7)) (r9 := (n + 8)) (r10 := (n + 9)) (r11 := (n + 4)) (r12 := (n + 5)) (r13 := (n + 6)) (m := m) (q := q) (f1 := f1) (f2 := f2) (by omega) h_115 h_120 h_121 h_122 h_123 h_124 (by omega) ((ne_nn n (i := 0) (j := 1) rfl)) ((ne_nn n (i := 0) (j := 7) rfl)) ((ne_nn n (i := 0) (j := 8) rfl)) ((ne_nn n (i := 0) (j := 9) rfl)) ((ne_nn n (i := 1) (j := 7) rfl)) ((ne_nn n (i := 1) (j := 8) rfl)) ((ne_nn n (i := 1) (j := 9) rfl)) ((ne_nn n (i := 7) (j := 8) rfl)) ((ne_nn n (i := 7) (j := 9) rfl)) ((ne_nn n (i := 8) (j := 9) rfl))) rfl (by omega) (Nat.le_of_ble_eq_true rfl) (by omega) (by omega) rfl (fun r9 hp_117 nn_118 hq_119 => ?_)
  obtain ⟨rfl, hq_119n, h_125, h_126, h_127, ho_128⟩ := hq_119
  subst nn_118
  change Rn _ _ _ 156 _ [] _ _ _ _ _
  refine r_aload_n (pc := 156) dX3_init_156 (i := 0) rfl rfl ?_
  have h_132 : hp_117 a = some (.inr (3, [.int ((nI N)), .int ((bI q)), .int ((nI m)), .ref n, .ref ((n + 1)), .ref ((n + 2)), .ref ((n + 3)), .int ((nI (m + gc q f1 f2 m))), .ref ((n + 7)), .ref ((n + 8)), .ref ((n + 9)), .ref ((n + 4)), .ref ((n + 5)), .ref ((n + 6))])) := (ho_128 a _ h_115 (ne_an l_a 7) (ne_an l_a 8) (ne_an l_a 9))
  have h_133 : hp_117 (n + 4) = some (.inl (cI, N, .inl (fun _ => 0))) := (ho_128 (n + 4) _ ((ho_116 (n + 4) (Ne.symm (ne_an l_a 4))).trans (hk_111 (n + 4) _ ((ho_108 (n + 4) (Ne.symm (ne_an l_a 4))).trans (hk_103 (n + 4) _ ((ho_100 (n + 4) (Ne.symm (ne_an l_a 4))).trans (hk_95 (n + 4) _ ((ho_92 (n + 4) (Ne.symm (ne_an l_a 4))).trans (ho_88 (n + 4) _ ((ho_81 (n + 4) (Ne.symm (ne_an l_a 4))).trans (hk_76 (n + 4) _ ((ho_73 (n + 4) (Ne.symm (ne_an l_a 4))).trans (hk_68 (n + 4) _ ((ho_65 (n + 4) (Ne.symm (ne_an l_a 4))).trans h_59))))))))))))) (ne_nn n (i := 4) (j := 7) rfl) (ne_nn n (i := 4) (j := 8) rfl) (ne_nn n (i := 4) (j := 9) rfl))
  have h_134 : hp_117 (n + 5) = some (.inl (cI, N, .inl (fun _ => 0))) := (ho_128 (n + 5) _ ((ho_116 (n + 5) (Ne.symm (ne_an l_a 5))).trans (hk_111 (n + 5) _ ((ho_108 (n + 5) (Ne.symm (ne_an l_a 5))).trans (hk_103 (n + 5) _ ((ho_100 (n + 5) (Ne.symm (ne_an l_a 5))).trans (hk_95 (n + 5) _ ((ho_92 (n + 5) (Ne.symm (ne_an l_a 5))).trans (ho_88 (n + 5) _ ((ho_81 (n + 5) (Ne.symm (ne_an l_a 5))).trans (hk_76 (n + 5) _ ((ho_73 (n + 5) (Ne.symm (ne_an l_a 5))).trans h_67))))))))))) (ne_nn n (i := 5) (j := 7) rfl) (ne_nn n (i := 5) (j := 8) rfl) (ne_nn n (i := 5) (j := 9) rfl))
  have h_135 : hp_117 (n + 6) = some (.inl (cI, N, .inl (fun _ => 0))) := (ho_128 (n + 6) _ ((ho_116 (n + 6) (Ne.symm (ne_an l_a 6))).trans (hk_111 (n + 6) _ ((ho_108 (n + 6) (Ne.symm (ne_an l_a 6))).trans (hk_103 (n + 6) _ ((ho_100 (n + 6) (Ne.symm (ne_an l_a 6))).trans (hk_95 (n + 6) _ ((ho_92 (n + 6) (Ne.symm (ne_an l_a 6))).trans (ho_88 (n + 6) _ ((ho_81 (n + 6) (Ne.symm (ne_an l_a 6))).trans h_75))))))))) (ne_nn n (i := 6) (j := 7) rfl) (ne_nn n (i := 6) (j := 8) rfl) (ne_nn n (i := 6) (j := 9) rfl))
  refine r_callV (pc := 157) (as := []) (st := []) kX3_79 rfl dX3_init_157 h_132 (c_X3_fillNeighbours (d := d - 1) (a := a) (x0 := (nI N)) (x1 := (bI q)) (r3 := n) (r4 := (n + 1)) (r5 := (n + 2)) (r6 := (n + 3)) (r8 := (n + 7)) (r9 := (n + 8)) (r10 := (n + 9)) (r11 := (n + 4)) (r12 := (n + 5)) (r13 := (n + 6)) (x2 := (nI m)) (g := (m + gc q f1 f2 m)) (N := N) (tl := (goF q f1 f2 f1 f2 m)) (hd := (goF q f1 f2 f2 f1 m)) (A := (ndF (goF q f1 f2 f1 f2 m))) (B := (ndF (goF q f1 f2 f2 f1 m))) (by omega) h_132 h_125 h_126 h_133 h_134 h_135 (by omega) (by omega) (ndF_ok hN hv) (ndF_ok hN (fun j hj => ⟨(hv j hj).2, (hv j hj).1⟩)) ((ne_nn n (i := 7) (j := 8) rfl)) ((ne_nn n (i := 7) (j := 4) rfl)) ((ne_nn n (i := 7) (j := 5) rfl)) ((ne_nn n (i := 7) (j := 6) rfl)) ((ne_nn n (i := 8) (j := 4) rfl)) ((ne_nn n (i := 8) (j := 5) rfl)) ((ne_nn n (i := 8) (j := 6) rfl)) ((ne_nn n (i := 4) (j := 5) rfl)) ((ne_nn n (i := 4) (j := 6) rfl)) ((ne_nn n (i := 5) (j := 6) rfl))) rfl (by omega) (Nat.le_of_ble_eq_true rfl) (by omega) (by omega) rfl (fun r9 hp_129 nn_130 hq_131 => ?_)
  obtain ⟨rfl, hq_131n, h_136, h_137, h_138, ho_139⟩ := hq_131
  subst nn_130
  change Rn _ _ _ 160 _ [] _ _ _ _ _
  have h_140 : hp_129 a = some (.inr (3, [.int ((nI N)), .int ((bI q)), .int ((nI m)), .ref n, .ref ((n + 1)), .ref ((n + 2)), .ref ((n + 3)), .int ((nI (m + gc q f1 f2 m))), .ref ((n + 7)), .ref ((n + 8)), .ref ((n + 9)), .ref ((n + 4)), .ref ((n + 5)), .ref ((n + 6))])) := (ho_139 a _ h_132 (ne_an l_a 4) (ne_an l_a 5) (ne_an l_a 6))
  have h_141 : hp_129 n = some (.inl (cI, m, .inl (f1))) := (ho_139 n _ (ho_128 n _ h_120 (ne_nn n (i := 0) (j := 7) rfl) (ne_nn n (i := 0) (j := 8) rfl) (ne_nn n (i := 0) (j := 9) rfl)) (ne_nn n (i := 0) (j := 4) rfl) (ne_nn n (i := 0) (j := 5) rfl) (ne_nn n (i := 0) (j := 6) rfl))
  have h_142 : hp_129 (n + 1) = some (.inl (cI, m, .inl (f2))) := (ho_139 (n + 1) _ (ho_128 (n + 1) _ h_121 (ne_nn n (i := 1) (j := 7) rfl) (ne_nn n (i := 1) (j := 8) rfl) (ne_nn n (i := 1) (j := 9) rfl)) (ne_nn n (i := 1) (j := 4) rfl) (ne_nn n (i := 1) (j := 5) rfl) (ne_nn n (i := 1) (j := 6) rfl))
  have h_143 : hp_129 (n + 2) = some (.inl (cI, m, .inl (f3))) := (ho_139 (n + 2) _ (ho_128 (n + 2) _ ((ho_116 (n + 2) (Ne.symm (ne_an l_a 2))).trans (hk_111 (n + 2) _ ((ho_108 (n + 2) (Ne.symm (ne_an l_a 2))).trans (hk_103 (n + 2) _ ((ho_100 (n + 2) (Ne.symm (ne_an l_a 2))).trans (hk_95 (n + 2) _ ((ho_92 (n + 2) (Ne.symm (ne_an l_a 2))).trans (ho_88 (n + 2) _ ((ho_81 (n + 2) (Ne.symm (ne_an l_a 2))).trans (hk_76 (n + 2) _ ((ho_73 (n + 2) (Ne.symm (ne_an l_a 2))).trans (hk_68 (n + 2) _ ((ho_65 (n + 2) (Ne.symm (ne_an l_a 2))).trans (hk_60 (n + 2) _ ((ho_57 (n + 2) (Ne.symm (ne_an l_a 2))).trans (ho_53 (n + 2) _ ((ho_46 (n + 2) (Ne.symm (ne_an l_a 2))).trans h_41))))))))))))))))) (ne_nn n (i := 2) (j := 7) rfl) (ne_nn n (i := 2) (j := 8) rfl) (ne_nn n (i := 2) (j := 9) rfl)) (ne_nn n (i := 2) (j := 4) rfl) (ne_nn n (i := 2) (j := 5) rfl) (ne_nn n (i := 2) (j := 6) rfl))
  have h_144 : hp_129 (n + 3) = some (.inl (cI, m, .inl (f4))) := (ho_139 (n + 3) _ (ho_128 (n + 3) _ ((ho_116 (n + 3) (Ne.symm (ne_an l_a 3))).trans (hk_111 (n + 3) _ ((ho_108 (n + 3) (Ne.symm (ne_an l_a 3))).trans (hk_103 (n + 3) _ ((ho_100 (n + 3) (Ne.symm (ne_an l_a 3))).trans (hk_95 (n + 3) _ ((ho_92 (n + 3) (Ne.symm (ne_an l_a 3))).trans (ho_88 (n + 3) _ ((ho_81 (n + 3) (Ne.symm (ne_an l_a 3))).trans (hk_76 (n + 3) _ ((ho_73 (n + 3) (Ne.symm (ne_an l_a 3))).trans (hk_68 (n + 3) _ ((ho_65 (n + 3) (Ne.symm (ne_an l_a 3))).trans (hk_60 (n + 3) _ ((ho_57 (n + 3) (Ne.symm (ne_an l_a 3))).trans h_52))))))))))))))) (ne_nn n (i := 3) (j := 7) rfl) (ne_nn n (i := 3) (j := 8) rfl) (ne_nn n (i := 3) (j := 9) rfl)) (ne_nn n (i := 3) (j := 4) rfl) (ne_nn n (i := 3) (j := 5) rfl) (ne_nn n (i := 3) (j := 6) rfl))
  have h_145 : hp_129 (n + 7) = some (.inl (cI, (m + gc q f1 f2 m), .inl (goF q f1 f2 f1 f2 m))) := (ho_139 (n + 7) _ h_125 (ne_nn n (i := 7) (j := 4) rfl) (ne_nn n (i := 7) (j := 5) rfl) (ne_nn n (i := 7) (j := 6) rfl))
  have h_146 : hp_129 (n + 8) = some (.inl (cI, (m + gc q f1 f2 m), .inl (goF q f1 f2 f2 f1 m))) := (ho_139 (n + 8) _ h_126 (ne_nn n (i := 8) (j := 4) rfl) (ne_nn n (i := 8) (j := 5) rfl) (ne_nn n (i := 8) (j := 6) rfl))
  have h_147 : hp_129 (n + 9) = some (.inl (cI, (m + gc q f1 f2 m), .inl (goF q f1 f2 nI nI m))) := (ho_139 (n + 9) _ h_127 (ne_nn n (i := 9) (j := 4) rfl) (ne_nn n (i := 9) (j := 5) rfl) (ne_nn n (i := 9) (j := 6) rfl))
  exact r_vret (pc := 160) dX3_init_160 rfl (⟨rfl, rfl, h_140, h_141, h_142, h_143, h_144, h_136, h_137, h_138, h_145, h_146, h_147, fun q e9 h9 n9_0 => have l9 := bd q e9 h9; (ho_139 q e9 (ho_128 q e9 ((ho_116 q n9_0).trans (hk_111 q e9 ((ho_108 q n9_0).trans (hk_103 q e9 ((ho_100 q n9_0).trans (hk_95 q e9 ((ho_92 q n9_0).trans (ho_88 q e9 ((ho_81 q n9_0).trans (hk_76 q e9 ((ho_73 q n9_0).trans (hk_68 q e9 ((ho_65 q n9_0).trans (hk_60 q e9 ((ho_57 q n9_0).trans (ho_53 q e9 ((ho_46 q n9_0).trans (ho_42 q e9 ((ho_35 q n9_0).trans (ho_31 q e9 ((ho_24 q n9_0).trans (ho_20 q e9 ((ho_13 q n9_0).trans ((ho_9 q n9_0).trans (ho_5 q e9 h9 n9_0))) )) )) )) )))))))) )))))))) (ne_an l9 7) (ne_an l9 8) (ne_an l9 9)) (ne_an l9 4) (ne_an l9 5) (ne_an l9 6))⟩)
