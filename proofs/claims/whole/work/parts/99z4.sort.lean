abbrev yTs : MethodName := ⟨"GraphEngine$Thing", "sortNumber", "()I"⟩
def lkT (G : MG) (own : String) (ix : Nat) (C : String) (M' : MM) : Prop := (g_ws G).all goodWord = true ∧ Cond.methodLink own ix yTs ∈ g_ws G ∧ Cond.sameMethod yTs.cls yTs.cls yTs.name yTs.desc ∈ g_ws G ∧ Cond.selects C yTs M'.1 ∈ g_ws G ∧ Cond.instanceMethod M'.1 ∈ g_ws G ∧ Cond.initialized M'.1.cls ∈ g_ws G ∧ Cond.code M'.1 M'.2.1 M'.2.2.1 M'.2.2.2 ∈ g_ws G ∧ M'.2.2.1 ≤ 45
theorem r_callT {G : MG} {M : MM} {d pc : Nat} {lv : List (Nat × Value)} {st : List Value} {hp : MH} {n kr wr : Nat} {Po : Option Value → MH → Nat → Prop} {ix d' b ci : Nat} {q : vw_C} {fs : List Value} {M' : MM} {Po' : Option Value → MH → Nat → Prop} (F : lkT G M.1.cls ix q.1 M') (hov : "GraphEngine$Thing" ∈ g_ao G) (hc : (g_cl G)[ci]? = some q) (hd : decode M.2.1 pc = .ok (.invokevirtual ix, 3)) (hb : hp b = some (.inr (ci, fs))) (hm : Mt G M' d' 0 0 [.ref b] hp n Po') (hdd : d' + 1 ≤ d) (hst : (st.map fun v => v.category).sum ≤ 8) (k : ∀ (r : Option Value) (hp1 : MH) (n1 : Nat), Po' r hp1 n1 → Rn G M d (pc + 3) lv (r.toList ++ st) hp1 n1 (kr - 0) (wr - 0) Po) : Rn G M d pc lv (.ref b :: st) hp n kr wr Po := by
  intro p l e s m args below meth c H locs cells slots mc ms ls C hl hw hS h1 h2
  obtain ⟨f1, f2, f3, f4, f5, f6, f7, f8⟩ := F
  have hG : GoodIn (g_ws G) (va_wsU M.1.cls ix q.1 yTs.cls yTs M'.1 (g_cw G M')) := gw_in f1 (fun w hw => by
    rcases List.mem_append.mp hw with h | h
    · simp only [List.mem_cons, List.not_mem_nil, or_false] at h
      rcases h with rfl | rfl | rfl | rfl | rfl
      · exact f2
      · exact f3
      · exact f4
      · exact f5
      · exact f6
    · rcases List.mem_cons.mp h with rfl | h
      · exact f7
      · exact h)
  have hpre := pre_of (as := [.ref b]) C hw hS
  have hz : va_Nw (.declares yTs) s := (C.k.2.2.2.1 _ hov).2
  exact run_to C hl hS h1 h2 (Nat.zero_le _) (Nat.zero_le _) (va_runU (x := yTs) (C := q.1) (owner := yTs.cls) (As := []) (rest := st) ⟨C.1, C.2.1, C.2.2.1, C.own, fun w h => C.ts h⟩ (hm l) (va_cwA 0 (fun w h => C.ts h) hG rfl rfl rfl hz ⟨by decide, by decide, by decide +kernel⟩ ⟨by show d' + 1 + 1 ≤ d + 1; omega, by show 8 + (M'.2.2.1 + 11) + 64 * (d' + 1) ≤ 64 * (d + 1); omega⟩) ⟨hpre.1, mw.recv C.k hw hc hb, hpre.2⟩ rfl rfl hl.1 rfl (lv_room hst) hd ⟨by show _ ≤ mc; omega, by show _ ≤ ms; omega⟩) k
section TSN
variable {X : va_G × List (ClassId × FieldType) × (Nat × Nat × Nat × (Nat → Int32))}
theorem kT_X3 : lkT (gS, X) RX11 206 RX3 mX3_sortNumber := ⟨tb_good, (tb_t (k := 773) (w := Cond.methodLink RX11 206 yTs) (by decide +kernel)), (tb_t (k := 775) (w := Cond.sameMethod yTs.cls yTs.cls yTs.name yTs.desc) (by decide +kernel)), (tb_t (k := 779) (w := Cond.selects RX3 yTs yX3_sortNumber) (by decide +kernel)), (tb_t (k := 780) (w := Cond.instanceMethod yX3_sortNumber) (by decide +kernel)), (tb_t (k := 10) (w := Cond.initialized RX3) (by decide +kernel)), (tb_t (k := 781) (w := Cond.code yX3_sortNumber cX3_sortNumber 1 (some .int)) (by decide +kernel)), by decide⟩
theorem kT_X0 : lkT (gS, X) RX11 206 RX0 mX0_sortNumber := ⟨tb_good, (tb_t (k := 773) (w := Cond.methodLink RX11 206 yTs) (by decide +kernel)), (tb_t (k := 775) (w := Cond.sameMethod yTs.cls yTs.cls yTs.name yTs.desc) (by decide +kernel)), (tb_t (k := 776) (w := Cond.selects RX0 yTs yX0_sortNumber) (by decide +kernel)), (tb_t (k := 777) (w := Cond.instanceMethod yX0_sortNumber) (by decide +kernel)), (tb_t (k := 15) (w := Cond.initialized RX0) (by decide +kernel)), (tb_t (k := 778) (w := Cond.code yX0_sortNumber cX0_sortNumber 1 (some .int)) (by decide +kernel)), by decide⟩
theorem kT_X10 : lkT (gS, X) RX11 206 RX10 mX10_sortNumber := ⟨tb_good, (tb_t (k := 773) (w := Cond.methodLink RX11 206 yTs) (by decide +kernel)), (tb_t (k := 775) (w := Cond.sameMethod yTs.cls yTs.cls yTs.name yTs.desc) (by decide +kernel)), (tb_t (k := 785) (w := Cond.selects RX10 yTs yX10_sortNumber) (by decide +kernel)), (tb_t (k := 786) (w := Cond.instanceMethod yX10_sortNumber) (by decide +kernel)), (tb_t (k := 16) (w := Cond.initialized RX10) (by decide +kernel)), (tb_t (k := 787) (w := Cond.code yX10_sortNumber cX10_sortNumber 1 (some .int)) (by decide +kernel)), by decide⟩
theorem kT_X5 : lkT (gS, X) RX11 206 RX5 mX5_sortNumber := ⟨tb_good, (tb_t (k := 773) (w := Cond.methodLink RX11 206 yTs) (by decide +kernel)), (tb_t (k := 775) (w := Cond.sameMethod yTs.cls yTs.cls yTs.name yTs.desc) (by decide +kernel)), (tb_t (k := 782) (w := Cond.selects RX5 yTs yX5_sortNumber) (by decide +kernel)), (tb_t (k := 783) (w := Cond.instanceMethod yX5_sortNumber) (by decide +kernel)), (tb_t (k := 17) (w := Cond.initialized RX5) (by decide +kernel)), (tb_t (k := 784) (w := Cond.code yX5_sortNumber cX5_sortNumber 1 (some .int)) (by decide +kernel)), by decide⟩
end TSN
set_option maxHeartbeats 4000000 in
set_option maxRecDepth 100000 in
theorem t_X3_sortNumber {D : va_G} {cI cJ cZ cT : ClassId} {lo b L : Nat} {xs : Nat → Int32} {hp : MH} {n d : Nat} {Γ : TG} {t : Nat} (hd0 : 0 ≤ d) (ht : Tw Γ hp) : Mt (gG D cI cJ cZ cT lo b L xs) mX3_sortNumber d 0 0 [.ref t] hp n (pI Γ n (fun r => r = 1)) := by
  refine Mt.of rfl (Nat.le_of_ble_eq_true rfl) ?_
  refine Rn.pick (lv' := [(0, .ref t)]) [0] rfl ?_
  refine r_iconst (pc := 0) (v := iv 1) dX3_sortNumber_0 (by decide) ?_
  exact r_iret (pc := 1) dX3_sortNumber_1 rfl ⟨rfl, ht, _, rfl, rfl⟩
set_option maxHeartbeats 4000000 in
set_option maxRecDepth 100000 in
theorem t_X0_sortNumber {D : va_G} {cI cJ cZ cT : ClassId} {lo b L : Nat} {xs : Nat → Int32} {hp : MH} {n d : Nat} {Γ : TG} {t : Nat} (hd0 : 0 ≤ d) (ht : Tw Γ hp) : Mt (gG D cI cJ cZ cT lo b L xs) mX0_sortNumber d 0 0 [.ref t] hp n (pI Γ n (fun r => r = 2)) := by
  refine Mt.of rfl (Nat.le_of_ble_eq_true rfl) ?_
  refine Rn.pick (lv' := [(0, .ref t)]) [0] rfl ?_
  refine r_iconst (pc := 0) (v := iv 2) dX0_sortNumber_0 (by decide) ?_
  exact r_iret (pc := 1) dX0_sortNumber_1 rfl ⟨rfl, ht, _, rfl, rfl⟩
set_option maxHeartbeats 4000000 in
set_option maxRecDepth 100000 in
theorem t_X10_sortNumber {D : va_G} {cI cJ cZ cT : ClassId} {lo b L : Nat} {xs : Nat → Int32} {hp : MH} {n d : Nat} {Γ : TG} {t : Nat} (hd0 : 0 ≤ d) (ht : Tw Γ hp) : Mt (gG D cI cJ cZ cT lo b L xs) mX10_sortNumber d 0 0 [.ref t] hp n (pI Γ n (fun r => r = 3)) := by
  refine Mt.of rfl (Nat.le_of_ble_eq_true rfl) ?_
  refine Rn.pick (lv' := [(0, .ref t)]) [0] rfl ?_
  refine r_iconst (pc := 0) (v := iv 3) dX10_sortNumber_0 (by decide) ?_
  exact r_iret (pc := 1) dX10_sortNumber_1 rfl ⟨rfl, ht, _, rfl, rfl⟩
set_option maxHeartbeats 4000000 in
set_option maxRecDepth 100000 in
theorem t_X5_sortNumber {D : va_G} {cI cJ cZ cT : ClassId} {lo b L : Nat} {xs : Nat → Int32} {hp : MH} {n d : Nat} {Γ : TG} {t : Nat} (hd0 : 0 ≤ d) (ht : Tw Γ hp) : Mt (gG D cI cJ cZ cT lo b L xs) mX5_sortNumber d 0 0 [.ref t] hp n (pI Γ n (fun r => r = 4)) := by
  refine Mt.of rfl (Nat.le_of_ble_eq_true rfl) ?_
  refine Rn.pick (lv' := [(0, .ref t)]) [0] rfl ?_
  refine r_iconst (pc := 0) (v := iv 4) dX5_sortNumber_0 (by decide) ?_
  exact r_iret (pc := 1) dX5_sortNumber_1 rfl ⟨rfl, ht, _, rfl, rfl⟩
theorem t_sortNumber {D : va_G} {cI cJ cZ cT : ClassId} {lo b L : Nat} {xs : Nat → Int32} {M : MM} {d pc : Nat} {lv : List (Nat × Value)} {st : List Value} {hp : MH} {n kr wr : Nat} {Po : Option Value → MH → Nat → Prop} {Γ : TG} {a : Nat} {ct : Int} {rv : Int} {th : Nat → Option Nat} {dn : Int} {dd : Int} {da : Int} {df : Nat → Int} {dt : Nat → Int} {dw : Nat → Int} {dc : Nat → Int} {kn : Int} {kd : Int} {ka : Int} {kf : Nat → Int} {kt : Nat → Int} {kw : Nat → Int} {kc : Nat → Int} {t : Nat} (hT : ThA Γ cI cJ cZ a t) (ht : Tw (CG Γ cI cJ cZ cT a ct rv th dn dd da df dt dw dc kn kd ka kf kt kw kc) hp) (hM : M.1.cls = RX11) (hd : decode M.2.1 pc = .ok (.invokevirtual 206, 3)) (hdd : 1 ≤ d) (hst : (st.map fun v => v.category).sum ≤ 8) (kk : ∀ (hp1 : MH) (y : Int), Tw (CG Γ cI cJ cZ cT a ct rv th dn dd da df dt dw dc kn kd ka kf kt kw kc) hp1 → (1 ≤ y ∧ y ≤ 4) → Rn (gG D cI cJ cZ cT lo b L xs) M d (pc + 3) lv (.int (iv y) :: st) hp1 n kr wr Po) : Rn (gG D cI cJ cZ cT lo b L xs) M d pc lv (.ref t :: st) hp n kr wr Po := by
  rcases hT with hT | hT | hT | hT
  · obtain ⟨v0, v1, v2, v3, v4, v5, v6, v7, v8, v9, v10, v11, v12, v13, hob⟩ := ThG_obj ht hT
    refine r_callT (pc := pc) (q := (RX3, TX3, 14)) (by rw [hM]; exact kT_X3) (show "GraphEngine$Thing" ∈ aos by decide) rfl hd hob (t_X3_sortNumber (d := d - 1) (by omega) ht) (by omega) hst (fun r hp1 n1 hq => ?_)
    obtain ⟨rfl, h2, y, rfl, rfl⟩ := hq
    exact kk hp1 _ h2 (by decide)
  · obtain ⟨v0, v1, hob⟩ := ThC_obj ht hT
    refine r_callT (pc := pc) (q := (RX0, TX0, 2)) (by rw [hM]; exact kT_X0) (show "GraphEngine$Thing" ∈ aos by decide) rfl hd hob (t_X0_sortNumber (d := d - 1) (by omega) ht) (by omega) hst (fun r hp1 n1 hq => ?_)
    obtain ⟨rfl, h2, y, rfl, rfl⟩ := hq
    exact kk hp1 _ h2 (by decide)
  · obtain ⟨v0, v1, v2, v3, v4, v5, hob⟩ := ThW_obj ht hT
    refine r_callT (pc := pc) (q := (RX10, TX10, 6)) (by rw [hM]; exact kT_X10) (show "GraphEngine$Thing" ∈ aos by decide) rfl hd hob (t_X10_sortNumber (d := d - 1) (by omega) ht) (by omega) hst (fun r hp1 n1 hq => ?_)
    obtain ⟨rfl, h2, y, rfl, rfl⟩ := hq
    exact kk hp1 _ h2 (by decide)
  · obtain ⟨v0, v1, v2, v3, hob⟩ := ThQ_obj ht hT
    refine r_callT (pc := pc) (q := (RX5, TX5, 4)) (by rw [hM]; exact kT_X5) (show "GraphEngine$Thing" ∈ aos by decide) rfl hd hob (t_X5_sortNumber (d := d - 1) (by omega) ht) (by omega) hst (fun r hp1 n1 hq => ?_)
    obtain ⟨rfl, h2, y, rfl, rfl⟩ := hq
    exact kk hp1 _ h2 (by decide)
set_option maxHeartbeats 4000000 in
set_option maxRecDepth 100000 in
theorem e_X11_sort {D : va_G} {cI cJ cZ cT : ClassId} {lo b L : Nat} {xs : Nat → Int32} {hp : MH} {n d : Nat} {Γ : TG} {a : Nat} {ct : Int} {rv : Int} {th : Nat → Option Nat} {dn : Int} {dd : Int} {da : Int} {df : Nat → Int} {dt : Nat → Int} {dw : Nat → Int} {dc : Nat → Int} {kn : Int} {kd : Int} {ka : Int} {kf : Nat → Int} {kt : Nat → Int} {kw : Nat → Int} {kc : Nat → Int} {x1 : Int} (hd0 : 3 ≤ d) (hk : EK Γ cI cJ cZ a ct th dn dd da df dt dw dc kn kd ka) (hrv : -2147483648 ≤ rv ∧ rv ≤ 2147483647) (hna : a + 84 ≤ n) (ht : Tw (CG Γ cI cJ cZ cT a ct rv th dn dd da df dt dw dc kn kd ka kf kt kw kc) hp) (hx1 : (-2147483648) ≤ x1 ∧ x1 ≤ 2147483647) : Mt (gG D cI cJ cZ cT lo b L xs) mX11_sort d 0 0 [.ref a, .int (iv x1)] hp n (qE Γ cI cJ cZ cT a dn dd da df dt dw dc n (qI (-2147483648) 2147483647)) := by
  refine Mt.of rfl (Nat.le_of_ble_eq_true rfl) ?_
  refine Rn.pick (lv' := [(0, .ref a), (1, .int (iv x1))]) [0, 1] rfl ?_
  obtain ⟨hct, hth, ⟨hdn, hdd1, hda, har⟩, ⟨hkn, hkd, hka⟩, hsh, hse, hpr, hfl, hsm⟩ := id hk
  refine r_aload_n (pc := 0) dX11_sort_0 (i := 0) rfl rfl ?_
  refine r_iconst (pc := 1) (v := iv 0) dX11_sort_1 (by decide) ?_
  refine t_putX (pc := 2) (ty := .int) ht CG_0 fX11_19 tyX11 tyX11_ok nmX11 (by decide +kernel) (Or.inl rfl) dX11_sort_2 (Nat.le_of_ble_eq_true rfl) rfl rfl rfl (fun hp1 ht2 => ?_)
  have ht3 := RGw_rv ht2
  refine r_aload_n (pc := 5) dX11_sort_5 (i := 0) rfl rfl ?_
  refine r_iload_n (pc := 6) dX11_sort_6 (i := 1) rfl rfl ?_
  refine t_thingAt (pc := 7) (x := x1) (st := []) hk ht3 kX11_199 dX11_sort_7 (by omega) (Nat.le_of_ble_eq_true rfl) (by omega) (fun hp4 ht5 => ?_) (fun hp4 t1 ht5 hT1 => ?_)
  · refine r_astore_nN (pc := 10) (lv' := [(2, .null), (0, .ref a), (1, .int (iv x1))]) dX11_sort_10 (i := 2) rfl (by decide) rfl ?_
    refine r_aload_nN (pc := 11) dX11_sort_11 (i := 2) rfl rfl ?_
    refine r_ifnonnullN (pc := 12) dX11_sort_12 ?_
    refine r_aload_n (pc := 15) dX11_sort_15 (i := 0) rfl rfl ?_
    refine r_iconst (pc := 16) (v := iv (-1)) dX11_sort_16 (by decide) ?_
    obtain ⟨fs10, hfs10⟩ := t_obj ht5 (rd_of CG_0)
    refine r_callV (pc := 17) (as := [.int (iv (-1))]) (st := []) kX11_203 rfl dX11_sort_17 hfs10 (s_X11_deny (d := d - 1) (x1 := (-1)) (by omega)  ht5 (by omega)) rfl (by omega) (Nat.le_of_ble_eq_true rfl) (Nat.zero_le _) (Nat.zero_le _) rfl (fun r7 hp6 n8 hq9 => ?_)
    obtain ⟨hnn8, ht11, hrr7⟩ := hq9
    subst n8 r7
    change Rn _ _ _ 20 _ [.int (iv 0)] _ _ _ _ _
    refine r_goto (pc := 20) (tgt := 27) dX11_sort_20 (by decide) ?_
    exact r_iret (pc := 27) dX11_sort_27 rfl ⟨by omega, Γ, ct, (-1), th, kn, kd, ka, kf, kt, kw, kc, (Ext_refl Γ), ht11, hk, by omega, ⟨_, rfl, by omega, by omega⟩⟩
  · refine r_astore_n (pc := 10) (lv' := [(2, .ref t1), (0, .ref a), (1, .int (iv x1))]) dX11_sort_10 (i := 2) rfl (by decide) rfl ?_
    refine r_aload_n (pc := 11) dX11_sort_11 (i := 2) rfl rfl ?_
    refine r_ifnonnull (pc := 12) (tgt := 23) dX11_sort_12 (by decide) ?_
    refine r_aload_n (pc := 23) dX11_sort_23 (i := 2) rfl rfl ?_
    refine t_sortNumber (pc := 24) (st := []) hT1 ht5 rfl dX11_sort_24 (by omega) (Nat.le_of_ble_eq_true rfl) (fun hp13 y12 ht14 by12 => ?_)
    exact r_iret (pc := 27) dX11_sort_27 rfl ⟨by omega, Γ, ct, 0, th, kn, kd, ka, kf, kt, kw, kc, (Ext_refl Γ), ht14, hk, by omega, ⟨_, rfl, by omega, by omega⟩⟩
