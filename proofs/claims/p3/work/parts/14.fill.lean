theorem lpN (P : Nat → Prop) (N : Nat) (h : ∀ i, i ≤ N → (∀ j, i < j → j ≤ N → P j) → P i) : ∀ i, i ≤ N → P i := by
  have key : ∀ k i, i ≤ N → N - i ≤ k → P i := by
    intro k
    induction k with
    | zero => intro i hi hk; exact h i hi (fun j h1 h2 => absurd h2 (by omega))
    | succ k ih => intro i hi hk; exact h i hi (fun j h1 h2 => ih j h2 (by omega))
  exact fun i hi => key (N - i) i hi (Nat.le_refl _)
theorem lpM {σ : Type} (P : σ → Prop) (μ : σ → Nat) (h : ∀ x, (∀ y, μ y < μ x → P y) → P x) : ∀ x, P x := by
  have key : ∀ k x, μ x ≤ k → P x := by
    intro k
    induction k with
    | zero => intro x hx; exact h x (fun y hy => absurd hy (by omega))
    | succ k ih => intro x hx; exact h x (fun y hy => ih y (by omega))
  exact fun x => key (μ x) x (Nat.le_refl _)
theorem fillL (f : Nat → Int64) (v : Int64) (i : Nat) : vp_updL (fun j => if j < i then v else f j) i v = fun j => if j < i + 1 then v else f j := by
  funext j
  by_cases h : j = i
  · subst h; simp [vp_updL]
  · have : (j < i + 1) ↔ (j < i) := by omega
    simp [vp_updL, h, this]
theorem fillI (f : Nat → Int32) (v : Int32) (i : Nat) : upd (fun j => if j < i then v else f j) i v = fun j => if j < i + 1 then v else f j := by
  funext j
  by_cases h : j = i
  · subst h; simp [upd]
  · have : (j < i + 1) ↔ (j < i) := by omega
    simp [upd, h, this]
set_option maxHeartbeats 4000000 in
set_option maxRecDepth 100000 in
theorem c_J7_fill_d0a16 {D : va_G} {cI cJ cZ cT : ClassId} {lo b L : Nat} {xs : Nat → Int32} {hp : MH} {n d : Nat} {a N : Nat} {f : Nat → Int64} {v : Int64} (hd0 : 0 ≤ d) (gc0 : hp a = some (.inl (cJ, N, .inr (.inl (f))))) (hN : N < 2 ^ 31) : Mt (gG D cI cJ cZ cT lo b L xs) mJ7_fill_d0a16 d 0 0 [.ref a, .long v] hp n (fun r hp1 n1 => r = none ∧ n1 = n ∧ hp1 a = some (.inl (cJ, N, .inr (.inl (fun j => if j < N then v else f j)))) ∧ ∀ (q : Nat) (e9 : va_E), hp q = some e9 → q ≠ a → hp1 q = some e9) := by
  refine Mt.of rfl (Nat.le_of_ble_eq_true rfl) ?_
  refine Rn.pick (lv' := [(0, .ref a), (1, .long v)]) [0, 1] rfl ?_
  refine r_iconst (pc := 0) (v := 0) dJ7_fill_d0a16_0 (by decide) ?_
  refine r_istore_n (pc := 1) (lv' := [(3, .int 0), (0, .ref a), (1, .long v)]) dJ7_fill_d0a16_1 (i := 3) rfl (by decide) rfl ?_
  refine r_aload_n (pc := 2) dJ7_fill_d0a16_2 (i := 0) rfl rfl ?_
  refine r_alen (pc := 3) (t0 := 1) dJ7_fill_d0a16_3 rfl gc0 ?_
  refine r_istore (pc := 4) (lv' := [(4, .int ((nI N))), (3, .int 0), (0, .ref a), (1, .long v)]) dJ7_fill_d0a16_4 (by decide) rfl ?_
  have lp : ∀ i : Nat, i ≤ N → ∀ hp2 : MH, hp2 a = some (.inl (cJ, N, .inr (.inl (fun j => if j < i then v else f j)))) → (∀ (q : Nat) (e9 : va_E), hp q = some e9 → q ≠ a → hp2 q = some e9) → Rn (gG D cI cJ cZ cT lo b L xs) mJ7_fill_d0a16 d 6 [(0, .ref a), (1, .long v), (3, .int ((nI i))), (4, .int ((nI N)))] [] hp2 n 0 0 (fun r hp1 n1 => r = none ∧ n1 = n ∧ hp1 a = some (.inl (cJ, N, .inr (.inl (fun j => if j < N then v else f j)))) ∧ ∀ (q : Nat) (e9 : va_E), hp q = some e9 → q ≠ a → hp1 q = some e9) := by
    refine lpN _ N ?_
    intro i hi ih hp2 w1 w2
    refine r_iload_n (pc := 6) dJ7_fill_d0a16_6 (i := 3) rfl rfl ?_
    refine r_iload (pc := 7) dJ7_fill_d0a16_7 rfl ?_
    refine r_icmp_ge (pc := 9) (tgt := 22) dJ7_fill_d0a16_9 (by decide) (fun c9 => ?_) (fun c9 => ?_)
    · have e9 : i = N := by have := (nI_leI (a := N) (b := i) (by omega) (by omega)).mp c9; omega
      subst e9
      exact r_vret (pc := 22) dJ7_fill_d0a16_22 rfl (⟨rfl, rfl, w1, fun q e9 h9 n9 => w2 q e9 h9 n9⟩)
    · have hlt : i < N := by have := mt (nI_leI (a := N) (b := i) (by omega) (by omega)).mpr c9; omega
      refine r_aload_n (pc := 12) dJ7_fill_d0a16_12 (i := 0) rfl rfl ?_
      refine r_iload_n (pc := 13) dJ7_fill_d0a16_13 (i := 3) rfl rfl ?_
      refine r_lload_n (pc := 14) dJ7_fill_d0a16_14 (i := 1) rfl rfl ?_
      refine w_last (pc := 15) (t0 := 1) (f' := fun j => if j < i + 1 then v else f j) dJ7_fill_d0a16_15 rfl w1 (vp_in_nI (by omega) (by omega)) (by rw [nI_clamp (by omega)]; exact fillL f v i) (fun hp_101 h_102 ho_103 => ?_)
      refine r_iinc (pc := 16) (v := (nI (i + 1))) (lv' := [(3, .int ((nI (i + 1)))), (0, .ref a), (1, .long v), (4, .int ((nI N)))]) dJ7_fill_d0a16_16 rfl (nI_1 i) (by decide) rfl ?_
      refine r_goto (pc := 19) (tgt := 6) dJ7_fill_d0a16_19 (by decide) ?_
      refine Rn.pick (lv' := [(0, .ref a), (1, .long v), (3, .int ((nI (i + 1)))), (4, .int ((nI N)))]) [1, 2, 0, 3] rfl ?_
      exact ih (i + 1) (by omega) (by omega) _ h_102 (fun q e9 h9 n9 => (ho_103 q n9).trans (w2 q e9 h9 n9))
  refine Rn.pick (lv' := [(0, .ref a), (1, .long v), (3, .int ((nI 0))), (4, .int ((nI N)))]) [2, 3, 1, 0] rfl ?_
  exact lp 0 (Nat.zero_le _) hp (by simpa using gc0) (fun q e9 h9 _ => h9)
set_option maxHeartbeats 4000000 in
set_option maxRecDepth 100000 in
theorem c_J7_fill_53178 {D : va_G} {cI cJ cZ cT : ClassId} {lo b L : Nat} {xs : Nat → Int32} {hp : MH} {n d : Nat} {a N : Nat} {f : Nat → Int32} {v : Int32} (hd0 : 0 ≤ d) (gc0 : hp a = some (.inl (cI, N, .inl (f)))) (hN : N < 2 ^ 31) : Mt (gG D cI cJ cZ cT lo b L xs) mJ7_fill_53178 d 0 0 [.ref a, .int v] hp n (fun r hp1 n1 => r = none ∧ n1 = n ∧ hp1 a = some (.inl (cI, N, .inl (fun j => if j < N then v else f j))) ∧ ∀ (q : Nat) (e9 : va_E), hp q = some e9 → q ≠ a → hp1 q = some e9) := by
  refine Mt.of rfl (Nat.le_of_ble_eq_true rfl) ?_
  refine Rn.pick (lv' := [(0, .ref a), (1, .int v)]) [0, 1] rfl ?_
  refine r_iconst (pc := 0) (v := 0) dJ7_fill_53178_0 (by decide) ?_
  refine r_istore_n (pc := 1) (lv' := [(2, .int 0), (0, .ref a), (1, .int v)]) dJ7_fill_53178_1 (i := 2) rfl (by decide) rfl ?_
  refine r_aload_n (pc := 2) dJ7_fill_53178_2 (i := 0) rfl rfl ?_
  refine r_alen (pc := 3) (t0 := 0) dJ7_fill_53178_3 rfl gc0 ?_
  refine r_istore_n (pc := 4) (lv' := [(3, .int ((nI N))), (2, .int 0), (0, .ref a), (1, .int v)]) dJ7_fill_53178_4 (i := 3) rfl (by decide) rfl ?_
  have lp : ∀ i : Nat, i ≤ N → ∀ hp2 : MH, hp2 a = some (.inl (cI, N, .inl (fun j => if j < i then v else f j))) → (∀ (q : Nat) (e9 : va_E), hp q = some e9 → q ≠ a → hp2 q = some e9) → Rn (gG D cI cJ cZ cT lo b L xs) mJ7_fill_53178 d 5 [(0, .ref a), (1, .int v), (2, .int ((nI i))), (3, .int ((nI N)))] [] hp2 n 0 0 (fun r hp1 n1 => r = none ∧ n1 = n ∧ hp1 a = some (.inl (cI, N, .inl (fun j => if j < N then v else f j))) ∧ ∀ (q : Nat) (e9 : va_E), hp q = some e9 → q ≠ a → hp1 q = some e9) := by
    refine lpN _ N ?_
    intro i hi ih hp2 w1 w2
    refine r_iload_n (pc := 5) dJ7_fill_53178_5 (i := 2) rfl rfl ?_
    refine r_iload_n (pc := 6) dJ7_fill_53178_6 (i := 3) rfl rfl ?_
    refine r_icmp_ge (pc := 7) (tgt := 20) dJ7_fill_53178_7 (by decide) (fun c7 => ?_) (fun c7 => ?_)
    · have e9 : i = N := by have := (nI_leI (a := N) (b := i) (by omega) (by omega)).mp c7; omega
      subst e9
      exact r_vret (pc := 20) dJ7_fill_53178_20 rfl (⟨rfl, rfl, w1, fun q e9 h9 n9 => w2 q e9 h9 n9⟩)
    · have hlt : i < N := by have := mt (nI_leI (a := N) (b := i) (by omega) (by omega)).mpr c7; omega
      refine r_aload_n (pc := 10) dJ7_fill_53178_10 (i := 0) rfl rfl ?_
      refine r_iload_n (pc := 11) dJ7_fill_53178_11 (i := 2) rfl rfl ?_
      refine r_iload_n (pc := 12) dJ7_fill_53178_12 (i := 1) rfl rfl ?_
      refine w_iast (pc := 13) (t0 := 0) (f' := fun j => if j < i + 1 then v else f j) dJ7_fill_53178_13 rfl w1 (vp_in_nI (by omega) (by omega)) (by rw [nI_clamp (by omega)]; exact fillI f v i) (fun hp_101 h_102 ho_103 => ?_)
      refine r_iinc (pc := 14) (v := (nI (i + 1))) (lv' := [(2, .int ((nI (i + 1)))), (0, .ref a), (1, .int v), (3, .int ((nI N)))]) dJ7_fill_53178_14 rfl (nI_1 i) (by decide) rfl ?_
      refine r_goto (pc := 17) (tgt := 5) dJ7_fill_53178_17 (by decide) ?_
      refine Rn.pick (lv' := [(0, .ref a), (1, .int v), (2, .int ((nI (i + 1)))), (3, .int ((nI N)))]) [1, 2, 0, 3] rfl ?_
      exact ih (i + 1) (by omega) (by omega) _ h_102 (fun q e9 h9 n9 => (ho_103 q n9).trans (w2 q e9 h9 n9))
  refine Rn.pick (lv' := [(0, .ref a), (1, .int v), (2, .int ((nI 0))), (3, .int ((nI N)))]) [2, 3, 1, 0] rfl ?_
  exact lp 0 (Nat.zero_le _) hp (by simpa using gc0) (fun q e9 h9 _ => h9)
