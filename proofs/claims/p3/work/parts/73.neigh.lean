def nbF (A B : Nat → Nat) : Nat → (Nat → Int32)
  | 0 => fun _ => 0
  | k + 1 => upd (nbF A B k) (A k) (nbF A B k (A k) ||| (1 <<< (nI (B k) &&& 31)))
def joF (A B : Nat → Nat) : Nat → (Nat → Int32)
  | 0 => fun _ => 0
  | k + 1 => if A k = B k then joF A B k else upd (upd (joF A B k) (A k) (joF A B k (A k) ||| (1 <<< (nI (B k) &&& 31)))) (B k) (joF A B k (B k) ||| (1 <<< (nI (A k) &&& 31)))
theorem joF_e {A B : Nat → Nat} {k : Nat} (h : A k = B k) : joF A B (k + 1) = joF A B k := by simp only [joF]; rw [if_pos h]
theorem joF_n {A B : Nat → Nat} {k : Nat} (h : A k ≠ B k) : joF A B (k + 1) = upd (upd (joF A B k) (A k) (joF A B k (A k) ||| (1 <<< (nI (B k) &&& 31)))) (B k) (joF A B k (B k) ||| (1 <<< (nI (A k) &&& 31))) := by simp only [joF]; rw [if_neg h]
set_option maxHeartbeats 4000000 in
set_option maxRecDepth 100000 in
theorem c_X3_fillNeighbours {D : va_G} {cI cJ cZ cT : ClassId} {lo b L : Nat} {xs : Nat → Int32} {hp : MH} {n d : Nat} {a r3 r4 r5 r6 r8 r9 r10 r11 r12 r13 g N : Nat} {x0 x1 x2 : Int32} {tl hd : Nat → Int32} {A B : Nat → Nat} (hd0 : 0 ≤ d) (gc0 : hp a = some (.inr (3, [.int x0, .int x1, .int x2, .ref r3, .ref r4, .ref r5, .ref r6, .int ((nI g)), .ref r8, .ref r9, .ref r10, .ref r11, .ref r12, .ref r13]))) (gc1 : hp r8 = some (.inl (cI, g, .inl (tl)))) (gc2 : hp r9 = some (.inl (cI, g, .inl (hd)))) (gc3 : hp r11 = some (.inl (cI, N, .inl (fun _ => 0)))) (gc4 : hp r12 = some (.inl (cI, N, .inl (fun _ => 0)))) (gc5 : hp r13 = some (.inl (cI, N, .inl (fun _ => 0)))) (hg : g ≤ 120) (hN : N ≤ 16) (hA : ∀ k, k < g → tl k = nI (A k) ∧ A k < N) (hB : ∀ k, k < g → hd k = nI (B k) ∧ B k < N) (m01 : r8 ≠ r9) (m02 : r8 ≠ r11) (m03 : r8 ≠ r12) (m04 : r8 ≠ r13) (m12 : r9 ≠ r11) (m13 : r9 ≠ r12) (m14 : r9 ≠ r13) (m23 : r11 ≠ r12) (m24 : r11 ≠ r13) (m34 : r12 ≠ r13) : Mt (gG D cI cJ cZ cT lo b L xs) mX3_fillNeighbours d 0 0 [.ref a] hp n (fun r hp1 n1 => r = none ∧ n1 = n ∧ hp1 r11 = some (.inl (cI, N, .inl (nbF A B g))) ∧ hp1 r12 = some (.inl (cI, N, .inl (nbF B A g))) ∧ hp1 r13 = some (.inl (cI, N, .inl (joF A B g))) ∧ ∀ (q : Nat) (e9 : va_E), hp q = some e9 → q ≠ r11 → q ≠ r12 → q ≠ r13 → hp1 q = some e9) := by
  refine Mt.of rfl (Nat.le_of_ble_eq_true rfl) ?_
  refine Rn.pick (lv' := [(0, .ref a)]) [0] rfl ?_
  refine r_iconst (pc := 0) (v := 0) dX3_fillNeighbours_0 (by decide) ?_
  refine r_istore_n (pc := 1) (lv' := [(1, .int 0), (0, .ref a)]) dX3_fillNeighbours_1 (i := 1) rfl (by decide) rfl ?_
  have lp : ∀ k : Nat, k ≤ g → ∀ hp2 : MH, hp2 a = some (.inr (3, [.int x0, .int x1, .int x2, .ref r3, .ref r4, .ref r5, .ref r6, .int ((nI g)), .ref r8, .ref r9, .ref r10, .ref r11, .ref r12, .ref r13])) → hp2 r8 = some (.inl (cI, g, .inl (tl))) → hp2 r9 = some (.inl (cI, g, .inl (hd))) → hp2 r11 = some (.inl (cI, N, .inl (nbF A B k))) → hp2 r12 = some (.inl (cI, N, .inl (nbF B A k))) → hp2 r13 = some (.inl (cI, N, .inl (joF A B k))) → (∀ (q : Nat) (e9 : va_E), hp q = some e9 → q ≠ r11 → q ≠ r12 → q ≠ r13 → hp2 q = some e9) → Rn (gG D cI cJ cZ cT lo b L xs) mX3_fillNeighbours d 2 [(0, .ref a), (1, .int ((nI k)))] [] hp2 n 0 0 (fun r hp1 n1 => r = none ∧ n1 = n ∧ hp1 r11 = some (.inl (cI, N, .inl (nbF A B g))) ∧ hp1 r12 = some (.inl (cI, N, .inl (nbF B A g))) ∧ hp1 r13 = some (.inl (cI, N, .inl (joF A B g))) ∧ ∀ (q : Nat) (e9 : va_E), hp q = some e9 → q ≠ r11 → q ≠ r12 → q ≠ r13 → hp1 q = some e9) := by
    refine lpN _ g ?_
    intro k hk ih hp2 w0 w1 w2 w3 w4 w5 w6
    refine r_iload_n (pc := 2) dX3_fillNeighbours_2 (i := 1) rfl rfl ?_
    refine r_aload_n (pc := 3) dX3_fillNeighbours_3 (i := 0) rfl rfl ?_
    refine r_get (pc := 4) (v := .int ((nI g))) fX3_63 dX3_fillNeighbours_4 w0 rfl ?_
    refine r_icmp_ge (pc := 7) (tgt := 83) dX3_fillNeighbours_7 (by decide) (fun c7 => ?_) (fun c7 => ?_)
    · have e9 : k = g := by have := (nI_leI (a := g) (b := k) (by omega) (by omega)).mp c7; omega
      subst e9
      exact r_vret (pc := 83) dX3_fillNeighbours_83 rfl (⟨rfl, rfl, w3, w4, w5, w6⟩)
    · have hlt : k < g := by have := mt (nI_leI (a := g) (b := k) (by omega) (by omega)).mpr c7; omega
      obtain ⟨eA, lA⟩ := hA k hlt
      obtain ⟨eB, lB⟩ := hB k hlt
      refine r_aload_n (pc := 10) dX3_fillNeighbours_10 (i := 0) rfl rfl ?_
      refine r_get (pc := 11) (v := .ref r8) fX3_66 dX3_fillNeighbours_11 w0 rfl ?_
      refine r_iload_n (pc := 14) dX3_fillNeighbours_14 (i := 1) rfl rfl ?_
      refine w_iald (pc := 15) (t0 := 0) (v := (nI (A k))) dX3_fillNeighbours_15 rfl w1 (vp_in_nI (by omega) (by omega)) (by rw [nI_clamp (by omega)]; exact eA) ?_
      refine r_istore_n (pc := 16) (lv' := [(2, .int ((nI (A k)))), (0, .ref a), (1, .int ((nI k)))]) dX3_fillNeighbours_16 (i := 2) rfl (by decide) rfl ?_
      refine r_aload_n (pc := 17) dX3_fillNeighbours_17 (i := 0) rfl rfl ?_
      refine r_get (pc := 18) (v := .ref r9) fX3_69 dX3_fillNeighbours_18 w0 rfl ?_
      refine r_iload_n (pc := 21) dX3_fillNeighbours_21 (i := 1) rfl rfl ?_
      refine w_iald (pc := 22) (t0 := 0) (v := (nI (B k))) dX3_fillNeighbours_22 rfl w2 (vp_in_nI (by omega) (by omega)) (by rw [nI_clamp (by omega)]; exact eB) ?_
      refine r_istore_n (pc := 23) (lv' := [(3, .int ((nI (B k)))), (2, .int ((nI (A k)))), (0, .ref a), (1, .int ((nI k)))]) dX3_fillNeighbours_23 (i := 3) rfl (by decide) rfl ?_
      refine r_aload_n (pc := 24) dX3_fillNeighbours_24 (i := 0) rfl rfl ?_
      refine r_get (pc := 25) (v := .ref r11) fX3_50 dX3_fillNeighbours_25 w0 rfl ?_
      refine r_iload_n (pc := 28) dX3_fillNeighbours_28 (i := 2) rfl rfl ?_
      refine r_dup2_11 (pc := 29) dX3_fillNeighbours_29 rfl rfl ?_
      refine w_iald (pc := 30) (t0 := 0) (v := (nbF A B k (A k))) dX3_fillNeighbours_30 rfl w3 (vp_in_nI (by omega) (by omega)) (by rw [nI_clamp (by omega)]) ?_
      refine r_iconst (pc := 31) (v := 1) dX3_fillNeighbours_31 (by decide) ?_
      refine r_iload_n (pc := 32) dX3_fillNeighbours_32 (i := 3) rfl rfl ?_
      refine r_ishl (pc := 33) (v := (1 <<< ((nI (B k)) &&& 31))) dX3_fillNeighbours_33 (rfl) ?_
      refine r_ior (pc := 34) (v := ((nbF A B k (A k)) ||| (1 <<< ((nI (B k)) &&& 31)))) dX3_fillNeighbours_34 (rfl) ?_
      refine w_iast (pc := 35) (t0 := 0) (f' := nbF A B (k + 1)) dX3_fillNeighbours_35 rfl w3 (vp_in_nI (by omega) (by omega)) (by rw [nI_clamp (by omega)]; rfl) (fun hp_101 h_102 ho_103 => ?_)
      refine r_aload_n (pc := 36) dX3_fillNeighbours_36 (i := 0) rfl rfl ?_
      have h_104 : hp_101 a = some (.inr (3, [.int x0, .int x1, .int x2, .ref r3, .ref r4, .ref r5, .ref r6, .int ((nI g)), .ref r8, .ref r9, .ref r10, .ref r11, .ref r12, .ref r13])) := ((ho_103 a (ne_c w0 w3 (by intro h9; cases h9))).trans w0)
      refine r_get (pc := 37) (v := .ref r12) fX3_53 dX3_fillNeighbours_37 h_104 rfl ?_
      refine r_iload_n (pc := 40) dX3_fillNeighbours_40 (i := 3) rfl rfl ?_
      refine r_dup2_11 (pc := 41) dX3_fillNeighbours_41 rfl rfl ?_
      have h_105 : hp_101 r12 = some (.inl (cI, N, .inl (nbF B A k))) := ((ho_103 r12 (Ne.symm m23)).trans w4)
      refine w_iald (pc := 42) (t0 := 0) (v := (nbF B A k (B k))) dX3_fillNeighbours_42 rfl h_105 (vp_in_nI (by omega) (by omega)) (by rw [nI_clamp (by omega)]) ?_
      refine r_iconst (pc := 43) (v := 1) dX3_fillNeighbours_43 (by decide) ?_
      refine r_iload_n (pc := 44) dX3_fillNeighbours_44 (i := 2) rfl rfl ?_
      refine r_ishl (pc := 45) (v := (1 <<< ((nI (A k)) &&& 31))) dX3_fillNeighbours_45 (rfl) ?_
      refine r_ior (pc := 46) (v := ((nbF B A k (B k)) ||| (1 <<< ((nI (A k)) &&& 31)))) dX3_fillNeighbours_46 (rfl) ?_
      refine w_iast (pc := 47) (t0 := 0) (f' := nbF B A (k + 1)) dX3_fillNeighbours_47 rfl h_105 (vp_in_nI (by omega) (by omega)) (by rw [nI_clamp (by omega)]; rfl) (fun hp_106 h_107 ho_108 => ?_)
      refine r_iload_n (pc := 48) dX3_fillNeighbours_48 (i := 2) rfl rfl ?_
      refine r_iload_n (pc := 49) dX3_fillNeighbours_49 (i := 3) rfl rfl ?_
      refine r_icmp_eq (pc := 50) (tgt := 77) dX3_fillNeighbours_50 (by decide) (fun c50 => ?_) (fun c50 => ?_)
      · have hab : A k = B k := (nI_eq (by omega) (by omega)).mp c50
        refine r_iinc (pc := 77) (v := (nI (k + 1))) (lv' := [(1, .int ((nI (k + 1)))), (3, .int ((nI (B k)))), (2, .int ((nI (A k)))), (0, .ref a)]) dX3_fillNeighbours_77 rfl (nI_1 k) (by decide) rfl ?_
        refine r_goto (pc := 80) (tgt := 2) dX3_fillNeighbours_80 (by decide) ?_
        refine Rn.pick (lv' := [(0, .ref a), (1, .int ((nI (k + 1))))]) [3, 0] rfl ?_
        have h_109 : hp_106 a = some (.inr (3, [.int x0, .int x1, .int x2, .ref r3, .ref r4, .ref r5, .ref r6, .int ((nI g)), .ref r8, .ref r9, .ref r10, .ref r11, .ref r12, .ref r13])) := ((ho_108 a (ne_c w0 w4 (by intro h9; cases h9))).trans h_104)
        have h_110 : hp_106 r8 = some (.inl (cI, g, .inl (tl))) := ((ho_108 r8 m03).trans ((ho_103 r8 m02).trans w1))
        have h_111 : hp_106 r9 = some (.inl (cI, g, .inl (hd))) := ((ho_108 r9 m13).trans ((ho_103 r9 m12).trans w2))
        have h_112 : hp_106 r11 = some (.inl (cI, N, .inl (nbF A B (k + 1)))) := ((ho_108 r11 m23).trans h_102)
        have h_113 : hp_106 r13 = some (.inl (cI, N, .inl (joF A B k))) := ((ho_108 r13 (Ne.symm m34)).trans ((ho_103 r13 (Ne.symm m24)).trans w5))
        exact ih (k + 1) (by omega) (by omega) _ h_109 h_110 h_111 h_112 h_107 (by rw [joF_e hab]; exact h_113) (fun z e9 h9 n11 n12 n13 => ((ho_108 z n12).trans ((ho_103 z n11).trans (w6 z e9 h9 n11 n12 n13))))
      · have hab : A k ≠ B k := fun h => c50 (by rw [h])
        refine r_aload_n (pc := 53) dX3_fillNeighbours_53 (i := 0) rfl rfl ?_
        have h_114 : hp_106 a = some (.inr (3, [.int x0, .int x1, .int x2, .ref r3, .ref r4, .ref r5, .ref r6, .int ((nI g)), .ref r8, .ref r9, .ref r10, .ref r11, .ref r12, .ref r13])) := ((ho_108 a (ne_c w0 w4 (by intro h9; cases h9))).trans h_104)
        refine r_get (pc := 54) (v := .ref r13) fX3_56 dX3_fillNeighbours_54 h_114 rfl ?_
        refine r_iload_n (pc := 57) dX3_fillNeighbours_57 (i := 2) rfl rfl ?_
        refine r_dup2_11 (pc := 58) dX3_fillNeighbours_58 rfl rfl ?_
        have h_115 : hp_106 r13 = some (.inl (cI, N, .inl (joF A B k))) := ((ho_108 r13 (Ne.symm m34)).trans ((ho_103 r13 (Ne.symm m24)).trans w5))
        refine w_iald (pc := 59) (t0 := 0) (v := (joF A B k (A k))) dX3_fillNeighbours_59 rfl h_115 (vp_in_nI (by omega) (by omega)) (by rw [nI_clamp (by omega)]) ?_
        refine r_iconst (pc := 60) (v := 1) dX3_fillNeighbours_60 (by decide) ?_
        refine r_iload_n (pc := 61) dX3_fillNeighbours_61 (i := 3) rfl rfl ?_
        refine r_ishl (pc := 62) (v := (1 <<< ((nI (B k)) &&& 31))) dX3_fillNeighbours_62 (rfl) ?_
        refine r_ior (pc := 63) (v := ((joF A B k (A k)) ||| (1 <<< ((nI (B k)) &&& 31)))) dX3_fillNeighbours_63 (rfl) ?_
        refine w_iast (pc := 64) (t0 := 0) (f' := upd (joF A B k) (A k) (joF A B k (A k) ||| (1 <<< (nI (B k) &&& 31)))) dX3_fillNeighbours_64 rfl h_115 (vp_in_nI (by omega) (by omega)) (by rw [nI_clamp (by omega)]) (fun hp_116 h_117 ho_118 => ?_)
        refine r_aload_n (pc := 65) dX3_fillNeighbours_65 (i := 0) rfl rfl ?_
        have h_119 : hp_116 a = some (.inr (3, [.int x0, .int x1, .int x2, .ref r3, .ref r4, .ref r5, .ref r6, .int ((nI g)), .ref r8, .ref r9, .ref r10, .ref r11, .ref r12, .ref r13])) := ((ho_118 a (ne_c w0 w5 (by intro h9; cases h9))).trans h_114)
        refine r_get (pc := 66) (v := .ref r13) fX3_56 dX3_fillNeighbours_66 h_119 rfl ?_
        refine r_iload_n (pc := 69) dX3_fillNeighbours_69 (i := 3) rfl rfl ?_
        refine r_dup2_11 (pc := 70) dX3_fillNeighbours_70 rfl rfl ?_
        refine w_iald (pc := 71) (t0 := 0) (v := (joF A B k (B k))) dX3_fillNeighbours_71 rfl h_117 (vp_in_nI (by omega) (by omega)) (by rw [nI_clamp (by omega)]; exact if_neg (Ne.symm hab)) ?_
        refine r_iconst (pc := 72) (v := 1) dX3_fillNeighbours_72 (by decide) ?_
        refine r_iload_n (pc := 73) dX3_fillNeighbours_73 (i := 2) rfl rfl ?_
        refine r_ishl (pc := 74) (v := (1 <<< ((nI (A k)) &&& 31))) dX3_fillNeighbours_74 (rfl) ?_
        refine r_ior (pc := 75) (v := ((joF A B k (B k)) ||| (1 <<< ((nI (A k)) &&& 31)))) dX3_fillNeighbours_75 (rfl) ?_
        refine w_iast (pc := 76) (t0 := 0) (f' := joF A B (k + 1)) dX3_fillNeighbours_76 rfl h_117 (vp_in_nI (by omega) (by omega)) (by rw [nI_clamp (by omega), joF_n hab]) (fun hp_120 h_121 ho_122 => ?_)
        refine r_iinc (pc := 77) (v := (nI (k + 1))) (lv' := [(1, .int ((nI (k + 1)))), (3, .int ((nI (B k)))), (2, .int ((nI (A k)))), (0, .ref a)]) dX3_fillNeighbours_77 rfl (nI_1 k) (by decide) rfl ?_
        refine r_goto (pc := 80) (tgt := 2) dX3_fillNeighbours_80 (by decide) ?_
        refine Rn.pick (lv' := [(0, .ref a), (1, .int ((nI (k + 1))))]) [3, 0] rfl ?_
        have h_123 : hp_120 a = some (.inr (3, [.int x0, .int x1, .int x2, .ref r3, .ref r4, .ref r5, .ref r6, .int ((nI g)), .ref r8, .ref r9, .ref r10, .ref r11, .ref r12, .ref r13])) := ((ho_122 a (ne_c w0 w5 (by intro h9; cases h9))).trans h_119)
        have h_124 : hp_120 r8 = some (.inl (cI, g, .inl (tl))) := ((ho_122 r8 m04).trans ((ho_118 r8 m04).trans ((ho_108 r8 m03).trans ((ho_103 r8 m02).trans w1))))
        have h_125 : hp_120 r9 = some (.inl (cI, g, .inl (hd))) := ((ho_122 r9 m14).trans ((ho_118 r9 m14).trans ((ho_108 r9 m13).trans ((ho_103 r9 m12).trans w2))))
        have h_126 : hp_120 r11 = some (.inl (cI, N, .inl (nbF A B (k + 1)))) := ((ho_122 r11 m24).trans ((ho_118 r11 m24).trans ((ho_108 r11 m23).trans h_102)))
        have h_127 : hp_120 r12 = some (.inl (cI, N, .inl (nbF B A (k + 1)))) := ((ho_122 r12 m34).trans ((ho_118 r12 m34).trans h_107))
        exact ih (k + 1) (by omega) (by omega) _ h_123 h_124 h_125 h_126 h_127 h_121 (fun z e9 h9 n11 n12 n13 => ((ho_122 z n13).trans ((ho_118 z n13).trans ((ho_108 z n12).trans ((ho_103 z n11).trans (w6 z e9 h9 n11 n12 n13))))))
  refine Rn.pick (lv' := [(0, .ref a), (1, .int 0)]) [1, 0] rfl ?_
  exact lp 0 (Nat.zero_le _) hp gc0 gc1 gc2 gc3 gc4 gc5 (fun z e9 h9 _ _ _ => h9)
