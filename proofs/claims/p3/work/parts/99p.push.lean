def bqR (By Ah : Nat → Int) : Nat → Nat := fun u => jxR (By u) (Ah u)
theorem ex_pos {P : Nat → Nat} {x j v : Nat} (h : exR P x j v) (hv : v ≠ x) : ∃ i, j = i + 1 ∧ exR P x i (P v) := by
  cases j with
  | zero => exact absurd h hv
  | succ i => exact ⟨i, rfl, h.2⟩
theorem ex_zero {P : Nat → Nat} {x j v : Nat} (h : exR P x j v) (hv : v = x) : j = 0 := by
  cases j with
  | zero => rfl
  | succ i => exact absurd hv h.1
def mnP (n : Nat) (F T Wt : Nat → Int) (dr : Int) (g0 D : Nat → Int) (B : Nat → Nat) (j0 y0 : Nat) (L : Int) (j v : Nat) : Prop := ∀ t : Int, t ≤ L → onR (fun u => (tlR F T (B u)).toNat) (fun u => u < n ∧ D u < 1000000000000 ∧ g0 (B u / 2) = g0 (B u / 2) ∧ t ≤ rmR Wt dr g0 (B u)) j v → onR (fun u => (tlR F T (B u)).toNat) (fun u => u < n ∧ D u < 1000000000000 ∧ g0 (B u / 2) = g0 (B u / 2) ∧ t ≤ rmR Wt dr g0 (B u)) j0 y0
theorem mn_id {n : Nat} {F T Wt : Nat → Int} {dr : Int} {g0 D : Nat → Int} {B : Nat → Nat} {j0 y0 : Nat} {L : Int} : mnP n F T Wt dr g0 D B j0 y0 L j0 y0 := fun _ _ h => h
theorem mn_go {n : Nat} {F T Wt : Nat → Int} {dr : Int} {g0 D : Nat → Int} {B : Nat → Nat} {j0 y0 : Nat} {L L1 : Int} {j v : Nat} (h : mnP n F T Wt dr g0 D B j0 y0 L (j + 1) v) (hv : v < n) (hD : D v < 1000000000000) (h1 : L1 ≤ L) (h2 : L1 ≤ rmR Wt dr g0 (B v)) : mnP n F T Wt dr g0 D B j0 y0 L1 j (tlR F T (B v)).toNat := by
  intro t ht hon
  exact h t (by omega) ⟨⟨hv, hD, rfl, by omega⟩, hon⟩
theorem mn_fin {n : Nat} {F T Wt : Nat → Int} {dr : Int} {g0 D : Nat → Int} {B : Nat → Nat} {j0 y0 : Nat} {L : Int} {v : Nat} (h : mnP n F T Wt dr g0 D B j0 y0 L 0 v) : onR (fun u => (tlR F T (B u)).toNat) (fun u => u < n ∧ D u < 1000000000000 ∧ g0 (B u / 2) = g0 (B u / 2) ∧ L ≤ rmR Wt dr g0 (B u)) j0 y0 := h L (Int.le_refl _) trivial
theorem psR_V {g : Nat → Int} {k f t : Int} : psR g (jxR k f) t = fup g k.toNat (g k.toNat + (if f ≠ 0 then t else - t)) := by
  obtain ⟨e1, e2, e3⟩ := jx_d (k := k) (f := f)
  unfold psR
  rw [e1]
  by_cases hf : f ≠ 0
  · rw [if_pos (e2 hf), if_pos hf]
  · rw [if_neg (show ¬ jxR k f % 2 = 0 by have := e3 hf; omega), if_neg hf]
    congr 1
theorem cp_hi {W : Nat → Int} {g : Int} {k : Nat} (h : Rfx 7260 (-1000) 1000 W) (hg : 0 ≤ g ∧ g ≤ 120) (hk : k < 60) : cpR (arF W g) k ≤ 1000 := by
  have h1 := h (60 * g + (k : Int)).toNat (by omega)
  unfold cpR arF
  split <;> omega
def pGR (Γ : TG) (cI : ClassId) (y n : Nat) (Q : (Nat → Int) → Prop) : Option Value → MH → Nat → Prop := fun r hp1 n1 => n1 = n ∧ r = none ∧ ∃ g1 : Nat → Int, Tw (ov Γ (y + 38) (xI cI 60 g1)) hp1 ∧ Q g1
set_option maxHeartbeats 4000000 in
set_option maxRecDepth 100000 in
theorem t_X12_pushx {D : va_G} {cI cJ cZ cT : ClassId} {lo b L : Nat} {xs : Nat → Int32} {hp : MH} {n d : Nat} {Γ : TG} {y : Nat} {rf cnt nm : Int32} {Fr To Wt Dr Mn Sz By Ah : Nat → Int} {x1 x2 x3 : Int} {Gn Co Dd pp : Nat → Int} {j0 : Nat} (hd0 : 2 ≤ d) (hO : rd Γ y (tO 11 (mdF y rf cnt nm))) (hA_from : rd Γ (y + 5) (xI cI 7260 Fr)) (hR_from : Rfx 7260 0 15 Fr) (hA_to : rd Γ (y + 6) (xI cI 7260 To)) (hR_to : Rfx 7260 0 15 To) (hA_weight : rd Γ (y + 7) (xI cI 7260 Wt)) (hR_weight : Rfx 7260 (-1000) 1000 Wt) (hA_directs : rd Γ (y + 3) (xI cZ 121 Dr)) (hR_directs : Rfx 121 0 1 Dr) (hA_many : rd Γ (y + 4) (xI cI 121 Mn)) (hR_many : Rfx 121 0 60 Mn) (hA_sizes : rd Γ (y + 2) (xI cI 121 Sz)) (hR_sizes : Rfx 121 0 16 Sz) (hA_by : rd Γ (y + 40) (xI cI 16 By)) (hR_by : Rfx 16 0 59 By) (hA_ahead : rd Γ (y + 41) (xI cZ 16 Ah)) (hR_ahead : Rfx 16 0 1 Ah) (ht : Tw (ov Γ (y + 38) (xI cI 60 Gn)) hp) (hx1 : 0 ≤ x1 ∧ x1 ≤ 120) (hx2 : 0 ≤ x2 ∧ x2 ≤ 15) (hx3 : 0 ≤ x3 ∧ x3 ≤ 15) (hgo : Rfx 60 (-1000) 1000 Gn) (hw : wyR (Int.toNat (Sz (Int.toNat x1))) (Int.toNat x2) (arF Fr x1) (arF To x1) (arF Wt x1) (arF Co x1) (Dr (Int.toNat x1)) (Int.toNat (Mn (Int.toNat x1))) Gn Dd (bqR By Ah)) (hpd : ∀ u, u < (Int.toNat (Sz (Int.toNat x1))) → Dd u < 1000000000000 → pp u = Dd u) (hpt : ptR (tlR (arF Fr x1) (arF To x1)) (hdR (arF Fr x1) (arF To x1)) (rmR (arF Wt x1) (Dr (Int.toNat x1)) Gn) (csR (arF Co x1) Gn) (2 * (Int.toNat (Mn (Int.toNat x1)))) pp) (hfi : fiR (arF Wt x1) (Dr (Int.toNat x1)) (Int.toNat (Mn (Int.toNat x1))) Gn) (hj0 : exR (fun u => (tlR (arF Fr x1) (arF To x1) (bqR By Ah u)).toNat) (Int.toNat x2) j0 (Int.toNat x3)) (hy1 : Dd (Int.toNat x3) < 1000000000000) (hy2 : x3 < (Sz (Int.toNat x1))) (hx5 : x2 < (Sz (Int.toNat x1))) (hne : x2 ≠ x3) : Mt (gG D cI cJ cZ cT lo b L xs) mX12_push d 0 0 [.ref y, .int (iv x1), .int (iv x2), .int (iv x3)] hp n (pGR Γ cI y n (fun g1 => Rfx 60 (-1000) 1000 g1 ∧ fiR (arF Wt x1) (Dr (Int.toNat x1)) (Int.toNat (Mn (Int.toNat x1))) g1 ∧ ptR (tlR (arF Fr x1) (arF To x1)) (hdR (arF Fr x1) (arF To x1)) (rmR (arF Wt x1) (Dr (Int.toNat x1)) g1) (csR (arF Co x1) g1) (2 * (Int.toNat (Mn (Int.toNat x1)))) pp ∧ nfR (arF Fr x1) (arF To x1) (((Int.toNat x2) : Nat) : Int) Gn (Int.toNat (Mn (Int.toNat x1))) + 1 ≤ nfR (arF Fr x1) (arF To x1) (((Int.toNat x2) : Nat) : Int) g1 (Int.toNat (Mn (Int.toNat x1))))) := by
  refine Mt.of rfl (Nat.le_of_ble_eq_true rfl) ?_
  refine Rn.pick (lv' := [(0, .ref y), (1, .int (iv x1)), (2, .int (iv x2)), (3, .int (iv x3))]) [0, 1, 2, 3] rfl ?_
  have rMn := hR_many (Int.toNat x1) (by omega)
  have rSz := hR_sizes (Int.toNat x1) (by omega)
  have hmn0 : mnP (Int.toNat (Sz (Int.toNat x1))) (arF Fr x1) (arF To x1) (arF Wt x1) (Dr (Int.toNat x1)) Gn Dd (bqR By Ah) j0 (Int.toNat x3) 1000000 j0 (Int.toNat x3) := mn_id
  refine r_ldcw (pc := 0) (v := iv 1000000) dX12_push_0 kX12_387 ?_
  refine r_istore (pc := 3) (lv' := [(4, .int (iv 1000000)), (0, .ref y), (1, .int (iv x1)), (2, .int (iv x2)), (3, .int (iv x3))]) dX12_push_3 (by decide) rfl ?_
  refine r_iload_n (pc := 5) dX12_push_5 (i := 3) rfl rfl ?_
  refine r_istore (pc := 6) (lv' := [(5, .int (iv x3)), (4, .int (iv 1000000)), (0, .ref y), (1, .int (iv x1)), (2, .int (iv x2)), (3, .int (iv x3))]) dX12_push_6 (by decide) rfl ?_
  have B8 : ∀ k : Nat, ∀ jj8 : Nat, ∀ hp8 : MH, Tw (ov Γ (y + 38) (xI cI 60 Gn)) hp8 → ∀  (v8_4 : Int) (v8_5 : Int), 1 ≤ v8_4 ∧ v8_4 ≤ 1000000 ∧ 0 ≤ v8_5 ∧ v8_5 ≤ 15 ∧ exR (fun u => (tlR (arF Fr x1) (arF To x1) (bqR By Ah u)).toNat) (Int.toNat x2) jj8 (Int.toNat v8_5) ∧ v8_5 < (Sz (Int.toNat x1)) ∧ Dd (Int.toNat v8_5) < 1000000000000 ∧ 1 ≤ v8_4 ∧ mnP (Int.toNat (Sz (Int.toNat x1))) (arF Fr x1) (arF To x1) (arF Wt x1) (Dr (Int.toNat x1)) Gn Dd (bqR By Ah) j0 (Int.toNat x3) v8_4 jj8 (Int.toNat v8_5) → (jj8 : Int) ≤ (k : Int) → Rn (gG D cI cJ cZ cT lo b L xs) mX12_push d 8 [(0, .ref y), (1, .int (iv x1)), (2, .int (iv x2)), (3, .int (iv x3)), (4, .int (iv v8_4)), (5, .int (iv v8_5))] [] hp8 n 0 0 (pGR Γ cI y n (fun g1 => Rfx 60 (-1000) 1000 g1 ∧ fiR (arF Wt x1) (Dr (Int.toNat x1)) (Int.toNat (Mn (Int.toNat x1))) g1 ∧ ptR (tlR (arF Fr x1) (arF To x1)) (hdR (arF Fr x1) (arF To x1)) (rmR (arF Wt x1) (Dr (Int.toNat x1)) g1) (csR (arF Co x1) g1) (2 * (Int.toNat (Mn (Int.toNat x1)))) pp ∧ nfR (arF Fr x1) (arF To x1) (((Int.toNat x2) : Nat) : Int) Gn (Int.toNat (Mn (Int.toNat x1))) + 1 ≤ nfR (arF Fr x1) (arF To x1) (((Int.toNat x2) : Nat) : Int) g1 (Int.toNat (Mn (Int.toNat x1))))) := by
    refine lpS _ ?_
    intro k8 ih8 jj8 hp8 ht8 v8_4 v8_5 hf8 hm8
    obtain ⟨hf8_0, hf8_1, hf8_2, hf8_3, ha8_4, hf8_5, hf8_6, hf8_7, ha8_8⟩ := hf8
    refine r_iload (pc := 8) dX12_push_8 rfl ?_
    refine r_iload_n (pc := 10) dX12_push_10 (i := 2) rfl rfl ?_
    refine t_icmp_eq (pc := 11) (tgt := 101) dX12_push_11 (by decide) (by omega) (by omega) (fun c11 => ?_) (fun c11 => ?_)
    · refine r_iload_n (pc := 101) dX12_push_101 (i := 3) rfl rfl ?_
      have ej0 := ex_zero (show exR (fun u => (tlR (arF Fr x1) (arF To x1) (bqR By Ah u)).toNat) (Int.toNat x2) jj8 (Int.toNat v8_5) by assumption) (by omega)
      subst ej0
      have hon := mn_fin (show mnP (Int.toNat (Sz (Int.toNat x1))) (arF Fr x1) (arF To x1) (arF Wt x1) (Dr (Int.toNat x1)) Gn Dd (bqR By Ah) j0 (Int.toNat x3) v8_4 0 (Int.toNat v8_5) by assumption)
      have hpu0 : puR (Int.toNat (Sz (Int.toNat x1))) (Int.toNat x2) (arF Fr x1) (arF To x1) (arF Wt x1) (arF Co x1) (Dr (Int.toNat x1)) (Int.toNat (Mn (Int.toNat x1))) Gn Dd pp (bqR By Ah) v8_4 (nfR (arF Fr x1) (arF To x1) (((Int.toNat x2) : Nat) : Int) Gn (Int.toNat (Mn (Int.toNat x1)))) Gn j0 (Int.toNat x3) := ⟨hfi, hpt, hj0, by omega, hy1, hon, fun _ => rfl, fun h9 => by omega⟩
      refine r_istore (pc := 102) (lv' := [(5, .int (iv x3)), (0, .ref y), (1, .int (iv x1)), (2, .int (iv x2)), (3, .int (iv x3)), (4, .int (iv v8_4))]) dX12_push_102 (by decide) rfl ?_
      have B104 : ∀ k : Nat, ∀ jj104 : Nat, ∀ G104 : Nat → Int, ∀ hp104 : MH, Tw (ov Γ (y + 38) (xI cI 60 G104)) hp104 → ∀  (v104_5 : Int), 0 ≤ v104_5 ∧ v104_5 ≤ 15 ∧ puR (Int.toNat (Sz (Int.toNat x1))) (Int.toNat x2) (arF Fr x1) (arF To x1) (arF Wt x1) (arF Co x1) (Dr (Int.toNat x1)) (Int.toNat (Mn (Int.toNat x1))) Gn Dd pp (bqR By Ah) v8_4 (nfR (arF Fr x1) (arF To x1) (((Int.toNat x2) : Nat) : Int) Gn (Int.toNat (Mn (Int.toNat x1)))) G104 jj104 (Int.toNat v104_5) ∧ Rfx 60 (-1000) 1000 G104 ∧ v104_5 < (Sz (Int.toNat x1)) → (jj104 : Int) ≤ (k : Int) → Rn (gG D cI cJ cZ cT lo b L xs) mX12_push d 104 [(0, .ref y), (1, .int (iv x1)), (2, .int (iv x2)), (4, .int (iv v8_4)), (5, .int (iv v104_5))] [] hp104 n 0 0 (pGR Γ cI y n (fun g1 => Rfx 60 (-1000) 1000 g1 ∧ fiR (arF Wt x1) (Dr (Int.toNat x1)) (Int.toNat (Mn (Int.toNat x1))) g1 ∧ ptR (tlR (arF Fr x1) (arF To x1)) (hdR (arF Fr x1) (arF To x1)) (rmR (arF Wt x1) (Dr (Int.toNat x1)) g1) (csR (arF Co x1) g1) (2 * (Int.toNat (Mn (Int.toNat x1)))) pp ∧ nfR (arF Fr x1) (arF To x1) (((Int.toNat x2) : Nat) : Int) Gn (Int.toNat (Mn (Int.toNat x1))) + 1 ≤ nfR (arF Fr x1) (arF To x1) (((Int.toNat x2) : Nat) : Int) g1 (Int.toNat (Mn (Int.toNat x1))))) := by
        refine lpS _ ?_
        intro k104 ih104 jj104 G104 hp104 ht104 v104_5 hf104 hm104
        obtain ⟨hf104_0, hf104_1, ha104_2, ha104_3, hf104_4⟩ := hf104
        refine r_iload (pc := 104) dX12_push_104 rfl ?_
        refine r_iload_n (pc := 106) dX12_push_106 (i := 2) rfl rfl ?_
        refine t_icmp_eq (pc := 107) (tgt := 193) dX12_push_107 (by decide) (by omega) (by omega) (fun c107 => ?_) (fun c107 => ?_)
        · exact r_vret (pc := 193) dX12_push_193 rfl (by have hq := (show puR (Int.toNat (Sz (Int.toNat x1))) (Int.toNat x2) (arF Fr x1) (arF To x1) (arF Wt x1) (arF Co x1) (Dr (Int.toNat x1)) (Int.toNat (Mn (Int.toNat x1))) Gn Dd pp (bqR By Ah) v8_4 (nfR (arF Fr x1) (arF To x1) (((Int.toNat x2) : Nat) : Int) Gn (Int.toNat (Mn (Int.toNat x1)))) G104 jj104 (Int.toNat v104_5) by assumption); exact ⟨rfl, rfl, G104, ht104, by assumption, hq.1, hq.2.1, by have h9 := hq.2.2.2.2.2.2.2 (by omega); omega⟩)
        · refine r_aload_n (pc := 110) dX12_push_110 (i := 0) rfl rfl ?_
          have hpq := (show puR (Int.toNat (Sz (Int.toNat x1))) (Int.toNat x2) (arF Fr x1) (arF To x1) (arF Wt x1) (arF Co x1) (Dr (Int.toNat x1)) (Int.toNat (Mn (Int.toNat x1))) Gn Dd pp (bqR By Ah) v8_4 (nfR (arF Fr x1) (arF To x1) (((Int.toNat x2) : Nat) : Int) Gn (Int.toNat (Mn (Int.toNat x1)))) G104 jj104 (Int.toNat v104_5) by assumption)
          obtain ⟨jn, ejn, hxn⟩ := ex_pos hpq.2.2.1 (by omega)
          subst ejn
          obtain ⟨w1, w2, w3, w4, w5, w6, w7, w8⟩ := hw (Int.toNat v104_5) (by omega) (by omega) hpq.2.2.2.2.1
          have hnx := pu_st hw hpd (by omega) hpq
          have w1q : jxR (By (Int.toNat v104_5)) (Ah (Int.toNat v104_5)) < 2 * (Int.toNat (Mn (Int.toNat x1))) := w1
          have hjd := (jx_d (k := By (Int.toNat v104_5)) (f := Ah (Int.toNat v104_5))).1
          refine t_getE (pc := 111) (.ref (y + 38)) ht104 (rd_ov (by omega) hO) fX12_124 dX12_push_111 rfl ?_
          refine r_aload_n (pc := 114) dX12_push_114 (i := 0) rfl rfl ?_
          refine t_getE (pc := 115) (.ref (y + 40)) ht104 (rd_ov (by omega) hO) fX12_130 dX12_push_115 rfl ?_
          refine r_iload (pc := 118) dX12_push_118 rfl ?_
          refine t_ialdX (pc := 120) (t0 := 0) ht104 (rd_ov (by omega) hA_by) dX12_push_120 rfl (by decide) (by omega) (fun b1 => ?_)
          have rb1 := (show Rfx 16 0 59 By by assumption) (Int.toNat v104_5) (by omega)
          refine r_dup2_11 (pc := 121) dX12_push_121 rfl rfl ?_
          refine t_ialdX (pc := 122) (t0 := 0) ht104 (rd_of (ov_s _ _ _)) dX12_push_122 rfl (by decide) (by omega) (fun b2 => ?_)
          have rb2 := (show Rfx 60 (-1000) 1000 G104 by assumption) (Int.toNat (By (Int.toNat v104_5))) (by omega)
          refine r_aload_n (pc := 123) dX12_push_123 (i := 0) rfl rfl ?_
          refine t_getE (pc := 124) (.ref (y + 41)) ht104 (rd_ov (by omega) hO) fX12_133 dX12_push_124 rfl ?_
          refine r_iload (pc := 127) dX12_push_127 rfl ?_
          refine t_zaldX (pc := 129) (t0 := 2) ht104 (rd_ov (by omega) hA_ahead) dX12_push_129 rfl (by decide) (by omega) (fun b3 => ?_)
          have rb3 := (show Rfx 16 0 1 Ah by assumption) (Int.toNat v104_5) (by omega)
          have B141 : ∀ hp141 : MH, Tw (ov Γ (y + 38) (xI cI 60 G104)) hp141 → ∀  (u141_3 : Int), (-1000000) ≤ u141_3 ∧ u141_3 ≤ 1000000 ∧ u141_3 = (if Ah (Int.toNat v104_5) ≠ 0 then v8_4 else - v8_4) → Rn (gG D cI cJ cZ cT lo b L xs) mX12_push d 141 [(0, .ref y), (1, .int (iv x1)), (2, .int (iv x2)), (4, .int (iv v8_4)), (5, .int (iv v104_5))] [.int (iv u141_3), .int (iv (G104 (Int.toNat (By (Int.toNat v104_5))))), .int (iv (By (Int.toNat v104_5))), .ref (y + 38)] hp141 n 0 0 (pGR Γ cI y n (fun g1 => Rfx 60 (-1000) 1000 g1 ∧ fiR (arF Wt x1) (Dr (Int.toNat x1)) (Int.toNat (Mn (Int.toNat x1))) g1 ∧ ptR (tlR (arF Fr x1) (arF To x1)) (hdR (arF Fr x1) (arF To x1)) (rmR (arF Wt x1) (Dr (Int.toNat x1)) g1) (csR (arF Co x1) g1) (2 * (Int.toNat (Mn (Int.toNat x1)))) pp ∧ nfR (arF Fr x1) (arF To x1) (((Int.toNat x2) : Nat) : Int) Gn (Int.toNat (Mn (Int.toNat x1))) + 1 ≤ nfR (arF Fr x1) (arF To x1) (((Int.toNat x2) : Nat) : Int) g1 (Int.toNat (Mn (Int.toNat x1))))) := by
            intro hp141 ht141 u141_3 hf141
            obtain ⟨hf141_0, hf141_1, ha141_2⟩ := hf141
            refine r_iadd (pc := 141) (v := iv ((G104 (Int.toNat (By (Int.toNat v104_5)))) + u141_3)) dX12_push_141 (iv_add _ _) ?_
            refine t_iastX (pc := 142) (t0 := 0) ht141 (ov_s _ _ _) dX12_push_142 rfl (by decide) (by omega) (by omega) (fun hp4 ht5 => ?_)
            rw [ov_ov] at ht5
            have eG : (fup G104 (Int.toNat (By (Int.toNat v104_5))) ((G104 (Int.toNat (By (Int.toNat v104_5)))) + u141_3)) = psR G104 (bqR By Ah (Int.toNat v104_5)) v8_4 := by show _ = psR G104 (jxR _ _) v8_4; rw [psR_V, show u141_3 = (if Ah (Int.toNat v104_5) ≠ 0 then v8_4 else - v8_4) by assumption]
            have hp2 : puR (Int.toNat (Sz (Int.toNat x1))) (Int.toNat x2) (arF Fr x1) (arF To x1) (arF Wt x1) (arF Co x1) (Dr (Int.toNat x1)) (Int.toNat (Mn (Int.toNat x1))) Gn Dd pp (bqR By Ah) v8_4 (nfR (arF Fr x1) (arF To x1) (((Int.toNat x2) : Nat) : Int) Gn (Int.toNat (Mn (Int.toNat x1)))) (fup G104 (Int.toNat (By (Int.toNat v104_5))) ((G104 (Int.toNat (By (Int.toNat v104_5)))) + u141_3)) jn (tlR (arF Fr x1) (arF To x1) (bqR By Ah (Int.toNat v104_5))).toNat := by rw [eG]; exact hnx
            have hfk := hp2.1 (Int.toNat (By (Int.toNat v104_5))) (by omega)
            rw [fup_s] at hfk
            have hcp := cp_hi (W := Wt) (g := x1) (k := Int.toNat (By (Int.toNat v104_5))) (by assumption) (by omega) (by omega)
            have hRG : Rfx 60 (-1000) 1000 (fup G104 (Int.toNat (By (Int.toNat v104_5))) ((G104 (Int.toNat (By (Int.toNat v104_5)))) + u141_3)) := Rfx_up (by assumption) (by omega)
            refine r_aload_n (pc := 143) dX12_push_143 (i := 0) rfl rfl ?_
            refine t_getE (pc := 144) (.ref (y + 41)) ht5 (rd_ov (by omega) hO) fX12_133 dX12_push_144 rfl ?_
            refine r_iload (pc := 147) dX12_push_147 rfl ?_
            refine t_zaldX (pc := 149) (t0 := 2) ht5 (rd_ov (by omega) hA_ahead) dX12_push_149 rfl (by decide) (by omega) (fun b6 => ?_)
            have rb6 := (show Rfx 16 0 1 Ah by assumption) (Int.toNat v104_5) (by omega)
            have B188 : ∀ hp188 : MH, Tw (ov Γ (y + 38) (xI cI 60 (fup G104 (Int.toNat (By (Int.toNat v104_5))) ((G104 (Int.toNat (By (Int.toNat v104_5)))) + u141_3)))) hp188 → ∀  (u188_0 : Int), 0 ≤ u188_0 ∧ u188_0 ≤ 15 ∧ u188_0 = tlR (arF Fr x1) (arF To x1) (bqR By Ah (Int.toNat v104_5)) → Rn (gG D cI cJ cZ cT lo b L xs) mX12_push d 188 [(0, .ref y), (1, .int (iv x1)), (2, .int (iv x2)), (4, .int (iv v8_4))] [.int (iv u188_0)] hp188 n 0 0 (pGR Γ cI y n (fun g1 => Rfx 60 (-1000) 1000 g1 ∧ fiR (arF Wt x1) (Dr (Int.toNat x1)) (Int.toNat (Mn (Int.toNat x1))) g1 ∧ ptR (tlR (arF Fr x1) (arF To x1)) (hdR (arF Fr x1) (arF To x1)) (rmR (arF Wt x1) (Dr (Int.toNat x1)) g1) (csR (arF Co x1) g1) (2 * (Int.toNat (Mn (Int.toNat x1)))) pp ∧ nfR (arF Fr x1) (arF To x1) (((Int.toNat x2) : Nat) : Int) Gn (Int.toNat (Mn (Int.toNat x1))) + 1 ≤ nfR (arF Fr x1) (arF To x1) (((Int.toNat x2) : Nat) : Int) g1 (Int.toNat (Mn (Int.toNat x1))))) := by
              intro hp188 ht188 u188_0 hf188
              obtain ⟨hf188_0, hf188_1, ha188_2⟩ := hf188
              refine r_istore (pc := 188) (lv' := [(5, .int (iv u188_0)), (0, .ref y), (1, .int (iv x1)), (2, .int (iv x2)), (4, .int (iv v8_4))]) dX12_push_188 (by decide) rfl ?_
              have e188 : u188_0 = tlR (arF Fr x1) (arF To x1) (bqR By Ah (Int.toNat v104_5)) := by assumption
              have h188a : puR (Int.toNat (Sz (Int.toNat x1))) (Int.toNat x2) (arF Fr x1) (arF To x1) (arF Wt x1) (arF Co x1) (Dr (Int.toNat x1)) (Int.toNat (Mn (Int.toNat x1))) Gn Dd pp (bqR By Ah) v8_4 (nfR (arF Fr x1) (arF To x1) (((Int.toNat x2) : Nat) : Int) Gn (Int.toNat (Mn (Int.toNat x1)))) (fup G104 (Int.toNat (By (Int.toNat v104_5))) ((G104 (Int.toNat (By (Int.toNat v104_5)))) + u141_3)) jn (Int.toNat u188_0) := by rw [e188]; exact hp2
              refine r_goto (pc := 190) (tgt := 104) dX12_push_190 (by decide) ?_
              refine Rn.pick (lv' := [(0, .ref y), (1, .int (iv x1)), (2, .int (iv x2)), (4, .int (iv v8_4)), (5, .int (iv u188_0))]) [1, 2, 3, 4, 0] rfl ?_
              exact ih104 (Int.toNat ((jn : Int))) (by omega) jn (fup G104 (Int.toNat (By (Int.toNat v104_5))) ((G104 (Int.toNat (By (Int.toNat v104_5)))) + u141_3)) _ ht188 u188_0 ⟨by omega, by omega, by assumption, by assumption, by omega⟩ (by omega)
            refine t_if_eq (pc := 150) (tgt := 172) dX12_push_150 (by decide) (by omega) (fun c150 => ?_) (fun c150 => ?_)
            · refine r_aload_n (pc := 172) dX12_push_172 (i := 0) rfl rfl ?_
              refine t_getE (pc := 173) (.ref (y + 6)) ht5 (rd_ov (by omega) hO) fX12_26 dX12_push_173 rfl ?_
              refine r_iload_n (pc := 176) dX12_push_176 (i := 1) rfl rfl ?_
              refine r_aload_n (pc := 177) dX12_push_177 (i := 0) rfl rfl ?_
              refine t_getE (pc := 178) (.ref (y + 40)) ht5 (rd_ov (by omega) hO) fX12_130 dX12_push_178 rfl ?_
              refine r_iload (pc := 181) dX12_push_181 rfl ?_
              refine t_ialdX (pc := 183) (t0 := 0) ht5 (rd_ov (by omega) hA_by) dX12_push_183 rfl (by decide) (by omega) (fun b7 => ?_)
              have rb7 := (show Rfx 16 0 59 By by assumption) (Int.toNat v104_5) (by omega)
              refine t_callSI (pc := 184) (as := [.int (iv x1), .int (iv (By (Int.toNat v104_5)))]) (st := [.ref (y + 6)]) kX12_157 dX12_push_184 (t_X12_at1x (d := d - 1) (x1 := x1) (x2 := By (Int.toNat v104_5)) (by omega)  ht5 (by omega) (by omega)) rfl (by omega) (Nat.le_of_ble_eq_true rfl) rfl (fun hp8 y10 ht9 by10 => ?_)
              have ey10 : y10 = 60 * x1 + (By (Int.toNat v104_5)) := by10
              subst ey10
              refine t_ialdX (pc := 187) (t0 := 0) ht9 (rd_ov (by omega) hA_to) dX12_push_187 rfl (by decide) (by omega) (fun b11 => ?_)
              have rb11 := (show Rfx 7260 0 15 To by assumption) (Int.toNat (60 * x1 + (By (Int.toNat v104_5)))) (by omega)
              refine Rn.pick (lv' := [(0, .ref y), (1, .int (iv x1)), (2, .int (iv x2)), (4, .int (iv v8_4))]) [0, 1, 2, 3] rfl ?_
              exact B188 _ ht9 (To (Int.toNat (60 * x1 + (By (Int.toNat v104_5))))) ⟨by omega, by omega, by (show _ = tlR _ _ (jxR _ _); rw [tl_V (show 0 ≤ By (Int.toNat v104_5) by omega)]; first | rw [if_pos (show Ah (Int.toNat v104_5) ≠ 0 by omega)] | rw [if_neg (show ¬ Ah (Int.toNat v104_5) ≠ 0 by omega)])⟩
            · refine r_aload_n (pc := 153) dX12_push_153 (i := 0) rfl rfl ?_
              refine t_getE (pc := 154) (.ref (y + 5)) ht5 (rd_ov (by omega) hO) fX12_23 dX12_push_154 rfl ?_
              refine r_iload_n (pc := 157) dX12_push_157 (i := 1) rfl rfl ?_
              refine r_aload_n (pc := 158) dX12_push_158 (i := 0) rfl rfl ?_
              refine t_getE (pc := 159) (.ref (y + 40)) ht5 (rd_ov (by omega) hO) fX12_130 dX12_push_159 rfl ?_
              refine r_iload (pc := 162) dX12_push_162 rfl ?_
              refine t_ialdX (pc := 164) (t0 := 0) ht5 (rd_ov (by omega) hA_by) dX12_push_164 rfl (by decide) (by omega) (fun b12 => ?_)
              have rb12 := (show Rfx 16 0 59 By by assumption) (Int.toNat v104_5) (by omega)
              refine t_callSI (pc := 165) (as := [.int (iv x1), .int (iv (By (Int.toNat v104_5)))]) (st := [.ref (y + 5)]) kX12_157 dX12_push_165 (t_X12_at1x (d := d - 1) (x1 := x1) (x2 := By (Int.toNat v104_5)) (by omega)  ht5 (by omega) (by omega)) rfl (by omega) (Nat.le_of_ble_eq_true rfl) rfl (fun hp13 y15 ht14 by15 => ?_)
              have ey15 : y15 = 60 * x1 + (By (Int.toNat v104_5)) := by15
              subst ey15
              refine t_ialdX (pc := 168) (t0 := 0) ht14 (rd_ov (by omega) hA_from) dX12_push_168 rfl (by decide) (by omega) (fun b16 => ?_)
              have rb16 := (show Rfx 7260 0 15 Fr by assumption) (Int.toNat (60 * x1 + (By (Int.toNat v104_5)))) (by omega)
              refine r_goto (pc := 169) (tgt := 188) dX12_push_169 (by decide) ?_
              refine Rn.pick (lv' := [(0, .ref y), (1, .int (iv x1)), (2, .int (iv x2)), (4, .int (iv v8_4))]) [0, 1, 2, 3] rfl ?_
              exact B188 _ ht14 (Fr (Int.toNat (60 * x1 + (By (Int.toNat v104_5))))) ⟨by omega, by omega, by (show _ = tlR _ _ (jxR _ _); rw [tl_V (show 0 ≤ By (Int.toNat v104_5) by omega)]; first | rw [if_pos (show Ah (Int.toNat v104_5) ≠ 0 by omega)] | rw [if_neg (show ¬ Ah (Int.toNat v104_5) ≠ 0 by omega)])⟩
          refine t_if_eq (pc := 130) (tgt := 138) dX12_push_130 (by decide) (by omega) (fun c130 => ?_) (fun c130 => ?_)
          · refine r_iload (pc := 138) dX12_push_138 rfl ?_
            refine r_ineg (pc := 140) (v := iv (-v8_4)) dX12_push_140 (iv_neg _) ?_
            refine Rn.pick (lv' := [(0, .ref y), (1, .int (iv x1)), (2, .int (iv x2)), (4, .int (iv v8_4)), (5, .int (iv v104_5))]) [0, 1, 2, 3, 4] rfl ?_
            exact B141 _ ht104 (-v8_4) ⟨by omega, by omega, by (first | rw [if_pos (show Ah (Int.toNat v104_5) ≠ 0 by omega)] | rw [if_neg (show ¬ Ah (Int.toNat v104_5) ≠ 0 by omega)])⟩
          · refine r_iload (pc := 133) dX12_push_133 rfl ?_
            refine r_goto (pc := 135) (tgt := 141) dX12_push_135 (by decide) ?_
            refine Rn.pick (lv' := [(0, .ref y), (1, .int (iv x1)), (2, .int (iv x2)), (4, .int (iv v8_4)), (5, .int (iv v104_5))]) [0, 1, 2, 3, 4] rfl ?_
            exact B141 _ ht104 v8_4 ⟨by omega, by omega, by (first | rw [if_pos (show Ah (Int.toNat v104_5) ≠ 0 by omega)] | rw [if_neg (show ¬ Ah (Int.toNat v104_5) ≠ 0 by omega)])⟩
      refine Rn.pick (lv' := [(0, .ref y), (1, .int (iv x1)), (2, .int (iv x2)), (4, .int (iv v8_4)), (5, .int (iv x3))]) [1, 2, 3, 5, 0] rfl ?_
      exact B104 (Int.toNat ((j0 : Int))) j0 Gn _ ht8 x3 ⟨by omega, by omega, by assumption, by assumption, by omega⟩ (by omega)
    · refine r_aload_n (pc := 14) dX12_push_14 (i := 0) rfl rfl ?_
      obtain ⟨jn, ejn, hxn⟩ := ex_pos (show exR (fun u => (tlR (arF Fr x1) (arF To x1) (bqR By Ah u)).toNat) (Int.toNat x2) jj8 (Int.toNat v8_5) by assumption) (by omega)
      subst ejn
      obtain ⟨w1, w2, w3, w4, w5, w6, w7, w8⟩ := hw (Int.toNat v8_5) (by omega) (by omega) (by omega)
      refine r_iload_n (pc := 15) dX12_push_15 (i := 1) rfl rfl ?_
      refine r_aload_n (pc := 16) dX12_push_16 (i := 0) rfl rfl ?_
      refine t_getE (pc := 17) (.ref (y + 40)) ht8 (rd_ov (by omega) hO) fX12_130 dX12_push_17 rfl ?_
      refine r_iload (pc := 20) dX12_push_20 rfl ?_
      refine t_ialdX (pc := 22) (t0 := 0) ht8 (rd_ov (by omega) hA_by) dX12_push_22 rfl (by decide) (by omega) (fun b17 => ?_)
      have rb17 := (show Rfx 16 0 59 By by assumption) (Int.toNat v8_5) (by omega)
      refine r_aload_n (pc := 23) dX12_push_23 (i := 0) rfl rfl ?_
      refine t_getE (pc := 24) (.ref (y + 41)) ht8 (rd_ov (by omega) hO) fX12_133 dX12_push_24 rfl ?_
      refine r_iload (pc := 27) dX12_push_27 rfl ?_
      refine t_zaldX (pc := 29) (t0 := 2) ht8 (rd_ov (by omega) hA_ahead) dX12_push_29 rfl (by decide) (by omega) (fun b18 => ?_)
      have rb18 := (show Rfx 16 0 1 Ah by assumption) (Int.toNat v8_5) (by omega)
      refine t_callVI (pc := 30) (as := [.int (iv x1), .int (iv (By (Int.toNat v8_5))), .int (iv (Ah (Int.toNat v8_5)))]) (st := []) ht8 (rd_ov (by omega) hO) kX12_380 rfl dX12_push_30 (t_X12_roomOfx (d := d - 1) (x1 := x1) (x2 := By (Int.toNat v8_5)) (x3 := Ah (Int.toNat v8_5)) (by omega) (rd_ov (by omega) hO) (rd_ov (by omega) hA_weight) (show Rfx 7260 (-1000) 1000 Wt by assumption) (rd_ov (by omega) hA_directs) (show Rfx 121 0 1 Dr by assumption) (rd_of (ov_s _ _ _)) (show Rfx 60 (-1000) 1000 Gn by assumption) ht8 (by omega) (by omega) (by omega)) rfl (by omega) (Nat.le_of_ble_eq_true rfl) rfl (fun hp19 y21 ht20 by21 => ?_)
      have ey21 : y21 = rmV Wt Dr Gn x1 (By (Int.toNat v8_5)) (Ah (Int.toNat v8_5)) := by21
      subst ey21
      have ry21 := rm_b (Wt := Wt) (Dr := Dr) (Gn := Gn) (g := x1) (k := By (Int.toNat v8_5)) (f := Ah (Int.toNat v8_5)) (by assumption) (by assumption) (by omega) (by omega)
      have hrm : rmV Wt Dr Gn x1 (By (Int.toNat v8_5)) (Ah (Int.toNat v8_5)) = rmR (arF Wt x1) (Dr (Int.toNat x1)) Gn (bqR By Ah (Int.toNat v8_5)) := rm_V (by omega)
      refine r_istore (pc := 33) (lv' := [(6, .int (iv (rmV Wt Dr Gn x1 (By (Int.toNat v8_5)) (Ah (Int.toNat v8_5))))), (0, .ref y), (1, .int (iv x1)), (2, .int (iv x2)), (3, .int (iv x3)), (4, .int (iv v8_4)), (5, .int (iv v8_5))]) dX12_push_33 (by decide) rfl ?_
      refine r_iload (pc := 35) dX12_push_35 rfl ?_
      refine r_iload (pc := 37) dX12_push_37 rfl ?_
      have B49 : ∀ hp49 : MH, Tw (ov Γ (y + 38) (xI cI 60 Gn)) hp49 → ∀  (u49_0 : Int), (-2000) ≤ u49_0 ∧ u49_0 ≤ 2000 ∧ u49_0 ≤ v8_4 ∧ u49_0 ≤ (rmV Wt Dr Gn x1 (By (Int.toNat v8_5)) (Ah (Int.toNat v8_5))) ∧ 1 ≤ u49_0 → Rn (gG D cI cJ cZ cT lo b L xs) mX12_push d 49 [(0, .ref y), (1, .int (iv x1)), (2, .int (iv x2)), (3, .int (iv x3)), (5, .int (iv v8_5))] [.int (iv u49_0)] hp49 n 0 0 (pGR Γ cI y n (fun g1 => Rfx 60 (-1000) 1000 g1 ∧ fiR (arF Wt x1) (Dr (Int.toNat x1)) (Int.toNat (Mn (Int.toNat x1))) g1 ∧ ptR (tlR (arF Fr x1) (arF To x1)) (hdR (arF Fr x1) (arF To x1)) (rmR (arF Wt x1) (Dr (Int.toNat x1)) g1) (csR (arF Co x1) g1) (2 * (Int.toNat (Mn (Int.toNat x1)))) pp ∧ nfR (arF Fr x1) (arF To x1) (((Int.toNat x2) : Nat) : Int) Gn (Int.toNat (Mn (Int.toNat x1))) + 1 ≤ nfR (arF Fr x1) (arF To x1) (((Int.toNat x2) : Nat) : Int) g1 (Int.toNat (Mn (Int.toNat x1))))) := by
        intro hp49 ht49 u49_0 hf49
        refine r_istore (pc := 49) (lv' := [(4, .int (iv u49_0)), (0, .ref y), (1, .int (iv x1)), (2, .int (iv x2)), (3, .int (iv x3)), (5, .int (iv v8_5))]) dX12_push_49 (by decide) rfl ?_
        refine r_aload_n (pc := 51) dX12_push_51 (i := 0) rfl rfl ?_
        refine t_getE (pc := 52) (.ref (y + 41)) ht49 (rd_ov (by omega) hO) fX12_133 dX12_push_52 rfl ?_
        refine r_iload (pc := 55) dX12_push_55 rfl ?_
        refine t_zaldX (pc := 57) (t0 := 2) ht49 (rd_ov (by omega) hA_ahead) dX12_push_57 rfl (by decide) (by omega) (fun b22 => ?_)
        have rb22 := (show Rfx 16 0 1 Ah by assumption) (Int.toNat v8_5) (by omega)
        have B96 : ∀ hp96 : MH, Tw (ov Γ (y + 38) (xI cI 60 Gn)) hp96 → ∀  (u96_0 : Int), 0 ≤ u96_0 ∧ u96_0 ≤ 15 ∧ u96_0 = tlR (arF Fr x1) (arF To x1) (bqR By Ah (Int.toNat v8_5)) → Rn (gG D cI cJ cZ cT lo b L xs) mX12_push d 96 [(0, .ref y), (1, .int (iv x1)), (2, .int (iv x2)), (3, .int (iv x3)), (4, .int (iv u49_0))] [.int (iv u96_0)] hp96 n 0 0 (pGR Γ cI y n (fun g1 => Rfx 60 (-1000) 1000 g1 ∧ fiR (arF Wt x1) (Dr (Int.toNat x1)) (Int.toNat (Mn (Int.toNat x1))) g1 ∧ ptR (tlR (arF Fr x1) (arF To x1)) (hdR (arF Fr x1) (arF To x1)) (rmR (arF Wt x1) (Dr (Int.toNat x1)) g1) (csR (arF Co x1) g1) (2 * (Int.toNat (Mn (Int.toNat x1)))) pp ∧ nfR (arF Fr x1) (arF To x1) (((Int.toNat x2) : Nat) : Int) Gn (Int.toNat (Mn (Int.toNat x1))) + 1 ≤ nfR (arF Fr x1) (arF To x1) (((Int.toNat x2) : Nat) : Int) g1 (Int.toNat (Mn (Int.toNat x1))))) := by
          intro hp96 ht96 u96_0 hf96
          obtain ⟨hf96_0, hf96_1, ha96_2⟩ := hf96
          refine r_istore (pc := 96) (lv' := [(5, .int (iv u96_0)), (0, .ref y), (1, .int (iv x1)), (2, .int (iv x2)), (3, .int (iv x3)), (4, .int (iv u49_0))]) dX12_push_96 (by decide) rfl ?_
          have e96 : u96_0 = tlR (arF Fr x1) (arF To x1) (bqR By Ah (Int.toNat v8_5)) := by assumption
          have h96a : exR (fun u => (tlR (arF Fr x1) (arF To x1) (bqR By Ah u)).toNat) (Int.toNat x2) jn (Int.toNat u96_0) := by rw [e96]; exact hxn
          have h96b : Dd (Int.toNat u96_0) < 1000000000000 := by rw [e96]; exact w7
          have h96c : mnP (Int.toNat (Sz (Int.toNat x1))) (arF Fr x1) (arF To x1) (arF Wt x1) (Dr (Int.toNat x1)) Gn Dd (bqR By Ah) j0 (Int.toNat x3) u49_0 jn (Int.toNat u96_0) := by rw [e96]; exact mn_go (by assumption) (by omega) (by omega) (by omega) (by omega)
          refine r_goto (pc := 98) (tgt := 8) dX12_push_98 (by decide) ?_
          refine Rn.pick (lv' := [(0, .ref y), (1, .int (iv x1)), (2, .int (iv x2)), (3, .int (iv x3)), (4, .int (iv u49_0)), (5, .int (iv u96_0))]) [1, 2, 3, 4, 5, 0] rfl ?_
          exact ih8 (Int.toNat ((jn : Int))) (by omega) jn _ ht96 u49_0 u96_0 ⟨by omega, by omega, by omega, by omega, by assumption, by omega, by omega, by omega, by assumption⟩ (by omega)
        refine t_if_eq (pc := 58) (tgt := 80) dX12_push_58 (by decide) (by omega) (fun c58 => ?_) (fun c58 => ?_)
        · refine r_aload_n (pc := 80) dX12_push_80 (i := 0) rfl rfl ?_
          refine t_getE (pc := 81) (.ref (y + 6)) ht49 (rd_ov (by omega) hO) fX12_26 dX12_push_81 rfl ?_
          refine r_iload_n (pc := 84) dX12_push_84 (i := 1) rfl rfl ?_
          refine r_aload_n (pc := 85) dX12_push_85 (i := 0) rfl rfl ?_
          refine t_getE (pc := 86) (.ref (y + 40)) ht49 (rd_ov (by omega) hO) fX12_130 dX12_push_86 rfl ?_
          refine r_iload (pc := 89) dX12_push_89 rfl ?_
          refine t_ialdX (pc := 91) (t0 := 0) ht49 (rd_ov (by omega) hA_by) dX12_push_91 rfl (by decide) (by omega) (fun b23 => ?_)
          have rb23 := (show Rfx 16 0 59 By by assumption) (Int.toNat v8_5) (by omega)
          refine t_callSI (pc := 92) (as := [.int (iv x1), .int (iv (By (Int.toNat v8_5)))]) (st := [.ref (y + 6)]) kX12_157 dX12_push_92 (t_X12_at1x (d := d - 1) (x1 := x1) (x2 := By (Int.toNat v8_5)) (by omega)  ht49 (by omega) (by omega)) rfl (by omega) (Nat.le_of_ble_eq_true rfl) rfl (fun hp24 y26 ht25 by26 => ?_)
          have ey26 : y26 = 60 * x1 + (By (Int.toNat v8_5)) := by26
          subst ey26
          refine t_ialdX (pc := 95) (t0 := 0) ht25 (rd_ov (by omega) hA_to) dX12_push_95 rfl (by decide) (by omega) (fun b27 => ?_)
          have rb27 := (show Rfx 7260 0 15 To by assumption) (Int.toNat (60 * x1 + (By (Int.toNat v8_5)))) (by omega)
          refine Rn.pick (lv' := [(0, .ref y), (1, .int (iv x1)), (2, .int (iv x2)), (3, .int (iv x3)), (4, .int (iv u49_0))]) [1, 2, 3, 4, 0] rfl ?_
          exact B96 _ ht25 (To (Int.toNat (60 * x1 + (By (Int.toNat v8_5))))) ⟨by omega, by omega, by (show _ = tlR _ _ (jxR _ _); rw [tl_V (show 0 ≤ By (Int.toNat v8_5) by omega)]; first | rw [if_pos (show Ah (Int.toNat v8_5) ≠ 0 by omega)] | rw [if_neg (show ¬ Ah (Int.toNat v8_5) ≠ 0 by omega)])⟩
        · refine r_aload_n (pc := 61) dX12_push_61 (i := 0) rfl rfl ?_
          refine t_getE (pc := 62) (.ref (y + 5)) ht49 (rd_ov (by omega) hO) fX12_23 dX12_push_62 rfl ?_
          refine r_iload_n (pc := 65) dX12_push_65 (i := 1) rfl rfl ?_
          refine r_aload_n (pc := 66) dX12_push_66 (i := 0) rfl rfl ?_
          refine t_getE (pc := 67) (.ref (y + 40)) ht49 (rd_ov (by omega) hO) fX12_130 dX12_push_67 rfl ?_
          refine r_iload (pc := 70) dX12_push_70 rfl ?_
          refine t_ialdX (pc := 72) (t0 := 0) ht49 (rd_ov (by omega) hA_by) dX12_push_72 rfl (by decide) (by omega) (fun b28 => ?_)
          have rb28 := (show Rfx 16 0 59 By by assumption) (Int.toNat v8_5) (by omega)
          refine t_callSI (pc := 73) (as := [.int (iv x1), .int (iv (By (Int.toNat v8_5)))]) (st := [.ref (y + 5)]) kX12_157 dX12_push_73 (t_X12_at1x (d := d - 1) (x1 := x1) (x2 := By (Int.toNat v8_5)) (by omega)  ht49 (by omega) (by omega)) rfl (by omega) (Nat.le_of_ble_eq_true rfl) rfl (fun hp29 y31 ht30 by31 => ?_)
          have ey31 : y31 = 60 * x1 + (By (Int.toNat v8_5)) := by31
          subst ey31
          refine t_ialdX (pc := 76) (t0 := 0) ht30 (rd_ov (by omega) hA_from) dX12_push_76 rfl (by decide) (by omega) (fun b32 => ?_)
          have rb32 := (show Rfx 7260 0 15 Fr by assumption) (Int.toNat (60 * x1 + (By (Int.toNat v8_5)))) (by omega)
          refine r_goto (pc := 77) (tgt := 96) dX12_push_77 (by decide) ?_
          refine Rn.pick (lv' := [(0, .ref y), (1, .int (iv x1)), (2, .int (iv x2)), (3, .int (iv x3)), (4, .int (iv u49_0))]) [1, 2, 3, 4, 0] rfl ?_
          exact B96 _ ht30 (Fr (Int.toNat (60 * x1 + (By (Int.toNat v8_5))))) ⟨by omega, by omega, by (show _ = tlR _ _ (jxR _ _); rw [tl_V (show 0 ≤ By (Int.toNat v8_5) by omega)]; first | rw [if_pos (show Ah (Int.toNat v8_5) ≠ 0 by omega)] | rw [if_neg (show ¬ Ah (Int.toNat v8_5) ≠ 0 by omega)])⟩
      refine t_icmp_ge (pc := 39) (tgt := 47) dX12_push_39 (by decide) (by omega) (by omega) (fun c39 => ?_) (fun c39 => ?_)
      · refine r_iload (pc := 47) dX12_push_47 rfl ?_
        refine Rn.pick (lv' := [(0, .ref y), (1, .int (iv x1)), (2, .int (iv x2)), (3, .int (iv x3)), (5, .int (iv v8_5))]) [1, 2, 3, 4, 6] rfl ?_
        exact B49 _ ht20 v8_4 ⟨by omega, by omega, by omega, by omega, by omega⟩
      · refine r_iload (pc := 42) dX12_push_42 rfl ?_
        refine r_goto (pc := 44) (tgt := 49) dX12_push_44 (by decide) ?_
        refine Rn.pick (lv' := [(0, .ref y), (1, .int (iv x1)), (2, .int (iv x2)), (3, .int (iv x3)), (5, .int (iv v8_5))]) [1, 2, 3, 4, 6] rfl ?_
        exact B49 _ ht20 (rmV Wt Dr Gn x1 (By (Int.toNat v8_5)) (Ah (Int.toNat v8_5))) ⟨by omega, by omega, by omega, by omega, by omega⟩
  refine Rn.pick (lv' := [(0, .ref y), (1, .int (iv x1)), (2, .int (iv x2)), (3, .int (iv x3)), (4, .int (iv 1000000)), (5, .int (iv x3))]) [2, 3, 4, 5, 1, 0] rfl ?_
  exact B8 (Int.toNat ((j0 : Int))) j0 _ ht 1000000 x3 ⟨by omega, by omega, by omega, by omega, by assumption, by omega, by omega, by omega, by assumption⟩ (by omega)
