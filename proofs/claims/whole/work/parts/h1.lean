set_option maxHeartbeats 4000000 in
set_option maxRecDepth 100000 in
theorem t_X12_pushy {D : va_G} {cI cJ cZ cT : ClassId} {lo b L : Nat} {xs : Nat → Int32} {hp : MH} {n d : Nat} {Γ : TG} {y : Nat} {rf cnt nm : Int32} {Fr To Wt Dr Mn Sz By Ah : Nat → Int} {x1 x2 x3 : Int} {Gn Co Dd pp : Nat → Int} {j0 : Nat} (hd0 : 2 ≤ d) (hO : rd Γ y (tO 11 (mdF y rf cnt nm))) (hA_from : rd Γ (y + 5) (xI cI 7260 Fr)) (hR_from : Rfx 7260 0 15 Fr) (hA_to : rd Γ (y + 6) (xI cI 7260 To)) (hR_to : Rfx 7260 0 15 To) (hA_weight : rd Γ (y + 7) (xI cI 7260 Wt)) (hR_weight : Rfx 7260 (-1000) 1000 Wt) (hA_directs : rd Γ (y + 3) (xI cZ 121 Dr)) (hR_directs : Rfx 121 0 1 Dr) (hA_many : rd Γ (y + 4) (xI cI 121 Mn)) (hR_many : Rfx 121 0 60 Mn) (hA_sizes : rd Γ (y + 2) (xI cI 121 Sz)) (hR_sizes : Rfx 121 0 16 Sz) (hA_by : rd Γ (y + 40) (xI cI 16 By)) (hR_by : Rfx 16 0 59 By) (hA_ahead : rd Γ (y + 41) (xI cZ 16 Ah)) (hR_ahead : Rfx 16 0 1 Ah) (ht : Tw (ov Γ (y + 38) (xI cI 60 Gn)) hp) (hx1 : 0 ≤ x1 ∧ x1 ≤ 120) (hx2 : 0 ≤ x2 ∧ x2 ≤ 15) (hx3 : 0 ≤ x3 ∧ x3 ≤ 15) (hgo : Rfx 60 (-1000) 1000 Gn) (hw : wyR (Int.toNat (Sz (Int.toNat x1))) (Int.toNat x2) (arF Fr x1) (arF To x1) (arF Wt x1) (arF Co x1) (Dr (Int.toNat x1)) (Int.toNat (Mn (Int.toNat x1))) Gn Dd (bqR By Ah)) (hpd : ∀ u, u < (Int.toNat (Sz (Int.toNat x1))) → Dd u < 1000000000000 → pp u = Dd u) (hpt : ptR (tlR (arF Fr x1) (arF To x1)) (hdR (arF Fr x1) (arF To x1)) (rmR (arF Wt x1) (Dr (Int.toNat x1)) Gn) (csR (arF Co x1) Gn) (2 * (Int.toNat (Mn (Int.toNat x1)))) pp) (hfi : fiR (arF Wt x1) (Dr (Int.toNat x1)) (Int.toNat (Mn (Int.toNat x1))) Gn) (hj0 : exR (fun u => (tlR (arF Fr x1) (arF To x1) (bqR By Ah u)).toNat) (Int.toNat x2) j0 (Int.toNat x3)) (hy1 : Dd (Int.toNat x3) < 1000000000000) (hy2 : x3 < (Sz (Int.toNat x1))) (hx5 : x2 < (Sz (Int.toNat x1))) (hne : x2 ≠ x3) : Mt (gG D cI cJ cZ cT lo b L xs) mX12_push d 0 0 [.ref y, .int (iv x1), .int (iv x2), .int (iv x3)] hp n (pGR Γ cI y n (fun g1 => Rfx 60 (-1000) 1000 g1 ∧ fiR (arF Wt x1) (Dr (Int.toNat x1)) (Int.toNat (Mn (Int.toNat x1))) g1 ∧ ptR (tlR (arF Fr x1) (arF To x1)) (hdR (arF Fr x1) (arF To x1)) (rmR (arF Wt x1) (Dr (Int.toNat x1)) g1) (csR (arF Co x1) g1) (2 * (Int.toNat (Mn (Int.toNat x1)))) pp ∧ nfR (arF Fr x1) (arF To x1) (((Int.toNat x2) : Nat) : Int) Gn (Int.toNat (Mn (Int.toNat x1))) + 1 ≤ nfR (arF Fr x1) (arF To x1) (((Int.toNat x2) : Nat) : Int) g1 (Int.toNat (Mn (Int.toNat x1))) ∧ ∃ t9 : Int, 0 < t9 ∧ pxI (Int.toNat (Mn (Int.toNat x1))) (arF Fr x1) (arF To x1) Gn g1 t9 (Int.toNat x3) (Int.toNat x2))) := by
  refine Mt.of rfl (Nat.le_of_ble_eq_true rfl) ?_
  refine Rn.pick (lv' := [(0, .ref y), (1, .int (iv x1)), (2, .int (iv x2)), (3, .int (iv x3))]) [0, 1, 2, 3] rfl ?_
  have rMn := hR_many (Int.toNat x1) (by omega)
  have rSz := hR_sizes (Int.toNat x1) (by omega)
  have hmn0 : mnP (Int.toNat (Sz (Int.toNat x1))) (arF Fr x1) (arF To x1) (arF Wt x1) (Dr (Int.toNat x1)) Gn Dd (bqR By Ah) j0 (Int.toNat x3) 1000000 j0 (Int.toNat x3) := mn_id
  refine r_ldcw (pc := 0) (v := iv 1000000) dX12_push_0 kX12_387 ?_
  refine r_istore (pc := 3) (lv' := [(4, .int (iv 1000000)), (0, .ref y), (1, .int (iv x1)), (2, .int (iv x2)), (3, .int (iv x3))]) dX12_push_3 (by decide) rfl ?_
  refine r_iload_n (pc := 5) dX12_push_5 (i := 3) rfl rfl ?_
  refine r_istore (pc := 6) (lv' := [(5, .int (iv x3)), (4, .int (iv 1000000)), (0, .ref y), (1, .int (iv x1)), (2, .int (iv x2)), (3, .int (iv x3))]) dX12_push_6 (by decide) rfl ?_
  have B8 : ∀ k : Nat, ∀ jj8 : Nat, ∀ hp8 : MH, Tw (ov Γ (y + 38) (xI cI 60 Gn)) hp8 → ∀  (v8_4 : Int) (v8_5 : Int), 1 ≤ v8_4 ∧ v8_4 ≤ 1000000 ∧ 0 ≤ v8_5 ∧ v8_5 ≤ 15 ∧ exR (fun u => (tlR (arF Fr x1) (arF To x1) (bqR By Ah u)).toNat) (Int.toNat x2) jj8 (Int.toNat v8_5) ∧ v8_5 < (Sz (Int.toNat x1)) ∧ Dd (Int.toNat v8_5) < 1000000000000 ∧ 1 ≤ v8_4 ∧ mnP (Int.toNat (Sz (Int.toNat x1))) (arF Fr x1) (arF To x1) (arF Wt x1) (Dr (Int.toNat x1)) Gn Dd (bqR By Ah) j0 (Int.toNat x3) v8_4 jj8 (Int.toNat v8_5) → (jj8 : Int) ≤ (k : Int) → Rn (gG D cI cJ cZ cT lo b L xs) mX12_push d 8 [(0, .ref y), (1, .int (iv x1)), (2, .int (iv x2)), (3, .int (iv x3)), (4, .int (iv v8_4)), (5, .int (iv v8_5))] [] hp8 n 0 0 (pGR Γ cI y n (fun g1 => Rfx 60 (-1000) 1000 g1 ∧ fiR (arF Wt x1) (Dr (Int.toNat x1)) (Int.toNat (Mn (Int.toNat x1))) g1 ∧ ptR (tlR (arF Fr x1) (arF To x1)) (hdR (arF Fr x1) (arF To x1)) (rmR (arF Wt x1) (Dr (Int.toNat x1)) g1) (csR (arF Co x1) g1) (2 * (Int.toNat (Mn (Int.toNat x1)))) pp ∧ nfR (arF Fr x1) (arF To x1) (((Int.toNat x2) : Nat) : Int) Gn (Int.toNat (Mn (Int.toNat x1))) + 1 ≤ nfR (arF Fr x1) (arF To x1) (((Int.toNat x2) : Nat) : Int) g1 (Int.toNat (Mn (Int.toNat x1))) ∧ ∃ t9 : Int, 0 < t9 ∧ pxI (Int.toNat (Mn (Int.toNat x1))) (arF Fr x1) (arF To x1) Gn g1 t9 (Int.toNat x3) (Int.toNat x2))) := by
    refine lpS _ ?_
    intro k8 ih8 jj8 hp8 ht8 v8_4 v8_5 hf8 hm8
    obtain ⟨hf8_0, hf8_1, hf8_2, hf8_3, ha8_4, hf8_5, hf8_6, hf8_7, ha8_8⟩ := hf8
    refine r_iload (pc := 8) dX12_push_8 rfl ?_
    refine r_iload_n (pc := 10) dX12_push_10 (i := 2) rfl rfl ?_
    refine t_icmp_eq (pc := 11) (tgt := 101) dX12_push_11 (by decide) (by omega) (by omega) (fun c11 => ?_) (fun c11 => ?_)
    · refine r_iload_n (pc := 101) dX12_push_101 (i := 3) rfl rfl ?_
      have ej0 := ex_zero (show exR (fun u => (tlR (arF Fr x1) (arF To x1) (bqR By Ah u)).toNat) (Int.toNat x2) jj8 (Int.toNat v8_5) by assumption) (by omega)
      subst ej0
      have hon := mn_fin (show mnP (Int.toNat (Sz (Int.toNat x1))) (arF Fr x1) (arF To x1) (arF Wt x1) (Dr (Int.toNat x1)) Gn Dd (bqR By Ah) j0 (Int.toNat x3) v8_4 0 (Int.toNat v8_5) by assumption)
      have hpu0 : puR (Int.toNat (Sz (Int.toNat x1))) (Int.toNat x2) (arF Fr x1) (arF To x1) (arF Wt x1) (arF Co x1) (Dr (Int.toNat x1)) (Int.toNat (Mn (Int.toNat x1))) Gn Dd pp (bqR By Ah) v8_4 (nfR (arF Fr x1) (arF To x1) (((Int.toNat x2) : Nat) : Int) Gn (Int.toNat (Mn (Int.toNat x1)))) Gn j0 (Int.toNat x3) := ⟨hfi, hpt, hj0, by omega, hy1, hon, fun _ => rfl, fun h9 => by omega⟩
      have hpx0 : pxI (Int.toNat (Mn (Int.toNat x1))) (arF Fr x1) (arF To x1) Gn Gn v8_4 (Int.toNat x3) (Int.toNat x3) := px_0
      refine r_istore (pc := 102) (lv' := [(5, .int (iv x3)), (0, .ref y), (1, .int (iv x1)), (2, .int (iv x2)), (3, .int (iv x3)), (4, .int (iv v8_4))]) dX12_push_102 (by decide) rfl ?_
      have B104 : ∀ k : Nat, ∀ jj104 : Nat, ∀ G104 : Nat → Int, ∀ hp104 : MH, Tw (ov Γ (y + 38) (xI cI 60 G104)) hp104 → ∀  (v104_5 : Int), 0 ≤ v104_5 ∧ v104_5 ≤ 15 ∧ puR (Int.toNat (Sz (Int.toNat x1))) (Int.toNat x2) (arF Fr x1) (arF To x1) (arF Wt x1) (arF Co x1) (Dr (Int.toNat x1)) (Int.toNat (Mn (Int.toNat x1))) Gn Dd pp (bqR By Ah) v8_4 (nfR (arF Fr x1) (arF To x1) (((Int.toNat x2) : Nat) : Int) Gn (Int.toNat (Mn (Int.toNat x1)))) G104 jj104 (Int.toNat v104_5) ∧ Rfx 60 (-1000) 1000 G104 ∧ v104_5 < (Sz (Int.toNat x1)) ∧ pxI (Int.toNat (Mn (Int.toNat x1))) (arF Fr x1) (arF To x1) Gn G104 v8_4 (Int.toNat x3) (Int.toNat v104_5) → (jj104 : Int) ≤ (k : Int) → Rn (gG D cI cJ cZ cT lo b L xs) mX12_push d 104 [(0, .ref y), (1, .int (iv x1)), (2, .int (iv x2)), (4, .int (iv v8_4)), (5, .int (iv v104_5))] [] hp104 n 0 0 (pGR Γ cI y n (fun g1 => Rfx 60 (-1000) 1000 g1 ∧ fiR (arF Wt x1) (Dr (Int.toNat x1)) (Int.toNat (Mn (Int.toNat x1))) g1 ∧ ptR (tlR (arF Fr x1) (arF To x1)) (hdR (arF Fr x1) (arF To x1)) (rmR (arF Wt x1) (Dr (Int.toNat x1)) g1) (csR (arF Co x1) g1) (2 * (Int.toNat (Mn (Int.toNat x1)))) pp ∧ nfR (arF Fr x1) (arF To x1) (((Int.toNat x2) : Nat) : Int) Gn (Int.toNat (Mn (Int.toNat x1))) + 1 ≤ nfR (arF Fr x1) (arF To x1) (((Int.toNat x2) : Nat) : Int) g1 (Int.toNat (Mn (Int.toNat x1))) ∧ ∃ t9 : Int, 0 < t9 ∧ pxI (Int.toNat (Mn (Int.toNat x1))) (arF Fr x1) (arF To x1) Gn g1 t9 (Int.toNat x3) (Int.toNat x2))) := by
        refine lpS _ ?_
        intro k104 ih104 jj104 G104 hp104 ht104 v104_5 hf104 hm104
        obtain ⟨hf104_0, hf104_1, ha104_2, ha104_3, hf104_4, ha104_5⟩ := hf104
        refine r_iload (pc := 104) dX12_push_104 rfl ?_
        refine r_iload_n (pc := 106) dX12_push_106 (i := 2) rfl rfl ?_
        refine t_icmp_eq (pc := 107) (tgt := 193) dX12_push_107 (by decide) (by omega) (by omega) (fun c107 => ?_) (fun c107 => ?_)
        · exact r_vret (pc := 193) dX12_push_193 rfl (by have hq := (show puR (Int.toNat (Sz (Int.toNat x1))) (Int.toNat x2) (arF Fr x1) (arF To x1) (arF Wt x1) (arF Co x1) (Dr (Int.toNat x1)) (Int.toNat (Mn (Int.toNat x1))) Gn Dd pp (bqR By Ah) v8_4 (nfR (arF Fr x1) (arF To x1) (((Int.toNat x2) : Nat) : Int) Gn (Int.toNat (Mn (Int.toNat x1)))) G104 jj104 (Int.toNat v104_5) by assumption); exact ⟨rfl, rfl, G104, ht104, by assumption, hq.1, hq.2.1, by have h9 := hq.2.2.2.2.2.2.2 (by omega); omega, v8_4, by omega, by have h9 := (show pxI (Int.toNat (Mn (Int.toNat x1))) (arF Fr x1) (arF To x1) Gn G104 v8_4 (Int.toNat x3) (Int.toNat v104_5) by assumption); rw [show Int.toNat v104_5 = (Int.toNat x2) by omega] at h9; exact h9⟩)
        · refine r_aload_n (pc := 110) dX12_push_110 (i := 0) rfl rfl ?_
          have hpq := (show puR (Int.toNat (Sz (Int.toNat x1))) (Int.toNat x2) (arF Fr x1) (arF To x1) (arF Wt x1) (arF Co x1) (Dr (Int.toNat x1)) (Int.toNat (Mn (Int.toNat x1))) Gn Dd pp (bqR By Ah) v8_4 (nfR (arF Fr x1) (arF To x1) (((Int.toNat x2) : Nat) : Int) Gn (Int.toNat (Mn (Int.toNat x1)))) G104 jj104 (Int.toNat v104_5) by assumption)
          obtain ⟨jn, ejn, hxn⟩ := ex_pos hpq.2.2.1 (by omega)
          subst ejn
          obtain ⟨w1, w2, w3, w4, w5, w6, w7, w8⟩ := hw (Int.toNat v104_5) (by omega) (by omega) hpq.2.2.2.2.1
          have hnx := pu_st hw hpd (by omega) hpq
          have w1q : jxR (By (Int.toNat v104_5)) (Ah (Int.toNat v104_5)) < 2 * (Int.toNat (Mn (Int.toNat x1))) := w1
          have hjd := (jx_d (k := By (Int.toNat v104_5)) (f := Ah (Int.toNat v104_5))).1
          refine t_getE (pc := 111) (.ref (y + 38)) ht104 (rd_ov (by omega) hO) fX12_124 dX12_push_111 rfl ?_
          refine r_aload_n (pc := 114) dX12_push_114 (i := 0) rfl rfl ?_
          refine t_getE (pc := 115) (.ref (y + 40)) ht104 (rd_ov (by omega) hO) fX12_130 dX12_push_115 rfl ?_
          refine r_iload (pc := 118) dX12_push_118 rfl ?_
          refine t_ialdX (pc := 120) (t0 := 0) ht104 (rd_ov (by omega) hA_by) dX12_push_120 rfl (by decide) (by omega) (fun b1 => ?_)
          have rb1 := (show Rfx 16 0 59 By by assumption) (Int.toNat v104_5) (by omega)
          refine r_dup2_11 (pc := 121) dX12_push_121 rfl rfl ?_
          refine t_ialdX (pc := 122) (t0 := 0) ht104 (rd_of (ov_s _ _ _)) dX12_push_122 rfl (by decide) (by omega) (fun b2 => ?_)
          have rb2 := (show Rfx 60 (-1000) 1000 G104 by assumption) (Int.toNat (By (Int.toNat v104_5))) (by omega)
          refine r_aload_n (pc := 123) dX12_push_123 (i := 0) rfl rfl ?_
          refine t_getE (pc := 124) (.ref (y + 41)) ht104 (rd_ov (by omega) hO) fX12_133 dX12_push_124 rfl ?_
          refine r_iload (pc := 127) dX12_push_127 rfl ?_
          refine t_zaldX (pc := 129) (t0 := 2) ht104 (rd_ov (by omega) hA_ahead) dX12_push_129 rfl (by decide) (by omega) (fun b3 => ?_)
          have rb3 := (show Rfx 16 0 1 Ah by assumption) (Int.toNat v104_5) (by omega)
          have B141 : ∀ hp141 : MH, Tw (ov Γ (y + 38) (xI cI 60 G104)) hp141 → ∀  (u141_3 : Int), (-1000000) ≤ u141_3 ∧ u141_3 ≤ 1000000 ∧ u141_3 = (if Ah (Int.toNat v104_5) ≠ 0 then v8_4 else - v8_4) → Rn (gG D cI cJ cZ cT lo b L xs) mX12_push d 141 [(0, .ref y), (1, .int (iv x1)), (2, .int (iv x2)), (4, .int (iv v8_4)), (5, .int (iv v104_5))] [.int (iv u141_3), .int (iv (G104 (Int.toNat (By (Int.toNat v104_5))))), .int (iv (By (Int.toNat v104_5))), .ref (y + 38)] hp141 n 0 0 (pGR Γ cI y n (fun g1 => Rfx 60 (-1000) 1000 g1 ∧ fiR (arF Wt x1) (Dr (Int.toNat x1)) (Int.toNat (Mn (Int.toNat x1))) g1 ∧ ptR (tlR (arF Fr x1) (arF To x1)) (hdR (arF Fr x1) (arF To x1)) (rmR (arF Wt x1) (Dr (Int.toNat x1)) g1) (csR (arF Co x1) g1) (2 * (Int.toNat (Mn (Int.toNat x1)))) pp ∧ nfR (arF Fr x1) (arF To x1) (((Int.toNat x2) : Nat) : Int) Gn (Int.toNat (Mn (Int.toNat x1))) + 1 ≤ nfR (arF Fr x1) (arF To x1) (((Int.toNat x2) : Nat) : Int) g1 (Int.toNat (Mn (Int.toNat x1))) ∧ ∃ t9 : Int, 0 < t9 ∧ pxI (Int.toNat (Mn (Int.toNat x1))) (arF Fr x1) (arF To x1) Gn g1 t9 (Int.toNat x3) (Int.toNat x2))) := by
            intro hp141 ht141 u141_3 hf141
            obtain ⟨hf141_0, hf141_1, ha141_2⟩ := hf141
            refine r_iadd (pc := 141) (v := iv ((G104 (Int.toNat (By (Int.toNat v104_5)))) + u141_3)) dX12_push_141 (iv_add _ _) ?_
            refine t_iastX (pc := 142) (t0 := 0) ht141 (ov_s _ _ _) dX12_push_142 rfl (by decide) (by omega) (by omega) (fun hp4 ht5 => ?_)
            rw [ov_ov] at ht5
            have eG : (fup G104 (Int.toNat (By (Int.toNat v104_5))) ((G104 (Int.toNat (By (Int.toNat v104_5)))) + u141_3)) = psR G104 (bqR By Ah (Int.toNat v104_5)) v8_4 := by show _ = psR G104 (jxR _ _) v8_4; rw [psR_V, show u141_3 = (if Ah (Int.toNat v104_5) ≠ 0 then v8_4 else - v8_4) by assumption]
            have hp2 : puR (Int.toNat (Sz (Int.toNat x1))) (Int.toNat x2) (arF Fr x1) (arF To x1) (arF Wt x1) (arF Co x1) (Dr (Int.toNat x1)) (Int.toNat (Mn (Int.toNat x1))) Gn Dd pp (bqR By Ah) v8_4 (nfR (arF Fr x1) (arF To x1) (((Int.toNat x2) : Nat) : Int) Gn (Int.toNat (Mn (Int.toNat x1)))) (fup G104 (Int.toNat (By (Int.toNat v104_5))) ((G104 (Int.toNat (By (Int.toNat v104_5)))) + u141_3)) jn (tlR (arF Fr x1) (arF To x1) (bqR By Ah (Int.toNat v104_5))).toNat := by rw [eG]; exact hnx
            have hfk := hp2.1 (Int.toNat (By (Int.toNat v104_5))) (by omega)
            rw [fup_s] at hfk
            have hpx2 : pxI (Int.toNat (Mn (Int.toNat x1))) (arF Fr x1) (arF To x1) Gn (fup G104 (Int.toNat (By (Int.toNat v104_5))) ((G104 (Int.toNat (By (Int.toNat v104_5)))) + u141_3)) v8_4 (Int.toNat x3) (tlR (arF Fr x1) (arF To x1) (bqR By Ah (Int.toNat v104_5))).toNat := by rw [eG]; exact px_st (by assumption) w1 w2 w5
            have hcp := cp_hi (W := Wt) (g := x1) (k := Int.toNat (By (Int.toNat v104_5))) (by assumption) (by omega) (by omega)
            have hRG : Rfx 60 (-1000) 1000 (fup G104 (Int.toNat (By (Int.toNat v104_5))) ((G104 (Int.toNat (By (Int.toNat v104_5)))) + u141_3)) := Rfx_up (by assumption) (by omega)
            refine r_aload_n (pc := 143) dX12_push_143 (i := 0) rfl rfl ?_
            refine t_getE (pc := 144) (.ref (y + 41)) ht5 (rd_ov (by omega) hO) fX12_133 dX12_push_144 rfl ?_
            refine r_iload (pc := 147) dX12_push_147 rfl ?_
            refine t_zaldX (pc := 149) (t0 := 2) ht5 (rd_ov (by omega) hA_ahead) dX12_push_149 rfl (by decide) (by omega) (fun b6 => ?_)
            have rb6 := (show Rfx 16 0 1 Ah by assumption) (Int.toNat v104_5) (by omega)
            have B188 : ∀ hp188 : MH, Tw (ov Γ (y + 38) (xI cI 60 (fup G104 (Int.toNat (By (Int.toNat v104_5))) ((G104 (Int.toNat (By (Int.toNat v104_5)))) + u141_3)))) hp188 → ∀  (u188_0 : Int), 0 ≤ u188_0 ∧ u188_0 ≤ 15 ∧ u188_0 = tlR (arF Fr x1) (arF To x1) (bqR By Ah (Int.toNat v104_5)) → Rn (gG D cI cJ cZ cT lo b L xs) mX12_push d 188 [(0, .ref y), (1, .int (iv x1)), (2, .int (iv x2)), (4, .int (iv v8_4))] [.int (iv u188_0)] hp188 n 0 0 (pGR Γ cI y n (fun g1 => Rfx 60 (-1000) 1000 g1 ∧ fiR (arF Wt x1) (Dr (Int.toNat x1)) (Int.toNat (Mn (Int.toNat x1))) g1 ∧ ptR (tlR (arF Fr x1) (arF To x1)) (hdR (arF Fr x1) (arF To x1)) (rmR (arF Wt x1) (Dr (Int.toNat x1)) g1) (csR (arF Co x1) g1) (2 * (Int.toNat (Mn (Int.toNat x1)))) pp ∧ nfR (arF Fr x1) (arF To x1) (((Int.toNat x2) : Nat) : Int) Gn (Int.toNat (Mn (Int.toNat x1))) + 1 ≤ nfR (arF Fr x1) (arF To x1) (((Int.toNat x2) : Nat) : Int) g1 (Int.toNat (Mn (Int.toNat x1))) ∧ ∃ t9 : Int, 0 < t9 ∧ pxI (Int.toNat (Mn (Int.toNat x1))) (arF Fr x1) (arF To x1) Gn g1 t9 (Int.toNat x3) (Int.toNat x2))) := by
              intro hp188 ht188 u188_0 hf188
              obtain ⟨hf188_0, hf188_1, ha188_2⟩ := hf188
              refine r_istore (pc := 188) (lv' := [(5, .int (iv u188_0)), (0, .ref y), (1, .int (iv x1)), (2, .int (iv x2)), (4, .int (iv v8_4))]) dX12_push_188 (by decide) rfl ?_
              have e188 : u188_0 = tlR (arF Fr x1) (arF To x1) (bqR By Ah (Int.toNat v104_5)) := by assumption
              have h188a : puR (Int.toNat (Sz (Int.toNat x1))) (Int.toNat x2) (arF Fr x1) (arF To x1) (arF Wt x1) (arF Co x1) (Dr (Int.toNat x1)) (Int.toNat (Mn (Int.toNat x1))) Gn Dd pp (bqR By Ah) v8_4 (nfR (arF Fr x1) (arF To x1) (((Int.toNat x2) : Nat) : Int) Gn (Int.toNat (Mn (Int.toNat x1)))) (fup G104 (Int.toNat (By (Int.toNat v104_5))) ((G104 (Int.toNat (By (Int.toNat v104_5)))) + u141_3)) jn (Int.toNat u188_0) := by rw [e188]; exact hp2
              have h188x : pxI (Int.toNat (Mn (Int.toNat x1))) (arF Fr x1) (arF To x1) Gn (fup G104 (Int.toNat (By (Int.toNat v104_5))) ((G104 (Int.toNat (By (Int.toNat v104_5)))) + u141_3)) v8_4 (Int.toNat x3) (Int.toNat u188_0) := by rw [e188]; exact hpx2
              refine r_goto (pc := 190) (tgt := 104) dX12_push_190 (by decide) ?_
              refine Rn.pick (lv' := [(0, .ref y), (1, .int (iv x1)), (2, .int (iv x2)), (4, .int (iv v8_4)), (5, .int (iv u188_0))]) [1, 2, 3, 4, 0] rfl ?_
              exact ih104 (Int.toNat ((jn : Int))) (by omega) jn (fup G104 (Int.toNat (By (Int.toNat v104_5))) ((G104 (Int.toNat (By (Int.toNat v104_5)))) + u141_3)) _ ht188 u188_0 ⟨by omega, by omega, by assumption, by assumption, by omega, by assumption⟩ (by omega)
            refine t_if_eq (pc := 150) (tgt := 172) dX12_push_150 (by decide) (by omega) (fun c150 => ?_) (fun c150 => ?_)
            · refine r_aload_n (pc := 172) dX12_push_172 (i := 0) rfl rfl ?_
              refine t_getE (pc := 173) (.ref (y + 6)) ht5 (rd_ov (by omega) hO) fX12_26 dX12_push_173 rfl ?_
              refine r_iload_n (pc := 176) dX12_push_176 (i := 1) rfl rfl ?_
              refine r_aload_n (pc := 177) dX12_push_177 (i := 0) rfl rfl ?_
              refine t_getE (pc := 178) (.ref (y + 40)) ht5 (rd_ov (by omega) hO) fX12_130 dX12_push_178 rfl ?_
              refine r_iload (pc := 181) dX12_push_181 rfl ?_
              refine t_ialdX (pc := 183) (t0 := 0) ht5 (rd_ov (by omega) hA_by) dX12_push_183 rfl (by decide) (by omega) (fun b7 => ?_)
              have rb7 := (show Rfx 16 0 59 By by assumption) (Int.toNat v104_5) (by omega)
              refine t_callSI (pc := 184) (as := [.int (iv x1), .int (iv (By (Int.toNat v104_5)))]) (st := [.ref (y + 6)]) kX12_157 dX12_push_184 (t_X12_at1x (d := d - 1) (x1 := x1) (x2 := By (Int.toNat v104_5)) (by omega)  ht5 (by omega) (by omega)) rfl (by omega) (Nat.le_of_ble_eq_true rfl) rfl (fun hp8 y10 ht9 by10 => ?_)
              have ey10 : y10 = 60 * x1 + (By (Int.toNat v104_5)) := by10
              subst ey10
              refine t_ialdX (pc := 187) (t0 := 0) ht9 (rd_ov (by omega) hA_to) dX12_push_187 rfl (by decide) (by omega) (fun b11 => ?_)
              have rb11 := (show Rfx 7260 0 15 To by assumption) (Int.toNat (60 * x1 + (By (Int.toNat v104_5)))) (by omega)
              refine Rn.pick (lv' := [(0, .ref y), (1, .int (iv x1)), (2, .int (iv x2)), (4, .int (iv v8_4))]) [0, 1, 2, 3] rfl ?_
              exact B188 _ ht9 (To (Int.toNat (60 * x1 + (By (Int.toNat v104_5))))) ⟨by omega, by omega, by (show _ = tlR _ _ (jxR _ _); rw [tl_V (show 0 ≤ By (Int.toNat v104_5) by omega)]; first | rw [if_pos (show Ah (Int.toNat v104_5) ≠ 0 by omega)] | rw [if_neg (show ¬ Ah (Int.toNat v104_5) ≠ 0 by omega)])⟩
            · refine r_aload_n (pc := 153) dX12_push_153 (i := 0) rfl rfl ?_
              refine t_getE (pc := 154) (.ref (y + 5)) ht5 (rd_ov (by omega) hO) fX12_23 dX12_push_154 rfl ?_
              refine r_iload_n (pc := 157) dX12_push_157 (i := 1) rfl rfl ?_
              refine r_aload_n (pc := 158) dX12_push_158 (i := 0) rfl rfl ?_
              refine t_getE (pc := 159) (.ref (y + 40)) ht5 (rd_ov (by omega) hO) fX12_130 dX12_push_159 rfl ?_
              refine r_iload (pc := 162) dX12_push_162 rfl ?_
              refine t_ialdX (pc := 164) (t0 := 0) ht5 (rd_ov (by omega) hA_by) dX12_push_164 rfl (by decide) (by omega) (fun b12 => ?_)
              have rb12 := (show Rfx 16 0 59 By by assumption) (Int.toNat v104_5) (by omega)
              refine t_callSI (pc := 165) (as := [.int (iv x1), .int (iv (By (Int.toNat v104_5)))]) (st := [.ref (y + 5)]) kX12_157 dX12_push_165 (t_X12_at1x (d := d - 1) (x1 := x1) (x2 := By (Int.toNat v104_5)) (by omega)  ht5 (by omega) (by omega)) rfl (by omega) (Nat.le_of_ble_eq_true rfl) rfl (fun hp13 y15 ht14 by15 => ?_)
              have ey15 : y15 = 60 * x1 + (By (Int.toNat v104_5)) := by15
              subst ey15
              refine t_ialdX (pc := 168) (t0 := 0) ht14 (rd_ov (by omega) hA_from) dX12_push_168 rfl (by decide) (by omega) (fun b16 => ?_)
              have rb16 := (show Rfx 7260 0 15 Fr by assumption) (Int.toNat (60 * x1 + (By (Int.toNat v104_5)))) (by omega)
              refine r_goto (pc := 169) (tgt := 188) dX12_push_169 (by decide) ?_
              refine Rn.pick (lv' := [(0, .ref y), (1, .int (iv x1)), (2, .int (iv x2)), (4, .int (iv v8_4))]) [0, 1, 2, 3] rfl ?_
              exact B188 _ ht14 (Fr (Int.toNat (60 * x1 + (By (Int.toNat v104_5))))) ⟨by omega, by omega, by (show _ = tlR _ _ (jxR _ _); rw [tl_V (show 0 ≤ By (Int.toNat v104_5) by omega)]; first | rw [if_pos (show Ah (Int.toNat v104_5) ≠ 0 by omega)] | rw [if_neg (show ¬ Ah (Int.toNat v104_5) ≠ 0 by omega)])⟩
          refine t_if_eq (pc := 130) (tgt := 138) dX12_push_130 (by decide) (by omega) (fun c130 => ?_) (fun c130 => ?_)
          · refine r_iload (pc := 138) dX12_push_138 rfl ?_
            refine r_ineg (pc := 140) (v := iv (-v8_4)) dX12_push_140 (iv_neg _) ?_
            refine Rn.pick (lv' := [(0, .ref y), (1, .int (iv x1)), (2, .int (iv x2)), (4, .int (iv v8_4)), (5, .int (iv v104_5))]) [0, 1, 2, 3, 4] rfl ?_
            exact B141 _ ht104 (-v8_4) ⟨by omega, by omega, by (first | rw [if_pos (show Ah (Int.toNat v104_5) ≠ 0 by omega)] | rw [if_neg (show ¬ Ah (Int.toNat v104_5) ≠ 0 by omega)])⟩
          · refine r_iload (pc := 133) dX12_push_133 rfl ?_
            refine r_goto (pc := 135) (tgt := 141) dX12_push_135 (by decide) ?_
            refine Rn.pick (lv' := [(0, .ref y), (1, .int (iv x1)), (2, .int (iv x2)), (4, .int (iv v8_4)), (5, .int (iv v104_5))]) [0, 1, 2, 3, 4] rfl ?_
            exact B141 _ ht104 v8_4 ⟨by omega, by omega, by (first | rw [if_pos (show Ah (Int.toNat v104_5) ≠ 0 by omega)] | rw [if_neg (show ¬ Ah (Int.toNat v104_5) ≠ 0 by omega)])⟩
      refine Rn.pick (lv' := [(0, .ref y), (1, .int (iv x1)), (2, .int (iv x2)), (4, .int (iv v8_4)), (5, .int (iv x3))]) [1, 2, 3, 5, 0] rfl ?_
      exact B104 (Int.toNat ((j0 : Int))) j0 Gn _ ht8 x3 ⟨by omega, by omega, by assumption, by assumption, by omega, by assumption⟩ (by omega)
    · refine r_aload_n (pc := 14) dX12_push_14 (i := 0) rfl rfl ?_
      obtain ⟨jn, ejn, hxn⟩ := ex_pos (show exR (fun u => (tlR (arF Fr x1) (arF To x1) (bqR By Ah u)).toNat) (Int.toNat x2) jj8 (Int.toNat v8_5) by assumption) (by omega)
      subst ejn
      obtain ⟨w1, w2, w3, w4, w5, w6, w7, w8⟩ := hw (Int.toNat v8_5) (by omega) (by omega) (by omega)
      refine r_iload_n (pc := 15) dX12_push_15 (i := 1) rfl rfl ?_
      refine r_aload_n (pc := 16) dX12_push_16 (i := 0) rfl rfl ?_
      refine t_getE (pc := 17) (.ref (y + 40)) ht8 (rd_ov (by omega) hO) fX12_130 dX12_push_17 rfl ?_
      refine r_iload (pc := 20) dX12_push_20 rfl ?_
      refine t_ialdX (pc := 22) (t0 := 0) ht8 (rd_ov (by omega) hA_by) dX12_push_22 rfl (by decide) (by omega) (fun b17 => ?_)
      have rb17 := (show Rfx 16 0 59 By by assumption) (Int.toNat v8_5) (by omega)
      refine r_aload_n (pc := 23) dX12_push_23 (i := 0) rfl rfl ?_
      refine t_getE (pc := 24) (.ref (y + 41)) ht8 (rd_ov (by omega) hO) fX12_133 dX12_push_24 rfl ?_
      refine r_iload (pc := 27) dX12_push_27 rfl ?_
      refine t_zaldX (pc := 29) (t0 := 2) ht8 (rd_ov (by omega) hA_ahead) dX12_push_29 rfl (by decide) (by omega) (fun b18 => ?_)
      have rb18 := (show Rfx 16 0 1 Ah by assumption) (Int.toNat v8_5) (by omega)
      refine t_callVI (pc := 30) (as := [.int (iv x1), .int (iv (By (Int.toNat v8_5))), .int (iv (Ah (Int.toNat v8_5)))]) (st := []) ht8 (rd_ov (by omega) hO) kX12_380 rfl dX12_push_30 (t_X12_roomOfx (d := d - 1) (x1 := x1) (x2 := By (Int.toNat v8_5)) (x3 := Ah (Int.toNat v8_5)) (by omega) (rd_ov (by omega) hO) (rd_ov (by omega) hA_weight) (show Rfx 7260 (-1000) 1000 Wt by assumption) (rd_ov (by omega) hA_directs) (show Rfx 121 0 1 Dr by assumption) (rd_of (ov_s _ _ _)) (show Rfx 60 (-1000) 1000 Gn by assumption) ht8 (by omega) (by omega) (by omega)) rfl (by omega) (Nat.le_of_ble_eq_true rfl) rfl (fun hp19 y21 ht20 by21 => ?_)
      have ey21 : y21 = rmV Wt Dr Gn x1 (By (Int.toNat v8_5)) (Ah (Int.toNat v8_5)) := by21
      subst ey21
      have ry21 := rm_b (Wt := Wt) (Dr := Dr) (Gn := Gn) (g := x1) (k := By (Int.toNat v8_5)) (f := Ah (Int.toNat v8_5)) (by assumption) (by assumption) (by omega) (by omega)
      have hrm : rmV Wt Dr Gn x1 (By (Int.toNat v8_5)) (Ah (Int.toNat v8_5)) = rmR (arF Wt x1) (Dr (Int.toNat x1)) Gn (bqR By Ah (Int.toNat v8_5)) := rm_V (by omega)
      refine r_istore (pc := 33) (lv' := [(6, .int (iv (rmV Wt Dr Gn x1 (By (Int.toNat v8_5)) (Ah (Int.toNat v8_5))))), (0, .ref y), (1, .int (iv x1)), (2, .int (iv x2)), (3, .int (iv x3)), (4, .int (iv v8_4)), (5, .int (iv v8_5))]) dX12_push_33 (by decide) rfl ?_
      refine r_iload (pc := 35) dX12_push_35 rfl ?_
      refine r_iload (pc := 37) dX12_push_37 rfl ?_
      have B49 : ∀ hp49 : MH, Tw (ov Γ (y + 38) (xI cI 60 Gn)) hp49 → ∀  (u49_0 : Int), (-2000) ≤ u49_0 ∧ u49_0 ≤ 2000 ∧ u49_0 ≤ v8_4 ∧ u49_0 ≤ (rmV Wt Dr Gn x1 (By (Int.toNat v8_5)) (Ah (Int.toNat v8_5))) ∧ 1 ≤ u49_0 → Rn (gG D cI cJ cZ cT lo b L xs) mX12_push d 49 [(0, .ref y), (1, .int (iv x1)), (2, .int (iv x2)), (3, .int (iv x3)), (5, .int (iv v8_5))] [.int (iv u49_0)] hp49 n 0 0 (pGR Γ cI y n (fun g1 => Rfx 60 (-1000) 1000 g1 ∧ fiR (arF Wt x1) (Dr (Int.toNat x1)) (Int.toNat (Mn (Int.toNat x1))) g1 ∧ ptR (tlR (arF Fr x1) (arF To x1)) (hdR (arF Fr x1) (arF To x1)) (rmR (arF Wt x1) (Dr (Int.toNat x1)) g1) (csR (arF Co x1) g1) (2 * (Int.toNat (Mn (Int.toNat x1)))) pp ∧ nfR (arF Fr x1) (arF To x1) (((Int.toNat x2) : Nat) : Int) Gn (Int.toNat (Mn (Int.toNat x1))) + 1 ≤ nfR (arF Fr x1) (arF To x1) (((Int.toNat x2) : Nat) : Int) g1 (Int.toNat (Mn (Int.toNat x1))) ∧ ∃ t9 : Int, 0 < t9 ∧ pxI (Int.toNat (Mn (Int.toNat x1))) (arF Fr x1) (arF To x1) Gn g1 t9 (Int.toNat x3) (Int.toNat x2))) := by
        intro hp49 ht49 u49_0 hf49
        refine r_istore (pc := 49) (lv' := [(4, .int (iv u49_0)), (0, .ref y), (1, .int (iv x1)), (2, .int (iv x2)), (3, .int (iv x3)), (5, .int (iv v8_5))]) dX12_push_49 (by decide) rfl ?_
        refine r_aload_n (pc := 51) dX12_push_51 (i := 0) rfl rfl ?_
        refine t_getE (pc := 52) (.ref (y + 41)) ht49 (rd_ov (by omega) hO) fX12_133 dX12_push_52 rfl ?_
        refine r_iload (pc := 55) dX12_push_55 rfl ?_
        refine t_zaldX (pc := 57) (t0 := 2) ht49 (rd_ov (by omega) hA_ahead) dX12_push_57 rfl (by decide) (by omega) (fun b22 => ?_)
        have rb22 := (show Rfx 16 0 1 Ah by assumption) (Int.toNat v8_5) (by omega)
        have B96 : ∀ hp96 : MH, Tw (ov Γ (y + 38) (xI cI 60 Gn)) hp96 → ∀  (u96_0 : Int), 0 ≤ u96_0 ∧ u96_0 ≤ 15 ∧ u96_0 = tlR (arF Fr x1) (arF To x1) (bqR By Ah (Int.toNat v8_5)) → Rn (gG D cI cJ cZ cT lo b L xs) mX12_push d 96 [(0, .ref y), (1, .int (iv x1)), (2, .int (iv x2)), (3, .int (iv x3)), (4, .int (iv u49_0))] [.int (iv u96_0)] hp96 n 0 0 (pGR Γ cI y n (fun g1 => Rfx 60 (-1000) 1000 g1 ∧ fiR (arF Wt x1) (Dr (Int.toNat x1)) (Int.toNat (Mn (Int.toNat x1))) g1 ∧ ptR (tlR (arF Fr x1) (arF To x1)) (hdR (arF Fr x1) (arF To x1)) (rmR (arF Wt x1) (Dr (Int.toNat x1)) g1) (csR (arF Co x1) g1) (2 * (Int.toNat (Mn (Int.toNat x1)))) pp ∧ nfR (arF Fr x1) (arF To x1) (((Int.toNat x2) : Nat) : Int) Gn (Int.toNat (Mn (Int.toNat x1))) + 1 ≤ nfR (arF Fr x1) (arF To x1) (((Int.toNat x2) : Nat) : Int) g1 (Int.toNat (Mn (Int.toNat x1))) ∧ ∃ t9 : Int, 0 < t9 ∧ pxI (Int.toNat (Mn (Int.toNat x1))) (arF Fr x1) (arF To x1) Gn g1 t9 (Int.toNat x3) (Int.toNat x2))) := by
          intro hp96 ht96 u96_0 hf96
          obtain ⟨hf96_0, hf96_1, ha96_2⟩ := hf96
          refine r_istore (pc := 96) (lv' := [(5, .int (iv u96_0)), (0, .ref y), (1, .int (iv x1)), (2, .int (iv x2)), (3, .int (iv x3)), (4, .int (iv u49_0))]) dX12_push_96 (by decide) rfl ?_
          have e96 : u96_0 = tlR (arF Fr x1) (arF To x1) (bqR By Ah (Int.toNat v8_5)) := by assumption
          have h96a : exR (fun u => (tlR (arF Fr x1) (arF To x1) (bqR By Ah u)).toNat) (Int.toNat x2) jn (Int.toNat u96_0) := by rw [e96]; exact hxn
          have h96b : Dd (Int.toNat u96_0) < 1000000000000 := by rw [e96]; exact w7
          have h96c : mnP (Int.toNat (Sz (Int.toNat x1))) (arF Fr x1) (arF To x1) (arF Wt x1) (Dr (Int.toNat x1)) Gn Dd (bqR By Ah) j0 (Int.toNat x3) u49_0 jn (Int.toNat u96_0) := by rw [e96]; exact mn_go (by assumption) (by omega) (by omega) (by omega) (by omega)
          refine r_goto (pc := 98) (tgt := 8) dX12_push_98 (by decide) ?_
          refine Rn.pick (lv' := [(0, .ref y), (1, .int (iv x1)), (2, .int (iv x2)), (3, .int (iv x3)), (4, .int (iv u49_0)), (5, .int (iv u96_0))]) [1, 2, 3, 4, 5, 0] rfl ?_
          exact ih8 (Int.toNat ((jn : Int))) (by omega) jn _ ht96 u49_0 u96_0 ⟨by omega, by omega, by omega, by omega, by assumption, by omega, by omega, by omega, by assumption⟩ (by omega)
        refine t_if_eq (pc := 58) (tgt := 80) dX12_push_58 (by decide) (by omega) (fun c58 => ?_) (fun c58 => ?_)
        · refine r_aload_n (pc := 80) dX12_push_80 (i := 0) rfl rfl ?_
          refine t_getE (pc := 81) (.ref (y + 6)) ht49 (rd_ov (by omega) hO) fX12_26 dX12_push_81 rfl ?_
          refine r_iload_n (pc := 84) dX12_push_84 (i := 1) rfl rfl ?_
          refine r_aload_n (pc := 85) dX12_push_85 (i := 0) rfl rfl ?_
          refine t_getE (pc := 86) (.ref (y + 40)) ht49 (rd_ov (by omega) hO) fX12_130 dX12_push_86 rfl ?_
          refine r_iload (pc := 89) dX12_push_89 rfl ?_
          refine t_ialdX (pc := 91) (t0 := 0) ht49 (rd_ov (by omega) hA_by) dX12_push_91 rfl (by decide) (by omega) (fun b23 => ?_)
          have rb23 := (show Rfx 16 0 59 By by assumption) (Int.toNat v8_5) (by omega)
          refine t_callSI (pc := 92) (as := [.int (iv x1), .int (iv (By (Int.toNat v8_5)))]) (st := [.ref (y + 6)]) kX12_157 dX12_push_92 (t_X12_at1x (d := d - 1) (x1 := x1) (x2 := By (Int.toNat v8_5)) (by omega)  ht49 (by omega) (by omega)) rfl (by omega) (Nat.le_of_ble_eq_true rfl) rfl (fun hp24 y26 ht25 by26 => ?_)
          have ey26 : y26 = 60 * x1 + (By (Int.toNat v8_5)) := by26
          subst ey26
          refine t_ialdX (pc := 95) (t0 := 0) ht25 (rd_ov (by omega) hA_to) dX12_push_95 rfl (by decide) (by omega) (fun b27 => ?_)
          have rb27 := (show Rfx 7260 0 15 To by assumption) (Int.toNat (60 * x1 + (By (Int.toNat v8_5)))) (by omega)
          refine Rn.pick (lv' := [(0, .ref y), (1, .int (iv x1)), (2, .int (iv x2)), (3, .int (iv x3)), (4, .int (iv u49_0))]) [1, 2, 3, 4, 0] rfl ?_
          exact B96 _ ht25 (To (Int.toNat (60 * x1 + (By (Int.toNat v8_5))))) ⟨by omega, by omega, by (show _ = tlR _ _ (jxR _ _); rw [tl_V (show 0 ≤ By (Int.toNat v8_5) by omega)]; first | rw [if_pos (show Ah (Int.toNat v8_5) ≠ 0 by omega)] | rw [if_neg (show ¬ Ah (Int.toNat v8_5) ≠ 0 by omega)])⟩
        · refine r_aload_n (pc := 61) dX12_push_61 (i := 0) rfl rfl ?_
          refine t_getE (pc := 62) (.ref (y + 5)) ht49 (rd_ov (by omega) hO) fX12_23 dX12_push_62 rfl ?_
          refine r_iload_n (pc := 65) dX12_push_65 (i := 1) rfl rfl ?_
          refine r_aload_n (pc := 66) dX12_push_66 (i := 0) rfl rfl ?_
          refine t_getE (pc := 67) (.ref (y + 40)) ht49 (rd_ov (by omega) hO) fX12_130 dX12_push_67 rfl ?_
          refine r_iload (pc := 70) dX12_push_70 rfl ?_
          refine t_ialdX (pc := 72) (t0 := 0) ht49 (rd_ov (by omega) hA_by) dX12_push_72 rfl (by decide) (by omega) (fun b28 => ?_)
          have rb28 := (show Rfx 16 0 59 By by assumption) (Int.toNat v8_5) (by omega)
          refine t_callSI (pc := 73) (as := [.int (iv x1), .int (iv (By (Int.toNat v8_5)))]) (st := [.ref (y + 5)]) kX12_157 dX12_push_73 (t_X12_at1x (d := d - 1) (x1 := x1) (x2 := By (Int.toNat v8_5)) (by omega)  ht49 (by omega) (by omega)) rfl (by omega) (Nat.le_of_ble_eq_true rfl) rfl (fun hp29 y31 ht30 by31 => ?_)
          have ey31 : y31 = 60 * x1 + (By (Int.toNat v8_5)) := by31
          subst ey31
          refine t_ialdX (pc := 76) (t0 := 0) ht30 (rd_ov (by omega) hA_from) dX12_push_76 rfl (by decide) (by omega) (fun b32 => ?_)
          have rb32 := (show Rfx 7260 0 15 Fr by assumption) (Int.toNat (60 * x1 + (By (Int.toNat v8_5)))) (by omega)
          refine r_goto (pc := 77) (tgt := 96) dX12_push_77 (by decide) ?_
          refine Rn.pick (lv' := [(0, .ref y), (1, .int (iv x1)), (2, .int (iv x2)), (3, .int (iv x3)), (4, .int (iv u49_0))]) [1, 2, 3, 4, 0] rfl ?_
          exact B96 _ ht30 (Fr (Int.toNat (60 * x1 + (By (Int.toNat v8_5))))) ⟨by omega, by omega, by (show _ = tlR _ _ (jxR _ _); rw [tl_V (show 0 ≤ By (Int.toNat v8_5) by omega)]; first | rw [if_pos (show Ah (Int.toNat v8_5) ≠ 0 by omega)] | rw [if_neg (show ¬ Ah (Int.toNat v8_5) ≠ 0 by omega)])⟩
      refine t_icmp_ge (pc := 39) (tgt := 47) dX12_push_39 (by decide) (by omega) (by omega) (fun c39 => ?_) (fun c39 => ?_)
      · refine r_iload (pc := 47) dX12_push_47 rfl ?_
        refine Rn.pick (lv' := [(0, .ref y), (1, .int (iv x1)), (2, .int (iv x2)), (3, .int (iv x3)), (5, .int (iv v8_5))]) [1, 2, 3, 4, 6] rfl ?_
        exact B49 _ ht20 v8_4 ⟨by omega, by omega, by omega, by omega, by omega⟩
      · refine r_iload (pc := 42) dX12_push_42 rfl ?_
        refine r_goto (pc := 44) (tgt := 49) dX12_push_44 (by decide) ?_
        refine Rn.pick (lv' := [(0, .ref y), (1, .int (iv x1)), (2, .int (iv x2)), (3, .int (iv x3)), (5, .int (iv v8_5))]) [1, 2, 3, 4, 6] rfl ?_
        exact B49 _ ht20 (rmV Wt Dr Gn x1 (By (Int.toNat v8_5)) (Ah (Int.toNat v8_5))) ⟨by omega, by omega, by omega, by omega, by omega⟩
  refine Rn.pick (lv' := [(0, .ref y), (1, .int (iv x1)), (2, .int (iv x2)), (3, .int (iv x3)), (4, .int (iv 1000000)), (5, .int (iv x3))]) [2, 3, 4, 5, 1, 0] rfl ?_
  exact B8 (Int.toNat ((j0 : Int))) j0 _ ht 1000000 x3 ⟨by omega, by omega, by omega, by omega, by assumption, by omega, by omega, by omega, by assumption⟩ (by omega)
set_option maxHeartbeats 4000000 in
set_option maxRecDepth 100000 in
theorem t_X12_pricey {D : va_G} {cI cJ cZ cT : ClassId} {lo b L : Nat} {xs : Nat → Int32} {hp : MH} {n d : Nat} {Γ : TG} {y : Nat} {rf cnt nm : Int32} {Fr To Wt Co Dr Mn Sz : Nat → Int} {x1 x2 x3 : Int} (hd0 : 3 ≤ d) (hO : rd Γ y (tO 11 (mdF y rf cnt nm))) (hA_from : rd Γ (y + 5) (xI cI 7260 Fr)) (hR_from : Rfx 7260 0 15 Fr) (hA_to : rd Γ (y + 6) (xI cI 7260 To)) (hR_to : Rfx 7260 0 15 To) (hA_weight : rd Γ (y + 7) (xI cI 7260 Wt)) (hR_weight : Rfx 7260 (-1000) 1000 Wt) (hA_cost : rd Γ (y + 8) (xI cI 7260 Co)) (hR_cost : Rfx 7260 (-1000) 1000 Co) (hA_directs : rd Γ (y + 3) (xI cZ 121 Dr)) (hR_directs : Rfx 121 0 1 Dr) (hA_many : rd Γ (y + 4) (xI cI 121 Mn)) (hR_many : Rfx 121 0 60 Mn) (hA_sizes : rd Γ (y + 2) (xI cI 121 Sz)) (hR_sizes : Rfx 121 0 16 Sz) (hA_gone : Γ (y + 38) = some (tI cI 60 (rg (-1000) 1000))) (hA_dear : Γ (y + 39) = some (tJ cJ 16 drP)) (hA_by : Γ (y + 40) = some (tI cI 16 (rg 0 59))) (hA_ahead : Γ (y + 41) = some (tI cZ 16 (rg 0 1))) (ht : Tw Γ hp) (hx1 : 0 ≤ x1 ∧ x1 ≤ 120) (hx2 : 0 ≤ x2 ∧ x2 ≤ 15) (hx3 : 0 ≤ x3 ∧ x3 ≤ 15) (hEn : enP Fr To Mn Sz x1) (hx5 : x2 < (Sz (Int.toNat x1))) (hy5 : x3 < (Sz (Int.toNat x1))) (hne : x2 ≠ x3) : Mt (gG D cI cJ cZ cT lo b L xs) mX12_price d 0 0 [.ref y, .int (iv x1), .int (iv x2), .int (iv x3)] hp n (pJ Γ n (fun r => prcA (Int.toNat (Mn (Int.toNat x1))) (Dr (Int.toNat x1)) (arF Fr x1) (arF To x1) (arF Wt x1) (arF Co x1) (Int.toNat x2) (Int.toNat x3) r.toInt)) := by
  refine Mt.of rfl (Nat.le_of_ble_eq_true rfl) ?_
  refine Rn.pick (lv' := [(0, .ref y), (1, .int (iv x1)), (2, .int (iv x2)), (3, .int (iv x3))]) [0, 1, 2, 3] rfl ?_
  have rMn := hR_many (Int.toNat x1) (by omega)
  have rSz := hR_sizes (Int.toNat x1) (by omega)
  obtain ⟨G0, hG0, hta⟩ := ht.openI (rd_of hA_gone)
  obtain ⟨De0, hDe0, htb⟩ := hta.openJ (rd_of (eq_ov (by omega) hA_dear))
  obtain ⟨By0, hBy0, htc⟩ := htb.openI (rd_of (eq_ov (by omega) (eq_ov (by omega) hA_by)))
  obtain ⟨Ah0, hAh0, htd⟩ := htc.openI (rd_of (eq_ov (by omega) (eq_ov (by omega) (eq_ov (by omega) hA_ahead))))
  have hRG0 : Rfx 60 (-1000) 1000 G0 := fun i hi => (hG0 i hi).1
  have hbd0 : bdP De0 := fun i hi => hDe0 i hi
  have hRB0 : Rfx 16 0 59 By0 := fun i hi => (hBy0 i hi).1
  have hRA0 : Rfx 16 0 1 Ah0 := fun i hi => (hAh0 i hi).1
  have hgi0 : giP G0 0 := fun i hi => by omega
  have hTL := en_tl hEn hR_from hR_to (by omega) (by omega)
  refine r_aload_n (pc := 0) dX12_price_0 (i := 0) rfl rfl ?_
  refine t_getE (pc := 1) (.ref (y + 2)) htd (rd_ov (by omega) (rd_ov (by omega) (rd_ov (by omega) (rd_ov (by omega) hO)))) fX12_13 dX12_price_1 rfl ?_
  refine r_iload_n (pc := 4) dX12_price_4 (i := 1) rfl rfl ?_
  refine t_ialdX (pc := 5) (t0 := 0) htd (rd_ov (by omega) (rd_ov (by omega) (rd_ov (by omega) (rd_ov (by omega) hA_sizes)))) dX12_price_5 rfl (by decide) (by omega) (fun b1 => ?_)
  have rb1 := (show Rfx 121 0 16 Sz by assumption) (Int.toNat x1) (by omega)
  refine r_istore (pc := 6) (lv' := [(4, .int (iv (Sz (Int.toNat x1)))), (0, .ref y), (1, .int (iv x1)), (2, .int (iv x2)), (3, .int (iv x3))]) dX12_price_6 (by decide) rfl ?_
  refine r_iconst (pc := 8) (v := iv 0) dX12_price_8 (by decide) ?_
  refine r_istore (pc := 9) (lv' := [(5, .int (iv 0)), (4, .int (iv (Sz (Int.toNat x1)))), (0, .ref y), (1, .int (iv x1)), (2, .int (iv x2)), (3, .int (iv x3))]) dX12_price_9 (by decide) rfl ?_
  have B11 : ∀ k : Nat, ∀ G11 : Nat → Int, ∀ hp11 : MH, Tw (ov (ov (ov (ov Γ (y + 38) (xI cI 60 G11)) (y + 39) (xJ cJ 16 De0)) (y + 40) (xI cI 16 By0)) (y + 41) (xI cZ 16 Ah0)) hp11 → ∀  (v11_5 : Int), 0 ≤ v11_5 ∧ v11_5 ≤ 60 ∧ v11_5 ≤ (Mn (Int.toNat x1)) ∧ giP G11 v11_5 ∧ Rfx 60 (-1000) 1000 G11 → 60 - v11_5 ≤ (k : Int) → Rn (gG D cI cJ cZ cT lo b L xs) mX12_price d 11 [(0, .ref y), (1, .int (iv x1)), (2, .int (iv x2)), (3, .int (iv x3)), (4, .int (iv (Sz (Int.toNat x1)))), (5, .int (iv v11_5))] [] hp11 n 0 0 (pJ Γ n (fun r => prcA (Int.toNat (Mn (Int.toNat x1))) (Dr (Int.toNat x1)) (arF Fr x1) (arF To x1) (arF Wt x1) (arF Co x1) (Int.toNat x2) (Int.toNat x3) r.toInt)) := by
    refine lpS _ ?_
    intro k11 ih11 G11 hp11 ht11 v11_5 hf11 hm11
    obtain ⟨hf11_0, hf11_1, hf11_2, ha11_3, ha11_4⟩ := hf11
    refine r_iload (pc := 11) dX12_price_11 rfl ?_
    refine r_aload_n (pc := 13) dX12_price_13 (i := 0) rfl rfl ?_
    refine t_getE (pc := 14) (.ref (y + 4)) ht11 (rd_ov (by omega) (rd_ov (by omega) (rd_ov (by omega) (rd_ov (by omega) hO)))) fX12_20 dX12_price_14 rfl ?_
    refine r_iload_n (pc := 17) dX12_price_17 (i := 1) rfl rfl ?_
    refine t_ialdX (pc := 18) (t0 := 0) ht11 (rd_ov (by omega) (rd_ov (by omega) (rd_ov (by omega) (rd_ov (by omega) hA_many)))) dX12_price_18 rfl (by decide) (by omega) (fun b2 => ?_)
    have rb2 := (show Rfx 121 0 60 Mn by assumption) (Int.toNat x1) (by omega)
    refine t_icmp_ge (pc := 19) (tgt := 36) dX12_price_19 (by decide) (by omega) (by omega) (fun c19 => ?_) (fun c19 => ?_)
    · refine r_iconst (pc := 36) (v := iv 1) dX12_price_36 (by decide) ?_
      refine r_istore (pc := 37) (lv' := [(5, .int (iv 1)), (0, .ref y), (1, .int (iv x1)), (2, .int (iv x2)), (3, .int (iv x3)), (4, .int (iv (Sz (Int.toNat x1))))]) dX12_price_37 (by decide) rfl ?_
      have hz37 : ∀ k, k < (Int.toNat (Mn (Int.toNat x1))) → G11 k = 0 := fun k hk => (show giP G11 v11_5 by assumption) k (by omega)
      have hfi37 : fiR (arF Wt x1) (Dr (Int.toNat x1)) (Int.toNat (Mn (Int.toNat x1))) G11 := fi_0 hz37
      have hex37 : ∃ p : Nat → Int, ptR (tlR (arF Fr x1) (arF To x1)) (hdR (arF Fr x1) (arF To x1)) (rmR (arF Wt x1) (Dr (Int.toNat x1)) G11) (csR (arF Co x1) G11) (2 * (Int.toNat (Mn (Int.toNat x1)))) p := ⟨_, pt_0 hz37⟩
      have hnf37 : nfR (arF Fr x1) (arF To x1) (((Int.toNat x2) : Nat) : Int) G11 (Int.toNat (Mn (Int.toNat x1))) ≤ 1000 * (((Int.toNat (Mn (Int.toNat x1))) : Nat) : Int) := nf_fi (dr := (Dr (Int.toNat x1))) hR_weight (by omega) (by omega) hfi37
      have hfl37 : flE (Int.toNat (Mn (Int.toNat x1))) (arF Fr x1) (arF To x1) (Int.toNat x2) (Int.toNat x3) G11 := fle_0 hz37
      have hlp37 : lpZ (Int.toNat (Mn (Int.toNat x1))) (arF Fr x1) (arF To x1) G11 := fun k hk _ => hz37 k hk
      have B39 : ∀ k : Nat, ∀ G39 : Nat → Int, ∀ De39 : Nat → Int64, ∀ By39 : Nat → Int, ∀ Ah39 : Nat → Int, ∀ hp39 : MH, Tw (ov (ov (ov (ov Γ (y + 38) (xI cI 60 G39)) (y + 39) (xJ cJ 16 De39)) (y + 40) (xI cI 16 By39)) (y + 41) (xI cZ 16 Ah39)) hp39 → ∀  (v39_5 : Int), 0 ≤ v39_5 ∧ v39_5 ≤ 1 ∧ Rfx 60 (-1000) 1000 G39 ∧ bdP De39 ∧ Rfx 16 0 59 By39 ∧ Rfx 16 0 1 Ah39 ∧ fiR (arF Wt x1) (Dr (Int.toNat x1)) (Int.toNat (Mn (Int.toNat x1))) G39 ∧ (∃ p : Nat → Int, ptR (tlR (arF Fr x1) (arF To x1)) (hdR (arF Fr x1) (arF To x1)) (rmR (arF Wt x1) (Dr (Int.toNat x1)) G39) (csR (arF Co x1) G39) (2 * (Int.toNat (Mn (Int.toNat x1)))) p) ∧ nfR (arF Fr x1) (arF To x1) (((Int.toNat x2) : Nat) : Int) G39 (Int.toNat (Mn (Int.toNat x1))) ≤ 1000 * (((Int.toNat (Mn (Int.toNat x1))) : Nat) : Int) ∧ flE (Int.toNat (Mn (Int.toNat x1))) (arF Fr x1) (arF To x1) (Int.toNat x2) (Int.toNat x3) G39 ∧ lpZ (Int.toNat (Mn (Int.toNat x1))) (arF Fr x1) (arF To x1) G39 ∧ (v39_5 = 0 → mxQ (Int.toNat (Mn (Int.toNat x1))) (Dr (Int.toNat x1)) (arF Fr x1) (arF To x1) (arF Wt x1) (Int.toNat x2) (Int.toNat x3) G39) → (2 * (1000 * (((Int.toNat (Mn (Int.toNat x1))) : Nat) : Int) - nfR (arF Fr x1) (arF To x1) (((Int.toNat x2) : Nat) : Int) G39 (Int.toNat (Mn (Int.toNat x1)))) + v39_5) ≤ (k : Int) → Rn (gG D cI cJ cZ cT lo b L xs) mX12_price d 39 [(0, .ref y), (1, .int (iv x1)), (2, .int (iv x2)), (3, .int (iv x3)), (4, .int (iv (Sz (Int.toNat x1)))), (5, .int (iv v39_5))] [] hp39 n 0 0 (pJ Γ n (fun r => prcA (Int.toNat (Mn (Int.toNat x1))) (Dr (Int.toNat x1)) (arF Fr x1) (arF To x1) (arF Wt x1) (arF Co x1) (Int.toNat x2) (Int.toNat x3) r.toInt)) := by
        refine lpS _ ?_
        intro k39 ih39 G39 De39 By39 Ah39 hp39 ht39 v39_5 hf39 hm39
        obtain ⟨hf39_0, hf39_1, ha39_2, ha39_3, ha39_4, ha39_5, ha39_6, ha39_7, hf39_8, ha39_9, ha39_10, ha39_11⟩ := hf39
        refine r_iload (pc := 39) dX12_price_39 rfl ?_
        refine t_if_eq (pc := 41) (tgt := 169) dX12_price_41 (by decide) (by omega) (fun c41 => ?_) (fun c41 => ?_)
        · refine r_lconst (pc := 169) (v := 0) dX12_price_169 (by decide) ?_
          have hk169 : (0 : Int64).toInt = 0 := by decide
          refine r_lstore (pc := 170) (lv' := [(6, .long (0 : Int64)), (0, .ref y), (1, .int (iv x1)), (2, .int (iv x2)), (3, .int (iv x3)), (4, .int (iv (Sz (Int.toNat x1)))), (5, .int (iv v39_5))]) dX12_price_170 (by decide) rfl ?_
          refine r_iconst (pc := 172) (v := iv 0) dX12_price_172 (by decide) ?_
          refine r_istore (pc := 173) (lv' := [(8, .int (iv 0)), (6, .long (0 : Int64)), (0, .ref y), (1, .int (iv x1)), (2, .int (iv x2)), (3, .int (iv x3)), (4, .int (iv (Sz (Int.toNat x1)))), (5, .int (iv v39_5))]) dX12_price_173 (by decide) rfl ?_
          have B175 : ∀ k : Nat, ∀ hp175 : MH, Tw (ov (ov (ov (ov Γ (y + 38) (xI cI 60 G39)) (y + 39) (xJ cJ 16 De39)) (y + 40) (xI cI 16 By39)) (y + 41) (xI cZ 16 Ah39)) hp175 → ∀  (v175_8 : Int) (w175_6 : Int64), 0 ≤ v175_8 ∧ v175_8 ≤ 60 ∧ v175_8 ≤ (Mn (Int.toNat x1)) ∧ w175_6.toInt = sgm (fun k => cpR (arF Co x1) k * abI (G39 k)) (Int.toNat v175_8) ∧ 0 ≤ w175_6.toInt ∧ w175_6.toInt ≤ 1000000 * v175_8 → 60 - v175_8 ≤ (k : Int) → Rn (gG D cI cJ cZ cT lo b L xs) mX12_price d 175 [(0, .ref y), (1, .int (iv x1)), (6, .long w175_6), (8, .int (iv v175_8))] [] hp175 n 0 0 (pJ Γ n (fun r => prcA (Int.toNat (Mn (Int.toNat x1))) (Dr (Int.toNat x1)) (arF Fr x1) (arF To x1) (arF Wt x1) (arF Co x1) (Int.toNat x2) (Int.toNat x3) r.toInt)) := by
            refine lpS _ ?_
            intro k175 ih175 hp175 ht175 v175_8 w175_6 hf175 hm175
            obtain ⟨hf175_0, hf175_1, hf175_2, ha175_3, ha175_4⟩ := hf175
            refine r_iload (pc := 175) dX12_price_175 rfl ?_
            refine r_aload_n (pc := 177) dX12_price_177 (i := 0) rfl rfl ?_
            refine t_getE (pc := 178) (.ref (y + 4)) ht175 (rd_ov (by omega) (rd_ov (by omega) (rd_ov (by omega) (rd_ov (by omega) hO)))) fX12_20 dX12_price_178 rfl ?_
            refine r_iload_n (pc := 181) dX12_price_181 (i := 1) rfl rfl ?_
            refine t_ialdX (pc := 182) (t0 := 0) ht175 (rd_ov (by omega) (rd_ov (by omega) (rd_ov (by omega) (rd_ov (by omega) hA_many)))) dX12_price_182 rfl (by decide) (by omega) (fun b3 => ?_)
            have rb3 := (show Rfx 121 0 60 Mn by assumption) (Int.toNat x1) (by omega)
            refine t_icmp_ge (pc := 183) (tgt := 261) dX12_price_183 (by decide) (by omega) (by omega) (fun c183 => ?_) (fun c183 => ?_)
            · refine r_lload (pc := 261) dX12_price_261 rfl ?_
              exact r_lret (pc := 263) dX12_price_263 rfl ⟨rfl, Tw.closeI (Tw.closeJ (Tw.closeI (Tw.closeI ht175 (eq_ov (by omega) (eq_ov (by omega) (eq_ov (by omega) hA_ahead))) (show Rfx 16 0 1 Ah39 by assumption)) (eq_ov (by omega) (eq_ov (by omega) hA_by)) (show Rfx 16 0 59 By39 by assumption)) (eq_ov (by omega) hA_dear) (show bdP De39 by assumption)) hA_gone (show Rfx 60 (-1000) 1000 G39 by assumption), _, rfl, by obtain ⟨p9, hp9⟩ := (show ∃ p : Nat → Int, ptR (tlR (arF Fr x1) (arF To x1)) (hdR (arF Fr x1) (arF To x1)) (rmR (arF Wt x1) (Dr (Int.toNat x1)) G39) (csR (arF Co x1) G39) (2 * (Int.toNat (Mn (Int.toNat x1)))) p by assumption); exact pr_fin (by assumption) (show flE (Int.toNat (Mn (Int.toNat x1))) (arF Fr x1) (arF To x1) (Int.toNat x2) (Int.toNat x3) G39 by assumption) ((show v39_5 = 0 → mxQ (Int.toNat (Mn (Int.toNat x1))) (Dr (Int.toNat x1)) (arF Fr x1) (arF To x1) (arF Wt x1) (Int.toNat x2) (Int.toNat x3) G39 by assumption) (by omega)) (by assumption) hp9 (by rw [show w175_6.toInt = sgm (fun k => cpR (arF Co x1) k * abI (G39 k)) (Int.toNat v175_8) by assumption, show Int.toNat v175_8 = (Int.toNat (Mn (Int.toNat x1))) by omega]; rfl)⟩
            · refine r_aload_n (pc := 186) dX12_price_186 (i := 0) rfl rfl ?_
              refine t_getE (pc := 187) (.ref (y + 8)) ht175 (rd_ov (by omega) (rd_ov (by omega) (rd_ov (by omega) (rd_ov (by omega) hO)))) fX12_32 dX12_price_187 rfl ?_
              refine r_iload_n (pc := 190) dX12_price_190 (i := 1) rfl rfl ?_
              refine r_iload (pc := 191) dX12_price_191 rfl ?_
              refine t_callSI (pc := 193) (as := [.int (iv x1), .int (iv v175_8)]) (st := [.ref (y + 8)]) kX12_157 dX12_price_193 (t_X12_at1x (d := d - 1) (x1 := x1) (x2 := v175_8) (by omega)  ht175 (by omega) (by omega)) rfl (by omega) (Nat.le_of_ble_eq_true rfl) rfl (fun hp4 y6 ht5 by6 => ?_)
              have ey6 : y6 = 60 * x1 + v175_8 := by6
              subst ey6
              refine t_ialdX (pc := 196) (t0 := 0) ht5 (rd_ov (by omega) (rd_ov (by omega) (rd_ov (by omega) (rd_ov (by omega) hA_cost)))) dX12_price_196 rfl (by decide) (by omega) (fun b7 => ?_)
              have rb7 := (show Rfx 7260 (-1000) 1000 Co by assumption) (Int.toNat (60 * x1 + v175_8)) (by omega)
              refine t_if_le (pc := 197) (tgt := 215) dX12_price_197 (by decide) (by omega) (fun c197 => ?_) (fun c197 => ?_)
              · refine r_lconst (pc := 215) (v := 0) dX12_price_215 (by decide) ?_
                have hk215 : (0 : Int64).toInt = 0 := by decide
                refine r_lstore (pc := 216) (lv' := [(9, .long (0 : Int64)), (0, .ref y), (1, .int (iv x1)), (6, .long w175_6), (8, .int (iv v175_8))]) dX12_price_216 (by decide) rfl ?_
                refine r_lload (pc := 218) dX12_price_218 rfl ?_
                refine r_lload (pc := 220) dX12_price_220 rfl ?_
                refine r_aload_n (pc := 222) dX12_price_222 (i := 0) rfl rfl ?_
                refine t_getE (pc := 223) (.ref (y + 38)) ht5 (rd_ov (by omega) (rd_ov (by omega) (rd_ov (by omega) (rd_ov (by omega) hO)))) fX12_124 dX12_price_223 rfl ?_
                refine r_iload (pc := 226) dX12_price_226 rfl ?_
                refine t_ialdX (pc := 228) (t0 := 0) ht5 (rd_ov (by omega) (rd_ov (by omega) (rd_ov (by omega) (rd_of (ov_s _ _ _))))) dX12_price_228 rfl (by decide) (by omega) (fun b8 => ?_)
                have rb8 := (show Rfx 60 (-1000) 1000 G39 by assumption) (Int.toNat v175_8) (by omega)
                refine t_if_ge (pc := 229) (tgt := 243) dX12_price_229 (by decide) (by omega) (fun c229 => ?_) (fun c229 => ?_)
                · refine r_aload_n (pc := 243) dX12_price_243 (i := 0) rfl rfl ?_
                  refine t_getE (pc := 244) (.ref (y + 38)) ht5 (rd_ov (by omega) (rd_ov (by omega) (rd_ov (by omega) (rd_ov (by omega) hO)))) fX12_124 dX12_price_244 rfl ?_
                  refine r_iload (pc := 247) dX12_price_247 rfl ?_
                  refine t_ialdX (pc := 249) (t0 := 0) ht5 (rd_ov (by omega) (rd_ov (by omega) (rd_ov (by omega) (rd_of (ov_s _ _ _))))) dX12_price_249 rfl (by decide) (by omega) (fun b9 => ?_)
                  have rb9 := (show Rfx 60 (-1000) 1000 G39 by assumption) (Int.toNat v175_8) (by omega)
                  refine r_i2l (pc := 250) (v := (iv (G39 (Int.toNat v175_8))).toInt64) dX12_price_250 rfl ?_
                  refine r_lmul (pc := 251) (v := (0 : Int64) * ((iv (G39 (Int.toNat v175_8))).toInt64)) dX12_price_251 rfl ?_
                  refine r_ladd (pc := 252) (v := w175_6 + ((0 : Int64) * ((iv (G39 (Int.toNat v175_8))).toInt64))) dX12_price_252 rfl ?_
                  have eC := arF_i (A := Co) (g := x1) (k := v175_8) (by omega)
                  have rC := hR_cost (Int.toNat (60 * x1 + v175_8)) (by omega)
                  have rG := (show Rfx 60 (-1000) 1000 G39 by assumption) (Int.toNat v175_8) (by omega)
                  have hcc : (0 : Int64).toInt = cpR (arF Co x1) (Int.toNat v175_8) := by unfold cpR; rw [eC]; rw [if_neg (by omega)]; exact hk215
                  have hyy : ((iv (G39 (Int.toNat v175_8))).toInt64).toInt = abI (G39 (Int.toNat v175_8)) := by rw [ab_p (by omega)]; exact iv_long (by omega)
                  have hcb : 0 ≤ (0 : Int64).toInt ∧ (0 : Int64).toInt ≤ 1000 := by rw [hcc]; exact ⟨cpr_nn _ _, cp_hi hR_cost (by omega) (by omega)⟩
                  have hyb : 0 ≤ ((iv (G39 (Int.toNat v175_8))).toInt64).toInt ∧ ((iv (G39 (Int.toNat v175_8))).toInt64).toInt ≤ 1000 := by rw [iv_long (by omega)]; omega
                  have hco := cos_up (by omega) (by assumption : w175_6.toInt = sgm (fun k => cpR (arF Co x1) k * abI (G39 k)) (Int.toNat v175_8)) (by omega) hcc hyy hcb hyb
                  refine r_lstore (pc := 253) (lv' := [(6, .long (w175_6 + ((0 : Int64) * ((iv (G39 (Int.toNat v175_8))).toInt64)))), (9, .long (0 : Int64)), (0, .ref y), (1, .int (iv x1)), (8, .int (iv v175_8))]) dX12_price_253 (by decide) rfl ?_
                  refine r_iinc (pc := 255) (v := iv (v175_8 + 1)) (lv' := [(8, .int (iv (v175_8 + 1))), (6, .long (w175_6 + ((0 : Int64) * ((iv (G39 (Int.toNat v175_8))).toInt64)))), (9, .long (0 : Int64)), (0, .ref y), (1, .int (iv x1))]) dX12_price_255 rfl (iv_add _ _) (by decide) rfl ?_
                  refine r_goto (pc := 258) (tgt := 175) dX12_price_258 (by decide) ?_
                  refine Rn.pick (lv' := [(0, .ref y), (1, .int (iv x1)), (6, .long (w175_6 + ((0 : Int64) * ((iv (G39 (Int.toNat v175_8))).toInt64)))), (8, .int (iv (v175_8 + 1)))]) [3, 4, 1, 0] rfl ?_
                  exact ih175 (Int.toNat (60 - (v175_8 + 1))) (by omega) _ ht5 (v175_8 + 1) (w175_6 + ((0 : Int64) * ((iv (G39 (Int.toNat v175_8))).toInt64))) ⟨by omega, by omega, by omega, by (first | exact hco.1 | exact hk169), by (first | exact hco.2 | omega)⟩ (by omega)
                · refine r_aload_n (pc := 232) dX12_price_232 (i := 0) rfl rfl ?_
                  refine t_getE (pc := 233) (.ref (y + 38)) ht5 (rd_ov (by omega) (rd_ov (by omega) (rd_ov (by omega) (rd_ov (by omega) hO)))) fX12_124 dX12_price_233 rfl ?_
                  refine r_iload (pc := 236) dX12_price_236 rfl ?_
                  refine t_ialdX (pc := 238) (t0 := 0) ht5 (rd_ov (by omega) (rd_ov (by omega) (rd_ov (by omega) (rd_of (ov_s _ _ _))))) dX12_price_238 rfl (by decide) (by omega) (fun b10 => ?_)
                  have rb10 := (show Rfx 60 (-1000) 1000 G39 by assumption) (Int.toNat v175_8) (by omega)
                  refine r_ineg (pc := 239) (v := iv (-(G39 (Int.toNat v175_8)))) dX12_price_239 (iv_neg _) ?_
                  refine r_goto (pc := 240) (tgt := 250) dX12_price_240 (by decide) ?_
                  refine r_i2l (pc := 250) (v := (iv (-(G39 (Int.toNat v175_8)))).toInt64) dX12_price_250 rfl ?_
                  refine r_lmul (pc := 251) (v := (0 : Int64) * ((iv (-(G39 (Int.toNat v175_8)))).toInt64)) dX12_price_251 rfl ?_
                  refine r_ladd (pc := 252) (v := w175_6 + ((0 : Int64) * ((iv (-(G39 (Int.toNat v175_8)))).toInt64))) dX12_price_252 rfl ?_
                  have eC := arF_i (A := Co) (g := x1) (k := v175_8) (by omega)
                  have rC := hR_cost (Int.toNat (60 * x1 + v175_8)) (by omega)
                  have rG := (show Rfx 60 (-1000) 1000 G39 by assumption) (Int.toNat v175_8) (by omega)
                  have hcc : (0 : Int64).toInt = cpR (arF Co x1) (Int.toNat v175_8) := by unfold cpR; rw [eC]; rw [if_neg (by omega)]; exact hk215
                  have hyy : ((iv (-(G39 (Int.toNat v175_8)))).toInt64).toInt = abI (G39 (Int.toNat v175_8)) := by rw [ab_n (by omega)]; exact iv_long (by omega)
                  have hcb : 0 ≤ (0 : Int64).toInt ∧ (0 : Int64).toInt ≤ 1000 := by rw [hcc]; exact ⟨cpr_nn _ _, cp_hi hR_cost (by omega) (by omega)⟩
                  have hyb : 0 ≤ ((iv (-(G39 (Int.toNat v175_8)))).toInt64).toInt ∧ ((iv (-(G39 (Int.toNat v175_8)))).toInt64).toInt ≤ 1000 := by rw [iv_long (by omega)]; omega
                  have hco := cos_up (by omega) (by assumption : w175_6.toInt = sgm (fun k => cpR (arF Co x1) k * abI (G39 k)) (Int.toNat v175_8)) (by omega) hcc hyy hcb hyb
                  refine r_lstore (pc := 253) (lv' := [(6, .long (w175_6 + ((0 : Int64) * ((iv (-(G39 (Int.toNat v175_8)))).toInt64)))), (9, .long (0 : Int64)), (0, .ref y), (1, .int (iv x1)), (8, .int (iv v175_8))]) dX12_price_253 (by decide) rfl ?_
                  refine r_iinc (pc := 255) (v := iv (v175_8 + 1)) (lv' := [(8, .int (iv (v175_8 + 1))), (6, .long (w175_6 + ((0 : Int64) * ((iv (-(G39 (Int.toNat v175_8)))).toInt64)))), (9, .long (0 : Int64)), (0, .ref y), (1, .int (iv x1))]) dX12_price_255 rfl (iv_add _ _) (by decide) rfl ?_
                  refine r_goto (pc := 258) (tgt := 175) dX12_price_258 (by decide) ?_
                  refine Rn.pick (lv' := [(0, .ref y), (1, .int (iv x1)), (6, .long (w175_6 + ((0 : Int64) * ((iv (-(G39 (Int.toNat v175_8)))).toInt64)))), (8, .int (iv (v175_8 + 1)))]) [3, 4, 1, 0] rfl ?_
                  exact ih175 (Int.toNat (60 - (v175_8 + 1))) (by omega) _ ht5 (v175_8 + 1) (w175_6 + ((0 : Int64) * ((iv (-(G39 (Int.toNat v175_8)))).toInt64))) ⟨by omega, by omega, by omega, by (first | exact hco.1 | exact hk169), by (first | exact hco.2 | omega)⟩ (by omega)
              · refine r_aload_n (pc := 200) dX12_price_200 (i := 0) rfl rfl ?_
                refine t_getE (pc := 201) (.ref (y + 8)) ht5 (rd_ov (by omega) (rd_ov (by omega) (rd_ov (by omega) (rd_ov (by omega) hO)))) fX12_32 dX12_price_201 rfl ?_
                refine r_iload_n (pc := 204) dX12_price_204 (i := 1) rfl rfl ?_
                refine r_iload (pc := 205) dX12_price_205 rfl ?_
                refine t_callSI (pc := 207) (as := [.int (iv x1), .int (iv v175_8)]) (st := [.ref (y + 8)]) kX12_157 dX12_price_207 (t_X12_at1x (d := d - 1) (x1 := x1) (x2 := v175_8) (by omega)  ht5 (by omega) (by omega)) rfl (by omega) (Nat.le_of_ble_eq_true rfl) rfl (fun hp11 y13 ht12 by13 => ?_)
                have ey13 : y13 = 60 * x1 + v175_8 := by13
                subst ey13
                refine t_ialdX (pc := 210) (t0 := 0) ht12 (rd_ov (by omega) (rd_ov (by omega) (rd_ov (by omega) (rd_ov (by omega) hA_cost)))) dX12_price_210 rfl (by decide) (by omega) (fun b14 => ?_)
                have rb14 := (show Rfx 7260 (-1000) 1000 Co by assumption) (Int.toNat (60 * x1 + v175_8)) (by omega)
                refine r_i2l (pc := 211) (v := (iv (Co (Int.toNat (60 * x1 + v175_8)))).toInt64) dX12_price_211 rfl ?_
                refine r_goto (pc := 212) (tgt := 216) dX12_price_212 (by decide) ?_
                refine r_lstore (pc := 216) (lv' := [(9, .long ((iv (Co (Int.toNat (60 * x1 + v175_8)))).toInt64)), (0, .ref y), (1, .int (iv x1)), (6, .long w175_6), (8, .int (iv v175_8))]) dX12_price_216 (by decide) rfl ?_
                refine r_lload (pc := 218) dX12_price_218 rfl ?_
                refine r_lload (pc := 220) dX12_price_220 rfl ?_
                refine r_aload_n (pc := 222) dX12_price_222 (i := 0) rfl rfl ?_
                refine t_getE (pc := 223) (.ref (y + 38)) ht12 (rd_ov (by omega) (rd_ov (by omega) (rd_ov (by omega) (rd_ov (by omega) hO)))) fX12_124 dX12_price_223 rfl ?_
                refine r_iload (pc := 226) dX12_price_226 rfl ?_
                refine t_ialdX (pc := 228) (t0 := 0) ht12 (rd_ov (by omega) (rd_ov (by omega) (rd_ov (by omega) (rd_of (ov_s _ _ _))))) dX12_price_228 rfl (by decide) (by omega) (fun b15 => ?_)
                have rb15 := (show Rfx 60 (-1000) 1000 G39 by assumption) (Int.toNat v175_8) (by omega)
                refine t_if_ge (pc := 229) (tgt := 243) dX12_price_229 (by decide) (by omega) (fun c229 => ?_) (fun c229 => ?_)
                · refine r_aload_n (pc := 243) dX12_price_243 (i := 0) rfl rfl ?_
                  refine t_getE (pc := 244) (.ref (y + 38)) ht12 (rd_ov (by omega) (rd_ov (by omega) (rd_ov (by omega) (rd_ov (by omega) hO)))) fX12_124 dX12_price_244 rfl ?_
                  refine r_iload (pc := 247) dX12_price_247 rfl ?_
                  refine t_ialdX (pc := 249) (t0 := 0) ht12 (rd_ov (by omega) (rd_ov (by omega) (rd_ov (by omega) (rd_of (ov_s _ _ _))))) dX12_price_249 rfl (by decide) (by omega) (fun b16 => ?_)
                  have rb16 := (show Rfx 60 (-1000) 1000 G39 by assumption) (Int.toNat v175_8) (by omega)
                  refine r_i2l (pc := 250) (v := (iv (G39 (Int.toNat v175_8))).toInt64) dX12_price_250 rfl ?_
                  refine r_lmul (pc := 251) (v := ((iv (Co (Int.toNat (60 * x1 + v175_8)))).toInt64) * ((iv (G39 (Int.toNat v175_8))).toInt64)) dX12_price_251 rfl ?_
                  refine r_ladd (pc := 252) (v := w175_6 + (((iv (Co (Int.toNat (60 * x1 + v175_8)))).toInt64) * ((iv (G39 (Int.toNat v175_8))).toInt64))) dX12_price_252 rfl ?_
                  have eC := arF_i (A := Co) (g := x1) (k := v175_8) (by omega)
                  have rC := hR_cost (Int.toNat (60 * x1 + v175_8)) (by omega)
                  have rG := (show Rfx 60 (-1000) 1000 G39 by assumption) (Int.toNat v175_8) (by omega)
                  have hcc : ((iv (Co (Int.toNat (60 * x1 + v175_8)))).toInt64).toInt = cpR (arF Co x1) (Int.toNat v175_8) := by unfold cpR; rw [eC]; rw [if_pos (by omega)]; exact iv_long (by omega)
                  have hyy : ((iv (G39 (Int.toNat v175_8))).toInt64).toInt = abI (G39 (Int.toNat v175_8)) := by rw [ab_p (by omega)]; exact iv_long (by omega)
                  have hcb : 0 ≤ ((iv (Co (Int.toNat (60 * x1 + v175_8)))).toInt64).toInt ∧ ((iv (Co (Int.toNat (60 * x1 + v175_8)))).toInt64).toInt ≤ 1000 := by rw [hcc]; exact ⟨cpr_nn _ _, cp_hi hR_cost (by omega) (by omega)⟩
                  have hyb : 0 ≤ ((iv (G39 (Int.toNat v175_8))).toInt64).toInt ∧ ((iv (G39 (Int.toNat v175_8))).toInt64).toInt ≤ 1000 := by rw [iv_long (by omega)]; omega
                  have hco := cos_up (by omega) (by assumption : w175_6.toInt = sgm (fun k => cpR (arF Co x1) k * abI (G39 k)) (Int.toNat v175_8)) (by omega) hcc hyy hcb hyb
                  refine r_lstore (pc := 253) (lv' := [(6, .long (w175_6 + (((iv (Co (Int.toNat (60 * x1 + v175_8)))).toInt64) * ((iv (G39 (Int.toNat v175_8))).toInt64)))), (9, .long ((iv (Co (Int.toNat (60 * x1 + v175_8)))).toInt64)), (0, .ref y), (1, .int (iv x1)), (8, .int (iv v175_8))]) dX12_price_253 (by decide) rfl ?_
                  refine r_iinc (pc := 255) (v := iv (v175_8 + 1)) (lv' := [(8, .int (iv (v175_8 + 1))), (6, .long (w175_6 + (((iv (Co (Int.toNat (60 * x1 + v175_8)))).toInt64) * ((iv (G39 (Int.toNat v175_8))).toInt64)))), (9, .long ((iv (Co (Int.toNat (60 * x1 + v175_8)))).toInt64)), (0, .ref y), (1, .int (iv x1))]) dX12_price_255 rfl (iv_add _ _) (by decide) rfl ?_
                  refine r_goto (pc := 258) (tgt := 175) dX12_price_258 (by decide) ?_
                  refine Rn.pick (lv' := [(0, .ref y), (1, .int (iv x1)), (6, .long (w175_6 + (((iv (Co (Int.toNat (60 * x1 + v175_8)))).toInt64) * ((iv (G39 (Int.toNat v175_8))).toInt64)))), (8, .int (iv (v175_8 + 1)))]) [3, 4, 1, 0] rfl ?_
                  exact ih175 (Int.toNat (60 - (v175_8 + 1))) (by omega) _ ht12 (v175_8 + 1) (w175_6 + (((iv (Co (Int.toNat (60 * x1 + v175_8)))).toInt64) * ((iv (G39 (Int.toNat v175_8))).toInt64))) ⟨by omega, by omega, by omega, by (first | exact hco.1 | exact hk169), by (first | exact hco.2 | omega)⟩ (by omega)
                · refine r_aload_n (pc := 232) dX12_price_232 (i := 0) rfl rfl ?_
                  refine t_getE (pc := 233) (.ref (y + 38)) ht12 (rd_ov (by omega) (rd_ov (by omega) (rd_ov (by omega) (rd_ov (by omega) hO)))) fX12_124 dX12_price_233 rfl ?_
                  refine r_iload (pc := 236) dX12_price_236 rfl ?_
                  refine t_ialdX (pc := 238) (t0 := 0) ht12 (rd_ov (by omega) (rd_ov (by omega) (rd_ov (by omega) (rd_of (ov_s _ _ _))))) dX12_price_238 rfl (by decide) (by omega) (fun b17 => ?_)
                  have rb17 := (show Rfx 60 (-1000) 1000 G39 by assumption) (Int.toNat v175_8) (by omega)
                  refine r_ineg (pc := 239) (v := iv (-(G39 (Int.toNat v175_8)))) dX12_price_239 (iv_neg _) ?_
                  refine r_goto (pc := 240) (tgt := 250) dX12_price_240 (by decide) ?_
                  refine r_i2l (pc := 250) (v := (iv (-(G39 (Int.toNat v175_8)))).toInt64) dX12_price_250 rfl ?_
                  refine r_lmul (pc := 251) (v := ((iv (Co (Int.toNat (60 * x1 + v175_8)))).toInt64) * ((iv (-(G39 (Int.toNat v175_8)))).toInt64)) dX12_price_251 rfl ?_
                  refine r_ladd (pc := 252) (v := w175_6 + (((iv (Co (Int.toNat (60 * x1 + v175_8)))).toInt64) * ((iv (-(G39 (Int.toNat v175_8)))).toInt64))) dX12_price_252 rfl ?_
                  have eC := arF_i (A := Co) (g := x1) (k := v175_8) (by omega)
                  have rC := hR_cost (Int.toNat (60 * x1 + v175_8)) (by omega)
                  have rG := (show Rfx 60 (-1000) 1000 G39 by assumption) (Int.toNat v175_8) (by omega)
                  have hcc : ((iv (Co (Int.toNat (60 * x1 + v175_8)))).toInt64).toInt = cpR (arF Co x1) (Int.toNat v175_8) := by unfold cpR; rw [eC]; rw [if_pos (by omega)]; exact iv_long (by omega)
                  have hyy : ((iv (-(G39 (Int.toNat v175_8)))).toInt64).toInt = abI (G39 (Int.toNat v175_8)) := by rw [ab_n (by omega)]; exact iv_long (by omega)
                  have hcb : 0 ≤ ((iv (Co (Int.toNat (60 * x1 + v175_8)))).toInt64).toInt ∧ ((iv (Co (Int.toNat (60 * x1 + v175_8)))).toInt64).toInt ≤ 1000 := by rw [hcc]; exact ⟨cpr_nn _ _, cp_hi hR_cost (by omega) (by omega)⟩
                  have hyb : 0 ≤ ((iv (-(G39 (Int.toNat v175_8)))).toInt64).toInt ∧ ((iv (-(G39 (Int.toNat v175_8)))).toInt64).toInt ≤ 1000 := by rw [iv_long (by omega)]; omega
                  have hco := cos_up (by omega) (by assumption : w175_6.toInt = sgm (fun k => cpR (arF Co x1) k * abI (G39 k)) (Int.toNat v175_8)) (by omega) hcc hyy hcb hyb
                  refine r_lstore (pc := 253) (lv' := [(6, .long (w175_6 + (((iv (Co (Int.toNat (60 * x1 + v175_8)))).toInt64) * ((iv (-(G39 (Int.toNat v175_8)))).toInt64)))), (9, .long ((iv (Co (Int.toNat (60 * x1 + v175_8)))).toInt64)), (0, .ref y), (1, .int (iv x1)), (8, .int (iv v175_8))]) dX12_price_253 (by decide) rfl ?_
                  refine r_iinc (pc := 255) (v := iv (v175_8 + 1)) (lv' := [(8, .int (iv (v175_8 + 1))), (6, .long (w175_6 + (((iv (Co (Int.toNat (60 * x1 + v175_8)))).toInt64) * ((iv (-(G39 (Int.toNat v175_8)))).toInt64)))), (9, .long ((iv (Co (Int.toNat (60 * x1 + v175_8)))).toInt64)), (0, .ref y), (1, .int (iv x1))]) dX12_price_255 rfl (iv_add _ _) (by decide) rfl ?_
                  refine r_goto (pc := 258) (tgt := 175) dX12_price_258 (by decide) ?_
                  refine Rn.pick (lv' := [(0, .ref y), (1, .int (iv x1)), (6, .long (w175_6 + (((iv (Co (Int.toNat (60 * x1 + v175_8)))).toInt64) * ((iv (-(G39 (Int.toNat v175_8)))).toInt64)))), (8, .int (iv (v175_8 + 1)))]) [3, 4, 1, 0] rfl ?_
                  exact ih175 (Int.toNat (60 - (v175_8 + 1))) (by omega) _ ht12 (v175_8 + 1) (w175_6 + (((iv (Co (Int.toNat (60 * x1 + v175_8)))).toInt64) * ((iv (-(G39 (Int.toNat v175_8)))).toInt64))) ⟨by omega, by omega, by omega, by (first | exact hco.1 | exact hk169), by (first | exact hco.2 | omega)⟩ (by omega)
          refine Rn.pick (lv' := [(0, .ref y), (1, .int (iv x1)), (6, .long (0 : Int64)), (8, .int (iv 0))]) [2, 3, 1, 0] rfl ?_
          exact B175 (Int.toNat (60 - 0)) _ ht39 0 (0 : Int64) ⟨by omega, by omega, by omega, by (first | exact hco.1 | exact hk169), by (first | exact hco.2 | omega)⟩ (by omega)
        · refine r_iconst (pc := 44) (v := iv 0) dX12_price_44 (by decide) ?_
          obtain ⟨pp, hpt⟩ := (show ∃ p : Nat → Int, ptR (tlR (arF Fr x1) (arF To x1)) (hdR (arF Fr x1) (arF To x1)) (rmR (arF Wt x1) (Dr (Int.toNat x1)) G39) (csR (arF Co x1) G39) (2 * (Int.toNat (Mn (Int.toNat x1)))) p by assumption)
          have hdi0 : diP (Int.toNat (Sz (Int.toNat x1))) (Int.toNat x2) De39 0 := fun i hi => by omega
          refine r_istore (pc := 45) (lv' := [(6, .int (iv 0)), (0, .ref y), (1, .int (iv x1)), (2, .int (iv x2)), (3, .int (iv x3)), (4, .int (iv (Sz (Int.toNat x1)))), (5, .int (iv v39_5))]) dX12_price_45 (by decide) rfl ?_
          have B47 : ∀ k : Nat, ∀ De47 : Nat → Int64, ∀ hp47 : MH, Tw (ov (ov (ov (ov Γ (y + 38) (xI cI 60 G39)) (y + 39) (xJ cJ 16 De47)) (y + 40) (xI cI 16 By39)) (y + 41) (xI cZ 16 Ah39)) hp47 → ∀  (v47_6 : Int), 0 ≤ v47_6 ∧ v47_6 ≤ 16 ∧ v47_6 ≤ (Sz (Int.toNat x1)) ∧ diP (Int.toNat (Sz (Int.toNat x1))) (Int.toNat x2) De47 v47_6 ∧ bdP De47 → 16 - v47_6 ≤ (k : Int) → Rn (gG D cI cJ cZ cT lo b L xs) mX12_price d 47 [(0, .ref y), (1, .int (iv x1)), (2, .int (iv x2)), (3, .int (iv x3)), (4, .int (iv (Sz (Int.toNat x1)))), (6, .int (iv v47_6))] [] hp47 n 0 0 (pJ Γ n (fun r => prcA (Int.toNat (Mn (Int.toNat x1))) (Dr (Int.toNat x1)) (arF Fr x1) (arF To x1) (arF Wt x1) (arF Co x1) (Int.toNat x2) (Int.toNat x3) r.toInt)) := by
            refine lpS _ ?_
            intro k47 ih47 De47 hp47 ht47 v47_6 hf47 hm47
            obtain ⟨hf47_0, hf47_1, hf47_2, ha47_3, ha47_4⟩ := hf47
            refine r_iload (pc := 47) dX12_price_47 rfl ?_
            refine r_iload (pc := 49) dX12_price_49 rfl ?_
            refine t_icmp_ge (pc := 51) (tgt := 80) dX12_price_51 (by decide) (by omega) (by omega) (fun c51 => ?_) (fun c51 => ?_)
            · refine r_iconst (pc := 80) (v := iv 0) dX12_price_80 (by decide) ?_
              refine r_istore (pc := 81) (lv' := [(6, .int (iv 0)), (0, .ref y), (1, .int (iv x1)), (2, .int (iv x2)), (3, .int (iv x3)), (4, .int (iv (Sz (Int.toNat x1))))]) dX12_price_81 (by decide) rfl ?_
              have hbs81 : bsQ (Int.toNat (Sz (Int.toNat x1))) (Int.toNat x2) (tlR (arF Fr x1) (arF To x1)) (hdR (arF Fr x1) (arF To x1)) (rmR (arF Wt x1) (Dr (Int.toNat x1)) G39) (csR (arF Co x1) G39) (2 * (Int.toNat (Mn (Int.toNat x1)))) pp De47 By39 Ah39 0 0 := bs_0 (by omega) (fun i hi => (show diP (Int.toNat (Sz (Int.toNat x1))) (Int.toNat x2) De47 v47_6 by assumption) i (by omega))
              have B83 : ∀ k : Nat, ∀ De83 : Nat → Int64, ∀ By83 : Nat → Int, ∀ Ah83 : Nat → Int, ∀ hp83 : MH, Tw (ov (ov (ov (ov Γ (y + 38) (xI cI 60 G39)) (y + 39) (xJ cJ 16 De83)) (y + 40) (xI cI 16 By83)) (y + 41) (xI cZ 16 Ah83)) hp83 → ∀  (v83_6 : Int), 0 ≤ v83_6 ∧ v83_6 ≤ 17 ∧ v83_6 ≤ (Sz (Int.toNat x1)) + 1 ∧ bsQ (Int.toNat (Sz (Int.toNat x1))) (Int.toNat x2) (tlR (arF Fr x1) (arF To x1)) (hdR (arF Fr x1) (arF To x1)) (rmR (arF Wt x1) (Dr (Int.toNat x1)) G39) (csR (arF Co x1) G39) (2 * (Int.toNat (Mn (Int.toNat x1)))) pp De83 By83 Ah83 (120 * v83_6) (Int.toNat v83_6) ∧ bdP De83 ∧ Rfx 16 0 59 By83 ∧ Rfx 16 0 1 Ah83 → 17 - v83_6 ≤ (k : Int) → Rn (gG D cI cJ cZ cT lo b L xs) mX12_price d 83 [(0, .ref y), (1, .int (iv x1)), (2, .int (iv x2)), (3, .int (iv x3)), (4, .int (iv (Sz (Int.toNat x1)))), (6, .int (iv v83_6))] [] hp83 n 0 0 (pJ Γ n (fun r => prcA (Int.toNat (Mn (Int.toNat x1))) (Dr (Int.toNat x1)) (arF Fr x1) (arF To x1) (arF Wt x1) (arF Co x1) (Int.toNat x2) (Int.toNat x3) r.toInt)) := by
                refine lpS _ ?_
                intro k83 ih83 De83 By83 Ah83 hp83 ht83 v83_6 hf83 hm83
                obtain ⟨hf83_0, hf83_1, hf83_2, ha83_3, ha83_4, ha83_5, ha83_6⟩ := hf83
                refine r_iload (pc := 83) dX12_price_83 rfl ?_
                refine r_iload (pc := 85) dX12_price_85 rfl ?_
                refine r_iconst (pc := 87) (v := iv 1) dX12_price_87 (by decide) ?_
                refine r_iadd (pc := 88) (v := iv ((Sz (Int.toNat x1)) + 1)) dX12_price_88 (iv_add _ _) ?_
                refine t_icmp_ge (pc := 89) (tgt := 134) dX12_price_89 (by decide) (by omega) (by omega) (fun c89 => ?_) (fun c89 => ?_)
                · refine r_aload_n (pc := 134) dX12_price_134 (i := 0) rfl rfl ?_
                  have hbs9 := (show bsQ (Int.toNat (Sz (Int.toNat x1))) (Int.toNat x2) (tlR (arF Fr x1) (arF To x1)) (hdR (arF Fr x1) (arF To x1)) (rmR (arF Wt x1) (Dr (Int.toNat x1)) G39) (csR (arF Co x1) G39) (2 * (Int.toNat (Mn (Int.toNat x1)))) pp De83 By83 Ah83 (120 * v83_6) (Int.toNat v83_6) by assumption)
                  have hcv9 := sn_cv hbs9.2 (by omega) (fun j hj => (hTL j hj).1)
                  have hmxy : 1000000000000 ≤ (De83 (Int.toNat x3)).toInt → mxQ (Int.toNat (Mn (Int.toNat x1))) (Dr (Int.toNat x1)) (arF Fr x1) (arF To x1) (arF Wt x1) (Int.toNat x2) (Int.toNat x3) G39 := fun h9 => mx_of hbs9.1 hcv9 (by omega) (fun j hj => (hTL j hj).1) (cs_all hR_cost (by omega) (by omega)) h9
                  refine t_getE (pc := 135) (.ref (y + 39)) ht83 (rd_ov (by omega) (rd_ov (by omega) (rd_ov (by omega) (rd_ov (by omega) hO)))) fX12_127 dX12_price_135 rfl ?_
                  refine r_iload_n (pc := 138) dX12_price_138 (i := 3) rfl rfl ?_
                  refine t_laldX (pc := 139) (t0 := 1) ht83 (rd_ov (by omega) (rd_ov (by omega) (rd_of (ov_s _ _ _)))) dX12_price_139 rfl (by decide) (by omega) ?_
                  refine r_ldc2 (pc := 140) (v := 1000000000000) dX12_price_140 kX12_251 ?_
                  have hk140 : (1000000000000 : Int64).toInt = 1000000000000 := by decide
                  refine r_lcmp (pc := 143) dX12_price_143 ?_
                  have B152 : ∀ hp152 : MH, Tw (ov (ov (ov (ov Γ (y + 38) (xI cI 60 G39)) (y + 39) (xJ cJ 16 De83)) (y + 40) (xI cI 16 By83)) (y + 41) (xI cZ 16 Ah83)) hp152 → ∀  (u152_0 : Int), 0 ≤ u152_0 ∧ u152_0 ≤ 1 ∧ (u152_0 = 1 → (De83 (Int.toNat x3)).toInt < 1000000000000) ∧ (u152_0 = 0 → 1000000000000 ≤ (De83 (Int.toNat x3)).toInt) → Rn (gG D cI cJ cZ cT lo b L xs) mX12_price d 152 [(0, .ref y), (1, .int (iv x1)), (2, .int (iv x2)), (3, .int (iv x3)), (4, .int (iv (Sz (Int.toNat x1))))] [.int (iv u152_0)] hp152 n 0 0 (pJ Γ n (fun r => prcA (Int.toNat (Mn (Int.toNat x1))) (Dr (Int.toNat x1)) (arF Fr x1) (arF To x1) (arF Wt x1) (arF Co x1) (Int.toNat x2) (Int.toNat x3) r.toInt)) := by
                    intro hp152 ht152 u152_0 hf152
                    refine r_istore (pc := 152) (lv' := [(5, .int (iv u152_0)), (0, .ref y), (1, .int (iv x1)), (2, .int (iv x2)), (3, .int (iv x3)), (4, .int (iv (Sz (Int.toNat x1))))]) dX12_price_152 (by decide) rfl ?_
                    refine r_iload (pc := 154) dX12_price_154 rfl ?_
                    refine t_if_eq (pc := 156) (tgt := 39) dX12_price_156 (by decide) (by omega) (fun c156 => ?_) (fun c156 => ?_)
                    · refine Rn.pick (lv' := [(0, .ref y), (1, .int (iv x1)), (2, .int (iv x2)), (3, .int (iv x3)), (4, .int (iv (Sz (Int.toNat x1)))), (5, .int (iv u152_0))]) [1, 2, 3, 4, 5, 0] rfl ?_
                      exact ih39 (Int.toNat ((2 * (1000 * (((Int.toNat (Mn (Int.toNat x1))) : Nat) : Int) - nfR (arF Fr x1) (arF To x1) (((Int.toNat x2) : Nat) : Int) G39 (Int.toNat (Mn (Int.toNat x1)))) + u152_0))) (by omega) G39 De83 By83 Ah83 _ ht152 u152_0 ⟨by omega, by omega, by assumption, by assumption, by assumption, by assumption, by assumption, by assumption, by omega, by assumption, by assumption, by (intro h9; first | (exfalso; omega) | exact hmxy (by omega))⟩ (by omega)
                    · refine r_aload_n (pc := 159) dX12_price_159 (i := 0) rfl rfl ?_
                      refine r_iload_n (pc := 160) dX12_price_160 (i := 1) rfl rfl ?_
                      refine r_iload_n (pc := 161) dX12_price_161 (i := 2) rfl rfl ?_
                      refine r_iload_n (pc := 162) dX12_price_162 (i := 3) rfl rfl ?_
                      obtain ⟨jy, hjy⟩ := hbs9.1.2.2.2 (Int.toNat x3) (by omega) (by show (De83 (Int.toNat x3)).toInt < 1000000000000; omega)
                      obtain ⟨j0, -, hj0⟩ := ex_rc _ _ hjy
                      obtain ⟨p1, hp1a, hp1b⟩ := pt_new hbs9.1 (by omega) hpt hcv9 (fun j hj => (hTL j hj).1) (fun j hj => (hTL j hj).2) (cs_all hR_cost (by omega) (by omega))
                      obtain ⟨fs22, hfs22⟩ := t_obj ht152 (rd_ov (by omega) (rd_ov (by omega) (rd_ov (by omega) (rd_ov (by omega) hO))))
                      refine r_callV (pc := 163) (as := [.int (iv x1), .int (iv x2), .int (iv x3)]) (st := []) kX12_376 rfl dX12_price_163 hfs22 (t_X12_pushy (d := d - 1) (Γ := prN Γ cI cJ cZ y De83 By83 Ah83) (x1 := x1) (x2 := x2) (x3 := x3) (Gn := G39) (Co := Co) (Dd := dtI De83) (pp := p1) (j0 := j0) (by omega) (rd_ov (by omega) (rd_ov (by omega) (rd_ov (by omega) hO))) (rd_ov (by omega) (rd_ov (by omega) (rd_ov (by omega) hA_from))) hR_from (rd_ov (by omega) (rd_ov (by omega) (rd_ov (by omega) hA_to))) hR_to (rd_ov (by omega) (rd_ov (by omega) (rd_ov (by omega) hA_weight))) hR_weight (rd_ov (by omega) (rd_ov (by omega) (rd_ov (by omega) hA_directs))) hR_directs (rd_ov (by omega) (rd_ov (by omega) (rd_ov (by omega) hA_many))) hR_many (rd_ov (by omega) (rd_ov (by omega) (rd_ov (by omega) hA_sizes))) hR_sizes (rd_ov (by omega) (rd_of (ov_s _ _ _))) (by assumption) (rd_of (ov_s _ _ _)) (by assumption) (by rw [← pr_sw]; exact ht152) (by omega) (by omega) (by omega) (by assumption) (wy_of hbs9.1 hcv9) hp1b hp1a (by assumption) hj0 (by show (De83 (Int.toNat x3)).toInt < 1000000000000; omega) (by omega) (by omega) (by omega)) rfl (by omega) (Nat.le_of_ble_eq_true rfl) (Nat.zero_le _) (Nat.zero_le _) rfl (fun r19 hp18 n20 hq21 => ?_)
                      obtain ⟨hnn20, hrr19, G163, ht24, hg1, hg2, hg3, hg4, tq9, htq9, hpx9⟩ := hq21
                      subst n20 r19
                      change Rn _ _ _ 166 _ [] _ _ _ _ _
                      have ht23 : Tw (prN (ov Γ (y + 38) (xI cI 60 G163)) cI cJ cZ y De83 By83 Ah83) hp18 := by rw [pr_sw]; exact ht24
                      have hex163 : ∃ p : Nat → Int, ptR (tlR (arF Fr x1) (arF To x1)) (hdR (arF Fr x1) (arF To x1)) (rmR (arF Wt x1) (Dr (Int.toNat x1)) G163) (csR (arF Co x1) G163) (2 * (Int.toNat (Mn (Int.toNat x1)))) p := ⟨p1, hg3⟩
                      have hnf163 : nfR (arF Fr x1) (arF To x1) (((Int.toNat x2) : Nat) : Int) G163 (Int.toNat (Mn (Int.toNat x1))) ≤ 1000 * (((Int.toNat (Mn (Int.toNat x1))) : Nat) : Int) := nf_fi (dr := (Dr (Int.toNat x1))) hR_weight (by omega) (by omega) hg2
                      have hfl163 : flE (Int.toNat (Mn (Int.toNat x1))) (arF Fr x1) (arF To x1) (Int.toNat x2) (Int.toNat x3) G163 := fle_st (by assumption) hpx9
                      have hlp163 : lpZ (Int.toNat (Mn (Int.toNat x1))) (arF Fr x1) (arF To x1) G163 := lpz_st (by assumption) hpx9
                      refine r_goto (pc := 166) (tgt := 39) dX12_price_166 (by decide) ?_
                      refine Rn.pick (lv' := [(0, .ref y), (1, .int (iv x1)), (2, .int (iv x2)), (3, .int (iv x3)), (4, .int (iv (Sz (Int.toNat x1)))), (5, .int (iv u152_0))]) [1, 2, 3, 4, 5, 0] rfl ?_
                      exact ih39 (Int.toNat ((2 * (1000 * (((Int.toNat (Mn (Int.toNat x1))) : Nat) : Int) - nfR (arF Fr x1) (arF To x1) (((Int.toNat x2) : Nat) : Int) G163 (Int.toNat (Mn (Int.toNat x1)))) + u152_0))) (by omega) G163 De83 By83 Ah83 _ ht23 u152_0 ⟨by omega, by omega, by assumption, by assumption, by assumption, by assumption, by assumption, by assumption, by omega, by assumption, by assumption, by (intro h9; first | (exfalso; omega) | exact hmxy (by omega))⟩ (by omega)
                  refine t_lif_ge (pc := 144) (tgt := 151) dX12_price_144 (by decide) (fun c144 => ?_) (fun c144 => ?_)
                  · refine r_iconst (pc := 151) (v := iv 0) dX12_price_151 (by decide) ?_
                    refine Rn.pick (lv' := [(0, .ref y), (1, .int (iv x1)), (2, .int (iv x2)), (3, .int (iv x3)), (4, .int (iv (Sz (Int.toNat x1))))]) [0, 1, 2, 3, 4] rfl ?_
                    exact B152 _ ht83 0 ⟨by omega, by omega, by omega, by omega⟩
                  · refine r_iconst (pc := 147) (v := iv 1) dX12_price_147 (by decide) ?_
                    refine r_goto (pc := 148) (tgt := 152) dX12_price_148 (by decide) ?_
                    refine Rn.pick (lv' := [(0, .ref y), (1, .int (iv x1)), (2, .int (iv x2)), (3, .int (iv x3)), (4, .int (iv (Sz (Int.toNat x1))))]) [0, 1, 2, 3, 4] rfl ?_
                    exact B152 _ ht83 1 ⟨by omega, by omega, by omega, by omega⟩
                · refine r_iconst (pc := 92) (v := iv 0) dX12_price_92 (by decide) ?_
                  refine r_istore (pc := 93) (lv' := [(7, .int (iv 0)), (0, .ref y), (1, .int (iv x1)), (2, .int (iv x2)), (3, .int (iv x3)), (4, .int (iv (Sz (Int.toNat x1)))), (6, .int (iv v83_6))]) dX12_price_93 (by decide) rfl ?_
                  have B95 : ∀ k : Nat, ∀ De95 : Nat → Int64, ∀ By95 : Nat → Int, ∀ Ah95 : Nat → Int, ∀ hp95 : MH, Tw (ov (ov (ov (ov Γ (y + 38) (xI cI 60 G39)) (y + 39) (xJ cJ 16 De95)) (y + 40) (xI cI 16 By95)) (y + 41) (xI cZ 16 Ah95)) hp95 → ∀  (v95_7 : Int), 0 ≤ v95_7 ∧ v95_7 ≤ 60 ∧ v95_7 ≤ (Mn (Int.toNat x1)) ∧ brP (Int.toNat (Sz (Int.toNat x1))) (Int.toNat x2) (tlR (arF Fr x1) (arF To x1)) (hdR (arF Fr x1) (arF To x1)) (rmR (arF Wt x1) (Dr (Int.toNat x1)) G39) (csR (arF Co x1) G39) (2 * (Int.toNat (Mn (Int.toNat x1)))) pp De95 By95 Ah95 (120 * v83_6 + 2 * v95_7) (Int.toNat v83_6) (2 * Int.toNat v95_7) ∧ bdP De95 ∧ Rfx 16 0 59 By95 ∧ Rfx 16 0 1 Ah95 → 60 - v95_7 ≤ (k : Int) → Rn (gG D cI cJ cZ cT lo b L xs) mX12_price d 95 [(0, .ref y), (1, .int (iv x1)), (2, .int (iv x2)), (3, .int (iv x3)), (4, .int (iv (Sz (Int.toNat x1)))), (6, .int (iv v83_6)), (7, .int (iv v95_7))] [] hp95 n 0 0 (pJ Γ n (fun r => prcA (Int.toNat (Mn (Int.toNat x1))) (Dr (Int.toNat x1)) (arF Fr x1) (arF To x1) (arF Wt x1) (arF Co x1) (Int.toNat x2) (Int.toNat x3) r.toInt)) := by
                    refine lpS _ ?_
                    intro k95 ih95 De95 By95 Ah95 hp95 ht95 v95_7 hf95 hm95
                    obtain ⟨hf95_0, hf95_1, hf95_2, ha95_3, ha95_4, ha95_5, ha95_6⟩ := hf95
                    refine r_iload (pc := 95) dX12_price_95 rfl ?_
                    refine r_aload_n (pc := 97) dX12_price_97 (i := 0) rfl rfl ?_
                    refine t_getE (pc := 98) (.ref (y + 4)) ht95 (rd_ov (by omega) (rd_ov (by omega) (rd_ov (by omega) (rd_ov (by omega) hO)))) fX12_20 dX12_price_98 rfl ?_
                    refine r_iload_n (pc := 101) dX12_price_101 (i := 1) rfl rfl ?_
                    refine t_ialdX (pc := 102) (t0 := 0) ht95 (rd_ov (by omega) (rd_ov (by omega) (rd_ov (by omega) (rd_ov (by omega) hA_many)))) dX12_price_102 rfl (by decide) (by omega) (fun b25 => ?_)
                    have rb25 := (show Rfx 121 0 60 Mn by assumption) (Int.toNat x1) (by omega)
                    refine t_icmp_ge (pc := 103) (tgt := 128) dX12_price_103 (by decide) (by omega) (by omega) (fun c103 => ?_) (fun c103 => ?_)
                    · refine r_iinc (pc := 128) (v := iv (v83_6 + 1)) (lv' := [(6, .int (iv (v83_6 + 1))), (0, .ref y), (1, .int (iv x1)), (2, .int (iv x2)), (3, .int (iv x3)), (4, .int (iv (Sz (Int.toNat x1)))), (7, .int (iv v95_7))]) dX12_price_128 rfl (iv_add _ _) (by decide) rfl ?_
                      have hbs128 : bsQ (Int.toNat (Sz (Int.toNat x1))) (Int.toNat x2) (tlR (arF Fr x1) (arF To x1)) (hdR (arF Fr x1) (arF To x1)) (rmR (arF Wt x1) (Dr (Int.toNat x1)) G39) (csR (arF Co x1) G39) (2 * (Int.toNat (Mn (Int.toNat x1)))) pp De95 By95 Ah95 (120 * (v83_6 + 1)) (Int.toNat (v83_6 + 1)) := by rw [show Int.toNat (v83_6 + 1) = Int.toNat v83_6 + 1 by omega]; exact br_end (show brP (Int.toNat (Sz (Int.toNat x1))) (Int.toNat x2) (tlR (arF Fr x1) (arF To x1)) (hdR (arF Fr x1) (arF To x1)) (rmR (arF Wt x1) (Dr (Int.toNat x1)) G39) (csR (arF Co x1) G39) (2 * (Int.toNat (Mn (Int.toNat x1)))) pp De95 By95 Ah95 (120 * v83_6 + 2 * v95_7) (Int.toNat v83_6) (2 * Int.toNat v95_7) by assumption) (by omega) (by omega)
                      refine r_goto (pc := 131) (tgt := 83) dX12_price_131 (by decide) ?_
                      refine Rn.pick (lv' := [(0, .ref y), (1, .int (iv x1)), (2, .int (iv x2)), (3, .int (iv x3)), (4, .int (iv (Sz (Int.toNat x1)))), (6, .int (iv (v83_6 + 1)))]) [1, 2, 3, 4, 5, 0] rfl ?_
                      exact ih83 (Int.toNat (17 - (v83_6 + 1))) (by omega) De95 By95 Ah95 _ ht95 (v83_6 + 1) ⟨by omega, by omega, by omega, by (first | assumption | exact hbs81), by assumption, by assumption, by assumption⟩ (by omega)
                    · refine r_aload_n (pc := 106) dX12_price_106 (i := 0) rfl rfl ?_
                      refine r_iload_n (pc := 107) dX12_price_107 (i := 1) rfl rfl ?_
                      refine r_iload (pc := 108) dX12_price_108 rfl ?_
                      refine r_iconst (pc := 110) (v := iv 1) dX12_price_110 (by decide) ?_
                      obtain ⟨fs30, hfs30⟩ := t_obj ht95 (rd_ov (by omega) (rd_ov (by omega) (rd_ov (by omega) (rd_ov (by omega) hO))))
                      refine r_callV (pc := 111) (as := [.int (iv x1), .int (iv v95_7), .int (iv 1)]) (st := []) kX12_372 rfl dX12_price_111 hfs30 (t_X12_relaxx (d := d - 1) (Γ := ov Γ (y + 38) (xI cI 60 G39)) (x1 := x1) (x2 := v95_7) (x3 := 1) (De := De95) (By := By95) (Ah := Ah95) (by omega) (rd_ov (by omega) hO) (rd_ov (by omega) hA_from) hR_from (rd_ov (by omega) hA_to) hR_to (rd_ov (by omega) hA_weight) hR_weight (rd_ov (by omega) hA_cost) hR_cost (rd_ov (by omega) hA_directs) hR_directs (rd_of (ov_s _ _ _)) (by assumption) ht95 (by omega) (by omega) (by omega) (by assumption)) rfl (by omega) (Nat.le_of_ble_eq_true rfl) (Nat.zero_le _) (Nat.zero_le _) rfl (fun r27 hp26 n28 hq29 => ?_)
                      obtain ⟨hnn28, hrr27, De111, By111, Ah111, ht31, hrl111⟩ := hq29
                      subst n28 r27
                      change Rn _ _ _ 114 _ [] _ _ _ _ _
                      rw [jx_1] at hrl111
                      have hen1 := hTL (2 * Int.toNat v95_7) (by omega)
                      have hcs1 := cs_all (G := G39) hR_cost (g := x1) (by omega) (m := (Int.toNat (Mn (Int.toNat x1)))) (by omega) (2 * Int.toNat v95_7) (by omega)
                      have hbb := (show brP (Int.toNat (Sz (Int.toNat x1))) (Int.toNat x2) (tlR (arF Fr x1) (arF To x1)) (hdR (arF Fr x1) (arF To x1)) (rmR (arF Wt x1) (Dr (Int.toNat x1)) G39) (csR (arF Co x1) G39) (2 * (Int.toNat (Mn (Int.toNat x1)))) pp De95 By95 Ah95 (120 * v83_6 + 2 * v95_7) (Int.toNat v83_6) (2 * Int.toNat v95_7) by assumption)
                      have hb1 := br_st hbb hpt (by omega) (jx_1 v95_7) hen1.1 hen1.2 hcs1 hrl111
                      have hd1 := bd_st hbb (by omega) (by assumption) hen1.1 hcs1 hrl111
                      have hRB111 : Rfx 16 0 59 By111 := rl_B hrl111 (by assumption) (by omega)
                      have hRA111 : Rfx 16 0 1 Ah111 := rl_A hrl111 (by assumption) (by omega)
                      refine r_aload_n (pc := 114) dX12_price_114 (i := 0) rfl rfl ?_
                      refine r_iload_n (pc := 115) dX12_price_115 (i := 1) rfl rfl ?_
                      refine r_iload (pc := 116) dX12_price_116 rfl ?_
                      refine r_iconst (pc := 118) (v := iv 0) dX12_price_118 (by decide) ?_
                      obtain ⟨fs36, hfs36⟩ := t_obj ht31 (rd_ov (by omega) (rd_ov (by omega) (rd_ov (by omega) (rd_ov (by omega) hO))))
                      refine r_callV (pc := 119) (as := [.int (iv x1), .int (iv v95_7), .int (iv 0)]) (st := []) kX12_372 rfl dX12_price_119 hfs36 (t_X12_relaxx (d := d - 1) (Γ := ov Γ (y + 38) (xI cI 60 G39)) (x1 := x1) (x2 := v95_7) (x3 := 0) (De := De111) (By := By111) (Ah := Ah111) (by omega) (rd_ov (by omega) hO) (rd_ov (by omega) hA_from) hR_from (rd_ov (by omega) hA_to) hR_to (rd_ov (by omega) hA_weight) hR_weight (rd_ov (by omega) hA_cost) hR_cost (rd_ov (by omega) hA_directs) hR_directs (rd_of (ov_s _ _ _)) (by assumption) ht31 (by omega) (by omega) (by omega) (by assumption)) rfl (by omega) (Nat.le_of_ble_eq_true rfl) (Nat.zero_le _) (Nat.zero_le _) rfl (fun r33 hp32 n34 hq35 => ?_)
                      obtain ⟨hnn34, hrr33, De119, By119, Ah119, ht37, hrl119⟩ := hq35
                      subst n34 r33
                      change Rn _ _ _ 122 _ [] _ _ _ _ _
                      rw [jx_0] at hrl119
                      have hen2 := hTL (2 * Int.toNat v95_7 + 1) (by omega)
                      have hcs2 := cs_all (G := G39) hR_cost (g := x1) (by omega) (m := (Int.toNat (Mn (Int.toNat x1)))) (by omega) (2 * Int.toNat v95_7 + 1) (by omega)
                      have hb2 := br_st hb1 hpt (by omega) (jx_0 v95_7) hen2.1 hen2.2 hcs2 hrl119
                      have hd2 := bd_st hb1 (by omega) hd1 hen2.1 hcs2 hrl119
                      have hRB119 : Rfx 16 0 59 By119 := rl_B hrl119 (by assumption) (by omega)
                      have hRA119 : Rfx 16 0 1 Ah119 := rl_A hrl119 (by assumption) (by omega)
                      refine r_iinc (pc := 122) (v := iv (v95_7 + 1)) (lv' := [(7, .int (iv (v95_7 + 1))), (0, .ref y), (1, .int (iv x1)), (2, .int (iv x2)), (3, .int (iv x3)), (4, .int (iv (Sz (Int.toNat x1)))), (6, .int (iv v83_6))]) dX12_price_122 rfl (iv_add _ _) (by decide) rfl ?_
                      refine r_goto (pc := 125) (tgt := 95) dX12_price_125 (by decide) ?_
                      refine Rn.pick (lv' := [(0, .ref y), (1, .int (iv x1)), (2, .int (iv x2)), (3, .int (iv x3)), (4, .int (iv (Sz (Int.toNat x1)))), (6, .int (iv v83_6)), (7, .int (iv (v95_7 + 1)))]) [1, 2, 3, 4, 5, 6, 0] rfl ?_
                      exact ih95 (Int.toNat (60 - (v95_7 + 1))) (by omega) De119 By119 Ah119 _ ht37 (v95_7 + 1) ⟨by omega, by omega, by omega, by (first | assumption | exact br_go (by assumption) (by omega) | (rw [show 2 * Int.toNat (v95_7 + 1) = 2 * Int.toNat v95_7 + 1 + 1 by omega]; exact br_mono hb2 (by omega))), by assumption, by assumption, by assumption⟩ (by omega)
                  refine Rn.pick (lv' := [(0, .ref y), (1, .int (iv x1)), (2, .int (iv x2)), (3, .int (iv x3)), (4, .int (iv (Sz (Int.toNat x1)))), (6, .int (iv v83_6)), (7, .int (iv 0))]) [1, 2, 3, 4, 5, 6, 0] rfl ?_
                  exact B95 (Int.toNat (60 - 0)) De83 By83 Ah83 _ ht83 0 ⟨by omega, by omega, by omega, by (first | assumption | exact br_go (by assumption) (by omega) | (rw [show 2 * Int.toNat (v95_7 + 1) = 2 * Int.toNat v95_7 + 1 + 1 by omega]; exact br_mono hb2 (by omega))), by assumption, by assumption, by assumption⟩ (by omega)
              refine Rn.pick (lv' := [(0, .ref y), (1, .int (iv x1)), (2, .int (iv x2)), (3, .int (iv x3)), (4, .int (iv (Sz (Int.toNat x1)))), (6, .int (iv 0))]) [1, 2, 3, 4, 5, 0] rfl ?_
              exact B83 (Int.toNat (17 - 0)) De47 By39 Ah39 _ ht47 0 ⟨by omega, by omega, by omega, by (first | assumption | exact hbs81), by assumption, by assumption, by assumption⟩ (by omega)
            · refine r_aload_n (pc := 54) dX12_price_54 (i := 0) rfl rfl ?_
              refine t_getE (pc := 55) (.ref (y + 39)) ht47 (rd_ov (by omega) (rd_ov (by omega) (rd_ov (by omega) (rd_ov (by omega) hO)))) fX12_127 dX12_price_55 rfl ?_
              refine r_iload (pc := 58) dX12_price_58 rfl ?_
              refine r_iload (pc := 60) dX12_price_60 rfl ?_
              refine r_iload_n (pc := 62) dX12_price_62 (i := 2) rfl rfl ?_
              have B73 : ∀ hp73 : MH, Tw (ov (ov (ov (ov Γ (y + 38) (xI cI 60 G39)) (y + 39) (xJ cJ 16 De47)) (y + 40) (xI cI 16 By39)) (y + 41) (xI cZ 16 Ah39)) hp73 → ∀  (x73_2 : Int64), x73_2.toInt = (if Int.toNat v47_6 = (Int.toNat x2) then 0 else 1000000000000) ∧ -1 ≤ x73_2.toInt ∧ x73_2.toInt ≤ 1000000000000 → Rn (gG D cI cJ cZ cT lo b L xs) mX12_price d 73 [(0, .ref y), (1, .int (iv x1)), (2, .int (iv x2)), (3, .int (iv x3)), (4, .int (iv (Sz (Int.toNat x1)))), (6, .int (iv v47_6))] [.long x73_2, .int (iv v47_6), .ref (y + 39)] hp73 n 0 0 (pJ Γ n (fun r => prcA (Int.toNat (Mn (Int.toNat x1))) (Dr (Int.toNat x1)) (arF Fr x1) (arF To x1) (arF Wt x1) (arF Co x1) (Int.toNat x2) (Int.toNat x3) r.toInt)) := by
                intro hp73 ht73 x73_2 hf73
                obtain ⟨ha73_0, hf73_1, hf73_2⟩ := hf73
                refine t_lastX (pc := 73) (t0 := 1) ht73 (eq_ov (by omega) (eq_ov (by omega) (ov_s _ _ _))) dX12_price_73 rfl (by decide) (by omega) (fun hp38 ht39 => ?_)
                rw [ov_in3 (by omega) (by omega) ] at ht39
                have hdi73 : diP (Int.toNat (Sz (Int.toNat x1))) (Int.toNat x2) (fuj De47 (Int.toNat v47_6) x73_2) (v47_6 + 1) := di_up (by assumption) (by omega) (by assumption)
                have hbd73 : bdP (fuj De47 (Int.toNat v47_6) x73_2) := bd_up (by assumption) (by first | assumption | omega)
                refine r_iinc (pc := 74) (v := iv (v47_6 + 1)) (lv' := [(6, .int (iv (v47_6 + 1))), (0, .ref y), (1, .int (iv x1)), (2, .int (iv x2)), (3, .int (iv x3)), (4, .int (iv (Sz (Int.toNat x1))))]) dX12_price_74 rfl (iv_add _ _) (by decide) rfl ?_
                refine r_goto (pc := 77) (tgt := 47) dX12_price_77 (by decide) ?_
                refine Rn.pick (lv' := [(0, .ref y), (1, .int (iv x1)), (2, .int (iv x2)), (3, .int (iv x3)), (4, .int (iv (Sz (Int.toNat x1)))), (6, .int (iv (v47_6 + 1)))]) [1, 2, 3, 4, 5, 0] rfl ?_
                exact ih47 (Int.toNat (16 - (v47_6 + 1))) (by omega) (fuj De47 (Int.toNat v47_6) x73_2) _ ht39 (v47_6 + 1) ⟨by omega, by omega, by omega, by assumption, by assumption⟩ (by omega)
              refine t_icmp_ne (pc := 63) (tgt := 70) dX12_price_63 (by decide) (by omega) (by omega) (fun c63 => ?_) (fun c63 => ?_)
              · refine r_ldc2 (pc := 70) (v := 1000000000000) dX12_price_70 kX12_251 ?_
                have hk70 : (1000000000000 : Int64).toInt = 1000000000000 := by decide
                refine Rn.pick (lv' := [(0, .ref y), (1, .int (iv x1)), (2, .int (iv x2)), (3, .int (iv x3)), (4, .int (iv (Sz (Int.toNat x1)))), (6, .int (iv v47_6))]) [0, 1, 2, 3, 4, 5] rfl ?_
                exact B73 _ ht47 (1000000000000 : Int64) ⟨by (first | (rw [if_pos (show Int.toNat v47_6 = (Int.toNat x2) by omega)]; omega) | (rw [if_neg (show ¬ Int.toNat v47_6 = (Int.toNat x2) by omega)]; omega)), by omega, by omega⟩
              · refine r_lconst (pc := 66) (v := 0) dX12_price_66 (by decide) ?_
                have hk66 : (0 : Int64).toInt = 0 := by decide
                refine r_goto (pc := 67) (tgt := 73) dX12_price_67 (by decide) ?_
                refine Rn.pick (lv' := [(0, .ref y), (1, .int (iv x1)), (2, .int (iv x2)), (3, .int (iv x3)), (4, .int (iv (Sz (Int.toNat x1)))), (6, .int (iv v47_6))]) [0, 1, 2, 3, 4, 5] rfl ?_
                exact B73 _ ht47 (0 : Int64) ⟨by (first | (rw [if_pos (show Int.toNat v47_6 = (Int.toNat x2) by omega)]; omega) | (rw [if_neg (show ¬ Int.toNat v47_6 = (Int.toNat x2) by omega)]; omega)), by omega, by omega⟩
          refine Rn.pick (lv' := [(0, .ref y), (1, .int (iv x1)), (2, .int (iv x2)), (3, .int (iv x3)), (4, .int (iv (Sz (Int.toNat x1)))), (6, .int (iv 0))]) [1, 2, 3, 4, 5, 0] rfl ?_
          exact B47 (Int.toNat (16 - 0)) De39 _ ht39 0 ⟨by omega, by omega, by omega, by assumption, by assumption⟩ (by omega)
      refine Rn.pick (lv' := [(0, .ref y), (1, .int (iv x1)), (2, .int (iv x2)), (3, .int (iv x3)), (4, .int (iv (Sz (Int.toNat x1)))), (5, .int (iv 1))]) [1, 2, 3, 4, 5, 0] rfl ?_
      exact B39 (Int.toNat ((2 * (1000 * (((Int.toNat (Mn (Int.toNat x1))) : Nat) : Int) - nfR (arF Fr x1) (arF To x1) (((Int.toNat x2) : Nat) : Int) G11 (Int.toNat (Mn (Int.toNat x1)))) + 1))) G11 De0 By0 Ah0 _ ht11 1 ⟨by omega, by omega, by assumption, by assumption, by assumption, by assumption, by assumption, by assumption, by omega, by assumption, by assumption, by (intro h9; first | (exfalso; omega) | exact hmxy (by omega))⟩ (by omega)
    · refine r_aload_n (pc := 22) dX12_price_22 (i := 0) rfl rfl ?_
      refine t_getE (pc := 23) (.ref (y + 38)) ht11 (rd_ov (by omega) (rd_ov (by omega) (rd_ov (by omega) (rd_ov (by omega) hO)))) fX12_124 dX12_price_23 rfl ?_
      refine r_iload (pc := 26) dX12_price_26 rfl ?_
      refine r_iconst (pc := 28) (v := iv 0) dX12_price_28 (by decide) ?_
      refine t_iastX (pc := 29) (t0 := 0) ht11 (eq_ov (by omega) (eq_ov (by omega) (eq_ov (by omega) (ov_s _ _ _)))) dX12_price_29 rfl (by decide) (by omega) (by omega) (fun hp40 ht41 => ?_)
      rw [ov_in4 (by omega) (by omega) (by omega) ] at ht41
      have hgi29 : giP (fup G11 (Int.toNat v11_5) 0) (v11_5 + 1) := gi_up (by assumption) (by omega)
      have hRG29 : Rfx 60 (-1000) 1000 (fup G11 (Int.toNat v11_5) 0) := Rfx_up (by assumption) (by omega)
      refine r_iinc (pc := 30) (v := iv (v11_5 + 1)) (lv' := [(5, .int (iv (v11_5 + 1))), (0, .ref y), (1, .int (iv x1)), (2, .int (iv x2)), (3, .int (iv x3)), (4, .int (iv (Sz (Int.toNat x1))))]) dX12_price_30 rfl (iv_add _ _) (by decide) rfl ?_
      refine r_goto (pc := 33) (tgt := 11) dX12_price_33 (by decide) ?_
      refine Rn.pick (lv' := [(0, .ref y), (1, .int (iv x1)), (2, .int (iv x2)), (3, .int (iv x3)), (4, .int (iv (Sz (Int.toNat x1)))), (5, .int (iv (v11_5 + 1)))]) [1, 2, 3, 4, 5, 0] rfl ?_
      exact ih11 (Int.toNat (60 - (v11_5 + 1))) (by omega) (fup G11 (Int.toNat v11_5) 0) _ ht41 (v11_5 + 1) ⟨by omega, by omega, by omega, by assumption, by assumption⟩ (by omega)
  refine Rn.pick (lv' := [(0, .ref y), (1, .int (iv x1)), (2, .int (iv x2)), (3, .int (iv x3)), (4, .int (iv (Sz (Int.toNat x1)))), (5, .int (iv 0))]) [2, 3, 4, 5, 1, 0] rfl ?_
  exact B11 (Int.toNat (60 - 0)) G0 _ htd 0 ⟨by omega, by omega, by omega, by assumption, by assumption⟩ (by omega)
