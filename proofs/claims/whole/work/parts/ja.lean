theorem tk9_e {R : Nat → Nat → Prop} {P : Nat → Prop} {Lv L1 : Nat → Int} {x2 x3 z v w : Int} (hR : ∀ i j, R i j → R j i) (hLP : ∀ j, Me x2 j → P j) (hv : Me x2 v.toNat) (hz : ∀ i, Me z i ↔ Me x2 i ∧ i ≠ v.toNat) (hx : x2 ≤ 65535) (h0 : 0 ≤ x3) (hr : rwE (hG R P (Me x2)) x2 (lvW Lv x3)) (hw : 16 ≤ w) (h : tkI Lv (lvW Lv x3 v.toNat) x2 x3 v.toNat w L1) : rwE (hG R P (Me z)) z (lvW L1 (x3 + 1)) := by
  have e : ∀ u : Nat, lvW L1 (x3 + 1) u = L1 (16 * (x3.toNat + 1) + u) := fun u => by
    unfold lvW; rw [show (x3 + 1).toNat = x3.toNat + 1 by omega]
  have hq : ∀ u : Nat, Me z u → _ := fun u hu => h.2 u (by have := Me_lt ((hz u).mp hu).1 hx; omega) ((hz u).mp hu).1
  refine tk_rw hLP hv hz hr (fun u hu => ?_) hR (fun u hu ha i => ?_) (fun u hu ha i => ?_)
  · rw [e u]; exact (hq u hu).1
  · rw [e u, (hq u hu).2.1 ha i, and_assoc]
  · rw [e u, (hq u hu).2.2 ha]
theorem rw_lv {H : Nat → Nat → Prop} {S d : Int} {Lv L1 : Nat → Int} (h : rwE H S (lvW Lv d)) (hS : S ≤ 65535) (h1 : ∀ j, j < 16 * (d.toNat + 1) → L1 j = Lv j) : rwE H S (lvW L1 d) := fun v hv => by
  have h16 := Me_lt hv hS
  have e : lvW L1 d v = lvW Lv d v := h1 _ (by omega)
  rw [e]; exact h v hv
/-- in canGo: of c the nodes below v have been tried -/
def cgI (R : Nat → Nat → Prop) (P : Nat → Prop) (k L c v : Int) : Prop := ∀ u : Nat, (u : Int) < v → Me c u → ∀ L1 : Int, (∀ i, Me L1 i ↔ Me L i ∧ i ≠ u) → ¬ gW R P k L1
theorem gw_cg {R : Nat → Nat → Prop} {P : Nat → Prop} {k L L1 : Int} (h : ∀ i, Me L1 i ↔ Me L i) (g : gW R P k L1) : gW R P k L := by
  have e : Me L1 = Me L := funext (fun i => propext (h i))
  unfold gW at g ⊢
  rw [← e]; exact g
theorem cgI_0 {R : Nat → Nat → Prop} {P : Nat → Prop} {k L c : Int} : cgI R P k L c 0 := fun u hu => by omega
theorem cg_sk {R : Nat → Nat → Prop} {P : Nat → Prop} {k L c v : Int} (h : cgI R P k L c v) (h0 : 0 ≤ v) (hn : ¬ Me c v.toNat) : cgI R P k L c (v + 1) := fun u hu hm => by
  by_cases e : (u : Int) < v
  · exact h u e hm
  · exact absurd ((show u = v.toNat by omega) ▸ hm) hn
theorem cg_st {R : Nat → Nat → Prop} {P : Nat → Prop} {k L c v z : Int} (h : cgI R P k L c v) (h0 : 0 ≤ v) (hz : ∀ i, Me z i ↔ Me L i ∧ i ≠ v.toNat) (hn : ¬ gW R P k z) : cgI R P k L c (v + 1) := fun u hu hm L1 h1 g => by
  by_cases e : (u : Int) < v
  · exact h u e hm L1 h1 g
  · have e2 : u = v.toNat := by omega
    exact hn (gw_cg (fun i => by rw [h1 i, hz i, e2]) g)
theorem cg_e {R : Nat → Nat → Prop} {P : Nat → Prop} {k L c v : Int} {r : Nat → Int} (hc : chQ R P k L r c) (hc0 : c ≤ 65535) (hL : L ≤ 65535) (h : cgI R P k L c v) (hv : 16 ≤ v) : ¬ gW R P k L := fun g => by
  obtain ⟨u, hu, h2⟩ := hc.2 g
  obtain ⟨z, hz, hm⟩ := mk_ex (fun i => Me L i ∧ i ≠ u) 16 (Nat.le_refl 16)
  have hm1 : ∀ i, Me z i ↔ Me L i ∧ i ≠ u := fun i => (hm i).trans ⟨fun q => q.2, fun q => ⟨Me_lt q.1 hL, q⟩⟩
  exact h u (by have := Me_lt hu hc0; omega) hu z hm1 (h2 z hm1)
theorem gw_sz {R : Nat → Nat → Prop} {P : Nat → Prop} {k L : Int} (hL : 0 ≤ L ∧ L ≤ 65535) (h0 : 0 ≤ k) (h : bcI L 16 ≤ k + 1) : gW R P k L := ew_sz hL h0 h
theorem lo_mt {J : Nat → Nat → Prop} {P L L1 lw lw1 v u : Int} {M M1 : Nat → Int} (h : loI J P M L lw) (hL : L ≤ 65535) (hv : Me L v.toNat) (hle : ∀ u, Me L u → bcI (M v.toNat) 16 ≤ bcI (M u) 16) (h1 : ∀ i, Me L1 i ↔ Me L i ∧ i ≠ v.toNat) (hl : lw1 ≤ lw ∨ lw1 ≤ bcI (M v.toNat) 16) (hs : lshI (M v.toNat) 16 u) (hq : mtQ M v u M1) (hR : Rfx 16 0 65535 M1) : loI J P M1 L1 lw1 := by
  have hb := (h.1 _ hv).1
  refine lo_st h hL hv hle h1 hl ?_
  rcases hq with ⟨q1, q2⟩ | ⟨q1, q2, q3, q4⟩
  · refine Or.inl ⟨fun w g => ?_, fun w => by rw [q2]⟩
    rcases hs with s1 | s1
    · exact s1.2 w (by have := Me_lt g hb.2; omega) g
    · omega
  · rcases hs with s1 | s1
    · omega
    · refine Or.inr ⟨u.toNat, s1.2, fun w hw => hR w (Me_lt ((h1 w).mp hw).1 hL), q2, q3, fun w _ hn => q4 w (fun e => hn (e ▸ s1.2)) hn⟩
theorem lo_dg {J : Nat → Nat → Prop} {P L lw : Int} {M : Nat → Int} (h : loI J P M L lw) (hL : L ≤ 65535) : ∀ u, Me L u → bcI (M u) 16 ≤ 15 := fun u hu => by
  have := bc_lt16 (h.1 u hu).1 (Me_lt hu hL) (h.1 u hu).2.1
  omega
theorem bc_ne {L : Int} (h0 : 0 ≤ L) (h : 1 ≤ bcI L 16) : ∃ u, Me L u := by
  by_cases e : L = 0
  · rw [e, show bcI 0 16 = 0 by decide] at h; omega
  · exact Me_ex (by omega)
theorem lo_cp {J : Nat → Nat → Prop} {P : Int} {Jo M : Nat → Int} {n : Nat} (hn : n ≤ 16) (hJ : ∀ a b, J a b → J b a) (hi : ∀ a, ¬ J a a) (hjo : rwP Jo n J) (hR : Rfx n 0 65535 Jo) (hP : ∀ v, Me P v → v < n) (hPc : ∀ v u, Me P v → J v u → Me P u) : loI J P (cpI Jo M (Int.toNat 0) (Int.toNat 0) (Int.toNat (n : Int))) P 0 := by
  have e : ∀ v, v < n → cpI Jo M (Int.toNat 0) (Int.toNat 0) (Int.toNat (n : Int)) v = Jo v := fun v hv => by
    show (if 0 ≤ v ∧ v < 0 + Int.toNat (n : Int) then Jo (0 + (v - 0)) else M v) = Jo v
    rw [if_pos (by omega)]
    congr 1
    omega
  refine lo_0 hJ hi (fun v hv => ?_) hPc
  rw [e v (hP v hv)]
  exact ⟨hR v (hP v hv), fun u => hjo.1 v (hP v hv) u⟩
set_option maxHeartbeats 4000000 in
set_option maxRecDepth 100000 in
theorem c_X7_takeOutx {D : va_G} {cI cJ cZ cT : ClassId} {lo b L : Nat} {xs : Nat → Int32} {hp : MH} {n d : Nat} {Γ : TG} {s : Nat} {Lv : Nat → Int} {x1 x2 x3 : Int} (hd0 : 0 ≤ d) (hO : rd Γ s (tO 7 [fE (.ref (s + 1)), fE (.ref (s + 2)), fE (.ref (s + 3)), fE (.ref (s + 4)), fE (.ref (s + 5))])) (hR9 : Rfx 272 0 65535 Lv) (ht : Tw (ov Γ (s + 3) (xI cI 272 Lv)) hp) (hx1 : 0 ≤ x1 ∧ x1 ≤ 15) (hx2 : 0 ≤ x2 ∧ x2 ≤ 65535) (hx3 : 0 ≤ x3 ∧ x3 ≤ 15) : Mt (gG D cI cJ cZ cT lo b L xs) mX7_takeOut d 0 0 [.ref s, .int (iv x1), .int (iv x2), .int (iv x3)] hp n (fun r9 hp1 n1 => n1 = n ∧ r9 = none ∧ ∃ L1 : Nat → Int, Tw (ov Γ (s + 3) (xI cI 272 L1)) hp1 ∧ Rfx 272 0 65535 L1 ∧ tkI Lv (lvW Lv x3 (Int.toNat x1)) x2 x3 (Int.toNat x1) 16 L1) := by
  refine Mt.of rfl (Nat.le_of_ble_eq_true rfl) ?_
  refine Rn.pick (lv' := [(0, .ref s), (1, .int (iv x1)), (2, .int (iv x2)), (3, .int (iv x3))]) [0, 1, 2, 3] rfl ?_
  refine r_iload_n (pc := 0) dX7_takeOut_0 (i := 3) rfl rfl ?_
  refine r_bipush (pc := 1) (v := iv 16) dX7_takeOut_1 (by decide) ?_
  refine r_imul (pc := 3) (v := iv (x3 * 16)) dX7_takeOut_3 (iv_mul _ _) ?_
  refine r_istore (pc := 4) (lv' := [(4, .int (iv (x3 * 16))), (0, .ref s), (1, .int (iv x1)), (2, .int (iv x2)), (3, .int (iv x3))]) dX7_takeOut_4 (by decide) rfl ?_
  refine r_iload (pc := 6) dX7_takeOut_6 rfl ?_
  refine r_bipush (pc := 8) (v := iv 16) dX7_takeOut_8 (by decide) ?_
  refine r_iadd (pc := 10) (v := iv ((x3 * 16) + 16)) dX7_takeOut_10 (iv_add _ _) ?_
  refine r_istore (pc := 11) (lv' := [(5, .int (iv ((x3 * 16) + 16))), (4, .int (iv (x3 * 16))), (0, .ref s), (1, .int (iv x1)), (2, .int (iv x2)), (3, .int (iv x3))]) dX7_takeOut_11 (by decide) rfl ?_
  refine r_aload_n (pc := 13) dX7_takeOut_13 (i := 0) rfl rfl ?_
  refine t_getE (pc := 14) (.ref (s + 3)) ht (rd_ov (by omega) hO) fX7_18 dX7_takeOut_14 rfl ?_
  refine r_iload (pc := 17) dX7_takeOut_17 rfl ?_
  refine r_iload_n (pc := 19) dX7_takeOut_19 (i := 1) rfl rfl ?_
  refine r_iadd (pc := 20) (v := iv ((x3 * 16) + x1)) dX7_takeOut_20 (iv_add _ _) ?_
  refine t_ialdX (pc := 21) (t0 := 0) ht (rd_of (ov_s _ _ _)) dX7_takeOut_21 rfl (by decide) (by omega) (fun b1 => ?_)
  have rb1 := (show Rfx 272 0 65535 Lv by assumption) (Int.toNat ((x3 * 16) + x1)) (by omega)
  have eA : Lv (Int.toNat ((x3 * 16) + x1)) = (lvW Lv x3 (Int.toNat x1)) := lv_e (by omega) (by omega) (by omega)
  have bA : 0 ≤ (lvW Lv x3 (Int.toNat x1)) ∧ (lvW Lv x3 (Int.toNat x1)) ≤ 65535 := by rw [← eA]; omega
  refine r_istore (pc := 22) (lv' := [(6, .int (iv (Lv (Int.toNat ((x3 * 16) + x1))))), (5, .int (iv ((x3 * 16) + 16))), (4, .int (iv (x3 * 16))), (0, .ref s), (1, .int (iv x1)), (2, .int (iv x2)), (3, .int (iv x3))]) dX7_takeOut_22 (by decide) rfl ?_
  refine r_iconst (pc := 24) (v := iv 0) dX7_takeOut_24 (by decide) ?_
  refine r_istore (pc := 25) (lv' := [(7, .int (iv 0)), (6, .int (iv (Lv (Int.toNat ((x3 * 16) + x1))))), (5, .int (iv ((x3 * 16) + 16))), (4, .int (iv (x3 * 16))), (0, .ref s), (1, .int (iv x1)), (2, .int (iv x2)), (3, .int (iv x3))]) dX7_takeOut_25 (by decide) rfl ?_
  have B27 : ∀ k : Nat, ∀ Lv27 : Nat → Int, ∀ hp27 : MH, Tw (ov Γ (s + 3) (xI cI 272 Lv27)) hp27 → ∀  (v27_7 : Int), 0 ≤ v27_7 ∧ v27_7 ≤ 16 ∧ (Rfx 272 0 65535 Lv27) ∧ (tkI Lv (lvW Lv x3 (Int.toNat x1)) x2 x3 (Int.toNat x1) v27_7 Lv27) → 16 - v27_7 ≤ (k : Int) → Rn (gG D cI cJ cZ cT lo b L xs) mX7_takeOut d 27 [(0, .ref s), (1, .int (iv x1)), (2, .int (iv x2)), (4, .int (iv (x3 * 16))), (5, .int (iv ((x3 * 16) + 16))), (6, .int (iv (Lv (Int.toNat ((x3 * 16) + x1))))), (7, .int (iv v27_7))] [] hp27 n 0 0 (fun r9 hp1 n1 => n1 = n ∧ r9 = none ∧ ∃ L1 : Nat → Int, Tw (ov Γ (s + 3) (xI cI 272 L1)) hp1 ∧ Rfx 272 0 65535 L1 ∧ tkI Lv (lvW Lv x3 (Int.toNat x1)) x2 x3 (Int.toNat x1) 16 L1) := by
    refine lpS _ ?_
    intro k27 ih27 Lv27 hp27 ht27 v27_7 hf27 hm27
    obtain ⟨hf27_0, hf27_1, ha27_2, ha27_3⟩ := hf27
    refine r_iload (pc := 27) dX7_takeOut_27 rfl ?_
    refine r_bipush (pc := 29) (v := iv 16) dX7_takeOut_29 (by decide) ?_
    refine t_icmp_ge (pc := 31) (tgt := 120) dX7_takeOut_31 (by decide) (by omega) (by omega) (fun c31 => ?_) (fun c31 => ?_)
    · exact r_vret (pc := 120) dX7_takeOut_120 rfl ⟨rfl, rfl, Lv27, ht27, by assumption, (show v27_7 = 16 by omega) ▸ (by assumption : tkI Lv (lvW Lv x3 (Int.toNat x1)) x2 x3 (Int.toNat x1) v27_7 Lv27)⟩
    · refine r_iload_n (pc := 34) dX7_takeOut_34 (i := 2) rfl rfl ?_
      refine r_iload (pc := 35) dX7_takeOut_35 rfl ?_
      have hq37_2 := shr_le (Int.toNat x2) (Int.toNat v27_7)
      refine r_ishr (pc := 37) (v := iv ((Int.toNat x2 >>> Int.toNat v27_7 : Nat) : Int)) dX7_takeOut_37 (shr_e (by omega) (by omega)) ?_
      refine r_iconst (pc := 38) (v := iv 1) dX7_takeOut_38 (by decide) ?_
      refine r_iand (pc := 39) (v := iv (((Int.toNat x2 >>> Int.toNat v27_7 : Nat) : Int) % 2)) dX7_takeOut_39 (and1_e _ (by omega)) ?_
      have mb39 := @Me_bit x2 v27_7
      refine t_if_eq (pc := 40) (tgt := 114) dX7_takeOut_40 (by decide) (by omega) (fun c40 => ?_) (fun c40 => ?_)
      · have nm40 : ¬ Me x2 (Int.toNat v27_7) := fun h9 => absurd (Me_bit.mpr h9) (by omega)
        have htk := tk9_sk (by assumption : tkI Lv (lvW Lv x3 (Int.toNat x1)) x2 x3 (Int.toNat x1) v27_7 Lv27) (by omega) nm40
        refine r_iinc (pc := 114) (v := iv (v27_7 + 1)) (lv' := [(7, .int (iv (v27_7 + 1))), (0, .ref s), (1, .int (iv x1)), (2, .int (iv x2)), (4, .int (iv (x3 * 16))), (5, .int (iv ((x3 * 16) + 16))), (6, .int (iv (Lv (Int.toNat ((x3 * 16) + x1)))))]) dX7_takeOut_114 rfl (iv_add _ _) (by decide) rfl ?_
        refine r_goto (pc := 117) (tgt := 27) dX7_takeOut_117 (by decide) ?_
        refine Rn.pick (lv' := [(0, .ref s), (1, .int (iv x1)), (2, .int (iv x2)), (4, .int (iv (x3 * 16))), (5, .int (iv ((x3 * 16) + 16))), (6, .int (iv (Lv (Int.toNat ((x3 * 16) + x1))))), (7, .int (iv (v27_7 + 1)))]) [1, 2, 3, 4, 5, 6, 0] rfl ?_
        exact ih27 (Int.toNat (16 - (v27_7 + 1))) (by omega) Lv27 _ ht27 (v27_7 + 1) ⟨by omega, by omega, by (first | exact hR1 | assumption), by (first | exact htk | exact tk9_0)⟩ (by omega)
      · have pm40 : Me x2 (Int.toNat v27_7) := Me_bit.mp (by omega)
        refine r_iload (pc := 43) dX7_takeOut_43 rfl ?_
        refine r_iload (pc := 45) dX7_takeOut_45 rfl ?_
        have hq47_3 := shr_le (Int.toNat (Lv (Int.toNat ((x3 * 16) + x1)))) (Int.toNat v27_7)
        refine r_ishr (pc := 47) (v := iv ((Int.toNat (Lv (Int.toNat ((x3 * 16) + x1))) >>> Int.toNat v27_7 : Nat) : Int)) dX7_takeOut_47 (shr_e (by omega) (by omega)) ?_
        refine r_iconst (pc := 48) (v := iv 1) dX7_takeOut_48 (by decide) ?_
        refine r_iand (pc := 49) (v := iv (((Int.toNat (Lv (Int.toNat ((x3 * 16) + x1))) >>> Int.toNat v27_7 : Nat) : Int) % 2)) dX7_takeOut_49 (and1_e _ (by omega)) ?_
        have mb49 := @Me_bit (Lv (Int.toNat ((x3 * 16) + x1))) v27_7
        refine t_if_eq (pc := 50) (tgt := 57) dX7_takeOut_50 (by decide) (by omega) (fun c50 => ?_) (fun c50 => ?_)
        · have nm50 : ¬ Me (Lv (Int.toNat ((x3 * 16) + x1))) (Int.toNat v27_7) := fun h9 => absurd (Me_bit.mpr h9) (by omega)
          have hno : ¬ Me (lvW Lv x3 (Int.toNat x1)) (Int.toNat v27_7) := eA ▸ nm50
          refine r_iconst (pc := 57) (v := iv 0) dX7_takeOut_57 (by decide) ?_
          refine r_istore (pc := 58) (lv' := [(8, .int (iv 0)), (0, .ref s), (1, .int (iv x1)), (2, .int (iv x2)), (4, .int (iv (x3 * 16))), (5, .int (iv ((x3 * 16) + 16))), (6, .int (iv (Lv (Int.toNat ((x3 * 16) + x1))))), (7, .int (iv v27_7))]) dX7_takeOut_58 (by decide) rfl ?_
          refine r_aload_n (pc := 60) dX7_takeOut_60 (i := 0) rfl rfl ?_
          refine t_getE (pc := 61) (.ref (s + 3)) ht27 (rd_ov (by omega) hO) fX7_18 dX7_takeOut_61 rfl ?_
          refine r_iload (pc := 64) dX7_takeOut_64 rfl ?_
          refine r_iload (pc := 66) dX7_takeOut_66 rfl ?_
          refine r_iadd (pc := 68) (v := iv (((x3 * 16) + 16) + v27_7)) dX7_takeOut_68 (iv_add _ _) ?_
          refine r_iload (pc := 69) dX7_takeOut_69 rfl ?_
          refine t_if_eq (pc := 71) (tgt := 103) dX7_takeOut_71 (by decide) (by omega) (fun c71 => ?_) (fun c71 => ?_)
          · refine r_aload_n (pc := 103) dX7_takeOut_103 (i := 0) rfl rfl ?_
            refine t_getE (pc := 104) (.ref (s + 3)) ht27 (rd_ov (by omega) hO) fX7_18 dX7_takeOut_104 rfl ?_
            refine r_iload (pc := 107) dX7_takeOut_107 rfl ?_
            refine r_iload (pc := 109) dX7_takeOut_109 rfl ?_
            refine r_iadd (pc := 111) (v := iv ((x3 * 16) + v27_7)) dX7_takeOut_111 (iv_add _ _) ?_
            refine t_ialdX (pc := 112) (t0 := 0) ht27 (rd_of (ov_s _ _ _)) dX7_takeOut_112 rfl (by decide) (by omega) (fun b4 => ?_)
            have rb4 := (show Rfx 272 0 65535 Lv27 by assumption) (Int.toNat ((x3 * 16) + v27_7)) (by omega)
            have e83 : Lv27 (Int.toNat ((x3 * 16) + v27_7)) = lvW Lv x3 (Int.toNat v27_7) := tk9_r (by assumption : tkI Lv (lvW Lv x3 (Int.toNat x1)) x2 x3 (Int.toNat x1) v27_7 Lv27) (by omega) (by omega) (by omega)
            refine t_iastX (pc := 113) (t0 := 0) ht27 (ov_s _ _ _) dX7_takeOut_113 rfl (by decide) (by omega) (by omega) (fun hp5 ht6 => ?_)
            rw [ov_ov] at ht6
            have htk := tk9_st (by assumption : tkI Lv (lvW Lv x3 (Int.toNat x1)) x2 x3 (Int.toNat x1) v27_7 Lv27) (z := Lv27 (Int.toNat ((x3 * 16) + v27_7))) (t := Int.toNat ((x3 * 16) + 16 + v27_7)) (by omega) (by omega) (by omega) (fun g9 => absurd g9 hno) (fun _ => e83)
            have hR1 : Rfx 272 0 65535 (fup Lv27 (Int.toNat (((x3 * 16) + 16) + v27_7)) (Lv27 (Int.toNat ((x3 * 16) + v27_7)))) := Rfx_up (by assumption) (by omega)
            refine r_iinc (pc := 114) (v := iv (v27_7 + 1)) (lv' := [(7, .int (iv (v27_7 + 1))), (8, .int (iv 0)), (0, .ref s), (1, .int (iv x1)), (2, .int (iv x2)), (4, .int (iv (x3 * 16))), (5, .int (iv ((x3 * 16) + 16))), (6, .int (iv (Lv (Int.toNat ((x3 * 16) + x1)))))]) dX7_takeOut_114 rfl (iv_add _ _) (by decide) rfl ?_
            refine r_goto (pc := 117) (tgt := 27) dX7_takeOut_117 (by decide) ?_
            refine Rn.pick (lv' := [(0, .ref s), (1, .int (iv x1)), (2, .int (iv x2)), (4, .int (iv (x3 * 16))), (5, .int (iv ((x3 * 16) + 16))), (6, .int (iv (Lv (Int.toNat ((x3 * 16) + x1))))), (7, .int (iv (v27_7 + 1)))]) [2, 3, 4, 5, 6, 7, 0] rfl ?_
            exact ih27 (Int.toNat (16 - (v27_7 + 1))) (by omega) (fup Lv27 (Int.toNat (((x3 * 16) + 16) + v27_7)) (Lv27 (Int.toNat ((x3 * 16) + v27_7)))) _ ht6 (v27_7 + 1) ⟨by omega, by omega, by (first | exact hR1 | assumption), by (first | exact htk | exact tk9_0)⟩ (by omega)
          · exfalso
            omega
        · have pm50 : Me (Lv (Int.toNat ((x3 * 16) + x1))) (Int.toNat v27_7) := Me_bit.mp (by omega)
          have hye : Me (lvW Lv x3 (Int.toNat x1)) (Int.toNat v27_7) := eA ▸ pm50
          refine r_iconst (pc := 53) (v := iv 1) dX7_takeOut_53 (by decide) ?_
          refine r_goto (pc := 54) (tgt := 58) dX7_takeOut_54 (by decide) ?_
          refine r_istore (pc := 58) (lv' := [(8, .int (iv 1)), (0, .ref s), (1, .int (iv x1)), (2, .int (iv x2)), (4, .int (iv (x3 * 16))), (5, .int (iv ((x3 * 16) + 16))), (6, .int (iv (Lv (Int.toNat ((x3 * 16) + x1))))), (7, .int (iv v27_7))]) dX7_takeOut_58 (by decide) rfl ?_
          refine r_aload_n (pc := 60) dX7_takeOut_60 (i := 0) rfl rfl ?_
          refine t_getE (pc := 61) (.ref (s + 3)) ht27 (rd_ov (by omega) hO) fX7_18 dX7_takeOut_61 rfl ?_
          refine r_iload (pc := 64) dX7_takeOut_64 rfl ?_
          refine r_iload (pc := 66) dX7_takeOut_66 rfl ?_
          refine r_iadd (pc := 68) (v := iv (((x3 * 16) + 16) + v27_7)) dX7_takeOut_68 (iv_add _ _) ?_
          refine r_iload (pc := 69) dX7_takeOut_69 rfl ?_
          refine t_if_eq (pc := 71) (tgt := 103) dX7_takeOut_71 (by decide) (by omega) (fun c71 => ?_) (fun c71 => ?_)
          · exfalso
            omega
          · refine r_aload_n (pc := 74) dX7_takeOut_74 (i := 0) rfl rfl ?_
            refine t_getE (pc := 75) (.ref (s + 3)) ht27 (rd_ov (by omega) hO) fX7_18 dX7_takeOut_75 rfl ?_
            refine r_iload (pc := 78) dX7_takeOut_78 rfl ?_
            refine r_iload (pc := 80) dX7_takeOut_80 rfl ?_
            refine r_iadd (pc := 82) (v := iv ((x3 * 16) + v27_7)) dX7_takeOut_82 (iv_add _ _) ?_
            refine t_ialdX (pc := 83) (t0 := 0) ht27 (rd_of (ov_s _ _ _)) dX7_takeOut_83 rfl (by decide) (by omega) (fun b7 => ?_)
            have rb7 := (show Rfx 272 0 65535 Lv27 by assumption) (Int.toNat ((x3 * 16) + v27_7)) (by omega)
            have e83 : Lv27 (Int.toNat ((x3 * 16) + v27_7)) = lvW Lv x3 (Int.toNat v27_7) := tk9_r (by assumption : tkI Lv (lvW Lv x3 (Int.toNat x1)) x2 x3 (Int.toNat x1) v27_7 Lv27) (by omega) (by omega) (by omega)
            refine r_iload (pc := 84) dX7_takeOut_84 rfl ?_
            obtain ⟨z8, hz8, bz8⟩ := or_2 16 (Lv27 (Int.toNat ((x3 * 16) + v27_7))) (Lv (Int.toNat ((x3 * 16) + x1))) (by omega) (by omega) (by decide)
            refine r_ior (pc := 86) (v := iv z8) dX7_takeOut_86 hz8 ?_
            have mez8 := Me_or hz8 (by omega) (by omega) (by omega)
            refine r_iconst (pc := 87) (v := iv 1) dX7_takeOut_87 (by decide) ?_
            refine r_iload (pc := 88) dX7_takeOut_88 rfl ?_
            refine r_ishl (pc := 90) (v := iv ((2 ^ Int.toNat v27_7 : Nat) : Int)) dX7_takeOut_90 (shl_e (by omega)) ?_
            have mp90_9 : 1 ≤ 2 ^ Int.toNat v27_7 := Nat.one_le_two_pow
            have mq90_10 : 2 ^ Int.toNat v27_7 ≤ 2 ^ 15 := Nat.pow_le_pow_right (by omega) (by omega)
            have ms90 := Me_shl (Int.toNat v27_7)
            refine r_iconst (pc := 91) (v := iv (-1)) dX7_takeOut_91 (by decide) ?_
            refine r_ixor (pc := 92) (v := iv (-((2 ^ Int.toNat v27_7 : Nat) : Int) - 1)) dX7_takeOut_92 (iv_not _) ?_
            obtain ⟨z11, hz11, bz11⟩ := and_l z8 (-((2 ^ Int.toNat v27_7 : Nat) : Int) - 1) (by omega) (by omega)
            refine r_iand (pc := 93) (v := iv z11) dX7_takeOut_93 hz11 ?_
            have mez11 := Me_not (y := ((2 ^ Int.toNat v27_7 : Nat) : Int)) hz11 (by omega) (by omega) (by omega)
            refine r_iconst (pc := 94) (v := iv 1) dX7_takeOut_94 (by decide) ?_
            refine r_iload_n (pc := 95) dX7_takeOut_95 (i := 1) rfl rfl ?_
            refine r_ishl (pc := 96) (v := iv ((2 ^ Int.toNat x1 : Nat) : Int)) dX7_takeOut_96 (shl_e (by omega)) ?_
            have mp96_12 : 1 ≤ 2 ^ Int.toNat x1 := Nat.one_le_two_pow
            have mq96_13 : 2 ^ Int.toNat x1 ≤ 2 ^ 15 := Nat.pow_le_pow_right (by omega) (by omega)
            have ms96 := Me_shl (Int.toNat x1)
            refine r_iconst (pc := 97) (v := iv (-1)) dX7_takeOut_97 (by decide) ?_
            refine r_ixor (pc := 98) (v := iv (-((2 ^ Int.toNat x1 : Nat) : Int) - 1)) dX7_takeOut_98 (iv_not _) ?_
            obtain ⟨z14, hz14, bz14⟩ := and_l z11 (-((2 ^ Int.toNat x1 : Nat) : Int) - 1) (by omega) (by omega)
            refine r_iand (pc := 99) (v := iv z14) dX7_takeOut_99 hz14 ?_
            have mez14 := Me_not (y := ((2 ^ Int.toNat x1 : Nat) : Int)) hz14 (by omega) (by omega) (by omega)
            have hz99 : ∀ i, Me z14 i ↔ ((Me (lvW Lv x3 (Int.toNat v27_7)) i ∨ Me (lvW Lv x3 (Int.toNat x1)) i) ∧ i ≠ (Int.toNat v27_7)) ∧ i ≠ Int.toNat x1 := fun i => by rw [mez14 i, ms96 i, mez11 i, ms90 i, mez8 i, e83, eA]
            refine r_goto (pc := 100) (tgt := 113) dX7_takeOut_100 (by decide) ?_
            refine t_iastX (pc := 113) (t0 := 0) ht27 (ov_s _ _ _) dX7_takeOut_113 rfl (by decide) (by omega) (by omega) (fun hp15 ht16 => ?_)
            rw [ov_ov] at ht16
            have htk := tk9_st (by assumption : tkI Lv (lvW Lv x3 (Int.toNat x1)) x2 x3 (Int.toNat x1) v27_7 Lv27) (z := z14) (t := Int.toNat ((x3 * 16) + 16 + v27_7)) (by omega) (by omega) (by omega) (fun _ => hz99) (fun g9 => absurd hye g9)
            have hR1 : Rfx 272 0 65535 (fup Lv27 (Int.toNat (((x3 * 16) + 16) + v27_7)) z14) := Rfx_up (by assumption) (by omega)
            refine r_iinc (pc := 114) (v := iv (v27_7 + 1)) (lv' := [(7, .int (iv (v27_7 + 1))), (8, .int (iv 1)), (0, .ref s), (1, .int (iv x1)), (2, .int (iv x2)), (4, .int (iv (x3 * 16))), (5, .int (iv ((x3 * 16) + 16))), (6, .int (iv (Lv (Int.toNat ((x3 * 16) + x1)))))]) dX7_takeOut_114 rfl (iv_add _ _) (by decide) rfl ?_
            refine r_goto (pc := 117) (tgt := 27) dX7_takeOut_117 (by decide) ?_
            refine Rn.pick (lv' := [(0, .ref s), (1, .int (iv x1)), (2, .int (iv x2)), (4, .int (iv (x3 * 16))), (5, .int (iv ((x3 * 16) + 16))), (6, .int (iv (Lv (Int.toNat ((x3 * 16) + x1))))), (7, .int (iv (v27_7 + 1)))]) [2, 3, 4, 5, 6, 7, 0] rfl ?_
            exact ih27 (Int.toNat (16 - (v27_7 + 1))) (by omega) (fup Lv27 (Int.toNat (((x3 * 16) + 16) + v27_7)) z14) _ ht16 (v27_7 + 1) ⟨by omega, by omega, by (first | exact hR1 | assumption), by (first | exact htk | exact tk9_0)⟩ (by omega)
  refine Rn.pick (lv' := [(0, .ref s), (1, .int (iv x1)), (2, .int (iv x2)), (4, .int (iv (x3 * 16))), (5, .int (iv ((x3 * 16) + 16))), (6, .int (iv (Lv (Int.toNat ((x3 * 16) + x1))))), (7, .int (iv 0))]) [4, 5, 6, 3, 2, 1, 0] rfl ?_
  exact B27 (Int.toNat (16 - 0)) Lv _ ht 0 ⟨by omega, by omega, by (first | exact hR1 | assumption), by (first | exact htk | exact tk9_0)⟩ (by omega)
