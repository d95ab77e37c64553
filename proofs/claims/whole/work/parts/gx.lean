set_option maxHeartbeats 4000000 in
set_option maxRecDepth 100000 in
theorem c_X2_pushx {D : va_G} {cI cJ cZ cT : ClassId} {lo b L : Nat} {xs : Nat → Int32} {hp : MH} {n d : Nat} {Γ : TG} {s : Nat} {R : Int} {r B Q : Nat → Int} {x1 x2 : Int} {gn : Nat} (hd0 : 0 ≤ d) (hR0 : 0 ≤ R ∧ R ≤ 65535) (hB0 : Rfx 16 0 239 B) (hQ0 : Rfx 16 0 15 Q) (ht : Tw (FS Γ cI s R r B Q) hp) (hx1 : 0 ≤ x1 ∧ x1 ≤ 15) (hx2 : 0 ≤ x2 ∧ x2 ≤ 15) (hgn : gn ≤ 16) (hxy : x1 ≠ x2) (hrm : rmP r gn 120000) (hfd : fdP r gn (Int.toNat x1) R B) (hfy : Me R (Int.toNat x2)) : Mt (gG D cI cJ cZ cT lo b L xs) mX2_push d 0 0 [.ref s, .int (iv x1), .int (iv x2)] hp n (fun r9 hp1 n1 => n1 = n ∧ ∃ (r1 : Nat → Int) (a : Int), Tw (FS Γ cI s R r1 B Q) hp1 ∧ r9 = some (.int (iv a)) ∧ (0 < a ∧ a ≤ 120000) ∧ rmP r1 gn 120000 ∧ ∀ sb, csF r1 sb gn = csF r sb gn - bw sb (Int.toNat x1) a + bw sb (Int.toNat x2) a) := by
  refine Mt.of rfl (Nat.le_of_ble_eq_true rfl) ?_
  refine Rn.pick (lv' := [(0, .ref s), (1, .int (iv x1)), (2, .int (iv x2))]) [0, 1, 2] rfl ?_
  have t0 : Tw (ov (ov (ov (ov Γ s (tO 2 (flF s R))) (s + 1) (xI cI 256 r)) (s + 2) (xI cI 16 B)) (s + 3) (xI cI 16 Q)) hp := ht
  obtain ⟨hfx, hfn, hfc, rk, hrk1, hrk2⟩ := hfd
  have hyn := hfn _ hfy
  have hxn := hfn _ hfx
  refine r_ldc (pc := 0) (v := iv 1073741824) dX2_push_0 kX2_85 ?_
  refine r_istore_n (pc := 2) (lv' := [(3, .int (iv 1073741824)), (0, .ref s), (1, .int (iv x1)), (2, .int (iv x2))]) dX2_push_2 (i := 3) rfl (by decide) rfl ?_
  refine r_iload_n (pc := 3) dX2_push_3 (i := 2) rfl rfl ?_
  refine r_istore (pc := 4) (lv' := [(4, .int (iv x2)), (3, .int (iv 1073741824)), (0, .ref s), (1, .int (iv x1)), (2, .int (iv x2))]) dX2_push_4 (by decide) rfl ?_
  refine r_iconst (pc := 6) (v := iv 0) dX2_push_6 (by decide) ?_
  refine r_istore (pc := 7) (lv' := [(5, .int (iv 0)), (4, .int (iv x2)), (3, .int (iv 1073741824)), (0, .ref s), (1, .int (iv x1)), (2, .int (iv x2))]) dX2_push_7 (by decide) rfl ?_
  have B9 : ∀ k : Nat, ∀ hp9 : MH, Tw (ov (ov (ov (ov Γ s (tO 2 (flF s R))) (s + 1) (xI cI 256 r)) (s + 2) (xI cI 16 B)) (s + 3) (xI cI 16 Q)) hp9 → ∀  (v9_3 : Int) (v9_4 : Int) (v9_5 : Int), 1 ≤ v9_3 ∧ v9_3 ≤ 1073741824 ∧ 0 ≤ v9_4 ∧ v9_4 ≤ 15 ∧ 0 ≤ v9_5 ∧ v9_5 ≤ 16 ∧ (paI r B R rk (Int.toNat x1) (Int.toNat x2) v9_3 v9_4 v9_5) → 16 - v9_5 ≤ (k : Int) → Rn (gG D cI cJ cZ cT lo b L xs) mX2_push d 9 [(0, .ref s), (1, .int (iv x1)), (2, .int (iv x2)), (3, .int (iv v9_3)), (4, .int (iv v9_4)), (5, .int (iv v9_5))] [] hp9 n 0 0 (fun r9 hp1 n1 => n1 = n ∧ ∃ (r1 : Nat → Int) (a : Int), Tw (FS Γ cI s R r1 B Q) hp1 ∧ r9 = some (.int (iv a)) ∧ (0 < a ∧ a ≤ 120000) ∧ rmP r1 gn 120000 ∧ ∀ sb, csF r1 sb gn = csF r sb gn - bw sb (Int.toNat x1) a + bw sb (Int.toNat x2) a) := by
    refine lpS _ ?_
    intro k9 ih9 hp9 ht9 v9_3 v9_4 v9_5 hf9 hm9
    obtain ⟨hf9_0, hf9_1, hf9_2, hf9_3, hf9_4, hf9_5, ha9_6⟩ := hf9
    refine r_iload (pc := 9) dX2_push_9 rfl ?_
    have hpa := (by assumption : paI r B R rk (Int.toNat x1) (Int.toNat x2) v9_3 v9_4 v9_5)
    have hpa2 := hpa.2.1
    have hvn := hfn _ hpa.1.2
    refine r_bipush (pc := 11) (v := iv 16) dX2_push_11 (by decide) ?_
    refine t_icmp_ge (pc := 13) (tgt := 60) dX2_push_13 (by decide) (by omega) (by omega) (fun c13 => ?_) (fun c13 => ?_)
    · exfalso
      omega
    · refine r_iload (pc := 16) dX2_push_16 rfl ?_
      refine r_iload_n (pc := 18) dX2_push_18 (i := 1) rfl rfl ?_
      refine t_icmp_eq (pc := 19) (tgt := 60) dX2_push_19 (by decide) (by omega) (by omega) (fun c19 => ?_) (fun c19 => ?_)
      · have hK : itB B (Int.toNat x2) (Int.toNat v9_5) = Int.toNat x1 := by rw [← hpa.2.2.1]; omega
        have hK0 : 0 < v9_5 := Classical.byContradiction (fun g => by
          have h9 := hK
          rw [show Int.toNat v9_5 = 0 by omega] at h9
          have h8 : Int.toNat x2 = Int.toNat x1 := h9
          omega)
        have ha9 : 0 < v9_3 ∧ v9_3 ≤ 120000 := by
          have h9 := hpa.2.2.2.2 0 (by omega)
          have h8 : v9_3 ≤ r (16 * (B (Int.toNat x2)).toNat + Int.toNat x2) := h9.2
          obtain ⟨u9, e9, g9, -, -⟩ := hrk2 (Int.toNat x2) hfy (by omega)
          have h7 := rmp_b hrm (a := (B (Int.toNat x2)).toNat) (b := Int.toNat x2) (by rw [e9]; exact hfn _ g9) hyn
          exact ⟨hpa.2.2.2.1, by omega⟩
        refine r_iload_n (pc := 60) dX2_push_60 (i := 2) rfl rfl ?_
        refine r_istore (pc := 61) (lv' := [(4, .int (iv x2)), (0, .ref s), (1, .int (iv x1)), (2, .int (iv x2)), (3, .int (iv v9_3)), (5, .int (iv v9_5))]) dX2_push_61 (by decide) rfl ?_
        refine r_iconst (pc := 63) (v := iv 0) dX2_push_63 (by decide) ?_
        refine r_istore (pc := 64) (lv' := [(5, .int (iv 0)), (4, .int (iv x2)), (0, .ref s), (1, .int (iv x1)), (2, .int (iv x2)), (3, .int (iv v9_3))]) dX2_push_64 (by decide) rfl ?_
        have B66 : ∀ k : Nat, ∀ r66 : Nat → Int, ∀ hp66 : MH, Tw (ov (ov (ov (ov Γ s (tO 2 (flF s R))) (s + 1) (xI cI 256 r66)) (s + 2) (xI cI 16 B)) (s + 3) (xI cI 16 Q)) hp66 → ∀  (v66_4 : Int) (v66_5 : Int), 0 ≤ v66_4 ∧ v66_4 ≤ 15 ∧ 0 ≤ v66_5 ∧ v66_5 ≤ 16 ∧ (v66_5 ≤ v9_5) ∧ (v66_4 = ((itB B (Int.toNat x2) (Int.toNat v66_5) : Nat) : Int)) ∧ (Me R (Int.toNat v66_4)) ∧ (puI r r66 gn R rk v9_3 (Int.toNat v66_4) (Int.toNat x2)) → 16 - v66_5 ≤ (k : Int) → Rn (gG D cI cJ cZ cT lo b L xs) mX2_push d 66 [(0, .ref s), (1, .int (iv x1)), (3, .int (iv v9_3)), (4, .int (iv v66_4)), (5, .int (iv v66_5))] [] hp66 n 0 0 (fun r9 hp1 n1 => n1 = n ∧ ∃ (r1 : Nat → Int) (a : Int), Tw (FS Γ cI s R r1 B Q) hp1 ∧ r9 = some (.int (iv a)) ∧ (0 < a ∧ a ≤ 120000) ∧ rmP r1 gn 120000 ∧ ∀ sb, csF r1 sb gn = csF r sb gn - bw sb (Int.toNat x1) a + bw sb (Int.toNat x2) a) := by
          refine lpS _ ?_
          intro k66 ih66 r66 hp66 ht66 v66_4 v66_5 hf66 hm66
          obtain ⟨hf66_0, hf66_1, hf66_2, hf66_3, hf66_4, ha66_5, ha66_6, ha66_7⟩ := hf66
          refine r_iload (pc := 66) dX2_push_66 rfl ?_
          have hpu := (by assumption : puI r r66 gn R rk v9_3 (Int.toNat v66_4) (Int.toNat x2))
          have hrm9 := pu_rm hpu hrm
          have hit := (by assumption : v66_4 = ((itB B (Int.toNat x2) (Int.toNat v66_5) : Nat) : Int))
          have hm66 := (by assumption : Me R (Int.toNat v66_4))
          have hvn6 := hfn _ hm66
          refine r_bipush (pc := 68) (v := iv 16) dX2_push_68 (by decide) ?_
          refine t_icmp_ge (pc := 70) (tgt := 138) dX2_push_70 (by decide) (by omega) (by omega) (fun c70 => ?_) (fun c70 => ?_)
          · exfalso
            omega
          · refine r_iload (pc := 73) dX2_push_73 rfl ?_
            refine r_iload_n (pc := 75) dX2_push_75 (i := 1) rfl rfl ?_
            refine t_icmp_eq (pc := 76) (tgt := 138) dX2_push_76 (by decide) (by omega) (by omega) (fun c76 => ?_) (fun c76 => ?_)
            · refine r_iload_n (pc := 138) dX2_push_138 (i := 3) rfl rfl ?_
              exact r_iret (pc := 139) dX2_push_139 rfl ⟨rfl, r66, v9_3, ht66, rfl, ha9, pu_rm hpu hrm, fun sb => by have h9 := hpu.1 sb; rw [show Int.toNat v66_4 = Int.toNat x1 by omega] at h9; exact h9⟩
            · have hiK : v66_5 < v9_5 := Classical.byContradiction (fun g => by
                have h9 := hit
                rw [show v66_5 = v9_5 by omega, hK] at h9
                omega)
              refine r_aload_n (pc := 79) dX2_push_79 (i := 0) rfl rfl ?_
              refine t_getE (pc := 80) (.ref (s + 1)) ht66 (rd_ov (by omega) (rd_ov (by omega) (rd_ov (by omega) (rd_of (ov_s _ _ _))))) fX2_9 dX2_push_80 rfl ?_
              refine r_aload_n (pc := 83) dX2_push_83 (i := 0) rfl rfl ?_
              refine t_getE (pc := 84) (.ref (s + 2)) ht66 (rd_ov (by omega) (rd_ov (by omega) (rd_ov (by omega) (rd_of (ov_s _ _ _))))) fX2_15 dX2_push_84 rfl ?_
              refine r_iload (pc := 87) dX2_push_87 rfl ?_
              refine t_ialdX (pc := 89) (t0 := 0) ht66 (rd_ov (by omega) (rd_of (ov_s _ _ _))) dX2_push_89 rfl (by decide) (by omega) (fun b1 => ?_)
              have rb1 := (show Rfx 16 0 239 B by assumption) (Int.toNat v66_4) (by omega)
              obtain ⟨u89, eu89, hu89, hk89, hr89⟩ := hrk2 (Int.toNat v66_4) hm66 (by omega)
              have hun89 := hfn _ hu89
              refine r_bipush (pc := 90) (v := iv 16) dX2_push_90 (by decide) ?_
              refine r_imul (pc := 92) (v := iv ((B (Int.toNat v66_4)) * 16)) dX2_push_92 (iv_mul _ _) ?_
              refine r_iload (pc := 93) dX2_push_93 rfl ?_
              refine r_iadd (pc := 95) (v := iv (((B (Int.toNat v66_4)) * 16) + v66_4)) dX2_push_95 (iv_add _ _) ?_
              refine r_dup2_11 (pc := 96) dX2_push_96 rfl rfl ?_
              refine t_ialdX (pc := 97) (t0 := 0) ht66 (rd_ov (by omega) (rd_ov (by omega) (rd_of (ov_s _ _ _)))) dX2_push_97 rfl (by decide) (by omega) (fun b2 => ?_)
              have ei := rix (u := B (Int.toNat v66_4)) (v := v66_4) (by omega) (by omega)
              have eu9 : Int.toNat (B (Int.toNat v66_4)) = u89 := by rw [eu89]; rfl
              have hb97 := rmp_b hrm9 hun89 hvn6
              have eb97 : r66 (Int.toNat (((B (Int.toNat v66_4)) * 16) + v66_4)) = r66 (16 * u89 + Int.toNat v66_4) := by rw [ei, eu9]
              refine r_iload_n (pc := 98) dX2_push_98 (i := 3) rfl rfl ?_
              refine r_isub (pc := 99) (v := iv ((r66 (Int.toNat (((B (Int.toNat v66_4)) * 16) + v66_4))) - v9_3)) dX2_push_99 (iv_sub _ _) ?_
              refine t_iastX (pc := 100) (t0 := 0) ht66 (eq_ov (by omega) (eq_ov (by omega) (ov_s _ _ _))) dX2_push_100 rfl (by decide) (by omega) (by omega) (fun hp3 ht4 => ?_)
              rw [ov_in3 (by omega) (by omega) ] at ht4
              refine r_aload_n (pc := 101) dX2_push_101 (i := 0) rfl rfl ?_
              refine t_getE (pc := 102) (.ref (s + 1)) ht4 (rd_ov (by omega) (rd_ov (by omega) (rd_ov (by omega) (rd_of (ov_s _ _ _))))) fX2_9 dX2_push_102 rfl ?_
              refine r_iload (pc := 105) dX2_push_105 rfl ?_
              refine r_bipush (pc := 107) (v := iv 16) dX2_push_107 (by decide) ?_
              refine r_imul (pc := 109) (v := iv (v66_4 * 16)) dX2_push_109 (iv_mul _ _) ?_
              refine r_aload_n (pc := 110) dX2_push_110 (i := 0) rfl rfl ?_
              refine t_getE (pc := 111) (.ref (s + 2)) ht4 (rd_ov (by omega) (rd_ov (by omega) (rd_ov (by omega) (rd_of (ov_s _ _ _))))) fX2_15 dX2_push_111 rfl ?_
              refine r_iload (pc := 114) dX2_push_114 rfl ?_
              refine t_ialdX (pc := 116) (t0 := 0) ht4 (rd_ov (by omega) (rd_of (ov_s _ _ _))) dX2_push_116 rfl (by decide) (by omega) (fun b5 => ?_)
              have rb5 := (show Rfx 16 0 239 B by assumption) (Int.toNat v66_4) (by omega)
              refine r_iadd (pc := 117) (v := iv ((v66_4 * 16) + (B (Int.toNat v66_4)))) dX2_push_117 (iv_add _ _) ?_
              refine r_dup2_11 (pc := 118) dX2_push_118 rfl rfl ?_
              refine t_ialdX (pc := 119) (t0 := 0) ht4 (rd_ov (by omega) (rd_ov (by omega) (rd_of (ov_s _ _ _)))) dX2_push_119 rfl (by decide) (by omega) (fun b6 => ?_)
              have ej := rix (u := v66_4) (v := B (Int.toNat v66_4)) (by omega) (by omega)
              have hb119 := rmp_b hrm9 hvn6 hun89
              have eb119 : (fup r66 (Int.toNat (((B (Int.toNat v66_4)) * 16) + v66_4)) ((r66 (Int.toNat (((B (Int.toNat v66_4)) * 16) + v66_4))) - v9_3)) (Int.toNat ((v66_4 * 16) + (B (Int.toNat v66_4)))) = r66 (16 * Int.toNat v66_4 + u89) := by
                rw [ej, eu9]
                refine if_neg (fun g9 => ?_)
                rw [ei, eu9] at g9
                have h8 : Int.toNat v66_4 = u89 := by omega
                rw [h8] at hk89
                omega
              refine r_iload_n (pc := 120) dX2_push_120 (i := 3) rfl rfl ?_
              refine r_iadd (pc := 121) (v := iv (((fup r66 (Int.toNat (((B (Int.toNat v66_4)) * 16) + v66_4)) ((r66 (Int.toNat (((B (Int.toNat v66_4)) * 16) + v66_4))) - v9_3)) (Int.toNat ((v66_4 * 16) + (B (Int.toNat v66_4))))) + v9_3)) dX2_push_121 (iv_add _ _) ?_
              refine t_iastX (pc := 122) (t0 := 0) ht4 (eq_ov (by omega) (eq_ov (by omega) (ov_s _ _ _))) dX2_push_122 rfl (by decide) (by omega) (by omega) (fun hp7 ht8 => ?_)
              rw [ov_in3 (by omega) (by omega) ] at ht8
              have h5a := hpa.2.2.2.2 (Int.toNat v66_5) (by omega)
              have h5b : v9_3 ≤ r (16 * u89 + Int.toNat v66_4) := by
                have h9 : v9_3 ≤ r (16 * (B (itB B (Int.toNat x2) (Int.toNat v66_5))).toNat + itB B (Int.toNat x2) (Int.toNat v66_5)) := h5a.2
                rw [show itB B (Int.toNat x2) (Int.toNat v66_5) = Int.toNat v66_4 by omega, eu9] at h9
                exact h9
              have hpu1 : puI r (fup (fup r66 (Int.toNat (((B (Int.toNat v66_4)) * 16) + v66_4)) ((r66 (Int.toNat (((B (Int.toNat v66_4)) * 16) + v66_4))) - v9_3)) (Int.toNat ((v66_4 * 16) + (B (Int.toNat v66_4)))) (((fup r66 (Int.toNat (((B (Int.toNat v66_4)) * 16) + v66_4)) ((r66 (Int.toNat (((B (Int.toNat v66_4)) * 16) + v66_4))) - v9_3)) (Int.toNat ((v66_4 * 16) + (B (Int.toNat v66_4))))) + v9_3)) gn R rk v9_3 u89 (Int.toNat x2) := by
                rw [ej, ei, eu9]
                exact pui_st hpu hgn hun89 hvn6 hm66 hk89 ha9.1 h5b
              refine r_aload_n (pc := 123) dX2_push_123 (i := 0) rfl rfl ?_
              refine t_getE (pc := 124) (.ref (s + 2)) ht8 (rd_ov (by omega) (rd_ov (by omega) (rd_ov (by omega) (rd_of (ov_s _ _ _))))) fX2_15 dX2_push_124 rfl ?_
              refine r_iload (pc := 127) dX2_push_127 rfl ?_
              refine t_ialdX (pc := 129) (t0 := 0) ht8 (rd_ov (by omega) (rd_of (ov_s _ _ _))) dX2_push_129 rfl (by decide) (by omega) (fun b9 => ?_)
              have rb9 := (show Rfx 16 0 239 B by assumption) (Int.toNat v66_4) (by omega)
              refine r_istore (pc := 130) (lv' := [(4, .int (iv (B (Int.toNat v66_4)))), (0, .ref s), (1, .int (iv x1)), (3, .int (iv v9_3)), (5, .int (iv v66_5))]) dX2_push_130 (by decide) rfl ?_
              have hpu2 : puI r (fup (fup r66 (Int.toNat (((B (Int.toNat v66_4)) * 16) + v66_4)) ((r66 (Int.toNat (((B (Int.toNat v66_4)) * 16) + v66_4))) - v9_3)) (Int.toNat ((v66_4 * 16) + (B (Int.toNat v66_4)))) (((fup r66 (Int.toNat (((B (Int.toNat v66_4)) * 16) + v66_4)) ((r66 (Int.toNat (((B (Int.toNat v66_4)) * 16) + v66_4))) - v9_3)) (Int.toNat ((v66_4 * 16) + (B (Int.toNat v66_4))))) + v9_3)) gn R rk v9_3 (Int.toNat (B (Int.toNat v66_4))) (Int.toNat x2) := by rw [eu9]; exact hpu1
              have hit2 : B (Int.toNat v66_4) = ((itB B (Int.toNat x2) (Int.toNat (v66_5 + 1)) : Nat) : Int) := by
                rw [show Int.toNat (v66_5 + 1) = Int.toNat v66_5 + 1 by omega]
                show _ = (((B (itB B (Int.toNat x2) (Int.toNat v66_5))).toNat : Nat) : Int)
                rw [show itB B (Int.toNat x2) (Int.toNat v66_5) = Int.toNat v66_4 by omega, eu89]; rfl
              have hm130 : Me R (Int.toNat (B (Int.toNat v66_4))) := by rw [eu9]; exact hu89
              refine r_iinc (pc := 132) (v := iv (v66_5 + 1)) (lv' := [(5, .int (iv (v66_5 + 1))), (4, .int (iv (B (Int.toNat v66_4)))), (0, .ref s), (1, .int (iv x1)), (3, .int (iv v9_3))]) dX2_push_132 rfl (iv_add _ _) (by decide) rfl ?_
              refine r_goto (pc := 135) (tgt := 66) dX2_push_135 (by decide) ?_
              refine Rn.pick (lv' := [(0, .ref s), (1, .int (iv x1)), (3, .int (iv v9_3)), (4, .int (iv (B (Int.toNat v66_4)))), (5, .int (iv (v66_5 + 1)))]) [2, 3, 4, 1, 0] rfl ?_
              exact ih66 (Int.toNat (16 - (v66_5 + 1))) (by omega) (fup (fup r66 (Int.toNat (((B (Int.toNat v66_4)) * 16) + v66_4)) ((r66 (Int.toNat (((B (Int.toNat v66_4)) * 16) + v66_4))) - v9_3)) (Int.toNat ((v66_4 * 16) + (B (Int.toNat v66_4)))) (((fup r66 (Int.toNat (((B (Int.toNat v66_4)) * 16) + v66_4)) ((r66 (Int.toNat (((B (Int.toNat v66_4)) * 16) + v66_4))) - v9_3)) (Int.toNat ((v66_4 * 16) + (B (Int.toNat v66_4))))) + v9_3)) _ ht8 (B (Int.toNat v66_4)) (v66_5 + 1) ⟨by omega, by omega, by omega, by omega, by omega, by (first | exact hit2 | (show x2 = ((Int.toNat x2 : Nat) : Int); omega)), by (first | exact hm130 | exact hfy), by (first | exact hpu2 | exact pu_0 hrm)⟩ (by omega)
        refine Rn.pick (lv' := [(0, .ref s), (1, .int (iv x1)), (3, .int (iv v9_3)), (4, .int (iv x2)), (5, .int (iv 0))]) [2, 3, 5, 1, 0] rfl ?_
        exact B66 (Int.toNat (16 - 0)) r _ ht9 x2 0 ⟨by omega, by omega, by omega, by omega, by omega, by (first | exact hit2 | (show x2 = ((Int.toNat x2 : Nat) : Int); omega)), by (first | exact hm130 | exact hfy), by (first | exact hpu2 | exact pu_0 hrm)⟩ (by omega)
      · refine r_iload_n (pc := 22) dX2_push_22 (i := 3) rfl rfl ?_
        refine r_aload_n (pc := 23) dX2_push_23 (i := 0) rfl rfl ?_
        refine t_getE (pc := 24) (.ref (s + 1)) ht9 (rd_ov (by omega) (rd_ov (by omega) (rd_ov (by omega) (rd_of (ov_s _ _ _))))) fX2_9 dX2_push_24 rfl ?_
        refine r_aload_n (pc := 27) dX2_push_27 (i := 0) rfl rfl ?_
        refine t_getE (pc := 28) (.ref (s + 2)) ht9 (rd_ov (by omega) (rd_ov (by omega) (rd_ov (by omega) (rd_of (ov_s _ _ _))))) fX2_15 dX2_push_28 rfl ?_
        refine r_iload (pc := 31) dX2_push_31 rfl ?_
        refine t_ialdX (pc := 33) (t0 := 0) ht9 (rd_ov (by omega) (rd_of (ov_s _ _ _))) dX2_push_33 rfl (by decide) (by omega) (fun b10 => ?_)
        have rb10 := (show Rfx 16 0 239 B by assumption) (Int.toNat v9_4) (by omega)
        obtain ⟨u33, eu33, hu33, hk33, hr33⟩ := hrk2 (Int.toNat v9_4) hpa.1.2 (by omega)
        have hun33 := hfn _ hu33
        refine r_bipush (pc := 34) (v := iv 16) dX2_push_34 (by decide) ?_
        refine r_imul (pc := 36) (v := iv ((B (Int.toNat v9_4)) * 16)) dX2_push_36 (iv_mul _ _) ?_
        refine r_iload (pc := 37) dX2_push_37 rfl ?_
        refine r_iadd (pc := 39) (v := iv (((B (Int.toNat v9_4)) * 16) + v9_4)) dX2_push_39 (iv_add _ _) ?_
        refine t_ialdX (pc := 40) (t0 := 0) ht9 (rd_ov (by omega) (rd_ov (by omega) (rd_of (ov_s _ _ _)))) dX2_push_40 rfl (by decide) (by omega) (fun b11 => ?_)
        have ei := rix (u := B (Int.toNat v9_4)) (v := v9_4) (by omega) (by omega)
        obtain ⟨z12, hz12, bz12⟩ := min_b v9_3 (r (Int.toNat (((B (Int.toNat v9_4)) * 16) + v9_4))) (by omega) (by omega)
        refine r_mmin (pc := 41) (v := iv z12) qX2_86 dX2_push_41 (Nat.le_of_ble_eq_true rfl) hz12 ?_
        refine r_istore_n (pc := 44) (lv' := [(3, .int (iv z12)), (0, .ref s), (1, .int (iv x1)), (2, .int (iv x2)), (4, .int (iv v9_4)), (5, .int (iv v9_5))]) dX2_push_44 (i := 3) rfl (by decide) rfl ?_
        refine r_aload_n (pc := 45) dX2_push_45 (i := 0) rfl rfl ?_
        refine t_getE (pc := 46) (.ref (s + 2)) ht9 (rd_ov (by omega) (rd_ov (by omega) (rd_ov (by omega) (rd_of (ov_s _ _ _))))) fX2_15 dX2_push_46 rfl ?_
        refine r_iload (pc := 49) dX2_push_49 rfl ?_
        refine t_ialdX (pc := 51) (t0 := 0) ht9 (rd_ov (by omega) (rd_of (ov_s _ _ _))) dX2_push_51 rfl (by decide) (by omega) (fun b13 => ?_)
        have rb13 := (show Rfx 16 0 239 B by assumption) (Int.toNat v9_4) (by omega)
        refine r_istore (pc := 52) (lv' := [(4, .int (iv (B (Int.toNat v9_4)))), (3, .int (iv z12)), (0, .ref s), (1, .int (iv x1)), (2, .int (iv x2)), (5, .int (iv v9_5))]) dX2_push_52 (by decide) rfl ?_
        have hpa1 : paI r B R rk (Int.toNat x1) (Int.toNat x2) z12 (B (Int.toNat v9_4)) (v9_5 + 1) := pa_st hpa (by omega) hrk2 (by omega) (by rw [← ei]; omega) (by rw [← ei]; omega)
        have hz9a := hpa1.2.2.2.1
        refine r_iinc (pc := 54) (v := iv (v9_5 + 1)) (lv' := [(5, .int (iv (v9_5 + 1))), (4, .int (iv (B (Int.toNat v9_4)))), (3, .int (iv z12)), (0, .ref s), (1, .int (iv x1)), (2, .int (iv x2))]) dX2_push_54 rfl (iv_add _ _) (by decide) rfl ?_
        refine r_goto (pc := 57) (tgt := 9) dX2_push_57 (by decide) ?_
        refine Rn.pick (lv' := [(0, .ref s), (1, .int (iv x1)), (2, .int (iv x2)), (3, .int (iv z12)), (4, .int (iv (B (Int.toNat v9_4)))), (5, .int (iv (v9_5 + 1)))]) [3, 4, 5, 2, 1, 0] rfl ?_
        exact ih9 (Int.toNat (16 - (v9_5 + 1))) (by omega) _ ht9 z12 (B (Int.toNat v9_4)) (v9_5 + 1) ⟨by omega, by omega, by omega, by omega, by omega, by omega, by (first | exact hpa1 | exact pa_0 (by omega) hfy (hrk1 _ hfy) (by omega))⟩ (by omega)
  refine Rn.pick (lv' := [(0, .ref s), (1, .int (iv x1)), (2, .int (iv x2)), (3, .int (iv 1073741824)), (4, .int (iv x2)), (5, .int (iv 0))]) [3, 4, 5, 2, 1, 0] rfl ?_
  exact B9 (Int.toNat (16 - 0)) _ t0 1073741824 x2 0 ⟨by omega, by omega, by omega, by omega, by omega, by omega, by (first | exact hpa1 | exact pa_0 (by omega) hfy (hrk1 _ hfy) (by omega))⟩ (by omega)
