theorem rix {u v : Int} (hu : 0 ≤ u) (hv : 0 ≤ v) : Int.toNat (u * 16 + v) = 16 * Int.toNat u + Int.toNat v := by omega
/-- the flows' cells: what is reached, rooms, from where, the row -/
abbrev FS (Γ : TG) (cI : ClassId) (s : Nat) (R : Int) (r B Q : Nat → Int) : TG := ov (ov (ov (ov Γ s (tO 2 (flF s R))) (s + 1) (xI cI 256 r)) (s + 2) (xI cI 16 B)) (s + 3) (xI cI 16 Q)
theorem FS_op {Γ : TG} {cI cJ cZ : ClassId} {s : Nat} {hp : MH} (hf : TyFlows Γ cI cJ cZ s) (ht : Tw Γ hp) : ∃ (R : Int) (r B Q : Nat → Int), (0 ≤ R ∧ R ≤ 65535) ∧ Rfx 16 0 239 B ∧ Rfx 16 0 15 Q ∧ Tw (FS Γ cI s R r B Q) hp := by
  obtain ⟨h0, h1, h2, h3, -⟩ := hf
  obtain ⟨R, hR1, hR2, t1⟩ := ht.openF 3 (rd_of h0) rfl
  have t1 : Tw (ov Γ s (tO 2 (flF s R))) hp := t1
  obtain ⟨r, -, t2⟩ := t1.openI (rd_of (eq_ov (by omega) h1))
  obtain ⟨B, hB, t3⟩ := t2.openI (rd_of (eq_ov (by omega) (eq_ov (by omega) h2)))
  obtain ⟨Q, hQ, t4⟩ := t3.openI (rd_of (eq_ov (by omega) (eq_ov (by omega) (eq_ov (by omega) h3))))
  exact ⟨R, r, B, Q, ⟨hR1, hR2⟩, fun i hi => (hB i hi).1, fun i hi => (hQ i hi).1, t4⟩
theorem FS_cl {Γ : TG} {cI cJ cZ : ClassId} {s : Nat} {hp : MH} {R : Int} {r B Q : Nat → Int} (hf : TyFlows Γ cI cJ cZ s) (hR : 0 ≤ R ∧ R ≤ 65535) (hB : Rfx 16 0 239 B) (hQ : Rfx 16 0 15 Q) (ht : Tw (FS Γ cI s R r B Q) hp) : Tw Γ hp := by
  obtain ⟨h0, h1, h2, h3, -⟩ := hf
  have t1 := Tw.closeI ht (eq_ov (by omega) (eq_ov (by omega) (eq_ov (by omega) h3))) hQ
  have t2 := Tw.closeI t1 (eq_ov (by omega) (eq_ov (by omega) h2)) hB
  have t3 := Tw.closeI t2 (eq_ov (by omega) h1) (fun _ _ => trivial)
  exact Tw.weak t3 h0 (fun e he => tO_close (k := 3) (w := .int (iv R)) rfl ⟨R, rfl, hR.1, hR.2⟩ e he)
set_option maxHeartbeats 4000000 in
set_option maxRecDepth 100000 in
theorem c_X2_findPathx {D : va_G} {cI cJ cZ cT : ClassId} {lo b L : Nat} {xs : Nat → Int32} {hp : MH} {n d : Nat} {Γ : TG} {s : Nat} {R : Int} {r B Q : Nat → Int} {x1 x2 x3 : Int} (hd0 : 0 ≤ d) (hR0 : 0 ≤ R ∧ R ≤ 65535) (hB0 : Rfx 16 0 239 B) (hQ0 : Rfx 16 0 15 Q) (ht : Tw (FS Γ cI s R r B Q) hp) (hx1 : 1 ≤ x1 ∧ x1 ≤ 16) (hx2 : 0 ≤ x2 ∧ x2 ≤ 15) (hx3 : 0 ≤ x3 ∧ x3 ≤ 15) (hxn : x2 < x1) : Mt (gG D cI cJ cZ cT lo b L xs) mX2_findPath d 0 0 [.ref s, .int (iv x1), .int (iv x2), .int (iv x3)] hp n (fun r9 hp1 n1 => n1 = n ∧ ∃ (R1 : Int) (B1 Q1 : Nat → Int) (v : Int), Tw (FS Γ cI s R1 r B1 Q1) hp1 ∧ (0 ≤ R1 ∧ R1 ≤ 65535) ∧ Rfx 16 0 239 B1 ∧ Rfx 16 0 15 Q1 ∧ r9 = some (.int (iv v)) ∧ fdP r (Int.toNat x1) (Int.toNat x2) R1 B1 ∧ ((v = 1 ∧ Me R1 (Int.toNat x3)) ∨ (v = 0 ∧ ¬ Me R1 (Int.toNat x3)))) := by
  refine Mt.of rfl (Nat.le_of_ble_eq_true rfl) ?_
  refine Rn.pick (lv' := [(0, .ref s), (1, .int (iv x1)), (2, .int (iv x2)), (3, .int (iv x3))]) [0, 1, 2, 3] rfl ?_
  have t0 : Tw (ov (ov (ov (ov Γ s (tO 2 (flF s R))) (s + 1) (xI cI 256 r)) (s + 2) (xI cI 16 B)) (s + 3) (xI cI 16 Q)) hp := ht
  refine r_aload_n (pc := 0) dX2_findPath_0 (i := 0) rfl rfl ?_
  refine r_iconst (pc := 1) (v := iv 1) dX2_findPath_1 (by decide) ?_
  refine r_iload_n (pc := 2) dX2_findPath_2 (i := 2) rfl rfl ?_
  refine r_ishl (pc := 3) (v := iv ((2 ^ Int.toNat x2 : Nat) : Int)) dX2_findPath_3 (shl_e (by omega)) ?_
  have mp3_1 : 1 ≤ 2 ^ Int.toNat x2 := Nat.one_le_two_pow
  have mq3_2 : 2 ^ Int.toNat x2 ≤ 2 ^ 15 := Nat.pow_le_pow_right (by omega) (by omega)
  have ms3 := Me_shl (Int.toNat x2)
  refine t_putX (pc := 4) (ty := .int) t0 (eq_ov (by omega) (eq_ov (by omega) (eq_ov (by omega) (ov_s _ _ _)))) fX2_82 tyX2 tyX2_ok nmX2 (by decide +kernel) (Or.inl rfl) dX2_findPath_4 (Nat.le_of_ble_eq_true rfl) rfl rfl rfl (fun hp3 ht4 => ?_)
  rw [ov_in4 (by omega) (by omega) (by omega) ] at ht4
  refine r_aload_n (pc := 7) dX2_findPath_7 (i := 0) rfl rfl ?_
  refine t_getE (pc := 8) (.ref (s + 3)) ht4 (rd_ov (by omega) (rd_ov (by omega) (rd_ov (by omega) (rd_of (ov_s _ _ _))))) fX2_18 dX2_findPath_8 rfl ?_
  refine r_iconst (pc := 11) (v := iv 0) dX2_findPath_11 (by decide) ?_
  refine r_iload_n (pc := 12) dX2_findPath_12 (i := 2) rfl rfl ?_
  refine t_iastX (pc := 13) (t0 := 0) ht4 (ov_s _ _ _) dX2_findPath_13 rfl (by decide) (by omega) (by omega) (fun hp5 ht6 => ?_)
  rw [ov_ov] at ht6
  have hQ13 : Rfx 16 0 15 (fup Q (Int.toNat 0) x2) := Rfx_up (by assumption) (by omega)
  have hbq : bqI r (Int.toNat x1) (Int.toNat x2) ((2 ^ Int.toNat x2 : Nat) : Int) B (fup Q (Int.toNat 0) x2) 1 := bqi_0 ms3 (by omega) (by omega) (by rw [show (fup Q (Int.toNat 0) x2) 0 = x2 from if_pos rfl]; omega)
  refine r_iconst (pc := 14) (v := iv 1) dX2_findPath_14 (by decide) ?_
  refine r_istore (pc := 15) (lv' := [(4, .int (iv 1)), (0, .ref s), (1, .int (iv x1)), (2, .int (iv x2)), (3, .int (iv x3))]) dX2_findPath_15 (by decide) rfl ?_
  refine r_iconst (pc := 17) (v := iv 0) dX2_findPath_17 (by decide) ?_
  refine r_istore (pc := 18) (lv' := [(5, .int (iv 0)), (4, .int (iv 1)), (0, .ref s), (1, .int (iv x1)), (2, .int (iv x2)), (3, .int (iv x3))]) dX2_findPath_18 (by decide) rfl ?_
  have B20 : ∀ k : Nat, ∀ R20 : Int, ∀ B20 : Nat → Int, ∀ Q20 : Nat → Int, ∀ hp20 : MH, Tw (ov (ov (ov (ov Γ s (tO 2 (flF s R20))) (s + 1) (xI cI 256 r)) (s + 2) (xI cI 16 B20)) (s + 3) (xI cI 16 Q20)) hp20 → ∀  (v20_4 : Int) (v20_5 : Int), 1 ≤ v20_4 ∧ v20_4 ≤ 16 ∧ 0 ≤ v20_5 ∧ v20_5 ≤ 16 ∧ (v20_4 ≤ 16) ∧ (1 ≤ v20_4) ∧ (0 ≤ R20 ∧ R20 ≤ 65535) ∧ (v20_5 ≤ v20_4) ∧ (Rfx 16 0 239 B20) ∧ (Rfx 16 0 15 Q20) ∧ (bqI r (Int.toNat x1) (Int.toNat x2) R20 B20 Q20 v20_4) ∧ (cjI r (Int.toNat x1) R20 Q20 v20_5) → 16 - v20_5 ≤ (k : Int) → Rn (gG D cI cJ cZ cT lo b L xs) mX2_findPath d 20 [(0, .ref s), (1, .int (iv x1)), (3, .int (iv x3)), (4, .int (iv v20_4)), (5, .int (iv v20_5))] [] hp20 n 0 0 (fun r9 hp1 n1 => n1 = n ∧ ∃ (R1 : Int) (B1 Q1 : Nat → Int) (v : Int), Tw (FS Γ cI s R1 r B1 Q1) hp1 ∧ (0 ≤ R1 ∧ R1 ≤ 65535) ∧ Rfx 16 0 239 B1 ∧ Rfx 16 0 15 Q1 ∧ r9 = some (.int (iv v)) ∧ fdP r (Int.toNat x1) (Int.toNat x2) R1 B1 ∧ ((v = 1 ∧ Me R1 (Int.toNat x3)) ∨ (v = 0 ∧ ¬ Me R1 (Int.toNat x3)))) := by
    refine lpS _ ?_
    intro k20 ih20 R20 B20 Q20 hp20 ht20 v20_4 v20_5 hf20 hm20
    obtain ⟨hf20_0, hf20_1, hf20_2, hf20_3, hf20_4, hf20_5, hf20_6, hf20_7, ha20_8, ha20_9, ha20_10, ha20_11⟩ := hf20
    refine r_iload (pc := 20) dX2_findPath_20 rfl ?_
    refine r_bipush (pc := 22) (v := iv 16) dX2_findPath_22 (by decide) ?_
    refine t_icmp_ge (pc := 24) (tgt := 145) dX2_findPath_24 (by decide) (by omega) (by omega) (fun c24 => ?_) (fun c24 => ?_)
    · have hfd := fd_end (by assumption : bqI r (Int.toNat x1) (Int.toNat x2) R20 B20 Q20 v20_4) (by assumption : cjI r (Int.toNat x1) R20 Q20 v20_5) (by omega) (by omega)
      refine r_aload_n (pc := 145) dX2_findPath_145 (i := 0) rfl rfl ?_
      refine t_getE (pc := 146) (.int (iv R20)) ht20 (rd_ov (by omega) (rd_ov (by omega) (rd_ov (by omega) (rd_of (ov_s _ _ _))))) fX2_82 dX2_findPath_146 rfl ?_
      refine r_iload_n (pc := 149) dX2_findPath_149 (i := 3) rfl rfl ?_
      have hq150_7 := shr_le (Int.toNat R20) (Int.toNat x3)
      refine r_ishr (pc := 150) (v := iv ((Int.toNat R20 >>> Int.toNat x3 : Nat) : Int)) dX2_findPath_150 (shr_e (by omega) (by omega)) ?_
      refine r_iconst (pc := 151) (v := iv 1) dX2_findPath_151 (by decide) ?_
      refine r_iand (pc := 152) (v := iv (((Int.toNat R20 >>> Int.toNat x3 : Nat) : Int) % 2)) dX2_findPath_152 (and1_e _ (by omega)) ?_
      have mb152 := @Me_bit R20 x3
      refine t_if_eq (pc := 153) (tgt := 160) dX2_findPath_153 (by decide) (by omega) (fun c153 => ?_) (fun c153 => ?_)
      · have nm153 : ¬ Me R20 (Int.toNat x3) := fun h9 => absurd (Me_bit.mpr h9) (by omega)
        refine r_iconst (pc := 160) (v := iv 0) dX2_findPath_160 (by decide) ?_
        exact r_zret (pc := 161) dX2_findPath_161 rfl (iv_nar (by omega)) ⟨rfl, R20, B20, Q20, _, ht20, by omega, by assumption, by assumption, rfl, hfd, Or.inr ⟨rfl, nm153⟩⟩
      · have pm153 : Me R20 (Int.toNat x3) := Me_bit.mp (by omega)
        refine r_iconst (pc := 156) (v := iv 1) dX2_findPath_156 (by decide) ?_
        refine r_goto (pc := 157) (tgt := 161) dX2_findPath_157 (by decide) ?_
        exact r_zret (pc := 161) dX2_findPath_161 rfl (iv_nar (by omega)) ⟨rfl, R20, B20, Q20, _, ht20, by omega, by assumption, by assumption, rfl, hfd, Or.inl ⟨rfl, pm153⟩⟩
    · refine r_iload (pc := 27) dX2_findPath_27 rfl ?_
      refine r_iload (pc := 29) dX2_findPath_29 rfl ?_
      refine t_icmp_ge (pc := 31) (tgt := 145) dX2_findPath_31 (by decide) (by omega) (by omega) (fun c31 => ?_) (fun c31 => ?_)
      · have hfd := fd_end (by assumption : bqI r (Int.toNat x1) (Int.toNat x2) R20 B20 Q20 v20_4) (by assumption : cjI r (Int.toNat x1) R20 Q20 v20_5) (by omega) (by omega)
        refine r_aload_n (pc := 145) dX2_findPath_145 (i := 0) rfl rfl ?_
        refine t_getE (pc := 146) (.int (iv R20)) ht20 (rd_ov (by omega) (rd_ov (by omega) (rd_ov (by omega) (rd_of (ov_s _ _ _))))) fX2_82 dX2_findPath_146 rfl ?_
        refine r_iload_n (pc := 149) dX2_findPath_149 (i := 3) rfl rfl ?_
        have hq150_8 := shr_le (Int.toNat R20) (Int.toNat x3)
        refine r_ishr (pc := 150) (v := iv ((Int.toNat R20 >>> Int.toNat x3 : Nat) : Int)) dX2_findPath_150 (shr_e (by omega) (by omega)) ?_
        refine r_iconst (pc := 151) (v := iv 1) dX2_findPath_151 (by decide) ?_
        refine r_iand (pc := 152) (v := iv (((Int.toNat R20 >>> Int.toNat x3 : Nat) : Int) % 2)) dX2_findPath_152 (and1_e _ (by omega)) ?_
        have mb152 := @Me_bit R20 x3
        refine t_if_eq (pc := 153) (tgt := 160) dX2_findPath_153 (by decide) (by omega) (fun c153 => ?_) (fun c153 => ?_)
        · have nm153 : ¬ Me R20 (Int.toNat x3) := fun h9 => absurd (Me_bit.mpr h9) (by omega)
          refine r_iconst (pc := 160) (v := iv 0) dX2_findPath_160 (by decide) ?_
          exact r_zret (pc := 161) dX2_findPath_161 rfl (iv_nar (by omega)) ⟨rfl, R20, B20, Q20, _, ht20, by omega, by assumption, by assumption, rfl, hfd, Or.inr ⟨rfl, nm153⟩⟩
        · have pm153 : Me R20 (Int.toNat x3) := Me_bit.mp (by omega)
          refine r_iconst (pc := 156) (v := iv 1) dX2_findPath_156 (by decide) ?_
          refine r_goto (pc := 157) (tgt := 161) dX2_findPath_157 (by decide) ?_
          exact r_zret (pc := 161) dX2_findPath_161 rfl (iv_nar (by omega)) ⟨rfl, R20, B20, Q20, _, ht20, by omega, by assumption, by assumption, rfl, hfd, Or.inl ⟨rfl, pm153⟩⟩
      · refine r_aload_n (pc := 34) dX2_findPath_34 (i := 0) rfl rfl ?_
        refine t_getE (pc := 35) (.ref (s + 3)) ht20 (rd_ov (by omega) (rd_ov (by omega) (rd_ov (by omega) (rd_of (ov_s _ _ _))))) fX2_18 dX2_findPath_35 rfl ?_
        refine r_iload (pc := 38) dX2_findPath_38 rfl ?_
        refine t_ialdX (pc := 40) (t0 := 0) ht20 (rd_of (ov_s _ _ _)) dX2_findPath_40 rfl (by decide) (by omega) (fun b9 => ?_)
        have rb9 := (show Rfx 16 0 15 Q20 by assumption) (Int.toNat v20_5) (by omega)
        refine r_istore (pc := 41) (lv' := [(6, .int (iv (Q20 (Int.toNat v20_5)))), (0, .ref s), (1, .int (iv x1)), (3, .int (iv x3)), (4, .int (iv v20_4)), (5, .int (iv v20_5))]) dX2_findPath_41 (by decide) rfl ?_
        have hu9 := ((by assumption : bqI r (Int.toNat x1) (Int.toNat x2) R20 B20 Q20 v20_4).2.1 (Int.toNat v20_5) (by omega))
        have hu8 : Q20 (Int.toNat v20_5) = Q20 (Int.toNat v20_5) := rfl
        refine r_iconst (pc := 43) (v := iv 0) dX2_findPath_43 (by decide) ?_
        refine r_istore (pc := 44) (lv' := [(7, .int (iv 0)), (6, .int (iv (Q20 (Int.toNat v20_5)))), (0, .ref s), (1, .int (iv x1)), (3, .int (iv x3)), (4, .int (iv v20_4)), (5, .int (iv v20_5))]) dX2_findPath_44 (by decide) rfl ?_
        have B46 : ∀ k : Nat, ∀ R46 : Int, ∀ B46 : Nat → Int, ∀ Q46 : Nat → Int, ∀ hp46 : MH, Tw (ov (ov (ov (ov Γ s (tO 2 (flF s R46))) (s + 1) (xI cI 256 r)) (s + 2) (xI cI 16 B46)) (s + 3) (xI cI 16 Q46)) hp46 → ∀  (v46_4 : Int) (v46_7 : Int), 1 ≤ v46_4 ∧ v46_4 ≤ 16 ∧ v20_4 ≤ v46_4 ∧ 0 ≤ v46_7 ∧ v46_7 ≤ 16 ∧ (v46_4 ≤ 16) ∧ (1 ≤ v46_4) ∧ (0 ≤ R46 ∧ R46 ≤ 65535) ∧ (v20_5 < v46_4) ∧ (v46_7 ≤ x1) ∧ ((Q20 (Int.toNat v20_5)) < x1) ∧ (Rfx 16 0 239 B46) ∧ (Rfx 16 0 15 Q46) ∧ (bqI r (Int.toNat x1) (Int.toNat x2) R46 B46 Q46 v46_4) ∧ (cjI r (Int.toNat x1) R46 Q46 v20_5) ∧ (cvI r R46 (Int.toNat (Q20 (Int.toNat v20_5))) v46_7) ∧ ((Q20 (Int.toNat v20_5)) = Q46 (Int.toNat v20_5)) → 16 - v46_7 ≤ (k : Int) → Rn (gG D cI cJ cZ cT lo b L xs) mX2_findPath d 46 [(0, .ref s), (1, .int (iv x1)), (3, .int (iv x3)), (4, .int (iv v46_4)), (5, .int (iv v20_5)), (6, .int (iv (Q20 (Int.toNat v20_5)))), (7, .int (iv v46_7))] [] hp46 n 0 0 (fun r9 hp1 n1 => n1 = n ∧ ∃ (R1 : Int) (B1 Q1 : Nat → Int) (v : Int), Tw (FS Γ cI s R1 r B1 Q1) hp1 ∧ (0 ≤ R1 ∧ R1 ≤ 65535) ∧ Rfx 16 0 239 B1 ∧ Rfx 16 0 15 Q1 ∧ r9 = some (.int (iv v)) ∧ fdP r (Int.toNat x1) (Int.toNat x2) R1 B1 ∧ ((v = 1 ∧ Me R1 (Int.toNat x3)) ∨ (v = 0 ∧ ¬ Me R1 (Int.toNat x3)))) := by
          refine lpS _ ?_
          intro k46 ih46 R46 B46 Q46 hp46 ht46 v46_4 v46_7 hf46 hm46
          obtain ⟨hf46_0, hf46_1, hf46_2, hf46_3, hf46_4, hf46_5, hf46_6, hf46_7, hf46_8, hf46_9, hf46_10, ha46_11, ha46_12, ha46_13, ha46_14, ha46_15, ha46_16⟩ := hf46
          refine r_iload (pc := 46) dX2_findPath_46 rfl ?_
          refine r_iload_n (pc := 48) dX2_findPath_48 (i := 1) rfl rfl ?_
          refine t_icmp_ge (pc := 49) (tgt := 139) dX2_findPath_49 (by decide) (by omega) (by omega) (fun c49 => ?_) (fun c49 => ?_)
          · have hcj := cj_st (by assumption : cjI r (Int.toNat x1) R46 Q46 v20_5) (by omega) (by assumption : (Q20 (Int.toNat v20_5)) = Q46 (Int.toNat v20_5)) (by assumption : cvI r R46 (Int.toNat (Q20 (Int.toNat v20_5))) v46_7) (by omega)
            refine r_iinc (pc := 139) (v := iv (v20_5 + 1)) (lv' := [(5, .int (iv (v20_5 + 1))), (0, .ref s), (1, .int (iv x1)), (3, .int (iv x3)), (4, .int (iv v46_4)), (6, .int (iv (Q20 (Int.toNat v20_5)))), (7, .int (iv v46_7))]) dX2_findPath_139 rfl (iv_add _ _) (by decide) rfl ?_
            refine r_goto (pc := 142) (tgt := 20) dX2_findPath_142 (by decide) ?_
            refine Rn.pick (lv' := [(0, .ref s), (1, .int (iv x1)), (3, .int (iv x3)), (4, .int (iv v46_4)), (5, .int (iv (v20_5 + 1)))]) [1, 2, 3, 4, 0] rfl ?_
            exact ih20 (Int.toNat (16 - (v20_5 + 1))) (by omega) R46 B46 Q46 _ ht46 v46_4 (v20_5 + 1) ⟨by omega, by omega, by omega, by omega, by omega, by omega, by omega, by omega, by (first | exact hB120 | assumption), by (first | exact hQ129 | exact hQ13 | assumption), by (first | exact hbq | assumption), by (first | exact hcj | exact cj_0)⟩ (by omega)
          · refine r_aload_n (pc := 52) dX2_findPath_52 (i := 0) rfl rfl ?_
            refine t_getE (pc := 53) (.int (iv R46)) ht46 (rd_ov (by omega) (rd_ov (by omega) (rd_ov (by omega) (rd_of (ov_s _ _ _))))) fX2_82 dX2_findPath_53 rfl ?_
            refine r_iload (pc := 56) dX2_findPath_56 rfl ?_
            have hq58_10 := shr_le (Int.toNat R46) (Int.toNat v46_7)
            refine r_ishr (pc := 58) (v := iv ((Int.toNat R46 >>> Int.toNat v46_7 : Nat) : Int)) dX2_findPath_58 (shr_e (by omega) (by omega)) ?_
            refine r_iconst (pc := 59) (v := iv 1) dX2_findPath_59 (by decide) ?_
            refine r_iand (pc := 60) (v := iv (((Int.toNat R46 >>> Int.toNat v46_7 : Nat) : Int) % 2)) dX2_findPath_60 (and1_e _ (by omega)) ?_
            have mb60 := @Me_bit R46 v46_7
            refine t_if_ne (pc := 61) (tgt := 84) dX2_findPath_61 (by decide) (by omega) (fun c61 => ?_) (fun c61 => ?_)
            · have pm61 : Me R46 (Int.toNat v46_7) := Me_bit.mp (by omega)
              have hcv := cv_st (by assumption : cvI r R46 (Int.toNat (Q20 (Int.toNat v20_5))) v46_7) (fun _ g => g) (by omega) (fun _ => pm61)
              refine r_iconst (pc := 84) (v := iv 0) dX2_findPath_84 (by decide) ?_
              refine r_istore (pc := 85) (lv' := [(8, .int (iv 0)), (0, .ref s), (1, .int (iv x1)), (3, .int (iv x3)), (4, .int (iv v46_4)), (5, .int (iv v20_5)), (6, .int (iv (Q20 (Int.toNat v20_5)))), (7, .int (iv v46_7))]) dX2_findPath_85 (by decide) rfl ?_
              refine r_iload (pc := 87) dX2_findPath_87 rfl ?_
              refine t_if_eq (pc := 89) (tgt := 133) dX2_findPath_89 (by decide) (by omega) (fun c89 => ?_) (fun c89 => ?_)
              · refine r_iinc (pc := 133) (v := iv (v46_7 + 1)) (lv' := [(7, .int (iv (v46_7 + 1))), (8, .int (iv 0)), (0, .ref s), (1, .int (iv x1)), (3, .int (iv x3)), (4, .int (iv v46_4)), (5, .int (iv v20_5)), (6, .int (iv (Q20 (Int.toNat v20_5))))]) dX2_findPath_133 rfl (iv_add _ _) (by decide) rfl ?_
                refine r_goto (pc := 136) (tgt := 46) dX2_findPath_136 (by decide) ?_
                refine Rn.pick (lv' := [(0, .ref s), (1, .int (iv x1)), (3, .int (iv x3)), (4, .int (iv v46_4)), (5, .int (iv v20_5)), (6, .int (iv (Q20 (Int.toNat v20_5)))), (7, .int (iv (v46_7 + 1)))]) [2, 3, 4, 5, 6, 7, 0] rfl ?_
                exact ih46 (Int.toNat (16 - (v46_7 + 1))) (by omega) R46 B46 Q46 _ ht46 v46_4 (v46_7 + 1) ⟨by omega, by omega, by omega, by omega, by omega, by omega, by omega, by omega, by omega, by omega, by omega, by (first | exact hB120 | assumption), by (first | exact hQ129 | exact hQ13 | assumption), by (first | exact hbq | assumption), by (first | exact hcj | assumption), by (first | exact hcv | exact cv_0), by (first | exact huq | rfl | assumption)⟩ (by omega)
              · exfalso
                omega
            · have nm61 : ¬ Me R46 (Int.toNat v46_7) := fun h9 => absurd (Me_bit.mpr h9) (by omega)
              refine r_aload_n (pc := 64) dX2_findPath_64 (i := 0) rfl rfl ?_
              refine t_getE (pc := 65) (.ref (s + 1)) ht46 (rd_ov (by omega) (rd_ov (by omega) (rd_ov (by omega) (rd_of (ov_s _ _ _))))) fX2_9 dX2_findPath_65 rfl ?_
              refine r_iload (pc := 68) dX2_findPath_68 rfl ?_
              refine r_bipush (pc := 70) (v := iv 16) dX2_findPath_70 (by decide) ?_
              refine r_imul (pc := 72) (v := iv ((Q20 (Int.toNat v20_5)) * 16)) dX2_findPath_72 (iv_mul _ _) ?_
              refine r_iload (pc := 73) dX2_findPath_73 rfl ?_
              refine r_iadd (pc := 75) (v := iv (((Q20 (Int.toNat v20_5)) * 16) + v46_7)) dX2_findPath_75 (iv_add _ _) ?_
              refine t_ialdX (pc := 76) (t0 := 0) ht46 (rd_ov (by omega) (rd_ov (by omega) (rd_of (ov_s _ _ _)))) dX2_findPath_76 rfl (by decide) (by omega) (fun b11 => ?_)
              refine t_if_le (pc := 77) (tgt := 84) dX2_findPath_77 (by decide) (by omega) (fun c77 => ?_) (fun c77 => ?_)
              · have ei := rix (u := (Q20 (Int.toNat v20_5))) (v := v46_7) (by omega) (by omega)
                have hcv := cv_st (by assumption : cvI r R46 (Int.toNat (Q20 (Int.toNat v20_5))) v46_7) (fun _ g => g) (by omega) (fun g => by rw [← ei] at g; exfalso; omega)
                refine r_iconst (pc := 84) (v := iv 0) dX2_findPath_84 (by decide) ?_
                refine r_istore (pc := 85) (lv' := [(8, .int (iv 0)), (0, .ref s), (1, .int (iv x1)), (3, .int (iv x3)), (4, .int (iv v46_4)), (5, .int (iv v20_5)), (6, .int (iv (Q20 (Int.toNat v20_5)))), (7, .int (iv v46_7))]) dX2_findPath_85 (by decide) rfl ?_
                refine r_iload (pc := 87) dX2_findPath_87 rfl ?_
                refine t_if_eq (pc := 89) (tgt := 133) dX2_findPath_89 (by decide) (by omega) (fun c89 => ?_) (fun c89 => ?_)
                · refine r_iinc (pc := 133) (v := iv (v46_7 + 1)) (lv' := [(7, .int (iv (v46_7 + 1))), (8, .int (iv 0)), (0, .ref s), (1, .int (iv x1)), (3, .int (iv x3)), (4, .int (iv v46_4)), (5, .int (iv v20_5)), (6, .int (iv (Q20 (Int.toNat v20_5))))]) dX2_findPath_133 rfl (iv_add _ _) (by decide) rfl ?_
                  refine r_goto (pc := 136) (tgt := 46) dX2_findPath_136 (by decide) ?_
                  refine Rn.pick (lv' := [(0, .ref s), (1, .int (iv x1)), (3, .int (iv x3)), (4, .int (iv v46_4)), (5, .int (iv v20_5)), (6, .int (iv (Q20 (Int.toNat v20_5)))), (7, .int (iv (v46_7 + 1)))]) [2, 3, 4, 5, 6, 7, 0] rfl ?_
                  exact ih46 (Int.toNat (16 - (v46_7 + 1))) (by omega) R46 B46 Q46 _ ht46 v46_4 (v46_7 + 1) ⟨by omega, by omega, by omega, by omega, by omega, by omega, by omega, by omega, by omega, by omega, by omega, by (first | exact hB120 | assumption), by (first | exact hQ129 | exact hQ13 | assumption), by (first | exact hbq | assumption), by (first | exact hcj | assumption), by (first | exact hcv | exact cv_0), by (first | exact huq | rfl | assumption)⟩ (by omega)
                · exfalso
                  omega
              · have ei := rix (u := (Q20 (Int.toNat v20_5))) (v := v46_7) (by omega) (by omega)
                have hr77 : 0 < r (16 * Int.toNat (Q20 (Int.toNat v20_5)) + Int.toNat v46_7) := by rw [← ei]; omega
                have hlt9 := bc_lt16 (R := R46) (v := Int.toNat v46_7) (by omega) (by omega) nm61
                have hw9 := (by assumption : bqI r (Int.toNat x1) (Int.toNat x2) R46 B46 Q46 v46_4).1.2.2
                refine r_iconst (pc := 80) (v := iv 1) dX2_findPath_80 (by decide) ?_
                refine r_goto (pc := 81) (tgt := 85) dX2_findPath_81 (by decide) ?_
                refine r_istore (pc := 85) (lv' := [(8, .int (iv 1)), (0, .ref s), (1, .int (iv x1)), (3, .int (iv x3)), (4, .int (iv v46_4)), (5, .int (iv v20_5)), (6, .int (iv (Q20 (Int.toNat v20_5)))), (7, .int (iv v46_7))]) dX2_findPath_85 (by decide) rfl ?_
                refine r_iload (pc := 87) dX2_findPath_87 rfl ?_
                refine t_if_eq (pc := 89) (tgt := 133) dX2_findPath_89 (by decide) (by omega) (fun c89 => ?_) (fun c89 => ?_)
                · exfalso
                  omega
                · refine r_iload (pc := 92) dX2_findPath_92 rfl ?_
                  refine r_bipush (pc := 94) (v := iv 16) dX2_findPath_94 (by decide) ?_
                  refine t_icmp_ge (pc := 96) (tgt := 133) dX2_findPath_96 (by decide) (by omega) (by omega) (fun c96 => ?_) (fun c96 => ?_)
                  · exfalso
                    omega
                  · refine r_aload_n (pc := 99) dX2_findPath_99 (i := 0) rfl rfl ?_
                    refine r_dup (pc := 100) dX2_findPath_100 rfl ?_
                    refine t_getE (pc := 101) (.int (iv R46)) ht46 (rd_ov (by omega) (rd_ov (by omega) (rd_ov (by omega) (rd_of (ov_s _ _ _))))) fX2_82 dX2_findPath_101 rfl ?_
                    refine r_iconst (pc := 104) (v := iv 1) dX2_findPath_104 (by decide) ?_
                    refine r_iload (pc := 105) dX2_findPath_105 rfl ?_
                    refine r_ishl (pc := 107) (v := iv ((2 ^ Int.toNat v46_7 : Nat) : Int)) dX2_findPath_107 (shl_e (by omega)) ?_
                    have mp107_12 : 1 ≤ 2 ^ Int.toNat v46_7 := Nat.one_le_two_pow
                    have mq107_13 : 2 ^ Int.toNat v46_7 ≤ 2 ^ 15 := Nat.pow_le_pow_right (by omega) (by omega)
                    have ms107 := Me_shl (Int.toNat v46_7)
                    obtain ⟨z14, hz14, bz14⟩ := or_2 16 R46 ((2 ^ Int.toNat v46_7 : Nat) : Int) (by omega) (by omega) (by decide)
                    refine r_ior (pc := 108) (v := iv z14) dX2_findPath_108 hz14 ?_
                    have mez14 := Me_or hz14 (by omega) (by omega) (by omega)
                    have hR9 : ∀ j, Me z14 j ↔ Me R46 j ∨ j = Int.toNat v46_7 := fun j => by rw [mez14 j, ms107 j]
                    refine t_putX (pc := 109) (ty := .int) ht46 (eq_ov (by omega) (eq_ov (by omega) (eq_ov (by omega) (ov_s _ _ _)))) fX2_82 tyX2 tyX2_ok nmX2 (by decide +kernel) (Or.inl rfl) dX2_findPath_109 (Nat.le_of_ble_eq_true rfl) rfl rfl rfl (fun hp15 ht16 => ?_)
                    rw [ov_in4 (by omega) (by omega) (by omega) ] at ht16
                    refine r_aload_n (pc := 112) dX2_findPath_112 (i := 0) rfl rfl ?_
                    refine t_getE (pc := 113) (.ref (s + 2)) ht16 (rd_ov (by omega) (rd_ov (by omega) (rd_ov (by omega) (rd_of (ov_s _ _ _))))) fX2_15 dX2_findPath_113 rfl ?_
                    refine r_iload (pc := 116) dX2_findPath_116 rfl ?_
                    refine r_iload (pc := 118) dX2_findPath_118 rfl ?_
                    refine t_iastX (pc := 120) (t0 := 0) ht16 (eq_ov (by omega) (ov_s _ _ _)) dX2_findPath_120 rfl (by decide) (by omega) (by omega) (fun hp17 ht18 => ?_)
                    rw [ov_in2 (by omega) ] at ht18
                    have hB120 : Rfx 16 0 239 (fup B46 (Int.toNat v46_7) (Q20 (Int.toNat v20_5))) := Rfx_up (by assumption) (by omega)
                    refine r_aload_n (pc := 121) dX2_findPath_121 (i := 0) rfl rfl ?_
                    refine t_getE (pc := 122) (.ref (s + 3)) ht18 (rd_ov (by omega) (rd_ov (by omega) (rd_ov (by omega) (rd_of (ov_s _ _ _))))) fX2_18 dX2_findPath_122 rfl ?_
                    refine r_iload (pc := 125) dX2_findPath_125 rfl ?_
                    refine r_iload (pc := 127) dX2_findPath_127 rfl ?_
                    refine t_iastX (pc := 129) (t0 := 0) ht18 (ov_s _ _ _) dX2_findPath_129 rfl (by decide) (by omega) (by omega) (fun hp19 ht20 => ?_)
                    rw [ov_ov] at ht20
                    have hQ129 : Rfx 16 0 15 (fup Q46 (Int.toNat v46_4) v46_7) := Rfx_up (by assumption) (by omega)
                    have hbq : bqI r (Int.toNat x1) (Int.toNat x2) z14 (fup B46 (Int.toNat v46_7) (Q20 (Int.toNat v20_5))) (fup Q46 (Int.toNat v46_4) v46_7) (v46_4 + 1) := bqi_st (by assumption : bqI r (Int.toNat x1) (Int.toNat x2) R46 B46 Q46 v46_4) (by omega) (by omega) nm61 hR9 (i := Int.toNat v20_5) (by omega) (by assumption : (Q20 (Int.toNat v20_5)) = Q46 (Int.toNat v20_5)) hr77
                    have hcj : cjI r (Int.toNat x1) z14 (fup Q46 (Int.toNat v46_4) v46_7) v20_5 := cj_up (by assumption : cjI r (Int.toNat x1) R46 Q46 v20_5) (fun j g => (hR9 j).mpr (Or.inl g)) (by omega)
                    have hcv : cvI r z14 (Int.toNat (Q20 (Int.toNat v20_5))) (v46_7 + 1) := cv_st (by assumption : cvI r R46 (Int.toNat (Q20 (Int.toNat v20_5))) v46_7) (fun j g => (hR9 j).mpr (Or.inl g)) (by omega) (fun _ => (hR9 _).mpr (Or.inr rfl))
                    have huq : (Q20 (Int.toNat v20_5)) = (fup Q46 (Int.toNat v46_4) v46_7) (Int.toNat v20_5) := by rw [show (fup Q46 (Int.toNat v46_4) v46_7) (Int.toNat v20_5) = Q46 (Int.toNat v20_5) from if_neg (by omega)]; assumption
                    refine r_iinc (pc := 130) (v := iv (v46_4 + 1)) (lv' := [(4, .int (iv (v46_4 + 1))), (8, .int (iv 1)), (0, .ref s), (1, .int (iv x1)), (3, .int (iv x3)), (5, .int (iv v20_5)), (6, .int (iv (Q20 (Int.toNat v20_5)))), (7, .int (iv v46_7))]) dX2_findPath_130 rfl (iv_add _ _) (by decide) rfl ?_
                    refine r_iinc (pc := 133) (v := iv (v46_7 + 1)) (lv' := [(7, .int (iv (v46_7 + 1))), (4, .int (iv (v46_4 + 1))), (8, .int (iv 1)), (0, .ref s), (1, .int (iv x1)), (3, .int (iv x3)), (5, .int (iv v20_5)), (6, .int (iv (Q20 (Int.toNat v20_5))))]) dX2_findPath_133 rfl (iv_add _ _) (by decide) rfl ?_
                    refine r_goto (pc := 136) (tgt := 46) dX2_findPath_136 (by decide) ?_
                    refine Rn.pick (lv' := [(0, .ref s), (1, .int (iv x1)), (3, .int (iv x3)), (4, .int (iv (v46_4 + 1))), (5, .int (iv v20_5)), (6, .int (iv (Q20 (Int.toNat v20_5)))), (7, .int (iv (v46_7 + 1)))]) [3, 4, 5, 1, 6, 7, 0] rfl ?_
                    exact ih46 (Int.toNat (16 - (v46_7 + 1))) (by omega) z14 (fup B46 (Int.toNat v46_7) (Q20 (Int.toNat v20_5))) (fup Q46 (Int.toNat v46_4) v46_7) _ ht20 (v46_4 + 1) (v46_7 + 1) ⟨by omega, by omega, by omega, by omega, by omega, by omega, by omega, by omega, by omega, by omega, by omega, by (first | exact hB120 | assumption), by (first | exact hQ129 | exact hQ13 | assumption), by (first | exact hbq | assumption), by (first | exact hcj | assumption), by (first | exact hcv | exact cv_0), by (first | exact huq | rfl | assumption)⟩ (by omega)
        refine Rn.pick (lv' := [(0, .ref s), (1, .int (iv x1)), (3, .int (iv x3)), (4, .int (iv v20_4)), (5, .int (iv v20_5)), (6, .int (iv (Q20 (Int.toNat v20_5)))), (7, .int (iv 0))]) [2, 3, 4, 5, 6, 1, 0] rfl ?_
        exact B46 (Int.toNat (16 - 0)) R20 B20 Q20 _ ht20 v20_4 0 ⟨by omega, by omega, by omega, by omega, by omega, by omega, by omega, by omega, by omega, by omega, by omega, by (first | exact hB120 | assumption), by (first | exact hQ129 | exact hQ13 | assumption), by (first | exact hbq | assumption), by (first | exact hcj | assumption), by (first | exact hcv | exact cv_0), by (first | exact huq | rfl | assumption)⟩ (by omega)
  refine Rn.pick (lv' := [(0, .ref s), (1, .int (iv x1)), (3, .int (iv x3)), (4, .int (iv 1)), (5, .int (iv 0))]) [2, 3, 5, 1, 0] rfl ?_
  exact B20 (Int.toNat (16 - 0)) ((2 ^ Int.toNat x2 : Nat) : Int) B (fup Q (Int.toNat 0) x2) _ ht6 1 0 ⟨by omega, by omega, by omega, by omega, by omega, by omega, by omega, by omega, by (first | exact hB120 | assumption), by (first | exact hQ129 | exact hQ13 | assumption), by (first | exact hbq | assumption), by (first | exact hcj | exact cj_0)⟩ (by omega)
