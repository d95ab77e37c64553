set_option maxHeartbeats 4000000 in
set_option maxRecDepth 100000 in
theorem x_X12_width {D : va_G} {cI cJ cZ cT : ClassId} {lo b L : Nat} {xs : Nat → Int32} {hp : MH} {n d : Nat} {Γ : TG} {y : Nat} {rf cn nm : Int} {so sz dr mn fr tt wt co : Nat → Int} {nu : Nat → Int64} {sa : Nat → Int} {wo : Nat → Int64} {ln : Nat → Int} {hw : Nat → Int64} {ro qi qc nf nt nw nc : Nat → Int} {cl nx : Nat → Int64} {ie be sd bl : Nat → Int} {bs wy ra rb : Nat → Int64} {lb bg os js ls : Nat → Int} {sp : Nat → Int64} {jw go : Nat → Int} {de : Nat → Int64} {yb ah im : Nat → Int} {x1 : Int} {Po9 : Option Value → MH → Nat → Prop} (hd0 : 1 ≤ d) (hR_beside : Rfx 16 0 65535 be) (ht : Tw (RX Γ cI cJ cZ y rf cn nm so sz dr mn fr tt wt co nu sa wo ln hw ro qi qc nf nt nw nc cl nx ie be sd bl bs wy ra rb lb bg os js ls sp jw go de yb ah im) hp) (hx1 : 1 ≤ x1 ∧ x1 ≤ 16) (hPo : ∀ r hp1 n1, (n1 = n ∧ ∃ (q9 : Int64) (w1 : Nat → Int), Tw (RX Γ cI cJ cZ y rf cn nm so sz dr mn fr tt wt co nu sa wo ln hw ro qi qc nf nt nw nc cl nx ie be sd bl bs wy ra rb lb bg os js w1 sp jw go de yb ah im) hp1 ∧ r = some (.long q9) ∧ (wdA (fun i j => Me (be i) j) (Me (((2 ^ x1.toNat : Nat) : Int) - 1)) q9.toInt)) → Po9 r hp1 n1) : Mt (gG D cI cJ cZ cT lo b L xs) mX12_width d 0 0 [.ref y, .int (iv x1)] hp n Po9 := by
  refine Mt.of rfl (Nat.le_of_ble_eq_true rfl) ?_
  refine Rn.pick (lv' := [(0, .ref y), (1, .int (iv x1))]) [0, 1] rfl ?_
  have mp5 : 1 ≤ 2 ^ x1.toNat := Nat.one_le_two_pow
  have mq5 : 2 ^ x1.toNat ≤ 2 ^ 16 := Nat.pow_le_pow_right (by omega) (by omega)
  refine r_iconst (pc := 0) (v := iv 1) dX12_width_0 (by decide) ?_
  refine r_iload_n (pc := 1) dX12_width_1 (i := 1) rfl rfl ?_
  refine r_ishl (pc := 2) (v := iv ((2 ^ Int.toNat x1 : Nat) : Int)) dX12_width_2 (shl_e (by omega)) ?_
  have mp2_1 : 1 ≤ 2 ^ Int.toNat x1 := Nat.one_le_two_pow
  have mq2_2 : 2 ^ Int.toNat x1 ≤ 2 ^ 16 := Nat.pow_le_pow_right (by omega) (by omega)
  have ms2 := Me_shl (Int.toNat x1)
  refine r_iconst (pc := 3) (v := iv 1) dX12_width_3 (by decide) ?_
  refine r_isub (pc := 4) (v := iv (((2 ^ Int.toNat x1 : Nat) : Int) - 1)) dX12_width_4 (iv_sub _ _) ?_
  refine r_istore_n (pc := 5) (lv' := [(2, .int (iv (((2 ^ Int.toNat x1 : Nat) : Int) - 1))), (0, .ref y), (1, .int (iv x1))]) dX12_width_5 (i := 2) rfl (by decide) rfl ?_
  refine r_aload_n (pc := 6) dX12_width_6 (i := 0) rfl rfl ?_
  refine t_getE (pc := 7) (.ref (y + 35)) ht (rd_of RX_y) fX12_115 dX12_width_7 rfl ?_
  refine r_iconst (pc := 10) (v := iv 0) dX12_width_10 (by decide) ?_
  refine r_iconst (pc := 11) (v := iv 0) dX12_width_11 (by decide) ?_
  refine t_iastX (pc := 12) (t0 := 0) ht RX_least dX12_width_12 rfl (by decide) (by omega) (by omega) (fun hp3 ht4 => ?_)
  have ht5 := RXw_ls ht4
  refine r_iconst (pc := 13) (v := iv 1) dX12_width_13 (by decide) ?_
  refine r_istore_n (pc := 14) (lv' := [(3, .int (iv 1)), (2, .int (iv (((2 ^ Int.toNat x1 : Nat) : Int) - 1))), (0, .ref y), (1, .int (iv x1))]) dX12_width_14 (i := 3) rfl (by decide) rfl ?_
  have B15 : ∀ k : Nat, ∀ ls15 : Nat → Int, ∀ hp15 : MH, Tw (RX Γ cI cJ cZ y rf cn nm so sz dr mn fr tt wt co nu sa wo ln hw ro qi qc nf nt nw nc cl nx ie be sd bl bs wy ra rb lb bg os js ls15 sp jw go de yb ah im) hp15 → ∀  (v15_3 : Int), 1 ≤ v15_3 ∧ v15_3 ≤ 65536 ∧ (v15_3 ≤ ((2 ^ x1.toNat : Nat) : Int)) ∧ (lsW (fun i j => Me (be i) j) ls15 v15_3) → 65536 - v15_3 ≤ (k : Int) → Rn (gG D cI cJ cZ cT lo b L xs) mX12_width d 15 [(0, .ref y), (1, .int (iv x1)), (2, .int (iv (((2 ^ Int.toNat x1 : Nat) : Int) - 1))), (3, .int (iv v15_3))] [] hp15 n 0 0 Po9 := by
    refine lpS _ ?_
    intro k15 ih15 ls15 hp15 ht15 v15_3 hf15 hm15
    obtain ⟨hf15_0, hf15_1, hf15_2, ha15_3⟩ := hf15
    refine r_iload_n (pc := 15) dX12_width_15 (i := 3) rfl rfl ?_
    refine r_iload_n (pc := 16) dX12_width_16 (i := 2) rfl rfl ?_
    refine t_icmp_gt (pc := 17) (tgt := 213) dX12_width_17 (by decide) (by omega) (by omega) (fun c17 => ?_) (fun c17 => ?_)
    · refine r_aload_n (pc := 213) dX12_width_213 (i := 0) rfl rfl ?_
      refine t_getE (pc := 214) (.ref (y + 35)) ht15 (rd_of RX_y) fX12_115 dX12_width_214 rfl ?_
      refine r_iload_n (pc := 217) dX12_width_217 (i := 2) rfl rfl ?_
      refine t_ialdX (pc := 218) (t0 := 0) ht15 (rd_of RX_least) dX12_width_218 rfl (by decide) (by omega) (fun b6 => ?_)
      refine r_i2l (pc := 219) (v := (iv (ls15 (Int.toNat (((2 ^ Int.toNat x1 : Nat) : Int) - 1)))).toInt64) dX12_width_219 rfl ?_
      exact r_lret (pc := 220) dX12_width_220 rfl (hPo _ _ _ ⟨rfl, ((iv (ls15 (Int.toNat (((2 ^ Int.toNat x1 : Nat) : Int) - 1)))).toInt64), ls15, ht15, rfl, (by (rw [iv_long (by omega)]; exact (lsw_at (by assumption : lsW (fun i j => Me (be i) j) ls15 v15_3) (by omega) (by omega)).1))⟩)
    · refine r_aload_n (pc := 20) dX12_width_20 (i := 0) rfl rfl ?_
      refine t_getE (pc := 21) (.ref (y + 35)) ht15 (rd_of RX_y) fX12_115 dX12_width_21 rfl ?_
      refine r_iload_n (pc := 24) dX12_width_24 (i := 3) rfl rfl ?_
      refine r_bipush (pc := 25) (v := iv 99) dX12_width_25 (by decide) ?_
      refine t_iastX (pc := 27) (t0 := 0) ht15 RX_least dX12_width_27 rfl (by decide) (by omega) (by omega) (fun hp7 ht8 => ?_)
      have ht9 := RXw_ls ht8
      have hl27 := lsw_up (x := 99) (by assumption : lsW (fun i j => Me (be i) j) ls15 v15_3) (by omega)
      obtain ⟨iu, hiu⟩ := Me_ex (show 0 < v15_3 by omega)
      have hbn : ∀ i, Me v15_3 i → i < Int.toNat x1 := fun i g => Me_bd g (by omega)
      refine r_iconst (pc := 28) (v := iv 0) dX12_width_28 (by decide) ?_
      refine r_istore (pc := 29) (lv' := [(4, .int (iv 0)), (0, .ref y), (1, .int (iv x1)), (2, .int (iv (((2 ^ Int.toNat x1 : Nat) : Int) - 1))), (3, .int (iv v15_3))]) dX12_width_29 (by decide) rfl ?_
      have B31 : ∀ k : Nat, ∀ ls31 : Nat → Int, ∀ hp31 : MH, Tw (RX Γ cI cJ cZ y rf cn nm so sz dr mn fr tt wt co nu sa wo ln hw ro qi qc nf nt nw nc cl nx ie be sd bl bs wy ra rb lb bg os js ls31 sp jw go de yb ah im) hp31 → ∀  (v31_4 : Int), 0 ≤ v31_4 ∧ v31_4 ≤ 16 ∧ (v31_4 ≤ x1) ∧ (lsW (fun i j => Me (be i) j) ls31 v15_3) ∧ (wdI (fun i j => Me (be i) j) v15_3 v31_4 (ls31 (Int.toNat v15_3))) ∧ (wdB v15_3 v31_4 (ls31 (Int.toNat v15_3))) → 16 - v31_4 ≤ (k : Int) → Rn (gG D cI cJ cZ cT lo b L xs) mX12_width d 31 [(0, .ref y), (1, .int (iv x1)), (2, .int (iv (((2 ^ Int.toNat x1 : Nat) : Int) - 1))), (3, .int (iv v15_3)), (4, .int (iv v31_4))] [] hp31 n 0 0 Po9 := by
        refine lpS _ ?_
        intro k31 ih31 ls31 hp31 ht31 v31_4 hf31 hm31
        obtain ⟨hf31_0, hf31_1, hf31_2, ha31_3, ha31_4, ha31_5⟩ := hf31
        refine r_iload (pc := 31) dX12_width_31 rfl ?_
        refine r_iload_n (pc := 33) dX12_width_33 (i := 1) rfl rfl ?_
        refine t_icmp_ge (pc := 34) (tgt := 207) dX12_width_34 (by decide) (by omega) (by omega) (fun c34 => ?_) (fun c34 => ?_)
        · have hlE := lsw_st (by assumption : lsW (fun i j => Me (be i) j) ls31 v15_3) (by omega) (wdi_e (by assumption : wdI (fun i j => Me (be i) j) v15_3 v31_4 (ls31 (Int.toNat v15_3))) (n := Int.toNat x1) (by omega) hbn hiu (wdb_e (by assumption : wdB v15_3 v31_4 (ls31 (Int.toNat v15_3))) (n := Int.toNat x1) (by omega) hbn hiu))
          refine r_iinc (pc := 207) (v := iv (v15_3 + 1)) (lv' := [(3, .int (iv (v15_3 + 1))), (0, .ref y), (1, .int (iv x1)), (2, .int (iv (((2 ^ Int.toNat x1 : Nat) : Int) - 1))), (4, .int (iv v31_4))]) dX12_width_207 rfl (iv_add _ _) (by decide) rfl ?_
          refine r_goto (pc := 210) (tgt := 15) dX12_width_210 (by decide) ?_
          refine Rn.pick (lv' := [(0, .ref y), (1, .int (iv x1)), (2, .int (iv (((2 ^ Int.toNat x1 : Nat) : Int) - 1))), (3, .int (iv (v15_3 + 1)))]) [1, 2, 3, 0] rfl ?_
          exact ih15 (Int.toNat (65536 - (v15_3 + 1))) (by omega) ls31 _ ht31 (v15_3 + 1) ⟨by omega, by omega, by omega, by (first | exact hlE | exact lsw_1 (if_pos rfl))⟩ (by omega)
        · refine r_iload_n (pc := 37) dX12_width_37 (i := 3) rfl rfl ?_
          refine r_iload (pc := 38) dX12_width_38 rfl ?_
          have hq40_10 := shr_le (Int.toNat v15_3) (Int.toNat v31_4)
          refine r_ishr (pc := 40) (v := iv ((Int.toNat v15_3 >>> Int.toNat v31_4 : Nat) : Int)) dX12_width_40 (shr_e (by omega) (by omega)) ?_
          refine r_iconst (pc := 41) (v := iv 1) dX12_width_41 (by decide) ?_
          refine r_iand (pc := 42) (v := iv (((Int.toNat v15_3 >>> Int.toNat v31_4 : Nat) : Int) % 2)) dX12_width_42 (and1_e _ (by omega)) ?_
          have mb42 := @Me_bit v15_3 v31_4
          refine r_iconst (pc := 43) (v := iv 1) dX12_width_43 (by decide) ?_
          refine t_icmp_ne (pc := 44) (tgt := 201) dX12_width_44 (by decide) (by omega) (by omega) (fun c44 => ?_) (fun c44 => ?_)
          · have nm44 : ¬ Me v15_3 (Int.toNat v31_4) := fun h9 => absurd (Me_bit.mpr h9) (by omega)
            have hwd := (by assumption : wdI (fun i j => Me (be i) j) v15_3 v31_4 (ls31 (Int.toNat v15_3)))
            have hwb := (by assumption : wdB v15_3 v31_4 (ls31 (Int.toNat v15_3)))
            have hwd1 := wdi_sk hwd (by omega) nm44
            have hwb1 := wdb_sk hwb (by omega) nm44
            refine r_iinc (pc := 201) (v := iv (v31_4 + 1)) (lv' := [(4, .int (iv (v31_4 + 1))), (0, .ref y), (1, .int (iv x1)), (2, .int (iv (((2 ^ Int.toNat x1 : Nat) : Int) - 1))), (3, .int (iv v15_3))]) dX12_width_201 rfl (iv_add _ _) (by decide) rfl ?_
            refine r_goto (pc := 204) (tgt := 31) dX12_width_204 (by decide) ?_
            refine Rn.pick (lv' := [(0, .ref y), (1, .int (iv x1)), (2, .int (iv (((2 ^ Int.toNat x1 : Nat) : Int) - 1))), (3, .int (iv v15_3)), (4, .int (iv (v31_4 + 1)))]) [1, 2, 3, 4, 0] rfl ?_
            exact ih31 (Int.toNat (16 - (v31_4 + 1))) (by omega) ls31 _ ht31 (v31_4 + 1) ⟨by omega, by omega, by omega, by (first | exact hl200 | exact hl27 | assumption), by (first | exact hwd1 | exact wdi_0 (if_pos rfl)), by (first | exact hwb1 | exact Or.inr (fun i hi => absurd hi (by omega)))⟩ (by omega)
          · have pm44 : Me v15_3 (Int.toNat v31_4) := Me_bit.mp (by omega)
            have hwd := (by assumption : wdI (fun i j => Me (be i) j) v15_3 v31_4 (ls31 (Int.toNat v15_3)))
            have hwb := (by assumption : wdB v15_3 v31_4 (ls31 (Int.toNat v15_3)))
            refine r_iload_n (pc := 47) dX12_width_47 (i := 3) rfl rfl ?_
            refine r_iconst (pc := 48) (v := iv 1) dX12_width_48 (by decide) ?_
            refine r_iload (pc := 49) dX12_width_49 rfl ?_
            refine r_ishl (pc := 51) (v := iv ((2 ^ Int.toNat v31_4 : Nat) : Int)) dX12_width_51 (shl_e (by omega)) ?_
            have mp51_11 : 1 ≤ 2 ^ Int.toNat v31_4 := Nat.one_le_two_pow
            have mq51_12 : 2 ^ Int.toNat v31_4 ≤ 2 ^ 15 := Nat.pow_le_pow_right (by omega) (by omega)
            have ms51 := Me_shl (Int.toNat v31_4)
            refine r_iconst (pc := 52) (v := iv (-1)) dX12_width_52 (by decide) ?_
            refine r_ixor (pc := 53) (v := iv (-((2 ^ Int.toNat v31_4 : Nat) : Int) - 1)) dX12_width_53 (iv_not _) ?_
            obtain ⟨z13, hz13, bz13⟩ := and_l v15_3 (-((2 ^ Int.toNat v31_4 : Nat) : Int) - 1) (by omega) (by omega)
            refine r_iand (pc := 54) (v := iv z13) dX12_width_54 hz13 ?_
            have mez13 := Me_not (y := ((2 ^ Int.toNat v31_4 : Nat) : Int)) hz13 (by omega) (by omega) (by omega)
            have hz54 : ∀ j, Me z13 j ↔ Me v15_3 j ∧ j ≠ (Int.toNat v31_4) := fun j => by rw [mez13 j, ms51 j]
            have hlt54 := su_lt (s := z13) (by omega) (by omega) (fun j g => ((hz54 j).mp g).1) pm44 (fun g => ((hz54 _).mp g).2 rfl)
            have hS54 : ∀ j, Me v15_3 j ↔ Me z13 j ∨ j = (Int.toNat v31_4) := fun j => by
              rw [hz54 j]
              constructor
              · intro g
                by_cases e : j = (Int.toNat v31_4)
                · exact Or.inr e
                · exact Or.inl ⟨g, e⟩
              · rintro (g | g)
                · exact g.1
                · rw [g]; exact pm44
            refine r_istore (pc := 55) (lv' := [(5, .int (iv z13)), (0, .ref y), (1, .int (iv x1)), (2, .int (iv (((2 ^ Int.toNat x1 : Nat) : Int) - 1))), (3, .int (iv v15_3)), (4, .int (iv v31_4))]) dX12_width_55 (by decide) rfl ?_
            refine r_iconst (pc := 57) (v := iv 1) dX12_width_57 (by decide) ?_
            refine r_iload (pc := 58) dX12_width_58 rfl ?_
            refine r_ishl (pc := 60) (v := iv ((2 ^ Int.toNat v31_4 : Nat) : Int)) dX12_width_60 (shl_e (by omega)) ?_
            have mp60_14 : 1 ≤ 2 ^ Int.toNat v31_4 := Nat.one_le_two_pow
            have mq60_15 : 2 ^ Int.toNat v31_4 ≤ 2 ^ 15 := Nat.pow_le_pow_right (by omega) (by omega)
            have ms60 := Me_shl (Int.toNat v31_4)
            have hwp0 : wpI (fun i j => Me (be i) j) z13 (Int.toNat v31_4) ((2 ^ Int.toNat v31_4 : Nat) : Int) 0 0 := wp_0 ms60
            refine r_istore (pc := 61) (lv' := [(6, .int (iv ((2 ^ Int.toNat v31_4 : Nat) : Int))), (5, .int (iv z13)), (0, .ref y), (1, .int (iv x1)), (2, .int (iv (((2 ^ Int.toNat x1 : Nat) : Int) - 1))), (3, .int (iv v15_3)), (4, .int (iv v31_4))]) dX12_width_61 (by decide) rfl ?_
            refine r_iconst (pc := 63) (v := iv 0) dX12_width_63 (by decide) ?_
            refine r_istore (pc := 64) (lv' := [(7, .int (iv 0)), (6, .int (iv ((2 ^ Int.toNat v31_4 : Nat) : Int))), (5, .int (iv z13)), (0, .ref y), (1, .int (iv x1)), (2, .int (iv (((2 ^ Int.toNat x1 : Nat) : Int) - 1))), (3, .int (iv v15_3)), (4, .int (iv v31_4))]) dX12_width_64 (by decide) rfl ?_
            refine r_iconst (pc := 66) (v := iv 0) dX12_width_66 (by decide) ?_
            refine r_istore (pc := 67) (lv' := [(8, .int (iv 0)), (7, .int (iv 0)), (6, .int (iv ((2 ^ Int.toNat v31_4 : Nat) : Int))), (5, .int (iv z13)), (0, .ref y), (1, .int (iv x1)), (2, .int (iv (((2 ^ Int.toNat x1 : Nat) : Int) - 1))), (3, .int (iv v15_3)), (4, .int (iv v31_4))]) dX12_width_67 (by decide) rfl ?_
            have B69 : ∀ k : Nat, ∀ hp69 : MH, Tw (RX Γ cI cJ cZ y rf cn nm so sz dr mn fr tt wt co nu sa wo ln hw ro qi qc nf nt nw nc cl nx ie be sd bl bs wy ra rb lb bg os js ls31 sp jw go de yb ah im) hp69 → ∀  (v69_6 : Int) (v69_7 : Int) (v69_8 : Int), 1 ≤ v69_6 ∧ v69_6 ≤ 65535 ∧ ((2 ^ Int.toNat v31_4 : Nat) : Int) ≤ v69_6 ∧ 0 ≤ v69_7 ∧ v69_7 ≤ 65535 ∧ 0 ≤ v69_8 ∧ v69_8 ≤ 65535 ∧ (0 ≤ v69_6 ∧ v69_6 ≤ 65535) ∧ (0 ≤ v69_7 ∧ v69_7 ≤ 65535) ∧ (0 ≤ v69_8 ∧ v69_8 ≤ 65535) ∧ (wpI (fun i j => Me (be i) j) z13 (Int.toNat v31_4) v69_6 v69_7 v69_8) → 65536 - v69_7 ≤ (k : Int) → Rn (gG D cI cJ cZ cT lo b L xs) mX12_width d 69 [(0, .ref y), (1, .int (iv x1)), (2, .int (iv (((2 ^ Int.toNat x1 : Nat) : Int) - 1))), (3, .int (iv v15_3)), (4, .int (iv v31_4)), (5, .int (iv z13)), (6, .int (iv v69_6)), (7, .int (iv v69_7)), (8, .int (iv v69_8))] [] hp69 n 0 0 Po9 := by
              refine lpS _ ?_
              intro k69 ih69 hp69 ht69 v69_6 v69_7 v69_8 hf69 hm69
              obtain ⟨hf69_0, hf69_1, hf69_2, hf69_3, hf69_4, hf69_5, hf69_6, hf69_7, hf69_8, hf69_9, ha69_10⟩ := hf69
              refine r_iload (pc := 69) dX12_width_69 rfl ?_
              refine r_iload (pc := 71) dX12_width_71 rfl ?_
              refine t_icmp_eq (pc := 73) (tgt := 136) dX12_width_73 (by decide) (by omega) (by omega) (fun c73 => ?_) (fun c73 => ?_)
              · have hwp := (by assumption : wpI (fun i j => Me (be i) j) z13 (Int.toNat v31_4) v69_6 v69_7 v69_8)
                have hpl := Me_sub_le (x := v69_7) (y := v69_6) (by omega) (by omega) hwp.2.2.1
                refine r_iload (pc := 136) dX12_width_136 rfl ?_
                refine r_iload_n (pc := 138) dX12_width_138 (i := 3) rfl rfl ?_
                refine r_iconst (pc := 139) (v := iv (-1)) dX12_width_139 (by decide) ?_
                refine r_ixor (pc := 140) (v := iv (-v15_3 - 1)) dX12_width_140 (iv_not _) ?_
                obtain ⟨z16, hz16, bz16⟩ := and_l v69_8 (-v15_3 - 1) (by omega) (by omega)
                refine r_iand (pc := 141) (v := iv z16) dX12_width_141 hz16 ?_
                have mez16 := Me_not (y := v15_3) hz16 (by omega) (by omega) (by omega)
                have hzq := wp_e (z := z16) hwp (by omega) hS54 hz54 (fun i => mez16 i)
                refine t_callSI (pc := 142) (as := [.int (iv z16)]) (st := []) kX12_201 dX12_width_142 (t_X12_bitsx (d := d - 1) (x1 := z16) (by omega)  ht69 (by omega)) rfl (by omega) (Nat.le_of_ble_eq_true rfl) rfl (fun hp17 y19 ht18 by19 => ?_)
                have ey19 : y19 = bcI z16 16 := by19
                subst ey19
                have ry19 := bc_le z16 16
                refine r_istore (pc := 145) (lv' := [(9, .int (iv (bcI z16 16))), (0, .ref y), (1, .int (iv x1)), (2, .int (iv (((2 ^ Int.toNat x1 : Nat) : Int) - 1))), (3, .int (iv v15_3)), (4, .int (iv v31_4)), (5, .int (iv z13)), (6, .int (iv v69_6)), (7, .int (iv v69_7)), (8, .int (iv v69_8))]) dX12_width_145 (by decide) rfl ?_
                refine r_aload_n (pc := 147) dX12_width_147 (i := 0) rfl rfl ?_
                refine t_getE (pc := 148) (.ref (y + 35)) ht18 (rd_of RX_y) fX12_115 dX12_width_148 rfl ?_
                refine r_iload (pc := 151) dX12_width_151 rfl ?_
                refine t_ialdX (pc := 153) (t0 := 0) ht18 (rd_of RX_least) dX12_width_153 rfl (by decide) (by omega) (fun b20 => ?_)
                have hw153 := lsw_at (by assumption : lsW (fun i j => Me (be i) j) ls31 v15_3) (s := z13) (by omega) hlt54
                have hw0 := hw153.1.1
                have hw1 := hw153.2
                refine r_iload (pc := 154) dX12_width_154 rfl ?_
                refine t_icmp_le (pc := 156) (tgt := 169) dX12_width_156 (by decide) (by omega) (by omega) (fun c156 => ?_) (fun c156 => ?_)
                · refine r_iload (pc := 169) dX12_width_169 rfl ?_
                  refine r_istore (pc := 171) (lv' := [(9, .int (iv (bcI z16 16))), (0, .ref y), (1, .int (iv x1)), (2, .int (iv (((2 ^ Int.toNat x1 : Nat) : Int) - 1))), (3, .int (iv v15_3)), (4, .int (iv v31_4)), (5, .int (iv z13)), (6, .int (iv v69_6)), (7, .int (iv v69_7)), (8, .int (iv v69_8))]) dX12_width_171 (by decide) rfl ?_
                  refine r_aload_n (pc := 173) dX12_width_173 (i := 0) rfl rfl ?_
                  refine t_getE (pc := 174) (.ref (y + 35)) ht18 (rd_of RX_y) fX12_115 dX12_width_174 rfl ?_
                  refine r_iload_n (pc := 177) dX12_width_177 (i := 3) rfl rfl ?_
                  refine r_iload (pc := 178) dX12_width_178 rfl ?_
                  refine r_aload_n (pc := 180) dX12_width_180 (i := 0) rfl rfl ?_
                  refine t_getE (pc := 181) (.ref (y + 35)) ht18 (rd_of RX_y) fX12_115 dX12_width_181 rfl ?_
                  refine r_iload_n (pc := 184) dX12_width_184 (i := 3) rfl rfl ?_
                  refine t_ialdX (pc := 185) (t0 := 0) ht18 (rd_of RX_least) dX12_width_185 rfl (by decide) (by omega) (fun b21 => ?_)
                  refine t_icmp_ge (pc := 186) (tgt := 194) dX12_width_186 (by decide) (by omega) (by omega) (fun c186 => ?_) (fun c186 => ?_)
                  · refine r_aload_n (pc := 194) dX12_width_194 (i := 0) rfl rfl ?_
                    refine t_getE (pc := 195) (.ref (y + 35)) ht18 (rd_of RX_y) fX12_115 dX12_width_195 rfl ?_
                    refine r_iload_n (pc := 198) dX12_width_198 (i := 3) rfl rfl ?_
                    refine t_ialdX (pc := 199) (t0 := 0) ht18 (rd_of RX_least) dX12_width_199 rfl (by decide) (by omega) (fun b22 => ?_)
                    refine t_iastX (pc := 200) (t0 := 0) ht18 RX_least dX12_width_200 rfl (by decide) (by omega) (by omega) (fun hp23 ht24 => ?_)
                    have ht25 := RXw_ls ht24
                    have hl200 := lsw_up (x := (ls31 (Int.toNat v15_3))) (by assumption : lsW (fun i j => Me (be i) j) ls31 v15_3) (by omega)
                    have hv200 : (fup ls31 (Int.toNat v15_3) (ls31 (Int.toNat v15_3))) (Int.toNat v15_3) = (ls31 (Int.toNat v15_3)) := if_pos rfl
                    have hwd1 : wdI (fun i j => Me (be i) j) v15_3 (v31_4 + 1) ((fup ls31 (Int.toNat v15_3) (ls31 (Int.toNat v15_3))) (Int.toNat v15_3)) := by
                      rw [hv200]
                      exact wdi_st (w := (bcI z16 16)) hwd (by omega) pm44 hz54 hw153.1 hw153.2 (by omega) hzq (by omega) (by omega)
                    have hwb1 : wdB v15_3 (v31_4 + 1) ((fup ls31 (Int.toNat v15_3) (ls31 (Int.toNat v15_3))) (Int.toNat v15_3)) := by
                      rw [hv200]
                      exact Or.inl (by omega)
                    refine r_iinc (pc := 201) (v := iv (v31_4 + 1)) (lv' := [(4, .int (iv (v31_4 + 1))), (9, .int (iv (bcI z16 16))), (0, .ref y), (1, .int (iv x1)), (2, .int (iv (((2 ^ Int.toNat x1 : Nat) : Int) - 1))), (3, .int (iv v15_3)), (5, .int (iv z13)), (6, .int (iv v69_6)), (7, .int (iv v69_7)), (8, .int (iv v69_8))]) dX12_width_201 rfl (iv_add _ _) (by decide) rfl ?_
                    refine r_goto (pc := 204) (tgt := 31) dX12_width_204 (by decide) ?_
                    refine Rn.pick (lv' := [(0, .ref y), (1, .int (iv x1)), (2, .int (iv (((2 ^ Int.toNat x1 : Nat) : Int) - 1))), (3, .int (iv v15_3)), (4, .int (iv (v31_4 + 1)))]) [2, 3, 4, 5, 0] rfl ?_
                    exact ih31 (Int.toNat (16 - (v31_4 + 1))) (by omega) (fup ls31 (Int.toNat v15_3) (ls31 (Int.toNat v15_3))) _ ht25 (v31_4 + 1) ⟨by omega, by omega, by omega, by (first | exact hl200 | exact hl27 | assumption), by (first | exact hwd1 | exact wdi_0 (if_pos rfl)), by (first | exact hwb1 | exact Or.inr (fun i hi => absurd hi (by omega)))⟩ (by omega)
                  · refine r_iload (pc := 189) dX12_width_189 rfl ?_
                    refine r_goto (pc := 191) (tgt := 200) dX12_width_191 (by decide) ?_
                    refine t_iastX (pc := 200) (t0 := 0) ht18 RX_least dX12_width_200 rfl (by decide) (by omega) (by omega) (fun hp26 ht27 => ?_)
                    have ht28 := RXw_ls ht27
                    have hl200 := lsw_up (x := (bcI z16 16)) (by assumption : lsW (fun i j => Me (be i) j) ls31 v15_3) (by omega)
                    have hv200 : (fup ls31 (Int.toNat v15_3) (bcI z16 16)) (Int.toNat v15_3) = (bcI z16 16) := if_pos rfl
                    have hwd1 : wdI (fun i j => Me (be i) j) v15_3 (v31_4 + 1) ((fup ls31 (Int.toNat v15_3) (bcI z16 16)) (Int.toNat v15_3)) := by
                      rw [hv200]
                      exact wdi_st (w := (bcI z16 16)) hwd (by omega) pm44 hz54 hw153.1 hw153.2 (by omega) hzq (by omega) (by omega)
                    have hwb1 : wdB v15_3 (v31_4 + 1) ((fup ls31 (Int.toNat v15_3) (bcI z16 16)) (Int.toNat v15_3)) := by
                      rw [hv200]
                      exact Or.inl (by omega)
                    refine r_iinc (pc := 201) (v := iv (v31_4 + 1)) (lv' := [(4, .int (iv (v31_4 + 1))), (9, .int (iv (bcI z16 16))), (0, .ref y), (1, .int (iv x1)), (2, .int (iv (((2 ^ Int.toNat x1 : Nat) : Int) - 1))), (3, .int (iv v15_3)), (5, .int (iv z13)), (6, .int (iv v69_6)), (7, .int (iv v69_7)), (8, .int (iv v69_8))]) dX12_width_201 rfl (iv_add _ _) (by decide) rfl ?_
                    refine r_goto (pc := 204) (tgt := 31) dX12_width_204 (by decide) ?_
                    refine Rn.pick (lv' := [(0, .ref y), (1, .int (iv x1)), (2, .int (iv (((2 ^ Int.toNat x1 : Nat) : Int) - 1))), (3, .int (iv v15_3)), (4, .int (iv (v31_4 + 1)))]) [2, 3, 4, 5, 0] rfl ?_
                    exact ih31 (Int.toNat (16 - (v31_4 + 1))) (by omega) (fup ls31 (Int.toNat v15_3) (bcI z16 16)) _ ht28 (v31_4 + 1) ⟨by omega, by omega, by omega, by (first | exact hl200 | exact hl27 | assumption), by (first | exact hwd1 | exact wdi_0 (if_pos rfl)), by (first | exact hwb1 | exact Or.inr (fun i hi => absurd hi (by omega)))⟩ (by omega)
                · refine r_aload_n (pc := 159) dX12_width_159 (i := 0) rfl rfl ?_
                  refine t_getE (pc := 160) (.ref (y + 35)) ht18 (rd_of RX_y) fX12_115 dX12_width_160 rfl ?_
                  refine r_iload (pc := 163) dX12_width_163 rfl ?_
                  refine t_ialdX (pc := 165) (t0 := 0) ht18 (rd_of RX_least) dX12_width_165 rfl (by decide) (by omega) (fun b29 => ?_)
                  refine r_goto (pc := 166) (tgt := 171) dX12_width_166 (by decide) ?_
                  refine r_istore (pc := 171) (lv' := [(9, .int (iv (ls31 (Int.toNat z13)))), (0, .ref y), (1, .int (iv x1)), (2, .int (iv (((2 ^ Int.toNat x1 : Nat) : Int) - 1))), (3, .int (iv v15_3)), (4, .int (iv v31_4)), (5, .int (iv z13)), (6, .int (iv v69_6)), (7, .int (iv v69_7)), (8, .int (iv v69_8))]) dX12_width_171 (by decide) rfl ?_
                  refine r_aload_n (pc := 173) dX12_width_173 (i := 0) rfl rfl ?_
                  refine t_getE (pc := 174) (.ref (y + 35)) ht18 (rd_of RX_y) fX12_115 dX12_width_174 rfl ?_
                  refine r_iload_n (pc := 177) dX12_width_177 (i := 3) rfl rfl ?_
                  refine r_iload (pc := 178) dX12_width_178 rfl ?_
                  refine r_aload_n (pc := 180) dX12_width_180 (i := 0) rfl rfl ?_
                  refine t_getE (pc := 181) (.ref (y + 35)) ht18 (rd_of RX_y) fX12_115 dX12_width_181 rfl ?_
                  refine r_iload_n (pc := 184) dX12_width_184 (i := 3) rfl rfl ?_
                  refine t_ialdX (pc := 185) (t0 := 0) ht18 (rd_of RX_least) dX12_width_185 rfl (by decide) (by omega) (fun b30 => ?_)
                  refine t_icmp_ge (pc := 186) (tgt := 194) dX12_width_186 (by decide) (by omega) (by omega) (fun c186 => ?_) (fun c186 => ?_)
                  · refine r_aload_n (pc := 194) dX12_width_194 (i := 0) rfl rfl ?_
                    refine t_getE (pc := 195) (.ref (y + 35)) ht18 (rd_of RX_y) fX12_115 dX12_width_195 rfl ?_
                    refine r_iload_n (pc := 198) dX12_width_198 (i := 3) rfl rfl ?_
                    refine t_ialdX (pc := 199) (t0 := 0) ht18 (rd_of RX_least) dX12_width_199 rfl (by decide) (by omega) (fun b31 => ?_)
                    refine t_iastX (pc := 200) (t0 := 0) ht18 RX_least dX12_width_200 rfl (by decide) (by omega) (by omega) (fun hp32 ht33 => ?_)
                    have ht34 := RXw_ls ht33
                    have hl200 := lsw_up (x := (ls31 (Int.toNat v15_3))) (by assumption : lsW (fun i j => Me (be i) j) ls31 v15_3) (by omega)
                    have hv200 : (fup ls31 (Int.toNat v15_3) (ls31 (Int.toNat v15_3))) (Int.toNat v15_3) = (ls31 (Int.toNat v15_3)) := if_pos rfl
                    have hwd1 : wdI (fun i j => Me (be i) j) v15_3 (v31_4 + 1) ((fup ls31 (Int.toNat v15_3) (ls31 (Int.toNat v15_3))) (Int.toNat v15_3)) := by
                      rw [hv200]
                      exact wdi_st (w := (ls31 (Int.toNat z13))) hwd (by omega) pm44 hz54 hw153.1 hw153.2 (by omega) hzq (by omega) (by omega)
                    have hwb1 : wdB v15_3 (v31_4 + 1) ((fup ls31 (Int.toNat v15_3) (ls31 (Int.toNat v15_3))) (Int.toNat v15_3)) := by
                      rw [hv200]
                      exact Or.inl (by omega)
                    refine r_iinc (pc := 201) (v := iv (v31_4 + 1)) (lv' := [(4, .int (iv (v31_4 + 1))), (9, .int (iv (ls31 (Int.toNat z13)))), (0, .ref y), (1, .int (iv x1)), (2, .int (iv (((2 ^ Int.toNat x1 : Nat) : Int) - 1))), (3, .int (iv v15_3)), (5, .int (iv z13)), (6, .int (iv v69_6)), (7, .int (iv v69_7)), (8, .int (iv v69_8))]) dX12_width_201 rfl (iv_add _ _) (by decide) rfl ?_
                    refine r_goto (pc := 204) (tgt := 31) dX12_width_204 (by decide) ?_
                    refine Rn.pick (lv' := [(0, .ref y), (1, .int (iv x1)), (2, .int (iv (((2 ^ Int.toNat x1 : Nat) : Int) - 1))), (3, .int (iv v15_3)), (4, .int (iv (v31_4 + 1)))]) [2, 3, 4, 5, 0] rfl ?_
                    exact ih31 (Int.toNat (16 - (v31_4 + 1))) (by omega) (fup ls31 (Int.toNat v15_3) (ls31 (Int.toNat v15_3))) _ ht34 (v31_4 + 1) ⟨by omega, by omega, by omega, by (first | exact hl200 | exact hl27 | assumption), by (first | exact hwd1 | exact wdi_0 (if_pos rfl)), by (first | exact hwb1 | exact Or.inr (fun i hi => absurd hi (by omega)))⟩ (by omega)
                  · refine r_iload (pc := 189) dX12_width_189 rfl ?_
                    refine r_goto (pc := 191) (tgt := 200) dX12_width_191 (by decide) ?_
                    refine t_iastX (pc := 200) (t0 := 0) ht18 RX_least dX12_width_200 rfl (by decide) (by omega) (by omega) (fun hp35 ht36 => ?_)
                    have ht37 := RXw_ls ht36
                    have hl200 := lsw_up (x := (ls31 (Int.toNat z13))) (by assumption : lsW (fun i j => Me (be i) j) ls31 v15_3) (by omega)
                    have hv200 : (fup ls31 (Int.toNat v15_3) (ls31 (Int.toNat z13))) (Int.toNat v15_3) = (ls31 (Int.toNat z13)) := if_pos rfl
                    have hwd1 : wdI (fun i j => Me (be i) j) v15_3 (v31_4 + 1) ((fup ls31 (Int.toNat v15_3) (ls31 (Int.toNat z13))) (Int.toNat v15_3)) := by
                      rw [hv200]
                      exact wdi_st (w := (ls31 (Int.toNat z13))) hwd (by omega) pm44 hz54 hw153.1 hw153.2 (by omega) hzq (by omega) (by omega)
                    have hwb1 : wdB v15_3 (v31_4 + 1) ((fup ls31 (Int.toNat v15_3) (ls31 (Int.toNat z13))) (Int.toNat v15_3)) := by
                      rw [hv200]
                      exact Or.inl (by omega)
                    refine r_iinc (pc := 201) (v := iv (v31_4 + 1)) (lv' := [(4, .int (iv (v31_4 + 1))), (9, .int (iv (ls31 (Int.toNat z13)))), (0, .ref y), (1, .int (iv x1)), (2, .int (iv (((2 ^ Int.toNat x1 : Nat) : Int) - 1))), (3, .int (iv v15_3)), (5, .int (iv z13)), (6, .int (iv v69_6)), (7, .int (iv v69_7)), (8, .int (iv v69_8))]) dX12_width_201 rfl (iv_add _ _) (by decide) rfl ?_
                    refine r_goto (pc := 204) (tgt := 31) dX12_width_204 (by decide) ?_
                    refine Rn.pick (lv' := [(0, .ref y), (1, .int (iv x1)), (2, .int (iv (((2 ^ Int.toNat x1 : Nat) : Int) - 1))), (3, .int (iv v15_3)), (4, .int (iv (v31_4 + 1)))]) [2, 3, 4, 5, 0] rfl ?_
                    exact ih31 (Int.toNat (16 - (v31_4 + 1))) (by omega) (fup ls31 (Int.toNat v15_3) (ls31 (Int.toNat z13))) _ ht37 (v31_4 + 1) ⟨by omega, by omega, by omega, by (first | exact hl200 | exact hl27 | assumption), by (first | exact hwd1 | exact wdi_0 (if_pos rfl)), by (first | exact hwb1 | exact Or.inr (fun i hi => absurd hi (by omega)))⟩ (by omega)
              · have hwp := (by assumption : wpI (fun i j => Me (be i) j) z13 (Int.toNat v31_4) v69_6 v69_7 v69_8)
                have hpl := Me_sub_le (x := v69_7) (y := v69_6) (by omega) (by omega) hwp.2.2.1
                have hwq0 := wq_0 hwp
                refine r_iload (pc := 76) dX12_width_76 rfl ?_
                refine r_istore (pc := 78) (lv' := [(7, .int (iv v69_6)), (0, .ref y), (1, .int (iv x1)), (2, .int (iv (((2 ^ Int.toNat x1 : Nat) : Int) - 1))), (3, .int (iv v15_3)), (4, .int (iv v31_4)), (5, .int (iv z13)), (6, .int (iv v69_6)), (8, .int (iv v69_8))]) dX12_width_78 (by decide) rfl ?_
                refine r_iconst (pc := 80) (v := iv 0) dX12_width_80 (by decide) ?_
                refine r_istore (pc := 81) (lv' := [(9, .int (iv 0)), (7, .int (iv v69_6)), (0, .ref y), (1, .int (iv x1)), (2, .int (iv (((2 ^ Int.toNat x1 : Nat) : Int) - 1))), (3, .int (iv v15_3)), (4, .int (iv v31_4)), (5, .int (iv z13)), (6, .int (iv v69_6)), (8, .int (iv v69_8))]) dX12_width_81 (by decide) rfl ?_
                have B83 : ∀ k : Nat, ∀ hp83 : MH, Tw (RX Γ cI cJ cZ y rf cn nm so sz dr mn fr tt wt co nu sa wo ln hw ro qi qc nf nt nw nc cl nx ie be sd bl bs wy ra rb lb bg os js ls31 sp jw go de yb ah im) hp83 → ∀  (v83_6 : Int) (v83_8 : Int) (v83_9 : Int), 1 ≤ v83_6 ∧ v83_6 ≤ 65535 ∧ v69_6 ≤ v83_6 ∧ 0 ≤ v83_8 ∧ v83_8 ≤ 65535 ∧ v69_8 ≤ v83_8 ∧ 0 ≤ v83_9 ∧ v83_9 ≤ 16 ∧ (v83_9 ≤ x1) ∧ (0 ≤ v83_6 ∧ v83_6 ≤ 65535) ∧ (0 ≤ v83_8 ∧ v83_8 ≤ 65535) ∧ (wqI (fun i j => Me (be i) j) z13 (Int.toNat v31_4) v69_6 v83_6 v83_8 v83_9) → 16 - v83_9 ≤ (k : Int) → Rn (gG D cI cJ cZ cT lo b L xs) mX12_width d 83 [(0, .ref y), (1, .int (iv x1)), (2, .int (iv (((2 ^ Int.toNat x1 : Nat) : Int) - 1))), (3, .int (iv v15_3)), (4, .int (iv v31_4)), (5, .int (iv z13)), (6, .int (iv v83_6)), (7, .int (iv v69_6)), (8, .int (iv v83_8)), (9, .int (iv v83_9))] [] hp83 n 0 0 Po9 := by
                  refine lpS _ ?_
                  intro k83 ih83 hp83 ht83 v83_6 v83_8 v83_9 hf83 hm83
                  obtain ⟨hf83_0, hf83_1, hf83_2, hf83_3, hf83_4, hf83_5, hf83_6, hf83_7, hf83_8, hf83_9, hf83_10, ha83_11⟩ := hf83
                  refine r_iload (pc := 83) dX12_width_83 rfl ?_
                  refine r_iload_n (pc := 85) dX12_width_85 (i := 1) rfl rfl ?_
                  refine t_icmp_ge (pc := 86) (tgt := 133) dX12_width_86 (by decide) (by omega) (by omega) (fun c86 => ?_) (fun c86 => ?_)
                  · have hwp1 := wq_e (n := Int.toNat x1) (by assumption : wqI (fun i j => Me (be i) j) z13 (Int.toNat v31_4) v69_6 v83_6 v83_8 v83_9) (by omega) (fun i g => by
                      have h9 := (hwp.2.1 i g).1
                      rcases h9 with h9 | h9
                      · rw [h9]; omega
                      · exact hbn i ((hz54 i).mp h9).1)
                    refine r_goto (pc := 133) (tgt := 69) dX12_width_133 (by decide) ?_
                    refine Rn.pick (lv' := [(0, .ref y), (1, .int (iv x1)), (2, .int (iv (((2 ^ Int.toNat x1 : Nat) : Int) - 1))), (3, .int (iv v15_3)), (4, .int (iv v31_4)), (5, .int (iv z13)), (6, .int (iv v83_6)), (7, .int (iv v69_6)), (8, .int (iv v83_8))]) [0, 1, 2, 3, 4, 5, 6, 7, 8] rfl ?_
                    exact ih69 (Int.toNat (65536 - v69_6)) (by omega) _ ht83 v83_6 v69_6 v83_8 ⟨by omega, by omega, by omega, by omega, by omega, by omega, by omega, by omega, by omega, by omega, by (first | exact hwp1 | exact hwp0)⟩ (by omega)
                  · refine r_iload (pc := 89) dX12_width_89 rfl ?_
                    refine r_iload (pc := 91) dX12_width_91 rfl ?_
                    have hq93_38 := shr_le (Int.toNat v69_6) (Int.toNat v83_9)
                    refine r_ishr (pc := 93) (v := iv ((Int.toNat v69_6 >>> Int.toNat v83_9 : Nat) : Int)) dX12_width_93 (shr_e (by omega) (by omega)) ?_
                    refine r_iconst (pc := 94) (v := iv 1) dX12_width_94 (by decide) ?_
                    refine r_iand (pc := 95) (v := iv (((Int.toNat v69_6 >>> Int.toNat v83_9 : Nat) : Int) % 2)) dX12_width_95 (and1_e _ (by omega)) ?_
                    have mb95 := @Me_bit v69_6 v83_9
                    refine r_iconst (pc := 96) (v := iv 1) dX12_width_96 (by decide) ?_
                    refine t_icmp_ne (pc := 97) (tgt := 127) dX12_width_97 (by decide) (by omega) (by omega) (fun c97 => ?_) (fun c97 => ?_)
                    · have nm97 : ¬ Me v69_6 (Int.toNat v83_9) := fun h9 => absurd (Me_bit.mpr h9) (by omega)
                      have hwq := wq_sk (by assumption : wqI (fun i j => Me (be i) j) z13 (Int.toNat v31_4) v69_6 v83_6 v83_8 v83_9) (by omega) nm97
                      refine r_iinc (pc := 127) (v := iv (v83_9 + 1)) (lv' := [(9, .int (iv (v83_9 + 1))), (0, .ref y), (1, .int (iv x1)), (2, .int (iv (((2 ^ Int.toNat x1 : Nat) : Int) - 1))), (3, .int (iv v15_3)), (4, .int (iv v31_4)), (5, .int (iv z13)), (6, .int (iv v83_6)), (7, .int (iv v69_6)), (8, .int (iv v83_8))]) dX12_width_127 rfl (iv_add _ _) (by decide) rfl ?_
                      refine r_goto (pc := 130) (tgt := 83) dX12_width_130 (by decide) ?_
                      refine Rn.pick (lv' := [(0, .ref y), (1, .int (iv x1)), (2, .int (iv (((2 ^ Int.toNat x1 : Nat) : Int) - 1))), (3, .int (iv v15_3)), (4, .int (iv v31_4)), (5, .int (iv z13)), (6, .int (iv v83_6)), (7, .int (iv v69_6)), (8, .int (iv v83_8)), (9, .int (iv (v83_9 + 1)))]) [1, 2, 3, 4, 5, 6, 7, 8, 9, 0] rfl ?_
                      exact ih83 (Int.toNat (16 - (v83_9 + 1))) (by omega) _ ht83 v83_6 v83_8 (v83_9 + 1) ⟨by omega, by omega, by omega, by omega, by omega, by omega, by omega, by omega, by omega, by omega, by omega, by (first | exact hwq | exact hwq0)⟩ (by omega)
                    · have pm97 : Me v69_6 (Int.toNat v83_9) := Me_bit.mp (by omega)
                      refine r_iload (pc := 100) dX12_width_100 rfl ?_
                      refine r_aload_n (pc := 102) dX12_width_102 (i := 0) rfl rfl ?_
                      refine t_getE (pc := 103) (.ref (y + 24)) ht83 (rd_of RX_y) fX12_81 dX12_width_103 rfl ?_
                      refine r_iload (pc := 106) dX12_width_106 rfl ?_
                      refine t_ialdX (pc := 108) (t0 := 0) ht83 (rd_of RX_beside) dX12_width_108 rfl (by decide) (by omega) (fun b39 => ?_)
                      have rb39 := (show Rfx 16 0 65535 be by assumption) (Int.toNat v83_9) (by omega)
                      obtain ⟨z40, hz40, bz40⟩ := or_2 16 v83_8 (be (Int.toNat v83_9)) (by omega) (by omega) (by decide)
                      refine r_ior (pc := 109) (v := iv z40) dX12_width_109 hz40 ?_
                      have mez40 := Me_or hz40 (by omega) (by omega) (by omega)
                      refine r_istore (pc := 110) (lv' := [(8, .int (iv z40)), (0, .ref y), (1, .int (iv x1)), (2, .int (iv (((2 ^ Int.toNat x1 : Nat) : Int) - 1))), (3, .int (iv v15_3)), (4, .int (iv v31_4)), (5, .int (iv z13)), (6, .int (iv v83_6)), (7, .int (iv v69_6)), (9, .int (iv v83_9))]) dX12_width_110 (by decide) rfl ?_
                      refine r_iload (pc := 112) dX12_width_112 rfl ?_
                      refine r_aload_n (pc := 114) dX12_width_114 (i := 0) rfl rfl ?_
                      refine t_getE (pc := 115) (.ref (y + 24)) ht83 (rd_of RX_y) fX12_81 dX12_width_115 rfl ?_
                      refine r_iload (pc := 118) dX12_width_118 rfl ?_
                      refine t_ialdX (pc := 120) (t0 := 0) ht83 (rd_of RX_beside) dX12_width_120 rfl (by decide) (by omega) (fun b41 => ?_)
                      have rb41 := (show Rfx 16 0 65535 be by assumption) (Int.toNat v83_9) (by omega)
                      refine r_iload (pc := 121) dX12_width_121 rfl ?_
                      obtain ⟨z42, hz42, bz42⟩ := and_2 (be (Int.toNat v83_9)) z13 (by omega) (by omega)
                      refine r_iand (pc := 123) (v := iv z42) dX12_width_123 hz42 ?_
                      have mez42 := Me_and hz42 (by omega) (by omega) (by omega)
                      obtain ⟨z43, hz43, bz43⟩ := or_2 16 v83_6 z42 (by omega) (by omega) (by decide)
                      refine r_ior (pc := 124) (v := iv z43) dX12_width_124 hz43 ?_
                      have mez43 := Me_or hz43 (by omega) (by omega) (by omega)
                      have hwq : wqI (fun i j => Me (be i) j) z13 (Int.toNat v31_4) v69_6 z43 z40 (v83_9 + 1) := wq_st (by assumption : wqI (fun i j => Me (be i) j) z13 (Int.toNat v31_4) v69_6 v83_6 v83_8 v83_9) (by omega) pm97 (fun i => mez40 i) (fun i => by rw [mez43 i, mez42 i])
                      refine r_istore (pc := 125) (lv' := [(6, .int (iv z43)), (8, .int (iv z40)), (0, .ref y), (1, .int (iv x1)), (2, .int (iv (((2 ^ Int.toNat x1 : Nat) : Int) - 1))), (3, .int (iv v15_3)), (4, .int (iv v31_4)), (5, .int (iv z13)), (7, .int (iv v69_6)), (9, .int (iv v83_9))]) dX12_width_125 (by decide) rfl ?_
                      refine r_iinc (pc := 127) (v := iv (v83_9 + 1)) (lv' := [(9, .int (iv (v83_9 + 1))), (6, .int (iv z43)), (8, .int (iv z40)), (0, .ref y), (1, .int (iv x1)), (2, .int (iv (((2 ^ Int.toNat x1 : Nat) : Int) - 1))), (3, .int (iv v15_3)), (4, .int (iv v31_4)), (5, .int (iv z13)), (7, .int (iv v69_6))]) dX12_width_127 rfl (iv_add _ _) (by decide) rfl ?_
                      refine r_goto (pc := 130) (tgt := 83) dX12_width_130 (by decide) ?_
                      refine Rn.pick (lv' := [(0, .ref y), (1, .int (iv x1)), (2, .int (iv (((2 ^ Int.toNat x1 : Nat) : Int) - 1))), (3, .int (iv v15_3)), (4, .int (iv v31_4)), (5, .int (iv z13)), (6, .int (iv z43)), (7, .int (iv v69_6)), (8, .int (iv z40)), (9, .int (iv (v83_9 + 1)))]) [3, 4, 5, 6, 7, 8, 1, 9, 2, 0] rfl ?_
                      exact ih83 (Int.toNat (16 - (v83_9 + 1))) (by omega) _ ht83 z43 z40 (v83_9 + 1) ⟨by omega, by omega, by omega, by omega, by omega, by omega, by omega, by omega, by omega, by omega, by omega, by (first | exact hwq | exact hwq0)⟩ (by omega)
                refine Rn.pick (lv' := [(0, .ref y), (1, .int (iv x1)), (2, .int (iv (((2 ^ Int.toNat x1 : Nat) : Int) - 1))), (3, .int (iv v15_3)), (4, .int (iv v31_4)), (5, .int (iv z13)), (6, .int (iv v69_6)), (7, .int (iv v69_6)), (8, .int (iv v69_8)), (9, .int (iv 0))]) [2, 3, 4, 5, 6, 7, 8, 1, 9, 0] rfl ?_
                exact B83 (Int.toNat (16 - 0)) _ ht69 v69_6 v69_8 0 ⟨by omega, by omega, by omega, by omega, by omega, by omega, by omega, by omega, by omega, by omega, by omega, by (first | exact hwq | exact hwq0)⟩ (by omega)
            refine Rn.pick (lv' := [(0, .ref y), (1, .int (iv x1)), (2, .int (iv (((2 ^ Int.toNat x1 : Nat) : Int) - 1))), (3, .int (iv v15_3)), (4, .int (iv v31_4)), (5, .int (iv z13)), (6, .int (iv ((2 ^ Int.toNat v31_4 : Nat) : Int))), (7, .int (iv 0)), (8, .int (iv 0))]) [4, 5, 6, 7, 8, 3, 2, 1, 0] rfl ?_
            exact B69 (Int.toNat (65536 - 0)) _ ht31 ((2 ^ Int.toNat v31_4 : Nat) : Int) 0 0 ⟨by omega, by omega, by omega, by omega, by omega, by omega, by omega, by omega, by omega, by omega, by (first | exact hwp1 | exact hwp0)⟩ (by omega)
      refine Rn.pick (lv' := [(0, .ref y), (1, .int (iv x1)), (2, .int (iv (((2 ^ Int.toNat x1 : Nat) : Int) - 1))), (3, .int (iv v15_3)), (4, .int (iv 0))]) [1, 2, 3, 4, 0] rfl ?_
      exact B31 (Int.toNat (16 - 0)) (fup ls15 (Int.toNat v15_3) 99) _ ht9 0 ⟨by omega, by omega, by omega, by (first | exact hl200 | exact hl27 | assumption), by (first | exact hwd1 | exact wdi_0 (if_pos rfl)), by (first | exact hwb1 | exact Or.inr (fun i hi => absurd hi (by omega)))⟩ (by omega)
  refine Rn.pick (lv' := [(0, .ref y), (1, .int (iv x1)), (2, .int (iv (((2 ^ Int.toNat x1 : Nat) : Int) - 1))), (3, .int (iv 1))]) [2, 3, 1, 0] rfl ?_
  exact B15 (Int.toNat (65536 - 1)) (fup ls (Int.toNat 0) 0) _ ht5 1 ⟨by omega, by omega, by omega, by (first | exact hlE | exact lsw_1 (if_pos rfl))⟩ (by omega)
