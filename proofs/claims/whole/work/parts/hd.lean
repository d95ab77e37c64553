set_option maxHeartbeats 4000000 in
set_option maxRecDepth 100000 in
theorem x_X12_pairs {D : va_G} {cI cJ cZ cT : ClassId} {lo b L : Nat} {xs : Nat → Int32} {hp : MH} {n d : Nat} {Γ : TG} {y : Nat} {rf cn nm : Int} {so sz dr mn fr tt wt co : Nat → Int} {nu : Nat → Int64} {sa : Nat → Int} {wo : Nat → Int64} {ln : Nat → Int} {hw : Nat → Int64} {ro qi qc nf nt nw nc : Nat → Int} {cl nx : Nat → Int64} {ie be sd bl : Nat → Int} {bs wy ra rb : Nat → Int64} {lb bg os js ls : Nat → Int} {sp : Nat → Int64} {jw go : Nat → Int} {de : Nat → Int64} {yb ah im : Nat → Int} {x1 x2 : Int} {Po9 : Option Value → MH → Nat → Prop} (hd0 : 0 ≤ d) (hR_beside : Rfx 16 0 65535 be) (ht : Tw (RX Γ cI cJ cZ y rf cn nm so sz dr mn fr tt wt co nu sa wo ln hw ro qi qc nf nt nw nc cl nx ie be sd bl bs wy ra rb lb bg os js ls sp jw go de yb ah im) hp) (hx1 : 0 ≤ x1 ∧ x1 ≤ 65535) (hx2 : 1 ≤ x2 ∧ x2 ≤ 16) (hx9 : x1.toNat < 2 ^ x2.toNat) (hsy9 : ∀ i j : Nat, i < 16 → j < 16 → Me (be i) j → Me (be j) i) (hPo : ∀ r hp1 n1, (n1 = n ∧ ∃ (q9 : Int64) (w1 : Nat → Int), Tw (RX Γ cI cJ cZ y rf cn nm so sz dr mn fr tt wt co nu sa wo ln hw ro qi qc nf nt nw nc cl nx ie be sd bl bs wy ra rb lb bg os js w1 sp jw go de yb ah im) hp1 ∧ r = some (.long q9) ∧ (maA (fun i j => Me (be i) j) (Me x1) q9.toInt) ∧ (lsM (fun i j => Me (be i) j) w1 (x1 + 1))) → Po9 r hp1 n1) : Mt (gG D cI cJ cZ cT lo b L xs) mX12_pairs d 0 0 [.ref y, .int (iv x1), .int (iv x2)] hp n Po9 := by
  refine Mt.of rfl (Nat.le_of_ble_eq_true rfl) ?_
  refine Rn.pick (lv' := [(0, .ref y), (1, .int (iv x1)), (2, .int (iv x2))]) [0, 1, 2] rfl ?_
  have mp5 : 1 ≤ 2 ^ x2.toNat := Nat.one_le_two_pow
  have mq5 : 2 ^ x2.toNat ≤ 2 ^ 16 := Nat.pow_le_pow_right (by omega) (by omega)
  refine r_iconst (pc := 0) (v := iv 0) dX12_pairs_0 (by decide) ?_
  refine r_istore_n (pc := 1) (lv' := [(3, .int (iv 0)), (0, .ref y), (1, .int (iv x1)), (2, .int (iv x2))]) dX12_pairs_1 (i := 3) rfl (by decide) rfl ?_
  have B2 : ∀ k : Nat, ∀ ls2 : Nat → Int, ∀ hp2 : MH, Tw (RX Γ cI cJ cZ y rf cn nm so sz dr mn fr tt wt co nu sa wo ln hw ro qi qc nf nt nw nc cl nx ie be sd bl bs wy ra rb lb bg os js ls2 sp jw go de yb ah im) hp2 → ∀  (v2_3 : Int), 0 ≤ v2_3 ∧ v2_3 ≤ 65536 ∧ (v2_3 ≤ x1 + 1) ∧ (lsM (fun i j => Me (be i) j) ls2 v2_3) → 65536 - v2_3 ≤ (k : Int) → Rn (gG D cI cJ cZ cT lo b L xs) mX12_pairs d 2 [(0, .ref y), (1, .int (iv x1)), (2, .int (iv x2)), (3, .int (iv v2_3))] [] hp2 n 0 0 Po9 := by
    refine lpS _ ?_
    intro k2 ih2 ls2 hp2 ht2 v2_3 hf2 hm2
    obtain ⟨hf2_0, hf2_1, hf2_2, ha2_3⟩ := hf2
    refine r_iload_n (pc := 2) dX12_pairs_2 (i := 3) rfl rfl ?_
    refine r_iload_n (pc := 3) dX12_pairs_3 (i := 1) rfl rfl ?_
    refine t_icmp_gt (pc := 4) (tgt := 165) dX12_pairs_4 (by decide) (by omega) (by omega) (fun c4 => ?_) (fun c4 => ?_)
    · refine r_aload_n (pc := 165) dX12_pairs_165 (i := 0) rfl rfl ?_
      refine t_getE (pc := 166) (.ref (y + 35)) ht2 (rd_of RX_y) fX12_115 dX12_pairs_166 rfl ?_
      refine r_iload_n (pc := 169) dX12_pairs_169 (i := 1) rfl rfl ?_
      refine t_ialdX (pc := 170) (t0 := 0) ht2 (rd_of RX_least) dX12_pairs_170 rfl (by decide) (by omega) (fun b1 => ?_)
      refine r_i2l (pc := 171) (v := (iv (ls2 (Int.toNat x1))).toInt64) dX12_pairs_171 rfl ?_
      exact r_lret (pc := 172) dX12_pairs_172 rfl (hPo _ _ _ ⟨rfl, ((iv (ls2 (Int.toNat x1))).toInt64), ls2, ht2, rfl, (by (rw [iv_long (by omega)]; exact lsm_at (by assumption : lsM (fun i j => Me (be i) j) ls2 v2_3) (by omega) (by omega))), (by (rw [show x1 + 1 = v2_3 by omega]; assumption))⟩)
    · refine r_aload_n (pc := 7) dX12_pairs_7 (i := 0) rfl rfl ?_
      refine t_getE (pc := 8) (.ref (y + 35)) ht2 (rd_of RX_y) fX12_115 dX12_pairs_8 rfl ?_
      refine r_iload_n (pc := 11) dX12_pairs_11 (i := 3) rfl rfl ?_
      refine r_iconst (pc := 12) (v := iv 0) dX12_pairs_12 (by decide) ?_
      refine t_iastX (pc := 13) (t0 := 0) ht2 RX_least dX12_pairs_13 rfl (by decide) (by omega) (by omega) (fun hp2 ht3 => ?_)
      have ht4 := RXw_ls ht3
      have hl13 := lsm_up (x := 0) (by assumption : lsM (fun i j => Me (be i) j) ls2 v2_3) (by omega)
      refine r_iconst (pc := 14) (v := iv 0) dX12_pairs_14 (by decide) ?_
      refine r_istore (pc := 15) (lv' := [(4, .int (iv 0)), (0, .ref y), (1, .int (iv x1)), (2, .int (iv x2)), (3, .int (iv v2_3))]) dX12_pairs_15 (by decide) rfl ?_
      have B17 : ∀ k : Nat, ∀ hp17 : MH, Tw (RX Γ cI cJ cZ y rf cn nm so sz dr mn fr tt wt co nu sa wo ln hw ro qi qc nf nt nw nc cl nx ie be sd bl bs wy ra rb lb bg os js (fup ls2 (Int.toNat v2_3) 0) sp jw go de yb ah im) hp17 → ∀  (v17_4 : Int), 0 ≤ v17_4 ∧ v17_4 ≤ 16 ∧ (v17_4 ≤ x2) ∧ (∀ j : Nat, (j : Int) < v17_4 → ¬ Me v2_3 j) → 16 - v17_4 ≤ (k : Int) → Rn (gG D cI cJ cZ cT lo b L xs) mX12_pairs d 17 [(0, .ref y), (1, .int (iv x1)), (2, .int (iv x2)), (3, .int (iv v2_3)), (4, .int (iv v17_4))] [] hp17 n 0 0 Po9 := by
        refine lpS _ ?_
        intro k17 ih17 hp17 ht17 v17_4 hf17 hm17
        obtain ⟨hf17_0, hf17_1, hf17_2, ha17_3⟩ := hf17
        refine r_iload (pc := 17) dX12_pairs_17 rfl ?_
        refine r_iload_n (pc := 19) dX12_pairs_19 (i := 2) rfl rfl ?_
        have B38 : ∀ hp38 : MH, Tw (RX Γ cI cJ cZ y rf cn nm so sz dr mn fr tt wt co nu sa wo ln hw ro qi qc nf nt nw nc cl nx ie be sd bl bs wy ra rb lb bg os js (fup ls2 (Int.toNat v2_3) 0) sp jw go de yb ah im) hp38 → (v17_4 ≤ x2) ∧ (lwtP v2_3 v17_4 x2) → Rn (gG D cI cJ cZ cT lo b L xs) mX12_pairs d 38 [(0, .ref y), (1, .int (iv x1)), (2, .int (iv x2)), (3, .int (iv v2_3)), (4, .int (iv v17_4))] [] hp38 n 0 0 Po9 := by
          intro hp38 ht38 hf38
          obtain ⟨hf38_0, ha38_1⟩ := hf38
          refine r_iload (pc := 38) dX12_pairs_38 rfl ?_
          refine r_iload_n (pc := 40) dX12_pairs_40 (i := 2) rfl rfl ?_
          refine t_icmp_ge (pc := 41) (tgt := 159) dX12_pairs_41 (by decide) (by omega) (by omega) (fun c41 => ?_) (fun c41 => ?_)
          · have hlp := (by assumption : lwtP v2_3 v17_4 x2)
            have hbn : ∀ i, Me v2_3 i → i < Int.toNat x2 := fun i g => Me_bd g (by omega)
            have hno := (hlp.resolve_left (fun g9 => by have := g9.1; omega)).2
            have hlE : lsM (fun i j => Me (be i) j) (fup ls2 (Int.toNat v2_3) 0) (v2_3 + 1) := lsm_st hl13 (by omega) (by
              rw [show (fup ls2 (Int.toNat v2_3) 0) (Int.toNat v2_3) = 0 from if_pos rfl]
              exact ma_nil (fun i g => hno i (by have := hbn i g; omega) g))
            clear hlp
            refine r_iinc (pc := 159) (v := iv (v2_3 + 1)) (lv' := [(3, .int (iv (v2_3 + 1))), (0, .ref y), (1, .int (iv x1)), (2, .int (iv x2)), (4, .int (iv v17_4))]) dX12_pairs_159 rfl (iv_add _ _) (by decide) rfl ?_
            refine r_goto (pc := 162) (tgt := 2) dX12_pairs_162 (by decide) ?_
            refine Rn.pick (lv' := [(0, .ref y), (1, .int (iv x1)), (2, .int (iv x2)), (3, .int (iv (v2_3 + 1)))]) [1, 2, 3, 0] rfl ?_
            exact ih2 (Int.toNat (65536 - (v2_3 + 1))) (by omega) (fup ls2 (Int.toNat v2_3) 0) _ ht38 (v2_3 + 1) ⟨by omega, by omega, by omega, by (first | exact hlE | exact lsm_0)⟩ (by omega)
          · have hlp := (by assumption : lwtP v2_3 v17_4 x2)
            have hbn : ∀ i, Me v2_3 i → i < Int.toNat x2 := fun i g => Me_bd g (by omega)
            obtain ⟨-, hml, hmn⟩ := hlp.resolve_right (fun g9 => by have := g9.1; omega)
            clear hlp
            refine r_iload_n (pc := 44) dX12_pairs_44 (i := 3) rfl rfl ?_
            refine r_iconst (pc := 45) (v := iv 1) dX12_pairs_45 (by decide) ?_
            refine r_iload (pc := 46) dX12_pairs_46 rfl ?_
            refine r_ishl (pc := 48) (v := iv ((2 ^ Int.toNat v17_4 : Nat) : Int)) dX12_pairs_48 (shl_e (by omega)) ?_
            have mp48_5 : 1 ≤ 2 ^ Int.toNat v17_4 := Nat.one_le_two_pow
            have mq48_6 : 2 ^ Int.toNat v17_4 ≤ 2 ^ 15 := Nat.pow_le_pow_right (by omega) (by omega)
            have ms48 := Me_shl (Int.toNat v17_4)
            refine r_iconst (pc := 49) (v := iv (-1)) dX12_pairs_49 (by decide) ?_
            refine r_ixor (pc := 50) (v := iv (-((2 ^ Int.toNat v17_4 : Nat) : Int) - 1)) dX12_pairs_50 (iv_not _) ?_
            obtain ⟨z7, hz7, bz7⟩ := and_l v2_3 (-((2 ^ Int.toNat v17_4 : Nat) : Int) - 1) (by omega) (by omega)
            refine r_iand (pc := 51) (v := iv z7) dX12_pairs_51 hz7 ?_
            have mez7 := Me_not (y := ((2 ^ Int.toNat v17_4 : Nat) : Int)) hz7 (by omega) (by omega) (by omega)
            have hz51 : ∀ j, Me z7 j ↔ Me v2_3 j ∧ j ≠ (Int.toNat v17_4) := fun j => by rw [mez7 j, ms48 j]
            have hlt51 := su_lt (by omega) (by omega) (fun j g => ((hz51 j).mp g).1) hml (fun g => ((hz51 _).mp g).2 rfl)
            refine r_istore (pc := 52) (lv' := [(5, .int (iv z7)), (0, .ref y), (1, .int (iv x1)), (2, .int (iv x2)), (3, .int (iv v2_3)), (4, .int (iv v17_4))]) dX12_pairs_52 (by decide) rfl ?_
            refine r_aload_n (pc := 54) dX12_pairs_54 (i := 0) rfl rfl ?_
            refine t_getE (pc := 55) (.ref (y + 35)) ht38 (rd_of RX_y) fX12_115 dX12_pairs_55 rfl ?_
            refine r_iload_n (pc := 58) dX12_pairs_58 (i := 3) rfl rfl ?_
            refine r_aload_n (pc := 59) dX12_pairs_59 (i := 0) rfl rfl ?_
            refine t_getE (pc := 60) (.ref (y + 35)) ht38 (rd_of RX_y) fX12_115 dX12_pairs_60 rfl ?_
            refine r_iload (pc := 63) dX12_pairs_63 rfl ?_
            refine t_ialdX (pc := 65) (t0 := 0) ht38 (rd_of RX_least) dX12_pairs_65 rfl (by decide) (by omega) (fun b8 => ?_)
            have hma65 := lsm_at hl13 (s := z7) (by omega) hlt51
            have hmb65 := ma_b (by omega) hma65
            refine t_iastX (pc := 66) (t0 := 0) ht38 RX_least dX12_pairs_66 rfl (by decide) (by omega) (by omega) (fun hp9 ht10 => ?_)
            have ht11 := RXw_ls ht10
            have hl66 := lsm_up (x := (fup ls2 (Int.toNat v2_3) 0) (Int.toNat z7)) hl13 (by omega)
            have hmp66 : mpI (fun i j => Me (be i) j) v2_3 (Int.toNat v17_4) (v17_4 + 1) ((fup (fup ls2 (Int.toNat v2_3) 0) (Int.toNat v2_3) ((fup ls2 (Int.toNat v2_3) 0) (Int.toNat z7))) (Int.toNat v2_3)) := by
              rw [show (fup (fup ls2 (Int.toNat v2_3) 0) (Int.toNat v2_3) ((fup ls2 (Int.toNat v2_3) 0) (Int.toNat z7))) (Int.toNat v2_3) = (fup ls2 (Int.toNat v2_3) 0) (Int.toNat z7) from if_pos rfl]
              exact mpi_0 hz51 hma65 (fun j hj g => by
                by_cases e : (j : Int) < v17_4
                · exact hmn j e g.1
                · exact g.2 (by omega))
            refine r_iload (pc := 67) dX12_pairs_67 rfl ?_
            refine r_iconst (pc := 69) (v := iv 1) dX12_pairs_69 (by decide) ?_
            refine r_iadd (pc := 70) (v := iv (v17_4 + 1)) dX12_pairs_70 (iv_add _ _) ?_
            refine r_istore (pc := 71) (lv' := [(6, .int (iv (v17_4 + 1))), (5, .int (iv z7)), (0, .ref y), (1, .int (iv x1)), (2, .int (iv x2)), (3, .int (iv v2_3)), (4, .int (iv v17_4))]) dX12_pairs_71 (by decide) rfl ?_
            have B73 : ∀ k : Nat, ∀ ls73 : Nat → Int, ∀ hp73 : MH, Tw (RX Γ cI cJ cZ y rf cn nm so sz dr mn fr tt wt co nu sa wo ln hw ro qi qc nf nt nw nc cl nx ie be sd bl bs wy ra rb lb bg os js ls73 sp jw go de yb ah im) hp73 → ∀  (v73_6 : Int), 1 ≤ v73_6 ∧ v73_6 ≤ 16 ∧ v17_4 + 1 ≤ v73_6 ∧ (v73_6 ≤ x2 + 1) ∧ (v17_4 < v73_6) ∧ (lsM (fun i j => Me (be i) j) ls73 v2_3) ∧ (mpI (fun i j => Me (be i) j) v2_3 (Int.toNat v17_4) v73_6 (ls73 (Int.toNat v2_3))) → 16 - v73_6 ≤ (k : Int) → Rn (gG D cI cJ cZ cT lo b L xs) mX12_pairs d 73 [(0, .ref y), (1, .int (iv x1)), (2, .int (iv x2)), (3, .int (iv v2_3)), (4, .int (iv v17_4)), (5, .int (iv z7)), (6, .int (iv v73_6))] [] hp73 n 0 0 Po9 := by
              refine lpS _ ?_
              intro k73 ih73 ls73 hp73 ht73 v73_6 hf73 hm73
              obtain ⟨hf73_0, hf73_1, hf73_2, hf73_3, hf73_4, ha73_5, ha73_6⟩ := hf73
              refine r_iload (pc := 73) dX12_pairs_73 rfl ?_
              refine r_iload_n (pc := 75) dX12_pairs_75 (i := 2) rfl rfl ?_
              refine t_icmp_ge (pc := 76) (tgt := 159) dX12_pairs_76 (by decide) (by omega) (by omega) (fun c76 => ?_) (fun c76 => ?_)
              · have hlE := lsm_st (by assumption : lsM (fun i j => Me (be i) j) ls73 v2_3) (by omega) (mpi_e (by assumption : mpI (fun i j => Me (be i) j) v2_3 (Int.toNat v17_4) v73_6 (ls73 (Int.toNat v2_3))) (fun i j gi gj => hsy9 i j (by have := hbn i gi; omega) (by have := hbn j gj; omega)) hml hbn (by omega))
                refine r_iinc (pc := 159) (v := iv (v2_3 + 1)) (lv' := [(3, .int (iv (v2_3 + 1))), (0, .ref y), (1, .int (iv x1)), (2, .int (iv x2)), (4, .int (iv v17_4)), (5, .int (iv z7)), (6, .int (iv v73_6))]) dX12_pairs_159 rfl (iv_add _ _) (by decide) rfl ?_
                refine r_goto (pc := 162) (tgt := 2) dX12_pairs_162 (by decide) ?_
                refine Rn.pick (lv' := [(0, .ref y), (1, .int (iv x1)), (2, .int (iv x2)), (3, .int (iv (v2_3 + 1)))]) [1, 2, 3, 0] rfl ?_
                exact ih2 (Int.toNat (65536 - (v2_3 + 1))) (by omega) ls73 _ ht73 (v2_3 + 1) ⟨by omega, by omega, by omega, by (first | exact hlE | exact lsm_0)⟩ (by omega)
              · refine r_iload (pc := 79) dX12_pairs_79 rfl ?_
                refine r_iload (pc := 81) dX12_pairs_81 rfl ?_
                have hq83_12 := shr_le (Int.toNat z7) (Int.toNat v73_6)
                refine r_ishr (pc := 83) (v := iv ((Int.toNat z7 >>> Int.toNat v73_6 : Nat) : Int)) dX12_pairs_83 (shr_e (by omega) (by omega)) ?_
                refine r_iconst (pc := 84) (v := iv 1) dX12_pairs_84 (by decide) ?_
                refine r_iand (pc := 85) (v := iv (((Int.toNat z7 >>> Int.toNat v73_6 : Nat) : Int) % 2)) dX12_pairs_85 (and1_e _ (by omega)) ?_
                have mb85 := @Me_bit z7 v73_6
                refine r_iconst (pc := 86) (v := iv 1) dX12_pairs_86 (by decide) ?_
                refine t_icmp_ne (pc := 87) (tgt := 153) dX12_pairs_87 (by decide) (by omega) (by omega) (fun c87 => ?_) (fun c87 => ?_)
                · have nm87 : ¬ Me z7 (Int.toNat v73_6) := fun h9 => absurd (Me_bit.mpr h9) (by omega)
                  have hmp := mpi_sk (by assumption : mpI (fun i j => Me (be i) j) v2_3 (Int.toNat v17_4) v73_6 (ls73 (Int.toNat v2_3))) (by omega) (fun g1 g2 _ => absurd ((hz51 _).mpr ⟨g1, g2⟩) nm87)
                  refine r_iinc (pc := 153) (v := iv (v73_6 + 1)) (lv' := [(6, .int (iv (v73_6 + 1))), (0, .ref y), (1, .int (iv x1)), (2, .int (iv x2)), (3, .int (iv v2_3)), (4, .int (iv v17_4)), (5, .int (iv z7))]) dX12_pairs_153 rfl (iv_add _ _) (by decide) rfl ?_
                  refine r_goto (pc := 156) (tgt := 73) dX12_pairs_156 (by decide) ?_
                  refine Rn.pick (lv' := [(0, .ref y), (1, .int (iv x1)), (2, .int (iv x2)), (3, .int (iv v2_3)), (4, .int (iv v17_4)), (5, .int (iv z7)), (6, .int (iv (v73_6 + 1)))]) [1, 2, 3, 4, 5, 6, 0] rfl ?_
                  exact ih73 (Int.toNat (16 - (v73_6 + 1))) (by omega) ls73 _ ht73 (v73_6 + 1) ⟨by omega, by omega, by omega, by omega, by omega, by (first | exact hl152 | assumption | exact hl66), by (first | exact hmp | exact hmp66)⟩ (by omega)
                · have pm87 : Me z7 (Int.toNat v73_6) := Me_bit.mp (by omega)
                  have hu1 := (hz51 _).mp pm87
                  refine r_aload_n (pc := 90) dX12_pairs_90 (i := 0) rfl rfl ?_
                  refine t_getE (pc := 91) (.ref (y + 24)) ht73 (rd_of RX_y) fX12_81 dX12_pairs_91 rfl ?_
                  refine r_iload (pc := 94) dX12_pairs_94 rfl ?_
                  refine t_ialdX (pc := 96) (t0 := 0) ht73 (rd_of RX_beside) dX12_pairs_96 rfl (by decide) (by omega) (fun b13 => ?_)
                  have rb13 := (show Rfx 16 0 65535 be by assumption) (Int.toNat v17_4) (by omega)
                  refine r_iload (pc := 97) dX12_pairs_97 rfl ?_
                  have hq99_14 := shr_le (Int.toNat (be (Int.toNat v17_4))) (Int.toNat v73_6)
                  refine r_ishr (pc := 99) (v := iv ((Int.toNat (be (Int.toNat v17_4)) >>> Int.toNat v73_6 : Nat) : Int)) dX12_pairs_99 (shr_e (by omega) (by omega)) ?_
                  refine r_iconst (pc := 100) (v := iv 1) dX12_pairs_100 (by decide) ?_
                  refine r_iand (pc := 101) (v := iv (((Int.toNat (be (Int.toNat v17_4)) >>> Int.toNat v73_6 : Nat) : Int) % 2)) dX12_pairs_101 (and1_e _ (by omega)) ?_
                  have mb101 := @Me_bit (be (Int.toNat v17_4)) v73_6
                  refine r_iconst (pc := 102) (v := iv 1) dX12_pairs_102 (by decide) ?_
                  refine t_icmp_ne (pc := 103) (tgt := 153) dX12_pairs_103 (by decide) (by omega) (by omega) (fun c103 => ?_) (fun c103 => ?_)
                  · have nm103 : ¬ Me (be (Int.toNat v17_4)) (Int.toNat v73_6) := fun h9 => absurd (Me_bit.mpr h9) (by omega)
                    have hmp := mpi_sk (by assumption : mpI (fun i j => Me (be i) j) v2_3 (Int.toNat v17_4) v73_6 (ls73 (Int.toNat v2_3))) (by omega) (fun _ _ g3 => absurd g3 nm103)
                    refine r_iinc (pc := 153) (v := iv (v73_6 + 1)) (lv' := [(6, .int (iv (v73_6 + 1))), (0, .ref y), (1, .int (iv x1)), (2, .int (iv x2)), (3, .int (iv v2_3)), (4, .int (iv v17_4)), (5, .int (iv z7))]) dX12_pairs_153 rfl (iv_add _ _) (by decide) rfl ?_
                    refine r_goto (pc := 156) (tgt := 73) dX12_pairs_156 (by decide) ?_
                    refine Rn.pick (lv' := [(0, .ref y), (1, .int (iv x1)), (2, .int (iv x2)), (3, .int (iv v2_3)), (4, .int (iv v17_4)), (5, .int (iv z7)), (6, .int (iv (v73_6 + 1)))]) [1, 2, 3, 4, 5, 6, 0] rfl ?_
                    exact ih73 (Int.toNat (16 - (v73_6 + 1))) (by omega) ls73 _ ht73 (v73_6 + 1) ⟨by omega, by omega, by omega, by omega, by omega, by (first | exact hl152 | assumption | exact hl66), by (first | exact hmp | exact hmp66)⟩ (by omega)
                  · have pm103 : Me (be (Int.toNat v17_4)) (Int.toNat v73_6) := Me_bit.mp (by omega)
                    refine r_aload_n (pc := 106) dX12_pairs_106 (i := 0) rfl rfl ?_
                    refine t_getE (pc := 107) (.ref (y + 35)) ht73 (rd_of RX_y) fX12_115 dX12_pairs_107 rfl ?_
                    refine r_iload (pc := 110) dX12_pairs_110 rfl ?_
                    refine r_iconst (pc := 112) (v := iv 1) dX12_pairs_112 (by decide) ?_
                    refine r_iload (pc := 113) dX12_pairs_113 rfl ?_
                    refine r_ishl (pc := 115) (v := iv ((2 ^ Int.toNat v73_6 : Nat) : Int)) dX12_pairs_115 (shl_e (by omega)) ?_
                    have mp115_15 : 1 ≤ 2 ^ Int.toNat v73_6 := Nat.one_le_two_pow
                    have mq115_16 : 2 ^ Int.toNat v73_6 ≤ 2 ^ 15 := Nat.pow_le_pow_right (by omega) (by omega)
                    have ms115 := Me_shl (Int.toNat v73_6)
                    refine r_iconst (pc := 116) (v := iv (-1)) dX12_pairs_116 (by decide) ?_
                    refine r_ixor (pc := 117) (v := iv (-((2 ^ Int.toNat v73_6 : Nat) : Int) - 1)) dX12_pairs_117 (iv_not _) ?_
                    obtain ⟨z17, hz17, bz17⟩ := and_l z7 (-((2 ^ Int.toNat v73_6 : Nat) : Int) - 1) (by omega) (by omega)
                    refine r_iand (pc := 118) (v := iv z17) dX12_pairs_118 hz17 ?_
                    have mez17 := Me_not (y := ((2 ^ Int.toNat v73_6 : Nat) : Int)) hz17 (by omega) (by omega) (by omega)
                    have hz118 : ∀ j, Me z17 j ↔ (Me v2_3 j ∧ j ≠ (Int.toNat v17_4)) ∧ j ≠ (Int.toNat v73_6) := fun j => by rw [mez17 j, ms115 j, hz51 j]
                    have hlt118 := su_lt (s := z17) (S := v2_3) (by omega) (by omega) (fun j g => ((hz118 j).mp g).1.1) hml (fun g => ((hz118 _).mp g).1.2 rfl)
                    refine t_ialdX (pc := 119) (t0 := 0) ht73 (rd_of RX_least) dX12_pairs_119 rfl (by decide) (by omega) (fun b18 => ?_)
                    have hma119 := lsm_at (by assumption : lsM (fun i j => Me (be i) j) ls73 v2_3) (s := z17) (by omega) hlt118
                    have hmb119 := ma_b (by omega) hma119
                    refine r_iconst (pc := 120) (v := iv 1) dX12_pairs_120 (by decide) ?_
                    refine r_iadd (pc := 121) (v := iv ((ls73 (Int.toNat z17)) + 1)) dX12_pairs_121 (iv_add _ _) ?_
                    refine r_aload_n (pc := 122) dX12_pairs_122 (i := 0) rfl rfl ?_
                    refine t_getE (pc := 123) (.ref (y + 35)) ht73 (rd_of RX_y) fX12_115 dX12_pairs_123 rfl ?_
                    refine r_iload_n (pc := 126) dX12_pairs_126 (i := 3) rfl rfl ?_
                    refine t_ialdX (pc := 127) (t0 := 0) ht73 (rd_of RX_least) dX12_pairs_127 rfl (by decide) (by omega) (fun b19 => ?_)
                    refine t_icmp_le (pc := 128) (tgt := 153) dX12_pairs_128 (by decide) (by omega) (by omega) (fun c128 => ?_) (fun c128 => ?_)
                    · have hmp := mpi_sk (by assumption : mpI (fun i j => Me (be i) j) v2_3 (Int.toNat v17_4) v73_6 (ls73 (Int.toNat v2_3))) (by omega) (fun _ _ _ k9 hk9 => by have h9 := ma_le hma119 (mt_mo (fun i g => (hz118 i).mpr ⟨⟨g.1, g.2.1⟩, g.2.2⟩) hk9); omega)
                      refine r_iinc (pc := 153) (v := iv (v73_6 + 1)) (lv' := [(6, .int (iv (v73_6 + 1))), (0, .ref y), (1, .int (iv x1)), (2, .int (iv x2)), (3, .int (iv v2_3)), (4, .int (iv v17_4)), (5, .int (iv z7))]) dX12_pairs_153 rfl (iv_add _ _) (by decide) rfl ?_
                      refine r_goto (pc := 156) (tgt := 73) dX12_pairs_156 (by decide) ?_
                      refine Rn.pick (lv' := [(0, .ref y), (1, .int (iv x1)), (2, .int (iv x2)), (3, .int (iv v2_3)), (4, .int (iv v17_4)), (5, .int (iv z7)), (6, .int (iv (v73_6 + 1)))]) [1, 2, 3, 4, 5, 6, 0] rfl ?_
                      exact ih73 (Int.toNat (16 - (v73_6 + 1))) (by omega) ls73 _ ht73 (v73_6 + 1) ⟨by omega, by omega, by omega, by omega, by omega, by (first | exact hl152 | assumption | exact hl66), by (first | exact hmp | exact hmp66)⟩ (by omega)
                    · refine r_aload_n (pc := 131) dX12_pairs_131 (i := 0) rfl rfl ?_
                      refine t_getE (pc := 132) (.ref (y + 35)) ht73 (rd_of RX_y) fX12_115 dX12_pairs_132 rfl ?_
                      refine r_iload_n (pc := 135) dX12_pairs_135 (i := 3) rfl rfl ?_
                      refine r_aload_n (pc := 136) dX12_pairs_136 (i := 0) rfl rfl ?_
                      refine t_getE (pc := 137) (.ref (y + 35)) ht73 (rd_of RX_y) fX12_115 dX12_pairs_137 rfl ?_
                      refine r_iload (pc := 140) dX12_pairs_140 rfl ?_
                      refine r_iconst (pc := 142) (v := iv 1) dX12_pairs_142 (by decide) ?_
                      refine r_iload (pc := 143) dX12_pairs_143 rfl ?_
                      refine r_ishl (pc := 145) (v := iv ((2 ^ Int.toNat v73_6 : Nat) : Int)) dX12_pairs_145 (shl_e (by omega)) ?_
                      have mp145_20 : 1 ≤ 2 ^ Int.toNat v73_6 := Nat.one_le_two_pow
                      have mq145_21 : 2 ^ Int.toNat v73_6 ≤ 2 ^ 15 := Nat.pow_le_pow_right (by omega) (by omega)
                      have ms145 := Me_shl (Int.toNat v73_6)
                      refine r_iconst (pc := 146) (v := iv (-1)) dX12_pairs_146 (by decide) ?_
                      refine r_ixor (pc := 147) (v := iv (-((2 ^ Int.toNat v73_6 : Nat) : Int) - 1)) dX12_pairs_147 (iv_not _) ?_
                      obtain ⟨z22, hz22, bz22⟩ := and_l z7 (-((2 ^ Int.toNat v73_6 : Nat) : Int) - 1) (by omega) (by omega)
                      refine r_iand (pc := 148) (v := iv z22) dX12_pairs_148 hz22 ?_
                      have mez22 := Me_not (y := ((2 ^ Int.toNat v73_6 : Nat) : Int)) hz22 (by omega) (by omega) (by omega)
                      have hz148 : ∀ j, Me z22 j ↔ (Me v2_3 j ∧ j ≠ (Int.toNat v17_4)) ∧ j ≠ (Int.toNat v73_6) := fun j => by rw [mez22 j, ms145 j, hz51 j]
                      have hlt148 := su_lt (s := z22) (S := v2_3) (by omega) (by omega) (fun j g => ((hz148 j).mp g).1.1) hml (fun g => ((hz148 _).mp g).1.2 rfl)
                      refine t_ialdX (pc := 149) (t0 := 0) ht73 (rd_of RX_least) dX12_pairs_149 rfl (by decide) (by omega) (fun b23 => ?_)
                      have hma149 := lsm_at (by assumption : lsM (fun i j => Me (be i) j) ls73 v2_3) (s := z22) (by omega) hlt148
                      have hmb149 := ma_b (by omega) hma149
                      refine r_iconst (pc := 150) (v := iv 1) dX12_pairs_150 (by decide) ?_
                      refine r_iadd (pc := 151) (v := iv ((ls73 (Int.toNat z22)) + 1)) dX12_pairs_151 (iv_add _ _) ?_
                      refine t_iastX (pc := 152) (t0 := 0) ht73 RX_least dX12_pairs_152 rfl (by decide) (by omega) (by omega) (fun hp24 ht25 => ?_)
                      have ht26 := RXw_ls ht25
                      have hl152 := lsm_up (x := ls73 (Int.toNat z22) + 1) (by assumption : lsM (fun i j => Me (be i) j) ls73 v2_3) (by omega)
                      have hmp : mpI (fun i j => Me (be i) j) v2_3 (Int.toNat v17_4) (v73_6 + 1) ((fup ls73 (Int.toNat v2_3) ((ls73 (Int.toNat z22)) + 1)) (Int.toNat v2_3)) := by
                        rw [show (fup ls73 (Int.toNat v2_3) ((ls73 (Int.toNat z22)) + 1)) (Int.toNat v2_3) = ls73 (Int.toNat z22) + 1 from if_pos rfl]
                        exact mpi_tk (by assumption : mpI (fun i j => Me (be i) j) v2_3 (Int.toNat v17_4) v73_6 (ls73 (Int.toNat v2_3))) (by omega) hml hu1.1 hu1.2 pm103 hz148 hma149 (by have h9 := ma_uq hma119 (ma_cg (fun i => (hz118 i).trans (hz148 i).symm) (fun _ _ _ _ => Iff.rfl) hma149); omega)
                      refine r_iinc (pc := 153) (v := iv (v73_6 + 1)) (lv' := [(6, .int (iv (v73_6 + 1))), (0, .ref y), (1, .int (iv x1)), (2, .int (iv x2)), (3, .int (iv v2_3)), (4, .int (iv v17_4)), (5, .int (iv z7))]) dX12_pairs_153 rfl (iv_add _ _) (by decide) rfl ?_
                      refine r_goto (pc := 156) (tgt := 73) dX12_pairs_156 (by decide) ?_
                      refine Rn.pick (lv' := [(0, .ref y), (1, .int (iv x1)), (2, .int (iv x2)), (3, .int (iv v2_3)), (4, .int (iv v17_4)), (5, .int (iv z7)), (6, .int (iv (v73_6 + 1)))]) [1, 2, 3, 4, 5, 6, 0] rfl ?_
                      exact ih73 (Int.toNat (16 - (v73_6 + 1))) (by omega) (fup ls73 (Int.toNat v2_3) ((ls73 (Int.toNat z22)) + 1)) _ ht26 (v73_6 + 1) ⟨by omega, by omega, by omega, by omega, by omega, by (first | exact hl152 | assumption | exact hl66), by (first | exact hmp | exact hmp66)⟩ (by omega)
            refine Rn.pick (lv' := [(0, .ref y), (1, .int (iv x1)), (2, .int (iv x2)), (3, .int (iv v2_3)), (4, .int (iv v17_4)), (5, .int (iv z7)), (6, .int (iv (v17_4 + 1)))]) [2, 3, 4, 5, 6, 1, 0] rfl ?_
            exact B73 (Int.toNat (16 - (v17_4 + 1))) (fup (fup ls2 (Int.toNat v2_3) 0) (Int.toNat v2_3) ((fup ls2 (Int.toNat v2_3) 0) (Int.toNat z7))) _ ht11 (v17_4 + 1) ⟨by omega, by omega, by omega, by omega, by omega, by (first | exact hl152 | assumption | exact hl66), by (first | exact hmp | exact hmp66)⟩ (by omega)
        refine t_icmp_ge (pc := 20) (tgt := 38) dX12_pairs_20 (by decide) (by omega) (by omega) (fun c20 => ?_) (fun c20 => ?_)
        · refine Rn.pick (lv' := [(0, .ref y), (1, .int (iv x1)), (2, .int (iv x2)), (3, .int (iv v2_3)), (4, .int (iv v17_4))]) [0, 1, 2, 3, 4] rfl ?_
          exact B38 _ ht17 ⟨by omega, by (first | exact Or.inl ⟨by omega, pm29, by assumption⟩ | exact Or.inr ⟨by omega, by assumption⟩)⟩
        · refine r_iload_n (pc := 23) dX12_pairs_23 (i := 3) rfl rfl ?_
          refine r_iload (pc := 24) dX12_pairs_24 rfl ?_
          have hq26_27 := shr_le (Int.toNat v2_3) (Int.toNat v17_4)
          refine r_ishr (pc := 26) (v := iv ((Int.toNat v2_3 >>> Int.toNat v17_4 : Nat) : Int)) dX12_pairs_26 (shr_e (by omega) (by omega)) ?_
          refine r_iconst (pc := 27) (v := iv 1) dX12_pairs_27 (by decide) ?_
          refine r_iand (pc := 28) (v := iv (((Int.toNat v2_3 >>> Int.toNat v17_4 : Nat) : Int) % 2)) dX12_pairs_28 (and1_e _ (by omega)) ?_
          have mb28 := @Me_bit v2_3 v17_4
          refine t_if_ne (pc := 29) (tgt := 38) dX12_pairs_29 (by decide) (by omega) (fun c29 => ?_) (fun c29 => ?_)
          · have pm29 : Me v2_3 (Int.toNat v17_4) := Me_bit.mp (by omega)
            refine Rn.pick (lv' := [(0, .ref y), (1, .int (iv x1)), (2, .int (iv x2)), (3, .int (iv v2_3)), (4, .int (iv v17_4))]) [0, 1, 2, 3, 4] rfl ?_
            exact B38 _ ht17 ⟨by omega, by (first | exact Or.inl ⟨by omega, pm29, by assumption⟩ | exact Or.inr ⟨by omega, by assumption⟩)⟩
          · have nm29 : ¬ Me v2_3 (Int.toNat v17_4) := fun h9 => absurd (Me_bit.mpr h9) (by omega)
            have hlw := lw_up (by assumption : ∀ j : Nat, (j : Int) < v17_4 → ¬ Me v2_3 j) (by omega) nm29
            refine r_iinc (pc := 32) (v := iv (v17_4 + 1)) (lv' := [(4, .int (iv (v17_4 + 1))), (0, .ref y), (1, .int (iv x1)), (2, .int (iv x2)), (3, .int (iv v2_3))]) dX12_pairs_32 rfl (iv_add _ _) (by decide) rfl ?_
            refine r_goto (pc := 35) (tgt := 17) dX12_pairs_35 (by decide) ?_
            refine Rn.pick (lv' := [(0, .ref y), (1, .int (iv x1)), (2, .int (iv x2)), (3, .int (iv v2_3)), (4, .int (iv (v17_4 + 1)))]) [1, 2, 3, 4, 0] rfl ?_
            exact ih17 (Int.toNat (16 - (v17_4 + 1))) (by omega) _ ht17 (v17_4 + 1) ⟨by omega, by omega, by omega, by (first | exact hlw | (intro j hj; exfalso; omega))⟩ (by omega)
      refine Rn.pick (lv' := [(0, .ref y), (1, .int (iv x1)), (2, .int (iv x2)), (3, .int (iv v2_3)), (4, .int (iv 0))]) [1, 2, 3, 4, 0] rfl ?_
      exact B17 (Int.toNat (16 - 0)) _ ht4 0 ⟨by omega, by omega, by omega, by (first | exact hlw | (intro j hj; exfalso; omega))⟩ (by omega)
  refine Rn.pick (lv' := [(0, .ref y), (1, .int (iv x1)), (2, .int (iv x2)), (3, .int (iv 0))]) [1, 2, 3, 0] rfl ?_
  exact B2 (Int.toNat (65536 - 0)) ls _ ht 0 ⟨by omega, by omega, by omega, by (first | exact hlE | exact lsm_0)⟩ (by omega)
