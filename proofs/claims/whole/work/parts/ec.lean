theorem kb_fin {f : Nat → Int} {q k : Int} (h : kbP f q k) (h0 : 0 ≤ k) : f k.toNat < 1000000000000 := by
  rcases h with ⟨a, -⟩ | ⟨-, -, a, -⟩
  · omega
  · exact a
set_option maxHeartbeats 4000000 in
set_option maxRecDepth 100000 in
theorem x_X12_fill {D : va_G} {cI cJ cZ cT : ClassId} {lo b L : Nat} {xs : Nat → Int32} {hp : MH} {n d : Nat} {Γ : TG} {y : Nat} {rf cn nm : Int} {so sz dr mn fr tt wt co : Nat → Int} {nu : Nat → Int64} {sa : Nat → Int} {wo : Nat → Int64} {ln : Nat → Int} {hw : Nat → Int64} {ro qi qc nf nt nw nc : Nat → Int} {cl nx : Nat → Int64} {ie be sd bl : Nat → Int} {bs wy ra rb : Nat → Int64} {lb bg os js ls : Nat → Int} {sp : Nat → Int64} {jw go : Nat → Int} {de : Nat → Int64} {yb ah im : Nat → Int} {x1 x2 x3 x4 x5 : Int} {j6 : Int64} {Po9 : Option Value → MH → Nat → Prop} (hd0 : 4 ≤ d) (hR_sizes : Rfx 121 0 16 sz) (hR_many : Rfx 121 0 60 mn) (hR_from : Rfx 7260 0 15 fr) (hR_to : Rfx 7260 0 15 tt) (hR_weight : Rfx 7260 (-1000) 1000 wt) (hR_directs : Rfx 121 0 1 dr) (hR_state : Rfx 1936 0 2 sa) (hR_long1 : Rfx 1936 (-1) 15 ln) (hR_rows : Rfx 30976 0 59 ro) (ht : Tw (RX Γ cI cJ cZ y rf cn nm so sz dr mn fr tt wt co nu sa wo ln hw ro qi qc nf nt nw nc cl nx ie be sd bl bs wy ra rb lb bg os js ls sp jw go de yb ah im) hp) (hx1 : 0 ≤ x1 ∧ x1 ≤ 119) (hx2 : 0 ≤ x2 ∧ x2 ≤ 120) (hx3 : 0 ≤ x3 ∧ x3 ≤ 2) (hx4 : 0 ≤ x4 ∧ x4 ≤ 15) (hx5 : 0 ≤ x5 ∧ x5 ≤ 15) (hEn : enP fr tt mn sz x2) (hx9 : x4 < (sz (Int.toNat x2)) ∧ x5 < (sz (Int.toNat x2))) (hPo : ∀ r hp1 n1, (n1 = n ∧ ∃ (sa1 : Nat → Int) (wo1 : Nat → Int64) (ln1 : Nat → Int) (hw1 : Nat → Int64) (ro1 : Nat → Int) (bs1 : Nat → Int64) (wy1 : Nat → Int64) (ra1 : Nat → Int64) (rb1 : Nat → Int64), Tw (RX Γ cI cJ cZ y rf cn nm so sz dr mn fr tt wt co nu sa1 wo1 ln1 hw1 ro1 qi qc nf nt nw nc cl nx ie be sd bl bs1 wy1 ra1 rb1 lb bg os js ls sp jw go de yb ah im) hp1 ∧ r = none ∧ (fiP (Int.toNat (mn (Int.toNat x2))) (dr (Int.toNat x2)) (sh fr (60 * x2)) (sh tt (60 * x2)) (sh wt (60 * x2)) x3 j6.toInt (Int.toNat x4) (sz (Int.toNat x2)) x5 (sa1 (Int.toNat (16 * x1 + x5))) (wo1 (Int.toNat (16 * x1 + x5))) (ln1 (Int.toNat (16 * x1 + x5))) (hw1 (Int.toNat (16 * x1 + x5))) (sh ro1 (256 * x1 + 16 * x5))) ∧ (∀ j, j ≠ (Int.toNat (16 * x1 + x5)) → sa1 j = sa j) ∧ (∀ j, j ≠ (Int.toNat (16 * x1 + x5)) → wo1 j = wo j) ∧ (∀ j, j ≠ (Int.toNat (16 * x1 + x5)) → ln1 j = ln j) ∧ (∀ j, j ≠ (Int.toNat (16 * x1 + x5)) → hw1 j = hw j) ∧ (∀ i : Nat, ((i : Int) < (256 * x1 + 16 * x5) ∨ (256 * x1 + 16 * x5) + 16 ≤ (i : Int)) → ro1 i = ro i) ∧ (Rfx 1936 0 2 sa1) ∧ (Rfx 1936 (-1) 15 ln1) ∧ (Rfx 30976 0 59 ro1)) → Po9 r hp1 n1) : Mt (gG D cI cJ cZ cT lo b L xs) mX12_fill d 0 0 [.ref y, .int (iv x1), .int (iv x2), .int (iv x3), .int (iv x4), .int (iv x5), .long j6] hp n Po9 := by
  refine Mt.of rfl (Nat.le_of_ble_eq_true rfl) ?_
  refine Rn.pick (lv' := [(0, .ref y), (1, .int (iv x1)), (2, .int (iv x2)), (3, .int (iv x3)), (4, .int (iv x4)), (5, .int (iv x5)), (6, .long j6)]) [0, 1, 2, 3, 4, 5, 6] rfl ?_
  have rsz2 := hR_sizes (Int.toNat x2) (by omega)
  have rmn2 := hR_many (Int.toNat x2) (by omega)
  have hFT := enF hEn (by assumption) (by assumption) (by omega) (by omega)
  refine r_aload_n (pc := 0) dX12_fill_0 (i := 0) rfl rfl ?_
  refine t_getE (pc := 1) (.ref (y + 2)) ht (rd_of RX_y) fX12_13 dX12_fill_1 rfl ?_
  refine r_iload_n (pc := 4) dX12_fill_4 (i := 2) rfl rfl ?_
  refine t_ialdX (pc := 5) (t0 := 0) ht (rd_of RX_sizes) dX12_fill_5 rfl (by decide) (by omega) (fun b1 => ?_)
  have rb1 := (show Rfx 121 0 16 sz by assumption) (Int.toNat x2) (by omega)
  refine r_istore (pc := 6) (lv' := [(8, .int (iv (sz (Int.toNat x2)))), (0, .ref y), (1, .int (iv x1)), (2, .int (iv x2)), (3, .int (iv x3)), (4, .int (iv x4)), (5, .int (iv x5)), (6, .long j6)]) dX12_fill_6 (by decide) rfl ?_
  refine r_bipush (pc := 8) (v := iv 16) dX12_fill_8 (by decide) ?_
  refine r_iload_n (pc := 10) dX12_fill_10 (i := 1) rfl rfl ?_
  refine r_imul (pc := 11) (v := iv (16 * x1)) dX12_fill_11 (iv_mul _ _) ?_
  refine r_iload (pc := 12) dX12_fill_12 rfl ?_
  refine r_iadd (pc := 14) (v := iv ((16 * x1) + x5)) dX12_fill_14 (iv_add _ _) ?_
  refine r_istore (pc := 15) (lv' := [(9, .int (iv ((16 * x1) + x5))), (8, .int (iv (sz (Int.toNat x2)))), (0, .ref y), (1, .int (iv x1)), (2, .int (iv x2)), (3, .int (iv x3)), (4, .int (iv x4)), (5, .int (iv x5)), (6, .long j6)]) dX12_fill_15 (by decide) rfl ?_
  refine r_aload_n (pc := 17) dX12_fill_17 (i := 0) rfl rfl ?_
  refine t_getE (pc := 18) (.ref (y + 10)) ht (rd_of RX_y) fX12_39 dX12_fill_18 rfl ?_
  refine r_iload (pc := 21) dX12_fill_21 rfl ?_
  refine r_iconst (pc := 23) (v := iv 0) dX12_fill_23 (by decide) ?_
  refine t_iastX (pc := 24) (t0 := 0) ht RX_state dX12_fill_24 rfl (by decide) (by omega) (by omega) (fun hp2 ht3 => ?_)
  have ht4 := RXw_sa ht3
  have hqht4 : Rfx 1936 0 2 (fup sa (Int.toNat ((16 * x1) + x5)) 0) := Rfx_up (by assumption) (by omega)
  refine r_aload_n (pc := 25) dX12_fill_25 (i := 0) rfl rfl ?_
  refine t_getE (pc := 26) (.ref (y + 11)) ht4 (rd_of RX_y) fX12_42 dX12_fill_26 rfl ?_
  refine r_iload (pc := 29) dX12_fill_29 rfl ?_
  refine r_lconst (pc := 31) (v := 0) dX12_fill_31 (by decide) ?_
  have hk31 : (0 : Int64).toInt = 0 := by decide
  refine t_lastX (pc := 32) (t0 := 1) ht4 RX_worth dX12_fill_32 rfl (by decide) (by omega) (fun hp5 ht6 => ?_)
  have ht7 := RXw_wo ht6
  refine r_aload_n (pc := 33) dX12_fill_33 (i := 0) rfl rfl ?_
  refine t_getE (pc := 34) (.ref (y + 12)) ht7 (rd_of RX_y) fX12_45 dX12_fill_34 rfl ?_
  refine r_iload (pc := 37) dX12_fill_37 rfl ?_
  refine r_iconst (pc := 39) (v := iv (-1)) dX12_fill_39 (by decide) ?_
  refine t_iastX (pc := 40) (t0 := 0) ht7 RX_long1 dX12_fill_40 rfl (by decide) (by omega) (by omega) (fun hp8 ht9 => ?_)
  have ht10 := RXw_ln ht9
  have hqht10 : Rfx 1936 (-1) 15 (fup ln (Int.toNat ((16 * x1) + x5)) (-1)) := Rfx_up (by assumption) (by omega)
  refine r_aload_n (pc := 41) dX12_fill_41 (i := 0) rfl rfl ?_
  refine t_getE (pc := 42) (.ref (y + 13)) ht10 (rd_of RX_y) fX12_48 dX12_fill_42 rfl ?_
  refine r_iload (pc := 45) dX12_fill_45 rfl ?_
  refine r_lconst (pc := 47) (v := 0) dX12_fill_47 (by decide) ?_
  have hk47 : (0 : Int64).toInt = 0 := by decide
  refine t_lastX (pc := 48) (t0 := 1) ht10 RX_howMany dX12_fill_48 rfl (by decide) (by omega) (fun hp11 ht12 => ?_)
  have ht13 := RXw_hw ht12
  refine r_aload_n (pc := 49) dX12_fill_49 (i := 0) rfl rfl ?_
  refine r_iload_n (pc := 50) dX12_fill_50 (i := 2) rfl rfl ?_
  refine r_iload_n (pc := 51) dX12_fill_51 (i := 3) rfl rfl ?_
  refine r_iload (pc := 52) dX12_fill_52 rfl ?_
  refine r_iload (pc := 54) dX12_fill_54 rfl ?_
  refine r_lload (pc := 56) dX12_fill_56 rfl ?_
  obtain ⟨fs18, hfs18⟩ := t_obj ht13 (rd_of RX_y)
  refine r_callV (pc := 58) (as := [.int (iv x2), .int (iv x3), .int (iv x4), .int (iv (sz (Int.toNat x2))), .long j6]) (st := []) kX12_272 rfl dX12_fill_58 hfs18 (x_X12_spread (d := d - 1) (x1 := x2) (x2 := x3) (x3 := x4) (x4 := sz (Int.toNat x2)) (j5 := j6) (by omega) (by assumption) (by assumption) (by assumption) (by assumption) (by assumption) (by assumption) ht13 (by omega) (by omega) (by omega) (by omega) (by assumption) (fun _ _ _ h => h)) rfl (by omega) (Nat.le_of_ble_eq_true rfl) (Nat.zero_le _) (Nat.zero_le _) rfl (fun r15 hp14 n16 hq17 => ?_)
  obtain ⟨hnn16, k1_20, w1_21, ht19, hrr15, hhq170⟩ := hq17
  subst n16 r15
  have hhq170 : spP (Int.toNat (mn (Int.toNat x2))) (dr (Int.toNat x2)) (sh fr (60 * x2)) (sh tt (60 * x2)) (sh wt (60 * x2)) x3 j6.toInt (Int.toNat x4) (sz (Int.toNat x2)) k1_20 w1_21 ((sz (Int.toNat x2)) + 1) 0 := hhq170
  change Rn _ _ _ 61 _ [] _ _ _ _ _
  have hsp : spP (Int.toNat (mn (Int.toNat x2))) (dr (Int.toNat x2)) (sh fr (60 * x2)) (sh tt (60 * x2)) (sh wt (60 * x2)) x3 j6.toInt (Int.toNat x4) (sz (Int.toNat x2)) k1_20 w1_21 ((sz (Int.toNat x2)) + 1) 0 := hhq170
  refine r_iconst (pc := 61) (v := iv (-1)) dX12_fill_61 (by decide) ?_
  refine r_istore (pc := 62) (lv' := [(10, .int (iv (-1))), (9, .int (iv ((16 * x1) + x5))), (8, .int (iv (sz (Int.toNat x2)))), (0, .ref y), (1, .int (iv x1)), (2, .int (iv x2)), (3, .int (iv x3)), (4, .int (iv x4)), (5, .int (iv x5)), (6, .long j6)]) dX12_fill_62 (by decide) rfl ?_
  refine r_iconst (pc := 64) (v := iv 0) dX12_fill_64 (by decide) ?_
  refine r_istore (pc := 65) (lv' := [(11, .int (iv 0)), (10, .int (iv (-1))), (9, .int (iv ((16 * x1) + x5))), (8, .int (iv (sz (Int.toNat x2)))), (0, .ref y), (1, .int (iv x1)), (2, .int (iv x2)), (3, .int (iv x3)), (4, .int (iv x4)), (5, .int (iv x5)), (6, .long j6)]) dX12_fill_65 (by decide) rfl ?_
  have B67 : ∀ k : Nat, ∀ hp67 : MH, Tw (RX Γ cI cJ cZ y rf cn nm so sz dr mn fr tt wt co nu (fup sa (Int.toNat ((16 * x1) + x5)) 0) (fuj wo (Int.toNat ((16 * x1) + x5)) (0 : Int64)) (fup ln (Int.toNat ((16 * x1) + x5)) (-1)) (fuj hw (Int.toNat ((16 * x1) + x5)) (0 : Int64)) ro qi qc nf nt nw nc cl nx ie be sd bl k1_20 w1_21 ra rb lb bg os js ls sp jw go de yb ah im) hp67 → ∀  (v67_10 : Int) (v67_11 : Int), (-1) ≤ v67_10 ∧ v67_10 ≤ 15 ∧ 0 ≤ v67_11 ∧ v67_11 ≤ 16 ∧ (v67_11 ≤ (sz (Int.toNat x2))) ∧ (v67_10 < v67_11) ∧ (kbP (fun i => bT (Int.toNat (mn (Int.toNat x2))) (dr (Int.toNat x2)) (sh fr (60 * x2)) (sh tt (60 * x2)) (sh wt (60 * x2)) x3 j6.toInt (Int.toNat x4) i (Int.toNat x5)) v67_11 v67_10) → 16 - v67_11 ≤ (k : Int) → Rn (gG D cI cJ cZ cT lo b L xs) mX12_fill d 67 [(0, .ref y), (1, .int (iv x1)), (2, .int (iv x2)), (3, .int (iv x3)), (4, .int (iv x4)), (5, .int (iv x5)), (6, .long j6), (8, .int (iv (sz (Int.toNat x2)))), (9, .int (iv ((16 * x1) + x5))), (10, .int (iv v67_10)), (11, .int (iv v67_11))] [] hp67 n 0 0 Po9 := by
    refine lpS _ ?_
    intro k67 ih67 hp67 ht67 v67_10 v67_11 hf67 hm67
    obtain ⟨hf67_0, hf67_1, hf67_2, hf67_3, hf67_4, hf67_5, ha67_6⟩ := hf67
    refine r_iload (pc := 67) dX12_fill_67 rfl ?_
    refine r_iload (pc := 69) dX12_fill_69 rfl ?_
    refine t_icmp_ge (pc := 71) (tgt := 136) dX12_fill_71 (by decide) (by omega) (by omega) (fun c71 => ?_) (fun c71 => ?_)
    · refine r_iload (pc := 136) dX12_fill_136 rfl ?_
      refine t_if_ge (pc := 138) (tgt := 142) dX12_fill_138 (by decide) (by omega) (fun c138 => ?_) (fun c138 => ?_)
      · refine r_iload_n (pc := 142) dX12_fill_142 (i := 3) rfl rfl ?_
        have B167 : ∀ ra167 : Nat → Int64, ∀ rb167 : Nat → Int64, ∀ hp167 : MH, Tw (RX Γ cI cJ cZ y rf cn nm so sz dr mn fr tt wt co nu (fup sa (Int.toNat ((16 * x1) + x5)) 0) (fuj wo (Int.toNat ((16 * x1) + x5)) (0 : Int64)) (fup ln (Int.toNat ((16 * x1) + x5)) (-1)) (fuj hw (Int.toNat ((16 * x1) + x5)) (0 : Int64)) ro qi qc nf nt nw nc cl nx ie be sd bl k1_20 w1_21 ra167 rb167 lb bg os js ls sp jw go de yb ah im) hp167 → (¬ (x3 = 0 ∧ edP (Int.toNat (mn (Int.toNat x2))) (dr (Int.toNat x2)) (sh fr (60 * x2)) (sh tt (60 * x2)) (sh wt (60 * x2)) (sz (Int.toNat x2)) (Int.toNat x4) (Int.toNat x5))) → Rn (gG D cI cJ cZ cT lo b L xs) mX12_fill d 167 [(0, .ref y), (1, .int (iv x1)), (2, .int (iv x2)), (3, .int (iv x3)), (5, .int (iv x5)), (6, .long j6), (9, .int (iv ((16 * x1) + x5))), (10, .int (iv v67_10))] [] hp167 n 0 0 Po9 := by
          intro ra167 rb167 hp167 ht167 hf167
          have ha167_0 := hf167
          refine r_aload_n (pc := 167) dX12_fill_167 (i := 0) rfl rfl ?_
          refine t_getE (pc := 168) (.ref (y + 10)) ht167 (rd_of RX_y) fX12_39 dX12_fill_168 rfl ?_
          refine r_iload (pc := 171) dX12_fill_171 rfl ?_
          refine r_iconst (pc := 173) (v := iv 1) dX12_fill_173 (by decide) ?_
          refine t_iastX (pc := 174) (t0 := 0) ht167 RX_state dX12_fill_174 rfl (by decide) (by omega) (by omega) (fun hp22 ht23 => ?_)
          have ht24 := RXw_sa ht23
          have hqht24 : Rfx 1936 0 2 (fup (fup sa (Int.toNat ((16 * x1) + x5)) 0) (Int.toNat ((16 * x1) + x5)) 1) := Rfx_up (by assumption) (by omega)
          refine r_aload_n (pc := 175) dX12_fill_175 (i := 0) rfl rfl ?_
          refine t_getE (pc := 176) (.ref (y + 11)) ht24 (rd_of RX_y) fX12_42 dX12_fill_176 rfl ?_
          refine r_iload (pc := 179) dX12_fill_179 rfl ?_
          refine r_iload_n (pc := 181) dX12_fill_181 (i := 3) rfl rfl ?_
          have B214 : ∀ hp214 : MH, Tw (RX Γ cI cJ cZ y rf cn nm so sz dr mn fr tt wt co nu (fup (fup sa (Int.toNat ((16 * x1) + x5)) 0) (Int.toNat ((16 * x1) + x5)) 1) (fuj wo (Int.toNat ((16 * x1) + x5)) (0 : Int64)) (fup ln (Int.toNat ((16 * x1) + x5)) (-1)) (fuj hw (Int.toNat ((16 * x1) + x5)) (0 : Int64)) ro qi qc nf nt nw nc cl nx ie be sd bl k1_20 w1_21 ra167 rb167 lb bg os js ls sp jw go de yb ah im) hp214 → ∀  (x214_2 : Int64), (x214_2.toInt = (if x3 = 0 then bT (Int.toNat (mn (Int.toNat x2))) (dr (Int.toNat x2)) (sh fr (60 * x2)) (sh tt (60 * x2)) (sh wt (60 * x2)) x3 j6.toInt (Int.toNat x4) (Int.toNat v67_10) (Int.toNat x5) else if x3 = 1 then v67_10 else j6.toInt)) → Rn (gG D cI cJ cZ cT lo b L xs) mX12_fill d 214 [(0, .ref y), (1, .int (iv x1)), (2, .int (iv x2)), (3, .int (iv x3)), (5, .int (iv x5)), (6, .long j6), (9, .int (iv ((16 * x1) + x5))), (10, .int (iv v67_10))] [.long x214_2, .int (iv ((16 * x1) + x5)), .ref (y + 11)] hp214 n 0 0 Po9 := by
            intro hp214 ht214 x214_2 hf214
            have ha214_0 := hf214
            refine t_lastX (pc := 214) (t0 := 1) ht214 RX_worth dX12_fill_214 rfl (by decide) (by omega) (fun hp25 ht26 => ?_)
            have ht27 := RXw_wo ht26
            refine r_aload_n (pc := 215) dX12_fill_215 (i := 0) rfl rfl ?_
            refine t_getE (pc := 216) (.ref (y + 12)) ht27 (rd_of RX_y) fX12_45 dX12_fill_216 rfl ?_
            refine r_iload (pc := 219) dX12_fill_219 rfl ?_
            refine r_iload (pc := 221) dX12_fill_221 rfl ?_
            refine t_iastX (pc := 223) (t0 := 0) ht27 RX_long1 dX12_fill_223 rfl (by decide) (by omega) (by omega) (fun hp28 ht29 => ?_)
            have ht30 := RXw_ln ht29
            have hqht30 : Rfx 1936 (-1) 15 (fup (fup ln (Int.toNat ((16 * x1) + x5)) (-1)) (Int.toNat ((16 * x1) + x5)) v67_10) := Rfx_up (by assumption) (by omega)
            refine r_aload_n (pc := 224) dX12_fill_224 (i := 0) rfl rfl ?_
            refine t_getE (pc := 225) (.ref (y + 13)) ht30 (rd_of RX_y) fX12_48 dX12_fill_225 rfl ?_
            refine r_iload (pc := 228) dX12_fill_228 rfl ?_
            refine r_aload_n (pc := 230) dX12_fill_230 (i := 0) rfl rfl ?_
            refine t_getE (pc := 231) (.ref (y + 28)) ht30 (rd_of RX_y) fX12_94 dX12_fill_231 rfl ?_
            refine r_bipush (pc := 234) (v := iv 16) dX12_fill_234 (by decide) ?_
            refine r_iload (pc := 236) dX12_fill_236 rfl ?_
            refine r_imul (pc := 238) (v := iv (16 * v67_10)) dX12_fill_238 (iv_mul _ _) ?_
            refine r_iload (pc := 239) dX12_fill_239 rfl ?_
            refine r_iadd (pc := 241) (v := iv ((16 * v67_10) + x5)) dX12_fill_241 (iv_add _ _) ?_
            refine t_laldX (pc := 242) (t0 := 1) ht30 (rd_of RX_ways1) dX12_fill_242 rfl (by decide) (by omega) ?_
            have hb242 := (sp_at (k := v67_10) (u := x5) hsp (by omega) (by omega)).2
            refine t_lastX (pc := 243) (t0 := 1) ht30 RX_howMany dX12_fill_243 rfl (by decide) (by omega) (fun hp31 ht32 => ?_)
            have ht33 := RXw_hw ht32
            refine r_iload (pc := 244) dX12_fill_244 rfl ?_
            refine r_istore (pc := 246) (lv' := [(11, .int (iv x5)), (0, .ref y), (1, .int (iv x1)), (2, .int (iv x2)), (3, .int (iv x3)), (5, .int (iv x5)), (6, .long j6), (9, .int (iv ((16 * x1) + x5))), (10, .int (iv v67_10))]) dX12_fill_246 (by decide) rfl ?_
            refine r_iload (pc := 248) dX12_fill_248 rfl ?_
            refine r_istore (pc := 250) (lv' := [(12, .int (iv v67_10)), (11, .int (iv x5)), (0, .ref y), (1, .int (iv x1)), (2, .int (iv x2)), (3, .int (iv x3)), (5, .int (iv x5)), (6, .long j6), (9, .int (iv ((16 * x1) + x5))), (10, .int (iv v67_10))]) dX12_fill_250 (by decide) rfl ?_
            have B252 : ∀ k : Nat, ∀ ro252 : Nat → Int, ∀ hp252 : MH, Tw (RX Γ cI cJ cZ y rf cn nm so sz dr mn fr tt wt co nu (fup (fup sa (Int.toNat ((16 * x1) + x5)) 0) (Int.toNat ((16 * x1) + x5)) 1) (fuj (fuj wo (Int.toNat ((16 * x1) + x5)) (0 : Int64)) (Int.toNat ((16 * x1) + x5)) x214_2) (fup (fup ln (Int.toNat ((16 * x1) + x5)) (-1)) (Int.toNat ((16 * x1) + x5)) v67_10) (fuj (fuj hw (Int.toNat ((16 * x1) + x5)) (0 : Int64)) (Int.toNat ((16 * x1) + x5)) (w1_21 (Int.toNat ((16 * v67_10) + x5)))) ro252 qi qc nf nt nw nc cl nx ie be sd bl k1_20 w1_21 ra167 rb167 lb bg os js ls sp jw go de yb ah im) hp252 → ∀  (v252_11 : Int) (v252_12 : Int), 0 ≤ v252_11 ∧ v252_11 ≤ 15 ∧ 0 ≤ v252_12 ∧ v252_12 ≤ 15 ∧ v252_12 ≤ v67_10 ∧ (Rfx 30976 0 59 ro252) ∧ (v252_11 < (sz (Int.toNat x2))) ∧ (v252_12 ≤ v67_10) ∧ (hid (1 ≤ v252_12 → bT (Int.toNat (mn (Int.toNat x2))) (dr (Int.toNat x2)) (sh fr (60 * x2)) (sh tt (60 * x2)) (sh wt (60 * x2)) x3 j6.toInt (Int.toNat x4) (Int.toNat v252_12) (Int.toNat v252_11) < 1000000000000)) ∧ (tcC (Int.toNat (mn (Int.toNat x2))) (dr (Int.toNat x2)) (sh fr (60 * x2)) (sh tt (60 * x2)) (sh wt (60 * x2)) x3 j6.toInt (Int.toNat x4) v67_10 x5 v252_12 v252_11 (sh ro252 (256 * x1 + 16 * x5))) ∧ (∀ i : Nat, ((i : Int) < (256 * x1 + 16 * x5) ∨ (256 * x1 + 16 * x5) + 16 ≤ (i : Int)) → ro252 i = ro i) → v252_12 - 0 ≤ (k : Int) → Rn (gG D cI cJ cZ cT lo b L xs) mX12_fill d 252 [(0, .ref y), (1, .int (iv x1)), (2, .int (iv x2)), (3, .int (iv x3)), (5, .int (iv x5)), (6, .long j6), (11, .int (iv v252_11)), (12, .int (iv v252_12))] [] hp252 n 0 0 Po9 := by
              refine lpS _ ?_
              intro k252 ih252 ro252 hp252 ht252 v252_11 v252_12 hf252 hm252
              obtain ⟨hf252_0, hf252_1, hf252_2, hf252_3, hf252_4, ha252_5, hf252_6, hf252_7, ha252_8, ha252_9, ha252_10⟩ := hf252
              refine r_iload (pc := 252) dX12_fill_252 rfl ?_
              refine t_if_le (pc := 254) (tgt := 323) dX12_fill_254 (by decide) (by omega) (fun c254 => ?_) (fun c254 => ?_)
              · exact r_vret (pc := 323) dX12_fill_323 rfl (hPo _ _ _ ⟨rfl, (fup (fup sa (Int.toNat ((16 * x1) + x5)) 0) (Int.toNat ((16 * x1) + x5)) 1), (fuj (fuj wo (Int.toNat ((16 * x1) + x5)) (0 : Int64)) (Int.toNat ((16 * x1) + x5)) x214_2), (fup (fup ln (Int.toNat ((16 * x1) + x5)) (-1)) (Int.toNat ((16 * x1) + x5)) v67_10), (fuj (fuj hw (Int.toNat ((16 * x1) + x5)) (0 : Int64)) (Int.toNat ((16 * x1) + x5)) (w1_21 (Int.toNat ((16 * v67_10) + x5)))), ro252, k1_20, w1_21, ra167, rb167, ht252, rfl, (by (exact ⟨v67_10, (by have h8 := (by assumption : kbP (fun i => bT (Int.toNat (mn (Int.toNat x2))) (dr (Int.toNat x2)) (sh fr (60 * x2)) (sh tt (60 * x2)) (sh wt (60 * x2)) x3 j6.toInt (Int.toNat x4) i (Int.toNat x5)) v67_11 v67_10); rw [show v67_11 = (sz (Int.toNat x2)) by omega] at h8; exact h8), Or.inr (Or.inr ⟨by omega, by assumption, fup_s _ _ _, by rw [fuj_s]; assumption, fup_s _ _ _, by rw [fuj_s]; exact hb242, tcc_end (by assumption) (by omega)⟩)⟩)), (by (intro j hj; (repeat rw [fup_o _ _ hj]))), (by (intro j hj; (repeat rw [fuj_o _ _ hj]))), (by (intro j hj; (repeat rw [fup_o _ _ hj]))), (by (intro j hj; (repeat rw [fuj_o _ _ hj]))), (by (first | assumption | (intro i hi; rfl))), (by assumption), (by assumption), (by assumption)⟩)
              · refine r_iconst (pc := 257) (v := iv 0) dX12_fill_257 (by decide) ?_
                refine r_istore (pc := 258) (lv' := [(13, .int (iv 0)), (0, .ref y), (1, .int (iv x1)), (2, .int (iv x2)), (3, .int (iv x3)), (5, .int (iv x5)), (6, .long j6), (11, .int (iv v252_11)), (12, .int (iv v252_12))]) dX12_fill_258 (by decide) rfl ?_
                have hx258 : lxB (Int.toNat (mn (Int.toNat x2))) (dr (Int.toNat x2)) (sh fr (60 * x2)) (sh tt (60 * x2)) (sh wt (60 * x2)) x3 j6.toInt (Int.toNat x4) v252_12 v252_11 0 := lxb_0 (by omega) (by omega) (hid_o (by assumption : hid (1 ≤ v252_12 → bT (Int.toNat (mn (Int.toNat x2))) (dr (Int.toNat x2)) (sh fr (60 * x2)) (sh tt (60 * x2)) (sh wt (60 * x2)) x3 j6.toInt (Int.toNat x4) (Int.toNat v252_12) (Int.toNat v252_11) < 1000000000000)) (by omega))
                have B260 : ∀ k : Nat, ∀ hp260 : MH, Tw (RX Γ cI cJ cZ y rf cn nm so sz dr mn fr tt wt co nu (fup (fup sa (Int.toNat ((16 * x1) + x5)) 0) (Int.toNat ((16 * x1) + x5)) 1) (fuj (fuj wo (Int.toNat ((16 * x1) + x5)) (0 : Int64)) (Int.toNat ((16 * x1) + x5)) x214_2) (fup (fup ln (Int.toNat ((16 * x1) + x5)) (-1)) (Int.toNat ((16 * x1) + x5)) v67_10) (fuj (fuj hw (Int.toNat ((16 * x1) + x5)) (0 : Int64)) (Int.toNat ((16 * x1) + x5)) (w1_21 (Int.toNat ((16 * v67_10) + x5)))) ro252 qi qc nf nt nw nc cl nx ie be sd bl k1_20 w1_21 ra167 rb167 lb bg os js ls sp jw go de yb ah im) hp260 → ∀  (v260_13 : Int), 0 ≤ v260_13 ∧ v260_13 ≤ 59 ∧ (lxB (Int.toNat (mn (Int.toNat x2))) (dr (Int.toNat x2)) (sh fr (60 * x2)) (sh tt (60 * x2)) (sh wt (60 * x2)) x3 j6.toInt (Int.toNat x4) v252_12 v252_11 v260_13) → (mn (Int.toNat x2)) - v260_13 ≤ (k : Int) → Rn (gG D cI cJ cZ cT lo b L xs) mX12_fill d 260 [(0, .ref y), (1, .int (iv x1)), (2, .int (iv x2)), (3, .int (iv x3)), (5, .int (iv x5)), (6, .long j6), (11, .int (iv v252_11)), (12, .int (iv v252_12)), (13, .int (iv v260_13))] [] hp260 n 0 0 Po9 := by
                  refine lpS _ ?_
                  intro k260 ih260 hp260 ht260 v260_13 hf260 hm260
                  obtain ⟨hf260_0, hf260_1, ha260_2⟩ := hf260
                  refine r_aload_n (pc := 260) dX12_fill_260 (i := 0) rfl rfl ?_
                  refine r_iload_n (pc := 261) dX12_fill_261 (i := 2) rfl rfl ?_
                  refine r_iload_n (pc := 262) dX12_fill_262 (i := 3) rfl rfl ?_
                  refine r_lload (pc := 263) dX12_fill_263 rfl ?_
                  refine r_iload (pc := 265) dX12_fill_265 rfl ?_
                  refine r_iload (pc := 267) dX12_fill_267 rfl ?_
                  refine r_iload (pc := 269) dX12_fill_269 rfl ?_
                  have hlt9 := lxb_lt (by assumption : lxB (Int.toNat (mn (Int.toNat x2))) (dr (Int.toNat x2)) (sh fr (60 * x2)) (sh tt (60 * x2)) (sh wt (60 * x2)) x3 j6.toInt (Int.toNat x4) v252_12 v252_11 v260_13)
                  obtain ⟨fs38, hfs38⟩ := t_obj ht260 (rd_of RX_y)
                  refine r_callV (pc := 271) (as := [.int (iv x2), .int (iv x3), .long j6, .int (iv v260_13), .int (iv v252_11), .int (iv v252_12)]) (st := []) kX12_279 rfl dX12_fill_271 hfs38 (x_X12_isLast (d := d - 1) (x1 := x2) (x2 := x3) (j3 := j6) (x4 := v260_13) (x5 := v252_11) (x6 := v252_12) (by omega) (by assumption) (by assumption) (by assumption) (by assumption) (by assumption) (by assumption) ht260 (by omega) (by omega) (by omega) (by omega) (by omega) (by assumption) (by assumption) (by omega) (fun _ _ _ h => h)) rfl (by omega) (Nat.le_of_ble_eq_true rfl) (Nat.zero_le _) (Nat.zero_le _) rfl (fun r35 hp34 n36 hq37 => ?_)
                  obtain ⟨hnn36, r9_40, ht39, hrr35, hhq370, hhq371⟩ := hq37
                  subst n36 r35
                  have hhq370 : 0 ≤ r9_40 ∧ r9_40 ≤ 1 := hhq370
                  have hhq371 : (r9_40 = 1 ∧ laB (Int.toNat (mn (Int.toNat x2))) (dr (Int.toNat x2)) (sh fr (60 * x2)) (sh tt (60 * x2)) (sh wt (60 * x2)) x3 j6.toInt (Int.toNat x4) v252_12 v252_11 (Int.toNat v260_13)) ∨ (r9_40 = 0 ∧ ¬ laB (Int.toNat (mn (Int.toNat x2))) (dr (Int.toNat x2)) (sh fr (60 * x2)) (sh tt (60 * x2)) (sh wt (60 * x2)) x3 j6.toInt (Int.toNat x4) v252_12 v252_11 (Int.toNat v260_13)) := hhq371
                  change Rn _ _ _ 274 _ [.int (iv r9_40)] _ _ _ _ _
                  refine t_if_ne (pc := 274) (tgt := 283) dX12_fill_274 (by decide) (by omega) (fun c274 => ?_) (fun c274 => ?_)
                  · have hla := (Or.resolve_right hhq371 (by omega)).2
                    clear hhq371
                    have hus := hla.1
                    refine r_aload_n (pc := 283) dX12_fill_283 (i := 0) rfl rfl ?_
                    refine t_getE (pc := 284) (.ref (y + 14)) ht39 (rd_of RX_y) fX12_51 dX12_fill_284 rfl ?_
                    refine r_sipush (pc := 287) (v := iv 256) dX12_fill_287 (by decide) ?_
                    refine r_iload_n (pc := 290) dX12_fill_290 (i := 1) rfl rfl ?_
                    refine r_imul (pc := 291) (v := iv (256 * x1)) dX12_fill_291 (iv_mul _ _) ?_
                    refine r_bipush (pc := 292) (v := iv 16) dX12_fill_292 (by decide) ?_
                    refine r_iload (pc := 294) dX12_fill_294 rfl ?_
                    refine r_imul (pc := 296) (v := iv (16 * x5)) dX12_fill_296 (iv_mul _ _) ?_
                    refine r_iadd (pc := 297) (v := iv ((256 * x1) + (16 * x5))) dX12_fill_297 (iv_add _ _) ?_
                    refine r_iload (pc := 298) dX12_fill_298 rfl ?_
                    refine r_iadd (pc := 300) (v := iv (((256 * x1) + (16 * x5)) + v252_12)) dX12_fill_300 (iv_add _ _) ?_
                    refine r_iconst (pc := 301) (v := iv 1) dX12_fill_301 (by decide) ?_
                    refine r_isub (pc := 302) (v := iv ((((256 * x1) + (16 * x5)) + v252_12) - 1)) dX12_fill_302 (iv_sub _ _) ?_
                    refine r_iload (pc := 303) dX12_fill_303 rfl ?_
                    refine t_iastX (pc := 305) (t0 := 0) ht39 RX_rows dX12_fill_305 rfl (by decide) (by omega) (by omega) (fun hp41 ht42 => ?_)
                    have ht43 := RXw_ro ht42
                    have hqht43 : Rfx 30976 0 59 (fup ro252 (Int.toNat ((((256 * x1) + (16 * x5)) + v252_12) - 1)) v260_13) := Rfx_up (by assumption) (by omega)
                    refine r_aload_n (pc := 306) dX12_fill_306 (i := 0) rfl rfl ?_
                    refine r_iload_n (pc := 307) dX12_fill_307 (i := 2) rfl rfl ?_
                    refine r_iload (pc := 308) dX12_fill_308 rfl ?_
                    refine r_iload (pc := 310) dX12_fill_310 rfl ?_
                    obtain ⟨fs48, hfs48⟩ := t_obj ht43 (rd_of RX_y)
                    refine r_callV (pc := 312) (as := [.int (iv x2), .int (iv v260_13), .int (iv v252_11)]) (st := []) kX12_253 rfl dX12_fill_312 hfs48 (x_X12_into (d := d - 1) (x1 := x2) (x2 := v260_13) (x3 := v252_11) (by omega) (by assumption) (by assumption) (by assumption) ht43 (by omega) (by omega) (by omega) (fun _ _ _ h => h)) rfl (by omega) (Nat.le_of_ble_eq_true rfl) (Nat.zero_le _) (Nat.zero_le _) rfl (fun r45 hp44 n46 hq47 => ?_)
                    obtain ⟨hnn46, r9_50, ht49, hrr45, hhq470, hhq471⟩ := hq47
                    subst n46 r45
                    have hhq470 : r9_50 = inV fr tt dr x2 v260_13 v252_11 := hhq470
                    have hhq471 : (-1) ≤ r9_50 ∧ r9_50 ≤ 15 := hhq471
                    change Rn _ _ _ 315 _ [.int (iv r9_50)] _ _ _ _ _
                    have hit := itV_inV hhq470 (by omega)
                    have hun : 0 ≤ r9_50 ∧ r9_50 < (sz (Int.toNat x2)) := by
                      have h9 := hFT (Int.toNat v260_13) (by omega)
                      have h8 := hus.1
                      rw [← hit] at h8
                      refine ⟨h8, ?_⟩
                      rw [hit]; unfold itV; split <;> first | omega | (split <;> omega)
                    have hbu : bT (Int.toNat (mn (Int.toNat x2))) (dr (Int.toNat x2)) (sh fr (60 * x2)) (sh tt (60 * x2)) (sh wt (60 * x2)) x3 j6.toInt (Int.toNat x4) (Int.toNat (v252_12 - 1)) (Int.toNat r9_50) < 1000000000000 := by have h8 := hus.2.2; rw [← hit] at h8; exact h8
                    refine r_istore (pc := 315) (lv' := [(11, .int (iv r9_50)), (0, .ref y), (1, .int (iv x1)), (2, .int (iv x2)), (3, .int (iv x3)), (5, .int (iv x5)), (6, .long j6), (12, .int (iv v252_12)), (13, .int (iv v260_13))]) dX12_fill_315 (by decide) rfl ?_
                    refine r_iinc (pc := 317) (v := iv (v252_12 - 1)) (lv' := [(12, .int (iv (v252_12 - 1))), (11, .int (iv r9_50)), (0, .ref y), (1, .int (iv x1)), (2, .int (iv x2)), (3, .int (iv x3)), (5, .int (iv x5)), (6, .long j6), (13, .int (iv v260_13))]) dX12_fill_317 rfl ((iv_add _ _).trans (congrArg iv (show v252_12 + (-1) = v252_12 - 1 by omega))) (by decide) rfl ?_
                    refine r_goto (pc := 320) (tgt := 252) dX12_fill_320 (by decide) ?_
                    refine Rn.pick (lv' := [(0, .ref y), (1, .int (iv x1)), (2, .int (iv x2)), (3, .int (iv x3)), (5, .int (iv x5)), (6, .long j6), (11, .int (iv r9_50)), (12, .int (iv (v252_12 - 1)))]) [2, 3, 4, 5, 6, 7, 1, 0] rfl ?_
                    exact ih252 (Int.toNat ((v252_12 - 1) - 0)) (by omega) (fup ro252 (Int.toNat ((((256 * x1) + (16 * x5)) + v252_12) - 1)) v260_13) _ ht49 r9_50 (v252_12 - 1) ⟨by omega, by omega, by omega, by omega, by omega, by assumption, by omega, by omega, by (first | exact hid_i (fun _ => hbu) | exact hid_i (fun _ => kb_fin (f := fun i => bT (Int.toNat (mn (Int.toNat x2))) (dr (Int.toNat x2)) (sh fr (60 * x2)) (sh tt (60 * x2)) (sh wt (60 * x2)) x3 j6.toInt (Int.toNat x4) i (Int.toNat x5)) (by assumption : kbP (fun i => bT (Int.toNat (mn (Int.toNat x2))) (dr (Int.toNat x2)) (sh fr (60 * x2)) (sh tt (60 * x2)) (sh wt (60 * x2)) x3 j6.toInt (Int.toNat x4) i (Int.toNat x5)) v67_11 v67_10) (by omega))), by (first | exact tcc_0 | exact tcc_st (by assumption) (by omega) (by omega) hla (by assumption : lxB _ _ _ _ _ _ _ _ _ _ v260_13).2 (by show fup _ _ _ _ = _; rw [show (256 * x1 + 16 * x5 + ((Int.toNat (v252_12 - 1) : Nat) : Int)).toNat = Int.toNat (256 * x1 + 16 * x5 + v252_12 - 1) by omega]; exact fup_s _ _ _) (fun i a b => by show fup _ _ _ _ = _; exact fup_o _ _ (by omega)) hit), by (first | (intro i hi; rfl) | (intro i hi; rw [fup_o _ _ (by omega)]; exact (by assumption : ∀ i : Nat, ((i : Int) < (256 * x1 + 16 * x5) ∨ (256 * x1 + 16 * x5) + 16 ≤ (i : Int)) → ro252 i = ro i) i hi))⟩ (by omega)
                  · have hnl := (Or.resolve_left hhq371 (by omega)).2
                    clear hhq371
                    have hx277 := lxb_st (by assumption : lxB (Int.toNat (mn (Int.toNat x2))) (dr (Int.toNat x2)) (sh fr (60 * x2)) (sh tt (60 * x2)) (sh wt (60 * x2)) x3 j6.toInt (Int.toNat x4) v252_12 v252_11 v260_13) (by omega) hnl
                    have hlt277 := lxb_lt hx277
                    refine r_iinc (pc := 277) (v := iv (v260_13 + 1)) (lv' := [(13, .int (iv (v260_13 + 1))), (0, .ref y), (1, .int (iv x1)), (2, .int (iv x2)), (3, .int (iv x3)), (5, .int (iv x5)), (6, .long j6), (11, .int (iv v252_11)), (12, .int (iv v252_12))]) dX12_fill_277 rfl (iv_add _ _) (by decide) rfl ?_
                    refine r_goto (pc := 280) (tgt := 260) dX12_fill_280 (by decide) ?_
                    refine Rn.pick (lv' := [(0, .ref y), (1, .int (iv x1)), (2, .int (iv x2)), (3, .int (iv x3)), (5, .int (iv x5)), (6, .long j6), (11, .int (iv v252_11)), (12, .int (iv v252_12)), (13, .int (iv (v260_13 + 1)))]) [1, 2, 3, 4, 5, 6, 7, 8, 0] rfl ?_
                    exact ih260 (Int.toNat ((mn (Int.toNat x2)) - (v260_13 + 1))) (by omega) _ ht39 (v260_13 + 1) ⟨by omega, by omega, by assumption⟩ (by omega)
                refine Rn.pick (lv' := [(0, .ref y), (1, .int (iv x1)), (2, .int (iv x2)), (3, .int (iv x3)), (5, .int (iv x5)), (6, .long j6), (11, .int (iv v252_11)), (12, .int (iv v252_12)), (13, .int (iv 0))]) [1, 2, 3, 4, 5, 6, 7, 8, 0] rfl ?_
                exact B260 (Int.toNat ((mn (Int.toNat x2)) - 0)) _ ht252 0 ⟨by omega, by omega, by assumption⟩ (by omega)
            refine Rn.pick (lv' := [(0, .ref y), (1, .int (iv x1)), (2, .int (iv x2)), (3, .int (iv x3)), (5, .int (iv x5)), (6, .long j6), (11, .int (iv x5)), (12, .int (iv v67_10))]) [2, 3, 4, 5, 6, 7, 1, 0] rfl ?_
            exact B252 (Int.toNat (v67_10 - 0)) ro _ ht33 x5 v67_10 ⟨by omega, by omega, by omega, by omega, by omega, by assumption, by omega, by omega, by (first | exact hid_i (fun _ => hbu) | exact hid_i (fun _ => kb_fin (f := fun i => bT (Int.toNat (mn (Int.toNat x2))) (dr (Int.toNat x2)) (sh fr (60 * x2)) (sh tt (60 * x2)) (sh wt (60 * x2)) x3 j6.toInt (Int.toNat x4) i (Int.toNat x5)) (by assumption : kbP (fun i => bT (Int.toNat (mn (Int.toNat x2))) (dr (Int.toNat x2)) (sh fr (60 * x2)) (sh tt (60 * x2)) (sh wt (60 * x2)) x3 j6.toInt (Int.toNat x4) i (Int.toNat x5)) v67_11 v67_10) (by omega))), by (first | exact tcc_0 | exact tcc_st (by assumption) (by omega) (by omega) hla (by assumption : lxB _ _ _ _ _ _ _ _ _ _ v260_13).2 (by show fup _ _ _ _ = _; rw [show (256 * x1 + 16 * x5 + ((Int.toNat (v252_12 - 1) : Nat) : Int)).toNat = Int.toNat (256 * x1 + 16 * x5 + v252_12 - 1) by omega]; exact fup_s _ _ _) (fun i a b => by show fup _ _ _ _ = _; exact fup_o _ _ (by omega)) hit), by (first | (intro i hi; rfl) | (intro i hi; rw [fup_o _ _ (by omega)]; exact (by assumption : ∀ i : Nat, ((i : Int) < (256 * x1 + 16 * x5) ∨ (256 * x1 + 16 * x5) + 16 ≤ (i : Int)) → ro252 i = ro i) i hi))⟩ (by omega)
          refine t_if_ne (pc := 182) (tgt := 201) dX12_fill_182 (by decide) (by omega) (fun c182 => ?_) (fun c182 => ?_)
          · refine r_iload_n (pc := 201) dX12_fill_201 (i := 3) rfl rfl ?_
            refine r_iconst (pc := 202) (v := iv 1) dX12_fill_202 (by decide) ?_
            refine t_icmp_ne (pc := 203) (tgt := 212) dX12_fill_203 (by decide) (by omega) (by omega) (fun c203 => ?_) (fun c203 => ?_)
            · refine r_lload (pc := 212) dX12_fill_212 rfl ?_
              refine Rn.pick (lv' := [(0, .ref y), (1, .int (iv x1)), (2, .int (iv x2)), (3, .int (iv x3)), (5, .int (iv x5)), (6, .long j6), (9, .int (iv ((16 * x1) + x5))), (10, .int (iv v67_10))]) [0, 1, 2, 3, 4, 5, 6, 7] rfl ?_
              exact B214 _ ht24 j6 (by (first | (rw [if_pos (by omega)]; omega) | (rw [if_neg (by omega), if_pos (by omega)]; omega) | (rw [if_neg (by omega), if_neg (by omega)])))
            · refine r_iload (pc := 206) dX12_fill_206 rfl ?_
              refine r_i2l (pc := 208) (v := (iv v67_10).toInt64) dX12_fill_208 rfl ?_
              have hl208 := iv_long (x := v67_10) (by omega)
              refine r_goto (pc := 209) (tgt := 214) dX12_fill_209 (by decide) ?_
              refine Rn.pick (lv' := [(0, .ref y), (1, .int (iv x1)), (2, .int (iv x2)), (3, .int (iv x3)), (5, .int (iv x5)), (6, .long j6), (9, .int (iv ((16 * x1) + x5))), (10, .int (iv v67_10))]) [0, 1, 2, 3, 4, 5, 6, 7] rfl ?_
              exact B214 _ ht24 ((iv v67_10).toInt64) (by (first | (rw [if_pos (by omega)]; omega) | (rw [if_neg (by omega), if_pos (by omega)]; omega) | (rw [if_neg (by omega), if_neg (by omega)])))
          · refine r_aload_n (pc := 185) dX12_fill_185 (i := 0) rfl rfl ?_
            refine t_getE (pc := 186) (.ref (y + 27)) ht24 (rd_of RX_y) fX12_91 dX12_fill_186 rfl ?_
            refine r_bipush (pc := 189) (v := iv 16) dX12_fill_189 (by decide) ?_
            refine r_iload (pc := 191) dX12_fill_191 rfl ?_
            refine r_imul (pc := 193) (v := iv (16 * v67_10)) dX12_fill_193 (iv_mul _ _) ?_
            refine r_iload (pc := 194) dX12_fill_194 rfl ?_
            refine r_iadd (pc := 196) (v := iv ((16 * v67_10) + x5)) dX12_fill_196 (iv_add _ _) ?_
            refine t_laldX (pc := 197) (t0 := 1) ht24 (rd_of RX_best) dX12_fill_197 rfl (by decide) (by omega) ?_
            have hb197 := (sp_at (k := v67_10) (u := x5) hsp (by omega) (by omega)).1
            refine r_goto (pc := 198) (tgt := 214) dX12_fill_198 (by decide) ?_
            refine Rn.pick (lv' := [(0, .ref y), (1, .int (iv x1)), (2, .int (iv x2)), (3, .int (iv x3)), (5, .int (iv x5)), (6, .long j6), (9, .int (iv ((16 * x1) + x5))), (10, .int (iv v67_10))]) [0, 1, 2, 3, 4, 5, 6, 7] rfl ?_
            exact B214 _ ht24 (k1_20 (Int.toNat ((16 * v67_10) + x5))) (by (first | (rw [if_pos (by omega)]; omega) | (rw [if_neg (by omega), if_pos (by omega)]; omega) | (rw [if_neg (by omega), if_neg (by omega)])))
        refine t_if_ne (pc := 143) (tgt := 167) dX12_fill_143 (by decide) (by omega) (fun c143 => ?_) (fun c143 => ?_)
        · refine Rn.pick (lv' := [(0, .ref y), (1, .int (iv x1)), (2, .int (iv x2)), (3, .int (iv x3)), (5, .int (iv x5)), (6, .long j6), (9, .int (iv ((16 * x1) + x5))), (10, .int (iv v67_10))]) [0, 1, 2, 3, 5, 6, 8, 9] rfl ?_
          exact B167 ra rb _ ht67 (by (first | exact fun h9 => hne h9.2 | exact fun h9 => absurd h9.1 (by omega)))
        · refine r_aload_n (pc := 146) dX12_fill_146 (i := 0) rfl rfl ?_
          refine r_iload_n (pc := 147) dX12_fill_147 (i := 2) rfl rfl ?_
          refine r_iload (pc := 148) dX12_fill_148 rfl ?_
          refine r_iload (pc := 150) dX12_fill_150 rfl ?_
          obtain ⟨fs55, hfs55⟩ := t_obj ht67 (rd_of RX_y)
          refine r_callV (pc := 152) (as := [.int (iv x2), .int (iv x4), .int (iv x5)]) (st := []) kX12_276 rfl dX12_fill_152 hfs55 (x_X12_isEndless (d := d - 1) (x1 := x2) (x2 := x4) (x3 := x5) (by omega) (by assumption) (by assumption) (by assumption) (by assumption) (by assumption) (by assumption) ht67 (by omega) (by omega) (by omega) (by assumption) (by omega) (fun _ _ _ h => h)) rfl (by omega) (Nat.le_of_ble_eq_true rfl) (Nat.zero_le _) (Nat.zero_le _) rfl (fun r52 hp51 n53 hq54 => ?_)
          obtain ⟨hnn53, k1_57, w1_58, r9_59, ht56, hrr52, hhq540, hhq541⟩ := hq54
          subst n53 r52
          have hhq540 : 0 ≤ r9_59 ∧ r9_59 ≤ 1 := hhq540
          have hhq541 : (r9_59 = 1 ∧ edP (Int.toNat (mn (Int.toNat x2))) (dr (Int.toNat x2)) (sh fr (60 * x2)) (sh tt (60 * x2)) (sh wt (60 * x2)) (sz (Int.toNat x2)) (Int.toNat x4) (Int.toNat x5)) ∨ (r9_59 = 0 ∧ ¬ edP (Int.toNat (mn (Int.toNat x2))) (dr (Int.toNat x2)) (sh fr (60 * x2)) (sh tt (60 * x2)) (sh wt (60 * x2)) (sz (Int.toNat x2)) (Int.toNat x4) (Int.toNat x5)) := hhq541
          change Rn _ _ _ 155 _ [.int (iv r9_59)] _ _ _ _ _
          refine t_if_eq (pc := 155) (tgt := 167) dX12_fill_155 (by decide) (by omega) (fun c155 => ?_) (fun c155 => ?_)
          · have hne := (Or.resolve_left hhq541 (by omega)).2
            clear hhq541
            refine Rn.pick (lv' := [(0, .ref y), (1, .int (iv x1)), (2, .int (iv x2)), (3, .int (iv x3)), (5, .int (iv x5)), (6, .long j6), (9, .int (iv ((16 * x1) + x5))), (10, .int (iv v67_10))]) [0, 1, 2, 3, 5, 6, 8, 9] rfl ?_
            exact B167 k1_57 w1_58 _ ht56 (by (first | exact fun h9 => hne h9.2 | exact fun h9 => absurd h9.1 (by omega)))
          · have hye := (Or.resolve_right hhq541 (by omega)).2
            clear hhq541
            refine r_aload_n (pc := 158) dX12_fill_158 (i := 0) rfl rfl ?_
            refine t_getE (pc := 159) (.ref (y + 10)) ht56 (rd_of RX_y) fX12_39 dX12_fill_159 rfl ?_
            refine r_iload (pc := 162) dX12_fill_162 rfl ?_
            refine r_iconst (pc := 164) (v := iv 2) dX12_fill_164 (by decide) ?_
            refine t_iastX (pc := 165) (t0 := 0) ht56 RX_state dX12_fill_165 rfl (by decide) (by omega) (by omega) (fun hp60 ht61 => ?_)
            have ht62 := RXw_sa ht61
            have hqht62 : Rfx 1936 0 2 (fup (fup sa (Int.toNat ((16 * x1) + x5)) 0) (Int.toNat ((16 * x1) + x5)) 2) := Rfx_up (by assumption) (by omega)
            exact r_vret (pc := 166) dX12_fill_166 rfl (hPo _ _ _ ⟨rfl, (fup (fup sa (Int.toNat ((16 * x1) + x5)) 0) (Int.toNat ((16 * x1) + x5)) 2), (fuj wo (Int.toNat ((16 * x1) + x5)) (0 : Int64)), (fup ln (Int.toNat ((16 * x1) + x5)) (-1)), (fuj hw (Int.toNat ((16 * x1) + x5)) (0 : Int64)), ro, k1_20, w1_21, k1_57, w1_58, ht62, rfl, (by (exact ⟨v67_10, (by have h8 := (by assumption : kbP (fun i => bT (Int.toNat (mn (Int.toNat x2))) (dr (Int.toNat x2)) (sh fr (60 * x2)) (sh tt (60 * x2)) (sh wt (60 * x2)) x3 j6.toInt (Int.toNat x4) i (Int.toNat x5)) v67_11 v67_10); rw [show v67_11 = (sz (Int.toNat x2)) by omega] at h8; exact h8), Or.inr (Or.inl ⟨by omega, ⟨by omega, hye⟩, fup_s _ _ _, fuj_s _ _ _, fup_s _ _ _, fuj_s _ _ _⟩)⟩)), (by (intro j hj; (repeat rw [fup_o _ _ hj]))), (by (intro j hj; (repeat rw [fuj_o _ _ hj]))), (by (intro j hj; (repeat rw [fup_o _ _ hj]))), (by (intro j hj; (repeat rw [fuj_o _ _ hj]))), (by (first | assumption | (intro i hi; rfl))), (by assumption), (by assumption), (by assumption)⟩)
      · exact r_vret (pc := 141) dX12_fill_141 rfl (hPo _ _ _ ⟨rfl, (fup sa (Int.toNat ((16 * x1) + x5)) 0), (fuj wo (Int.toNat ((16 * x1) + x5)) (0 : Int64)), (fup ln (Int.toNat ((16 * x1) + x5)) (-1)), (fuj hw (Int.toNat ((16 * x1) + x5)) (0 : Int64)), ro, k1_20, w1_21, ra, rb, ht67, rfl, (by (exact ⟨v67_10, (by have h8 := (by assumption : kbP (fun i => bT (Int.toNat (mn (Int.toNat x2))) (dr (Int.toNat x2)) (sh fr (60 * x2)) (sh tt (60 * x2)) (sh wt (60 * x2)) x3 j6.toInt (Int.toNat x4) i (Int.toNat x5)) v67_11 v67_10); rw [show v67_11 = (sz (Int.toNat x2)) by omega] at h8; exact h8), Or.inl ⟨by omega, fup_s _ _ _, fuj_s _ _ _, fup_s _ _ _, fuj_s _ _ _⟩⟩)), (by (intro j hj; (repeat rw [fup_o _ _ hj]))), (by (intro j hj; (repeat rw [fuj_o _ _ hj]))), (by (intro j hj; (repeat rw [fup_o _ _ hj]))), (by (intro j hj; (repeat rw [fuj_o _ _ hj]))), (by (first | assumption | (intro i hi; rfl))), (by assumption), (by assumption), (by assumption)⟩)
    · refine r_aload_n (pc := 74) dX12_fill_74 (i := 0) rfl rfl ?_
      refine t_getE (pc := 75) (.ref (y + 27)) ht67 (rd_of RX_y) fX12_91 dX12_fill_75 rfl ?_
      refine r_bipush (pc := 78) (v := iv 16) dX12_fill_78 (by decide) ?_
      refine r_iload (pc := 80) dX12_fill_80 rfl ?_
      refine r_imul (pc := 82) (v := iv (16 * v67_11)) dX12_fill_82 (iv_mul _ _) ?_
      refine r_iload (pc := 83) dX12_fill_83 rfl ?_
      refine r_iadd (pc := 85) (v := iv ((16 * v67_11) + x5)) dX12_fill_85 (iv_add _ _) ?_
      refine t_laldX (pc := 86) (t0 := 1) ht67 (rd_of RX_best) dX12_fill_86 rfl (by decide) (by omega) ?_
      have hb86 := (sp_at (k := v67_11) (u := x5) hsp (by omega) (by omega)).1
      refine r_lstore (pc := 87) (lv' := [(12, .long (k1_20 (Int.toNat ((16 * v67_11) + x5)))), (0, .ref y), (1, .int (iv x1)), (2, .int (iv x2)), (3, .int (iv x3)), (4, .int (iv x4)), (5, .int (iv x5)), (6, .long j6), (8, .int (iv (sz (Int.toNat x2)))), (9, .int (iv ((16 * x1) + x5))), (10, .int (iv v67_10)), (11, .int (iv v67_11))]) dX12_fill_87 (by decide) rfl ?_
      refine r_lload (pc := 89) dX12_fill_89 rfl ?_
      refine r_ldc2 (pc := 91) (v := 1000000000000) dX12_fill_91 kX12_251 ?_
      have hk91 : (1000000000000 : Int64).toInt = 1000000000000 := by decide
      refine r_lcmp (pc := 94) dX12_fill_94 ?_
      refine t_lif_ge (pc := 95) (tgt := 130) dX12_fill_95 (by decide) (fun c95 => ?_) (fun c95 => ?_)
      · refine r_iinc (pc := 130) (v := iv (v67_11 + 1)) (lv' := [(11, .int (iv (v67_11 + 1))), (12, .long (k1_20 (Int.toNat ((16 * v67_11) + x5)))), (0, .ref y), (1, .int (iv x1)), (2, .int (iv x2)), (3, .int (iv x3)), (4, .int (iv x4)), (5, .int (iv x5)), (6, .long j6), (8, .int (iv (sz (Int.toNat x2)))), (9, .int (iv ((16 * x1) + x5))), (10, .int (iv v67_10))]) dX12_fill_130 rfl (iv_add _ _) (by decide) rfl ?_
        refine r_goto (pc := 133) (tgt := 67) dX12_fill_133 (by decide) ?_
        refine Rn.pick (lv' := [(0, .ref y), (1, .int (iv x1)), (2, .int (iv x2)), (3, .int (iv x3)), (4, .int (iv x4)), (5, .int (iv x5)), (6, .long j6), (8, .int (iv (sz (Int.toNat x2)))), (9, .int (iv ((16 * x1) + x5))), (10, .int (iv v67_10)), (11, .int (iv (v67_11 + 1)))]) [2, 3, 4, 5, 6, 7, 8, 9, 10, 11, 0] rfl ?_
        exact ih67 (Int.toNat (16 - (v67_11 + 1))) (by omega) _ ht67 v67_10 (v67_11 + 1) ⟨by omega, by omega, by omega, by omega, by omega, by omega, by (first | exact kb_0 | exact kb_keep (by assumption) (by omega) (Or.inl (by omega)) | exact kb_keep (by assumption) (by omega) (Or.inr ⟨by omega, by omega⟩) | exact kb_new (by assumption) (by omega) (by omega) (Or.inl (by omega)) | exact kb_new (by assumption) (by omega) (by omega) (Or.inr (by omega)))⟩ (by omega)
      · refine r_iload (pc := 98) dX12_fill_98 rfl ?_
        refine t_if_lt (pc := 100) (tgt := 126) dX12_fill_100 (by decide) (by omega) (fun c100 => ?_) (fun c100 => ?_)
        · refine r_iload (pc := 126) dX12_fill_126 rfl ?_
          refine r_istore (pc := 128) (lv' := [(10, .int (iv v67_11)), (12, .long (k1_20 (Int.toNat ((16 * v67_11) + x5)))), (0, .ref y), (1, .int (iv x1)), (2, .int (iv x2)), (3, .int (iv x3)), (4, .int (iv x4)), (5, .int (iv x5)), (6, .long j6), (8, .int (iv (sz (Int.toNat x2)))), (9, .int (iv ((16 * x1) + x5))), (11, .int (iv v67_11))]) dX12_fill_128 (by decide) rfl ?_
          refine r_iinc (pc := 130) (v := iv (v67_11 + 1)) (lv' := [(11, .int (iv (v67_11 + 1))), (10, .int (iv v67_11)), (12, .long (k1_20 (Int.toNat ((16 * v67_11) + x5)))), (0, .ref y), (1, .int (iv x1)), (2, .int (iv x2)), (3, .int (iv x3)), (4, .int (iv x4)), (5, .int (iv x5)), (6, .long j6), (8, .int (iv (sz (Int.toNat x2)))), (9, .int (iv ((16 * x1) + x5)))]) dX12_fill_130 rfl (iv_add _ _) (by decide) rfl ?_
          refine r_goto (pc := 133) (tgt := 67) dX12_fill_133 (by decide) ?_
          refine Rn.pick (lv' := [(0, .ref y), (1, .int (iv x1)), (2, .int (iv x2)), (3, .int (iv x3)), (4, .int (iv x4)), (5, .int (iv x5)), (6, .long j6), (8, .int (iv (sz (Int.toNat x2)))), (9, .int (iv ((16 * x1) + x5))), (10, .int (iv v67_11)), (11, .int (iv (v67_11 + 1)))]) [3, 4, 5, 6, 7, 8, 9, 10, 11, 1, 0] rfl ?_
          exact ih67 (Int.toNat (16 - (v67_11 + 1))) (by omega) _ ht67 v67_11 (v67_11 + 1) ⟨by omega, by omega, by omega, by omega, by omega, by omega, by (first | exact kb_0 | exact kb_keep (by assumption) (by omega) (Or.inl (by omega)) | exact kb_keep (by assumption) (by omega) (Or.inr ⟨by omega, by omega⟩) | exact kb_new (by assumption) (by omega) (by omega) (Or.inl (by omega)) | exact kb_new (by assumption) (by omega) (by omega) (Or.inr (by omega)))⟩ (by omega)
        · refine r_iload_n (pc := 103) dX12_fill_103 (i := 3) rfl rfl ?_
          refine t_if_ne (pc := 104) (tgt := 130) dX12_fill_104 (by decide) (by omega) (fun c104 => ?_) (fun c104 => ?_)
          · have hkf : bT (Int.toNat (mn (Int.toNat x2))) (dr (Int.toNat x2)) (sh fr (60 * x2)) (sh tt (60 * x2)) (sh wt (60 * x2)) x3 j6.toInt (Int.toNat x4) (Int.toNat v67_10) (Int.toNat x5) < 1000000000000 := kb_fin (f := fun i => bT (Int.toNat (mn (Int.toNat x2))) (dr (Int.toNat x2)) (sh fr (60 * x2)) (sh tt (60 * x2)) (sh wt (60 * x2)) x3 j6.toInt (Int.toNat x4) i (Int.toNat x5)) (by assumption : kbP (fun i => bT (Int.toNat (mn (Int.toNat x2))) (dr (Int.toNat x2)) (sh fr (60 * x2)) (sh tt (60 * x2)) (sh wt (60 * x2)) x3 j6.toInt (Int.toNat x4) i (Int.toNat x5)) v67_11 v67_10) (by omega)
            have hz1 := bT_k0 (m := (Int.toNat (mn (Int.toNat x2)))) (d := (dr (Int.toNat x2))) (F := (sh fr (60 * x2))) (T := (sh tt (60 * x2))) (W := (sh wt (60 * x2))) (bd := j6.toInt) (s := Int.toNat x4) (show x3 ≠ 0 by omega) (Int.toNat v67_10) (Int.toNat x5)
            have hz2 := bT_k0 (m := (Int.toNat (mn (Int.toNat x2)))) (d := (dr (Int.toNat x2))) (F := (sh fr (60 * x2))) (T := (sh tt (60 * x2))) (W := (sh wt (60 * x2))) (bd := j6.toInt) (s := Int.toNat x4) (show x3 ≠ 0 by omega) (Int.toNat v67_11) (Int.toNat x5)
            refine r_iinc (pc := 130) (v := iv (v67_11 + 1)) (lv' := [(11, .int (iv (v67_11 + 1))), (12, .long (k1_20 (Int.toNat ((16 * v67_11) + x5)))), (0, .ref y), (1, .int (iv x1)), (2, .int (iv x2)), (3, .int (iv x3)), (4, .int (iv x4)), (5, .int (iv x5)), (6, .long j6), (8, .int (iv (sz (Int.toNat x2)))), (9, .int (iv ((16 * x1) + x5))), (10, .int (iv v67_10))]) dX12_fill_130 rfl (iv_add _ _) (by decide) rfl ?_
            refine r_goto (pc := 133) (tgt := 67) dX12_fill_133 (by decide) ?_
            refine Rn.pick (lv' := [(0, .ref y), (1, .int (iv x1)), (2, .int (iv x2)), (3, .int (iv x3)), (4, .int (iv x4)), (5, .int (iv x5)), (6, .long j6), (8, .int (iv (sz (Int.toNat x2)))), (9, .int (iv ((16 * x1) + x5))), (10, .int (iv v67_10)), (11, .int (iv (v67_11 + 1)))]) [2, 3, 4, 5, 6, 7, 8, 9, 10, 11, 0] rfl ?_
            exact ih67 (Int.toNat (16 - (v67_11 + 1))) (by omega) _ ht67 v67_10 (v67_11 + 1) ⟨by omega, by omega, by omega, by omega, by omega, by omega, by (first | exact kb_0 | exact kb_keep (by assumption) (by omega) (Or.inl (by omega)) | exact kb_keep (by assumption) (by omega) (Or.inr ⟨by omega, by omega⟩) | exact kb_new (by assumption) (by omega) (by omega) (Or.inl (by omega)) | exact kb_new (by assumption) (by omega) (by omega) (Or.inr (by omega)))⟩ (by omega)
          · refine r_lload (pc := 107) dX12_fill_107 rfl ?_
            refine r_aload_n (pc := 109) dX12_fill_109 (i := 0) rfl rfl ?_
            refine t_getE (pc := 110) (.ref (y + 27)) ht67 (rd_of RX_y) fX12_91 dX12_fill_110 rfl ?_
            refine r_bipush (pc := 113) (v := iv 16) dX12_fill_113 (by decide) ?_
            refine r_iload (pc := 115) dX12_fill_115 rfl ?_
            refine r_imul (pc := 117) (v := iv (16 * v67_10)) dX12_fill_117 (iv_mul _ _) ?_
            refine r_iload (pc := 118) dX12_fill_118 rfl ?_
            refine r_iadd (pc := 120) (v := iv ((16 * v67_10) + x5)) dX12_fill_120 (iv_add _ _) ?_
            refine t_laldX (pc := 121) (t0 := 1) ht67 (rd_of RX_best) dX12_fill_121 rfl (by decide) (by omega) ?_
            have hb121 := (sp_at (k := v67_10) (u := x5) hsp (by omega) (by omega)).1
            refine r_lcmp (pc := 122) dX12_fill_122 ?_
            refine t_lif_ge (pc := 123) (tgt := 130) dX12_fill_123 (by decide) (fun c123 => ?_) (fun c123 => ?_)
            · refine r_iinc (pc := 130) (v := iv (v67_11 + 1)) (lv' := [(11, .int (iv (v67_11 + 1))), (12, .long (k1_20 (Int.toNat ((16 * v67_11) + x5)))), (0, .ref y), (1, .int (iv x1)), (2, .int (iv x2)), (3, .int (iv x3)), (4, .int (iv x4)), (5, .int (iv x5)), (6, .long j6), (8, .int (iv (sz (Int.toNat x2)))), (9, .int (iv ((16 * x1) + x5))), (10, .int (iv v67_10))]) dX12_fill_130 rfl (iv_add _ _) (by decide) rfl ?_
              refine r_goto (pc := 133) (tgt := 67) dX12_fill_133 (by decide) ?_
              refine Rn.pick (lv' := [(0, .ref y), (1, .int (iv x1)), (2, .int (iv x2)), (3, .int (iv x3)), (4, .int (iv x4)), (5, .int (iv x5)), (6, .long j6), (8, .int (iv (sz (Int.toNat x2)))), (9, .int (iv ((16 * x1) + x5))), (10, .int (iv v67_10)), (11, .int (iv (v67_11 + 1)))]) [2, 3, 4, 5, 6, 7, 8, 9, 10, 11, 0] rfl ?_
              exact ih67 (Int.toNat (16 - (v67_11 + 1))) (by omega) _ ht67 v67_10 (v67_11 + 1) ⟨by omega, by omega, by omega, by omega, by omega, by omega, by (first | exact kb_0 | exact kb_keep (by assumption) (by omega) (Or.inl (by omega)) | exact kb_keep (by assumption) (by omega) (Or.inr ⟨by omega, by omega⟩) | exact kb_new (by assumption) (by omega) (by omega) (Or.inl (by omega)) | exact kb_new (by assumption) (by omega) (by omega) (Or.inr (by omega)))⟩ (by omega)
            · refine r_iload (pc := 126) dX12_fill_126 rfl ?_
              refine r_istore (pc := 128) (lv' := [(10, .int (iv v67_11)), (12, .long (k1_20 (Int.toNat ((16 * v67_11) + x5)))), (0, .ref y), (1, .int (iv x1)), (2, .int (iv x2)), (3, .int (iv x3)), (4, .int (iv x4)), (5, .int (iv x5)), (6, .long j6), (8, .int (iv (sz (Int.toNat x2)))), (9, .int (iv ((16 * x1) + x5))), (11, .int (iv v67_11))]) dX12_fill_128 (by decide) rfl ?_
              refine r_iinc (pc := 130) (v := iv (v67_11 + 1)) (lv' := [(11, .int (iv (v67_11 + 1))), (10, .int (iv v67_11)), (12, .long (k1_20 (Int.toNat ((16 * v67_11) + x5)))), (0, .ref y), (1, .int (iv x1)), (2, .int (iv x2)), (3, .int (iv x3)), (4, .int (iv x4)), (5, .int (iv x5)), (6, .long j6), (8, .int (iv (sz (Int.toNat x2)))), (9, .int (iv ((16 * x1) + x5)))]) dX12_fill_130 rfl (iv_add _ _) (by decide) rfl ?_
              refine r_goto (pc := 133) (tgt := 67) dX12_fill_133 (by decide) ?_
              refine Rn.pick (lv' := [(0, .ref y), (1, .int (iv x1)), (2, .int (iv x2)), (3, .int (iv x3)), (4, .int (iv x4)), (5, .int (iv x5)), (6, .long j6), (8, .int (iv (sz (Int.toNat x2)))), (9, .int (iv ((16 * x1) + x5))), (10, .int (iv v67_11)), (11, .int (iv (v67_11 + 1)))]) [3, 4, 5, 6, 7, 8, 9, 10, 11, 1, 0] rfl ?_
              exact ih67 (Int.toNat (16 - (v67_11 + 1))) (by omega) _ ht67 v67_11 (v67_11 + 1) ⟨by omega, by omega, by omega, by omega, by omega, by omega, by (first | exact kb_0 | exact kb_keep (by assumption) (by omega) (Or.inl (by omega)) | exact kb_keep (by assumption) (by omega) (Or.inr ⟨by omega, by omega⟩) | exact kb_new (by assumption) (by omega) (by omega) (Or.inl (by omega)) | exact kb_new (by assumption) (by omega) (by omega) (Or.inr (by omega)))⟩ (by omega)
  refine Rn.pick (lv' := [(0, .ref y), (1, .int (iv x1)), (2, .int (iv x2)), (3, .int (iv x3)), (4, .int (iv x4)), (5, .int (iv x5)), (6, .long j6), (8, .int (iv (sz (Int.toNat x2)))), (9, .int (iv ((16 * x1) + x5))), (10, .int (iv (-1))), (11, .int (iv 0))]) [4, 5, 6, 7, 8, 9, 10, 3, 2, 1, 0] rfl ?_
  exact B67 (Int.toNat (16 - 0)) _ ht19 (-1) 0 ⟨by omega, by omega, by omega, by omega, by omega, by omega, by (first | exact kb_0 | exact kb_keep (by assumption) (by omega) (Or.inl (by omega)) | exact kb_keep (by assumption) (by omega) (Or.inr ⟨by omega, by omega⟩) | exact kb_new (by assumption) (by omega) (by omega) (Or.inl (by omega)) | exact kb_new (by assumption) (by omega) (by omega) (Or.inr (by omega)))⟩ (by omega)
