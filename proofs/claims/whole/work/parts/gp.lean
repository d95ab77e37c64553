set_option maxHeartbeats 4000000 in
set_option maxRecDepth 100000 in
theorem x_X12_colours {D : va_G} {cI cJ cZ cT : ClassId} {lo b L : Nat} {xs : Nat → Int32} {hp : MH} {n d : Nat} {Γ : TG} {y : Nat} {rf cn nm : Int} {so sz dr mn fr tt wt co : Nat → Int} {nu : Nat → Int64} {sa : Nat → Int} {wo : Nat → Int64} {ln : Nat → Int} {hw : Nat → Int64} {ro qi qc nf nt nw nc : Nat → Int} {cl nx : Nat → Int64} {ie be sd bl : Nat → Int} {bs wy ra rb : Nat → Int64} {lb bg os js ls : Nat → Int} {sp : Nat → Int64} {jw go : Nat → Int} {de : Nat → Int64} {yb ah im : Nat → Int} {x1 : Int} {Po9 : Option Value → MH → Nat → Prop} (hd0 : 1 ≤ d) (hR_beside : Rfx 16 0 65535 be) (hR_solid : Rfx 65536 0 1 sd) (ht : Tw (RX Γ cI cJ cZ y rf cn nm so sz dr mn fr tt wt co nu sa wo ln hw ro qi qc nf nt nw nc cl nx ie be sd bl bs wy ra rb lb bg os js ls sp jw go de yb ah im) hp) (hx1 : 1 ≤ x1 ∧ x1 ≤ 16) (hPo : ∀ r hp1 n1, (n1 = n ∧ ∃ (q9 : Int64) (w1 : Nat → Int) (w2 : Nat → Int), Tw (RX Γ cI cJ cZ y rf cn nm so sz dr mn fr tt wt co nu sa wo ln hw ro qi qc nf nt nw nc cl nx ie be w1 bl bs wy ra rb lb bg os js w2 sp jw go de yb ah im) hp1 ∧ r = some (.long q9) ∧ (coA (clR be 0) (Me (((2 ^ x1.toNat : Nat) : Int) - 1)) q9.toInt) ∧ (Rfx 65536 0 1 w1)) → Po9 r hp1 n1) : Mt (gG D cI cJ cZ cT lo b L xs) mX12_colours d 0 0 [.ref y, .int (iv x1)] hp n Po9 := by
  refine Mt.of rfl (Nat.le_of_ble_eq_true rfl) ?_
  refine Rn.pick (lv' := [(0, .ref y), (1, .int (iv x1))]) [0, 1] rfl ?_
  have mp5 : 1 ≤ 2 ^ x1.toNat := Nat.one_le_two_pow
  have mq5 : 2 ^ x1.toNat ≤ 2 ^ 16 := Nat.pow_le_pow_right (by omega) (by omega)
  refine r_iconst (pc := 0) (v := iv 0) dX12_colours_0 (by decide) ?_
  refine r_istore_n (pc := 1) (lv' := [(2, .int (iv 0)), (0, .ref y), (1, .int (iv x1))]) dX12_colours_1 (i := 2) rfl (by decide) rfl ?_
  have B2 : ∀ k : Nat, ∀ sd2 : Nat → Int, ∀ hp2 : MH, Tw (RX Γ cI cJ cZ y rf cn nm so sz dr mn fr tt wt co nu sa wo ln hw ro qi qc nf nt nw nc cl nx ie be sd2 bl bs wy ra rb lb bg os js ls sp jw go de yb ah im) hp2 → ∀  (v2_2 : Int), 0 ≤ v2_2 ∧ v2_2 ≤ 65536 ∧ (Rfx 65536 0 1 sd2) ∧ (v2_2 ≤ ((2 ^ x1.toNat : Nat) : Int)) ∧ (slT (clR be 0) sd2 v2_2) → 65536 - v2_2 ≤ (k : Int) → Rn (gG D cI cJ cZ cT lo b L xs) mX12_colours d 2 [(0, .ref y), (1, .int (iv x1)), (2, .int (iv v2_2))] [] hp2 n 0 0 Po9 := by
    refine lpS _ ?_
    intro k2 ih2 sd2 hp2 ht2 v2_2 hf2 hm2
    obtain ⟨hf2_0, hf2_1, ha2_2, hf2_3, ha2_4⟩ := hf2
    refine r_iload_n (pc := 2) dX12_colours_2 (i := 2) rfl rfl ?_
    refine r_iconst (pc := 3) (v := iv 1) dX12_colours_3 (by decide) ?_
    refine r_iload_n (pc := 4) dX12_colours_4 (i := 1) rfl rfl ?_
    refine r_ishl (pc := 5) (v := iv ((2 ^ Int.toNat x1 : Nat) : Int)) dX12_colours_5 (shl_e (by omega)) ?_
    have mp5_1 : 1 ≤ 2 ^ Int.toNat x1 := Nat.one_le_two_pow
    have mq5_2 : 2 ^ Int.toNat x1 ≤ 2 ^ 16 := Nat.pow_le_pow_right (by omega) (by omega)
    have ms5 := Me_shl (Int.toNat x1)
    refine t_icmp_ge (pc := 6) (tgt := 28) dX12_colours_6 (by decide) (by omega) (by omega) (fun c6 => ?_) (fun c6 => ?_)
    · refine r_aload_n (pc := 28) dX12_colours_28 (i := 0) rfl rfl ?_
      refine t_getE (pc := 29) (.ref (y + 35)) ht2 (rd_of RX_y) fX12_115 dX12_colours_29 rfl ?_
      refine r_iconst (pc := 32) (v := iv 0) dX12_colours_32 (by decide) ?_
      refine r_iconst (pc := 33) (v := iv 0) dX12_colours_33 (by decide) ?_
      refine t_iastX (pc := 34) (t0 := 0) ht2 RX_least dX12_colours_34 rfl (by decide) (by omega) (by omega) (fun hp3 ht4 => ?_)
      have ht5 := RXw_ls ht4
      refine r_iconst (pc := 35) (v := iv 1) dX12_colours_35 (by decide) ?_
      refine r_istore_n (pc := 36) (lv' := [(2, .int (iv 1)), (0, .ref y), (1, .int (iv x1))]) dX12_colours_36 (i := 2) rfl (by decide) rfl ?_
      have B37 : ∀ k : Nat, ∀ ls37 : Nat → Int, ∀ hp37 : MH, Tw (RX Γ cI cJ cZ y rf cn nm so sz dr mn fr tt wt co nu sa wo ln hw ro qi qc nf nt nw nc cl nx ie be sd2 bl bs wy ra rb lb bg os js ls37 sp jw go de yb ah im) hp37 → ∀  (v37_2 : Int), 1 ≤ v37_2 ∧ v37_2 ≤ 65536 ∧ (v37_2 ≤ ((2 ^ x1.toNat : Nat) : Int)) ∧ (lsT (clR be 0) ls37 v37_2) → 65536 - v37_2 ≤ (k : Int) → Rn (gG D cI cJ cZ cT lo b L xs) mX12_colours d 37 [(0, .ref y), (1, .int (iv x1)), (2, .int (iv v37_2))] [] hp37 n 0 0 Po9 := by
        refine lpS _ ?_
        intro k37 ih37 ls37 hp37 ht37 v37_2 hf37 hm37
        obtain ⟨hf37_0, hf37_1, hf37_2, ha37_3⟩ := hf37
        refine r_iload_n (pc := 37) dX12_colours_37 (i := 2) rfl rfl ?_
        refine r_iconst (pc := 38) (v := iv 1) dX12_colours_38 (by decide) ?_
        refine r_iload_n (pc := 39) dX12_colours_39 (i := 1) rfl rfl ?_
        refine r_ishl (pc := 40) (v := iv ((2 ^ Int.toNat x1 : Nat) : Int)) dX12_colours_40 (shl_e (by omega)) ?_
        have mp40_6 : 1 ≤ 2 ^ Int.toNat x1 := Nat.one_le_two_pow
        have mq40_7 : 2 ^ Int.toNat x1 ≤ 2 ^ 16 := Nat.pow_le_pow_right (by omega) (by omega)
        have ms40 := Me_shl (Int.toNat x1)
        refine t_icmp_ge (pc := 41) (tgt := 140) dX12_colours_41 (by decide) (by omega) (by omega) (fun c41 => ?_) (fun c41 => ?_)
        · refine r_aload_n (pc := 140) dX12_colours_140 (i := 0) rfl rfl ?_
          refine t_getE (pc := 141) (.ref (y + 35)) ht37 (rd_of RX_y) fX12_115 dX12_colours_141 rfl ?_
          refine r_iconst (pc := 144) (v := iv 1) dX12_colours_144 (by decide) ?_
          refine r_iload_n (pc := 145) dX12_colours_145 (i := 1) rfl rfl ?_
          refine r_ishl (pc := 146) (v := iv ((2 ^ Int.toNat x1 : Nat) : Int)) dX12_colours_146 (shl_e (by omega)) ?_
          have mp146_8 : 1 ≤ 2 ^ Int.toNat x1 := Nat.one_le_two_pow
          have mq146_9 : 2 ^ Int.toNat x1 ≤ 2 ^ 16 := Nat.pow_le_pow_right (by omega) (by omega)
          have ms146 := Me_shl (Int.toNat x1)
          refine r_iconst (pc := 147) (v := iv 1) dX12_colours_147 (by decide) ?_
          refine r_isub (pc := 148) (v := iv (((2 ^ Int.toNat x1 : Nat) : Int) - 1)) dX12_colours_148 (iv_sub _ _) ?_
          refine t_ialdX (pc := 149) (t0 := 0) ht37 (rd_of RX_least) dX12_colours_149 rfl (by decide) (by omega) (fun b10 => ?_)
          refine r_i2l (pc := 150) (v := (iv (ls37 (Int.toNat (((2 ^ Int.toNat x1 : Nat) : Int) - 1)))).toInt64) dX12_colours_150 rfl ?_
          exact r_lret (pc := 151) dX12_colours_151 rfl (hPo _ _ _ ⟨rfl, ((iv (ls37 (Int.toNat (((2 ^ Int.toNat x1 : Nat) : Int) - 1)))).toInt64), sd2, ls37, ht37, rfl, (by (rw [iv_long (by omega)]; exact lst_at (by assumption : lsT (clR be 0) ls37 v37_2) (by omega) (by omega))), (by assumption)⟩)
        · refine r_iload_n (pc := 44) dX12_colours_44 (i := 2) rfl rfl ?_
          refine r_iload_n (pc := 45) dX12_colours_45 (i := 2) rfl rfl ?_
          refine r_ineg (pc := 46) (v := iv (-v37_2)) dX12_colours_46 (iv_neg _) ?_
          obtain ⟨z11, hz11, bz11⟩ := and_l v37_2 (-v37_2) (by omega) (by omega)
          refine r_iand (pc := 47) (v := iv z11) dX12_colours_47 hz11 ?_
          have mez11 := Me_low hz11 (by omega) (by omega)
          obtain ⟨i0, hz0, hm0, hn0⟩ := mez11.2 (by omega)
          have hzl : ∀ i, Me z11 i ↔ i = i0 := fun i => by rw [hz0]; exact Me_shl i0 i
          have hl37 := (by assumption : lsT (clR be 0) ls37 v37_2)
          refine r_istore_n (pc := 48) (lv' := [(3, .int (iv z11)), (0, .ref y), (1, .int (iv x1)), (2, .int (iv v37_2))]) dX12_colours_48 (i := 3) rfl (by decide) rfl ?_
          refine r_aload_n (pc := 49) dX12_colours_49 (i := 0) rfl rfl ?_
          refine t_getE (pc := 50) (.ref (y + 35)) ht37 (rd_of RX_y) fX12_115 dX12_colours_50 rfl ?_
          refine r_iload_n (pc := 53) dX12_colours_53 (i := 2) rfl rfl ?_
          refine r_bipush (pc := 54) (v := iv 99) dX12_colours_54 (by decide) ?_
          refine t_iastX (pc := 56) (t0 := 0) ht37 RX_least dX12_colours_56 rfl (by decide) (by omega) (by omega) (fun hp12 ht13 => ?_)
          have ht14 := RXw_ls ht13
          have hl56 := lst_up (x := 99) hl37 (by omega)
          refine r_iload_n (pc := 57) dX12_colours_57 (i := 2) rfl rfl ?_
          refine r_istore (pc := 58) (lv' := [(4, .int (iv v37_2)), (3, .int (iv z11)), (0, .ref y), (1, .int (iv x1)), (2, .int (iv v37_2))]) dX12_colours_58 (by decide) rfl ?_
          have B60 : ∀ k : Nat, ∀ ls60 : Nat → Int, ∀ hp60 : MH, Tw (RX Γ cI cJ cZ y rf cn nm so sz dr mn fr tt wt co nu sa wo ln hw ro qi qc nf nt nw nc cl nx ie be sd2 bl bs wy ra rb lb bg os js ls60 sp jw go de yb ah im) hp60 → ∀  (v60_4 : Int), 0 ≤ v60_4 ∧ v60_4 ≤ 65535 ∧ (v60_4 ≤ v37_2) ∧ (suP v60_4 v37_2) ∧ (lsT (clR be 0) ls60 v37_2) ∧ (csI (clR be 0) v37_2 i0 v60_4 (ls60 (Int.toNat v37_2))) → v60_4 ≤ (k : Int) → Rn (gG D cI cJ cZ cT lo b L xs) mX12_colours d 60 [(0, .ref y), (1, .int (iv x1)), (2, .int (iv v37_2)), (3, .int (iv z11)), (4, .int (iv v60_4))] [] hp60 n 0 0 Po9 := by
            refine lpS _ ?_
            intro k60 ih60 ls60 hp60 ht60 v60_4 hf60 hm60
            obtain ⟨hf60_0, hf60_1, hf60_2, ha60_3, ha60_4, ha60_5⟩ := hf60
            refine r_iload (pc := 60) dX12_colours_60 rfl ?_
            refine t_if_le (pc := 62) (tgt := 134) dX12_colours_62 (by decide) (by omega) (fun c62 => ?_) (fun c62 => ?_)
            · have hlT := lst_st (by assumption : lsT (clR be 0) ls60 v37_2) (by omega) (cs_end (by assumption : csI (clR be 0) v37_2 i0 v60_4 (ls60 (Int.toNat v37_2))) (by omega) (by omega) hm0)
              refine r_iinc (pc := 134) (v := iv (v37_2 + 1)) (lv' := [(2, .int (iv (v37_2 + 1))), (0, .ref y), (1, .int (iv x1)), (3, .int (iv z11)), (4, .int (iv v60_4))]) dX12_colours_134 rfl (iv_add _ _) (by decide) rfl ?_
              refine r_goto (pc := 137) (tgt := 37) dX12_colours_137 (by decide) ?_
              refine Rn.pick (lv' := [(0, .ref y), (1, .int (iv x1)), (2, .int (iv (v37_2 + 1)))]) [1, 2, 0] rfl ?_
              exact ih37 (Int.toNat (65536 - (v37_2 + 1))) (by omega) ls60 _ ht60 (v37_2 + 1) ⟨by omega, by omega, by omega, by (first | exact hlT | exact lst_0 (if_pos rfl))⟩ (by omega)
            · refine r_iload (pc := 65) dX12_colours_65 rfl ?_
              refine r_iload_n (pc := 67) dX12_colours_67 (i := 3) rfl rfl ?_
              obtain ⟨z15, hz15, bz15⟩ := and_2 v60_4 z11 (by omega) (by omega)
              refine r_iand (pc := 68) (v := iv z15) dX12_colours_68 hz15 ?_
              have mez15 := Me_and hz15 (by omega) (by omega) (by omega)
              refine t_if_eq (pc := 69) (tgt := 123) dX12_colours_69 (by decide) (by omega) (fun c69 => ?_) (fun c69 => ?_)
              · have hcs0 := (by assumption : csI (clR be 0) v37_2 i0 v60_4 (ls60 (Int.toNat v37_2)))
                have hsu := (by assumption : suP v60_4 v37_2)
                have hni : ¬ Me v60_4 i0 := fun g => by
                  have h8 := (mez15 i0).mpr ⟨g, (hzl i0).mpr rfl⟩
                  rw [show z15 = 0 by omega] at h8
                  exact Me_0 _ h8
                refine r_iload (pc := 123) dX12_colours_123 rfl ?_
                refine r_iconst (pc := 125) (v := iv 1) dX12_colours_125 (by decide) ?_
                refine r_isub (pc := 126) (v := iv (v60_4 - 1)) dX12_colours_126 (iv_sub _ _) ?_
                refine r_iload_n (pc := 127) dX12_colours_127 (i := 2) rfl rfl ?_
                obtain ⟨z16, hz16, bz16⟩ := and_2 (v60_4 - 1) v37_2 (by omega) (by omega)
                refine r_iand (pc := 128) (v := iv z16) dX12_colours_128 hz16 ?_
                have mez16 := Me_and hz16 (by omega) (by omega) (by omega)
                have hsu1 : suP z16 v37_2 := fun j g => ((mez16 j).mp g).2
                have hcs := cs_skip hcs0 hsu (by omega) mez16 (by omega) (fun g => absurd g hni)
                refine r_istore (pc := 129) (lv' := [(4, .int (iv z16)), (0, .ref y), (1, .int (iv x1)), (2, .int (iv v37_2)), (3, .int (iv z11))]) dX12_colours_129 (by decide) rfl ?_
                refine r_goto (pc := 131) (tgt := 60) dX12_colours_131 (by decide) ?_
                refine Rn.pick (lv' := [(0, .ref y), (1, .int (iv x1)), (2, .int (iv v37_2)), (3, .int (iv z11)), (4, .int (iv z16))]) [1, 2, 3, 4, 0] rfl ?_
                exact ih60 (Int.toNat (z16)) (by omega) ls60 _ ht60 z16 ⟨by omega, by omega, by omega, by (first | exact hsu1 | exact fun j g => g), by (first | exact hl122 | exact hl56 | assumption), by (first | exact hcs | exact csi_0 (if_pos rfl))⟩ (by omega)
              · have hcs0 := (by assumption : csI (clR be 0) v37_2 i0 v60_4 (ls60 (Int.toNat v37_2)))
                have hsu := (by assumption : suP v60_4 v37_2)
                have hyi : Me v60_4 i0 := by
                  obtain ⟨j, hj⟩ := Me_ex (show 0 < z15 by omega)
                  have h8 := (mez15 j).mp hj
                  have h7 := (hzl j).mp h8.2
                  rw [← h7]; exact h8.1
                refine r_aload_n (pc := 72) dX12_colours_72 (i := 0) rfl rfl ?_
                refine t_getE (pc := 73) (.ref (y + 25)) ht60 (rd_of RX_y) fX12_85 dX12_colours_73 rfl ?_
                refine r_iload (pc := 76) dX12_colours_76 rfl ?_
                refine t_zaldX (pc := 78) (t0 := 2) ht60 (rd_of RX_solid) dX12_colours_78 rfl (by decide) (by omega) (fun b17 => ?_)
                have rb17 := (show Rfx 65536 0 1 sd2 by assumption) (Int.toNat v60_4) (by omega)
                refine t_if_eq (pc := 79) (tgt := 123) dX12_colours_79 (by decide) (by omega) (fun c79 => ?_) (fun c79 => ?_)
                · have hsA := slt_at (by assumption : slT (clR be 0) sd2 v2_2) (s := v60_4) (by omega) (by omega)
                  have hns := (hsA.resolve_left (fun g => by have := g.1; omega)).2
                  clear hsA
                  refine r_iload (pc := 123) dX12_colours_123 rfl ?_
                  refine r_iconst (pc := 125) (v := iv 1) dX12_colours_125 (by decide) ?_
                  refine r_isub (pc := 126) (v := iv (v60_4 - 1)) dX12_colours_126 (iv_sub _ _) ?_
                  refine r_iload_n (pc := 127) dX12_colours_127 (i := 2) rfl rfl ?_
                  obtain ⟨z18, hz18, bz18⟩ := and_2 (v60_4 - 1) v37_2 (by omega) (by omega)
                  refine r_iand (pc := 128) (v := iv z18) dX12_colours_128 hz18 ?_
                  have mez18 := Me_and hz18 (by omega) (by omega) (by omega)
                  have hsu1 : suP z18 v37_2 := fun j g => ((mez18 j).mp g).2
                  have hcs := cs_skip hcs0 hsu (by omega) mez18 (by omega) (fun _ g => absurd g hns)
                  refine r_istore (pc := 129) (lv' := [(4, .int (iv z18)), (0, .ref y), (1, .int (iv x1)), (2, .int (iv v37_2)), (3, .int (iv z11))]) dX12_colours_129 (by decide) rfl ?_
                  refine r_goto (pc := 131) (tgt := 60) dX12_colours_131 (by decide) ?_
                  refine Rn.pick (lv' := [(0, .ref y), (1, .int (iv x1)), (2, .int (iv v37_2)), (3, .int (iv z11)), (4, .int (iv z18))]) [1, 2, 3, 4, 0] rfl ?_
                  exact ih60 (Int.toNat (z18)) (by omega) ls60 _ ht60 z18 ⟨by omega, by omega, by omega, by (first | exact hsu1 | exact fun j g => g), by (first | exact hl122 | exact hl56 | assumption), by (first | exact hcs | exact csi_0 (if_pos rfl))⟩ (by omega)
                · have hsA := slt_at (by assumption : slT (clR be 0) sd2 v2_2) (s := v60_4) (by omega) (by omega)
                  have hys := (hsA.resolve_right (fun g => by have := g.1; omega)).2
                  clear hsA
                  refine r_aload_n (pc := 82) dX12_colours_82 (i := 0) rfl rfl ?_
                  refine t_getE (pc := 83) (.ref (y + 35)) ht60 (rd_of RX_y) fX12_115 dX12_colours_83 rfl ?_
                  refine r_iload_n (pc := 86) dX12_colours_86 (i := 2) rfl rfl ?_
                  refine r_iload (pc := 87) dX12_colours_87 rfl ?_
                  refine r_iconst (pc := 89) (v := iv (-1)) dX12_colours_89 (by decide) ?_
                  refine r_ixor (pc := 90) (v := iv (-v60_4 - 1)) dX12_colours_90 (iv_not _) ?_
                  obtain ⟨z19, hz19, bz19⟩ := and_l v37_2 (-v60_4 - 1) (by omega) (by omega)
                  refine r_iand (pc := 91) (v := iv z19) dX12_colours_91 hz19 ?_
                  have mez19 := Me_not (y := v60_4) hz19 (by omega) (by omega) (by omega)
                  refine t_ialdX (pc := 92) (t0 := 0) ht60 (rd_of RX_least) dX12_colours_92 rfl (by decide) (by omega) (fun b20 => ?_)
                  have htb92 := co_tb (by assumption : lsT (clR be 0) ls60 v37_2) (s := v60_4) mez19 (by omega) (by omega) hm0 hyi
                  have hbb92 := coa_b htb92 (fun i g => Me_lt g.1 (by omega))
                  refine r_iconst (pc := 93) (v := iv 1) dX12_colours_93 (by decide) ?_
                  refine r_iadd (pc := 94) (v := iv ((ls60 (Int.toNat z19)) + 1)) dX12_colours_94 (iv_add _ _) ?_
                  refine r_aload_n (pc := 95) dX12_colours_95 (i := 0) rfl rfl ?_
                  refine t_getE (pc := 96) (.ref (y + 35)) ht60 (rd_of RX_y) fX12_115 dX12_colours_96 rfl ?_
                  refine r_iload_n (pc := 99) dX12_colours_99 (i := 2) rfl rfl ?_
                  refine t_ialdX (pc := 100) (t0 := 0) ht60 (rd_of RX_least) dX12_colours_100 rfl (by decide) (by omega) (fun b21 => ?_)
                  refine t_icmp_ge (pc := 101) (tgt := 123) dX12_colours_101 (by decide) (by omega) (by omega) (fun c101 => ?_) (fun c101 => ?_)
                  · refine r_iload (pc := 123) dX12_colours_123 rfl ?_
                    refine r_iconst (pc := 125) (v := iv 1) dX12_colours_125 (by decide) ?_
                    refine r_isub (pc := 126) (v := iv (v60_4 - 1)) dX12_colours_126 (iv_sub _ _) ?_
                    refine r_iload_n (pc := 127) dX12_colours_127 (i := 2) rfl rfl ?_
                    obtain ⟨z22, hz22, bz22⟩ := and_2 (v60_4 - 1) v37_2 (by omega) (by omega)
                    refine r_iand (pc := 128) (v := iv z22) dX12_colours_128 hz22 ?_
                    have mez22 := Me_and hz22 (by omega) (by omega) (by omega)
                    have hsu1 : suP z22 v37_2 := fun j g => ((mez22 j).mp g).2
                    have hcs := cs_skip hcs0 hsu (by omega) mez22 (by omega) (fun _ _ k9 hk9 hq9 => by have h9 := htb92.2.2 k9 hk9 hq9; omega)
                    refine r_istore (pc := 129) (lv' := [(4, .int (iv z22)), (0, .ref y), (1, .int (iv x1)), (2, .int (iv v37_2)), (3, .int (iv z11))]) dX12_colours_129 (by decide) rfl ?_
                    refine r_goto (pc := 131) (tgt := 60) dX12_colours_131 (by decide) ?_
                    refine Rn.pick (lv' := [(0, .ref y), (1, .int (iv x1)), (2, .int (iv v37_2)), (3, .int (iv z11)), (4, .int (iv z22))]) [1, 2, 3, 4, 0] rfl ?_
                    exact ih60 (Int.toNat (z22)) (by omega) ls60 _ ht60 z22 ⟨by omega, by omega, by omega, by (first | exact hsu1 | exact fun j g => g), by (first | exact hl122 | exact hl56 | assumption), by (first | exact hcs | exact csi_0 (if_pos rfl))⟩ (by omega)
                  · refine r_aload_n (pc := 104) dX12_colours_104 (i := 0) rfl rfl ?_
                    refine t_getE (pc := 105) (.ref (y + 35)) ht60 (rd_of RX_y) fX12_115 dX12_colours_105 rfl ?_
                    refine r_iload_n (pc := 108) dX12_colours_108 (i := 2) rfl rfl ?_
                    refine r_aload_n (pc := 109) dX12_colours_109 (i := 0) rfl rfl ?_
                    refine t_getE (pc := 110) (.ref (y + 35)) ht60 (rd_of RX_y) fX12_115 dX12_colours_110 rfl ?_
                    refine r_iload_n (pc := 113) dX12_colours_113 (i := 2) rfl rfl ?_
                    refine r_iload (pc := 114) dX12_colours_114 rfl ?_
                    refine r_iconst (pc := 116) (v := iv (-1)) dX12_colours_116 (by decide) ?_
                    refine r_ixor (pc := 117) (v := iv (-v60_4 - 1)) dX12_colours_117 (iv_not _) ?_
                    obtain ⟨z23, hz23, bz23⟩ := and_l v37_2 (-v60_4 - 1) (by omega) (by omega)
                    refine r_iand (pc := 118) (v := iv z23) dX12_colours_118 hz23 ?_
                    have mez23 := Me_not (y := v60_4) hz23 (by omega) (by omega) (by omega)
                    refine t_ialdX (pc := 119) (t0 := 0) ht60 (rd_of RX_least) dX12_colours_119 rfl (by decide) (by omega) (fun b24 => ?_)
                    have htb119 := co_tb (by assumption : lsT (clR be 0) ls60 v37_2) (s := v60_4) mez23 (by omega) (by omega) hm0 hyi
                    have hbb119 := coa_b htb119 (fun i g => Me_lt g.1 (by omega))
                    refine r_iconst (pc := 120) (v := iv 1) dX12_colours_120 (by decide) ?_
                    refine r_iadd (pc := 121) (v := iv ((ls60 (Int.toNat z23)) + 1)) dX12_colours_121 (iv_add _ _) ?_
                    refine t_iastX (pc := 122) (t0 := 0) ht60 RX_least dX12_colours_122 rfl (by decide) (by omega) (by omega) (fun hp25 ht26 => ?_)
                    have ht27 := RXw_ls ht26
                    have hl122 := lst_up (x := ls60 (Int.toNat z23) + 1) (by assumption : lsT (clR be 0) ls60 v37_2) (by omega)
                    refine r_iload (pc := 123) dX12_colours_123 rfl ?_
                    refine r_iconst (pc := 125) (v := iv 1) dX12_colours_125 (by decide) ?_
                    refine r_isub (pc := 126) (v := iv (v60_4 - 1)) dX12_colours_126 (iv_sub _ _) ?_
                    refine r_iload_n (pc := 127) dX12_colours_127 (i := 2) rfl rfl ?_
                    obtain ⟨z28, hz28, bz28⟩ := and_2 (v60_4 - 1) v37_2 (by omega) (by omega)
                    refine r_iand (pc := 128) (v := iv z28) dX12_colours_128 hz28 ?_
                    have mez28 := Me_and hz28 (by omega) (by omega) (by omega)
                    have hsu1 : suP z28 v37_2 := fun j g => ((mez28 j).mp g).2
                    have hcs : csI (clR be 0) v37_2 i0 z28 ((fup ls60 (Int.toNat v37_2) ((ls60 (Int.toNat z23)) + 1)) (Int.toNat v37_2)) := by
                      rw [show (fup ls60 (Int.toNat v37_2) ((ls60 (Int.toNat z23)) + 1)) (Int.toNat v37_2) = ls60 (Int.toNat z23) + 1 from if_pos rfl]
                      exact cs_take hcs0 hsu (by omega) mez28 (by omega) hys htb119 (by have h9 := coa_uq htb92 htb119; omega)
                    refine r_istore (pc := 129) (lv' := [(4, .int (iv z28)), (0, .ref y), (1, .int (iv x1)), (2, .int (iv v37_2)), (3, .int (iv z11))]) dX12_colours_129 (by decide) rfl ?_
                    refine r_goto (pc := 131) (tgt := 60) dX12_colours_131 (by decide) ?_
                    refine Rn.pick (lv' := [(0, .ref y), (1, .int (iv x1)), (2, .int (iv v37_2)), (3, .int (iv z11)), (4, .int (iv z28))]) [1, 2, 3, 4, 0] rfl ?_
                    exact ih60 (Int.toNat (z28)) (by omega) (fup ls60 (Int.toNat v37_2) ((ls60 (Int.toNat z23)) + 1)) _ ht27 z28 ⟨by omega, by omega, by omega, by (first | exact hsu1 | exact fun j g => g), by (first | exact hl122 | exact hl56 | assumption), by (first | exact hcs | exact csi_0 (if_pos rfl))⟩ (by omega)
          refine Rn.pick (lv' := [(0, .ref y), (1, .int (iv x1)), (2, .int (iv v37_2)), (3, .int (iv z11)), (4, .int (iv v37_2))]) [2, 3, 4, 1, 0] rfl ?_
          exact B60 (Int.toNat (v37_2)) (fup ls37 (Int.toNat v37_2) 99) _ ht14 v37_2 ⟨by omega, by omega, by omega, by (first | exact hsu1 | exact fun j g => g), by (first | exact hl122 | exact hl56 | assumption), by (first | exact hcs | exact csi_0 (if_pos rfl))⟩ (by omega)
      refine Rn.pick (lv' := [(0, .ref y), (1, .int (iv x1)), (2, .int (iv 1))]) [1, 2, 0] rfl ?_
      exact B37 (Int.toNat (65536 - 1)) (fup ls (Int.toNat 0) 0) _ ht5 1 ⟨by omega, by omega, by omega, by (first | exact hlT | exact lst_0 (if_pos rfl))⟩ (by omega)
    · refine r_aload_n (pc := 9) dX12_colours_9 (i := 0) rfl rfl ?_
      refine t_getE (pc := 10) (.ref (y + 25)) ht2 (rd_of RX_y) fX12_85 dX12_colours_10 rfl ?_
      refine r_iload_n (pc := 13) dX12_colours_13 (i := 2) rfl rfl ?_
      refine r_aload_n (pc := 14) dX12_colours_14 (i := 0) rfl rfl ?_
      refine r_iload_n (pc := 15) dX12_colours_15 (i := 2) rfl rfl ?_
      refine r_iload_n (pc := 16) dX12_colours_16 (i := 1) rfl rfl ?_
      refine r_iconst (pc := 17) (v := iv 0) dX12_colours_17 (by decide) ?_
      obtain ⟨fs33, hfs33⟩ := t_obj ht2 (rd_of RX_y)
      refine r_callV (pc := 18) (as := [.int (iv v2_2), .int (iv x1), .int (iv 0)]) (st := [.int (iv v2_2), .ref (y + 25)]) kX12_362 rfl dX12_colours_18 hfs33 (x_X12_isClique (d := d - 1) (x1 := v2_2) (x2 := x1) (x3 := 0) (by omega) (by assumption) ht2 (by omega) (by omega) (by omega) (by omega) (fun _ _ _ h => h)) rfl (by omega) (Nat.le_of_ble_eq_true rfl) (Nat.zero_le _) (Nat.zero_le _) rfl (fun r30 hp29 n31 hq32 => ?_)
      obtain ⟨hnn31, r9_35, ht34, hrr30, hhq320, hhq321⟩ := hq32
      subst n31 r30
      have hhq320 : 0 ≤ r9_35 ∧ r9_35 ≤ 1 := hhq320
      have hhq321 : (r9_35 = 1 ∧ apP (clR be 0) v2_2) ∨ (r9_35 = 0 ∧ ¬ apP (clR be 0) v2_2) := hhq321
      change Rn _ _ _ 21 _ [.int (iv r9_35), .int (iv v2_2), .ref (y + 25)] _ _ _ _ _
      refine t_zastX (pc := 21) (t0 := 2) ht34 RX_solid dX12_colours_21 rfl (by decide) (by omega) (by omega) (fun hp36 ht37 => ?_)
      have ht38 := RXw_sd ht37
      have hqht38 : Rfx 65536 0 1 (fup sd2 (Int.toNat v2_2) r9_35) := Rfx_up (by assumption) (by omega)
      have hsl := slt_up (by assumption : slT (clR be 0) sd2 v2_2) (by omega) hhq321
      refine r_iinc (pc := 22) (v := iv (v2_2 + 1)) (lv' := [(2, .int (iv (v2_2 + 1))), (0, .ref y), (1, .int (iv x1))]) dX12_colours_22 rfl (iv_add _ _) (by decide) rfl ?_
      refine r_goto (pc := 25) (tgt := 2) dX12_colours_25 (by decide) ?_
      refine Rn.pick (lv' := [(0, .ref y), (1, .int (iv x1)), (2, .int (iv (v2_2 + 1)))]) [1, 2, 0] rfl ?_
      exact ih2 (Int.toNat (65536 - (v2_2 + 1))) (by omega) (fup sd2 (Int.toNat v2_2) r9_35) _ ht38 (v2_2 + 1) ⟨by omega, by omega, by assumption, by omega, by (first | exact hsl | exact slt_0)⟩ (by omega)
  refine Rn.pick (lv' := [(0, .ref y), (1, .int (iv x1)), (2, .int (iv 0))]) [1, 2, 0] rfl ?_
  exact B2 (Int.toNat (65536 - 0)) sd _ ht 0 ⟨by omega, by omega, by assumption, by omega, by (first | exact hsl | exact slt_0)⟩ (by omega)
