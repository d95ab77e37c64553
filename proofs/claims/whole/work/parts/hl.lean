set_option maxHeartbeats 4000000 in
set_option maxRecDepth 100000 in
theorem x_X12_times {D : va_G} {cI cJ cZ cT : ClassId} {lo b L : Nat} {xs : Nat → Int32} {hp : MH} {n d : Nat} {Γ : TG} {y : Nat} {rf cn nm : Int} {so sz dr mn fr tt wt co : Nat → Int} {nu : Nat → Int64} {sa : Nat → Int} {wo : Nat → Int64} {ln : Nat → Int} {hw : Nat → Int64} {ro qi qc nf nt nw nc : Nat → Int} {cl nx : Nat → Int64} {ie be sd bl : Nat → Int} {bs wy ra rb : Nat → Int64} {lb bg os js ls : Nat → Int} {sp : Nat → Int64} {jw go : Nat → Int} {de : Nat → Int64} {yb ah im : Nat → Int} {x1 x2 x3 x4 x5 : Int} {Po9 : Option Value → MH → Nat → Prop} (hd0 : 1 ≤ d) (hR_many : Rfx 121 0 60 mn) (hR_from : Rfx 7260 0 15 fr) (hR_to : Rfx 7260 0 15 tt) (hR_weight : Rfx 7260 (-1000) 1000 wt) (hR_cost : Rfx 7260 (-1000) 1000 co) (hR_directs : Rfx 121 0 1 dr) (ht : Tw (RX Γ cI cJ cZ y rf cn nm so sz dr mn fr tt wt co nu sa wo ln hw ro qi qc nf nt nw nc cl nx ie be sd bl bs wy ra rb lb bg os js ls sp jw go de yb ah im) hp) (hx1 : 0 ≤ x1 ∧ x1 ≤ 120) (hx2 : 0 ≤ x2 ∧ x2 ≤ 15) (hx3 : 0 ≤ x3 ∧ x3 ≤ 15) (hx4 : (-1000) ≤ x4 ∧ x4 ≤ 1000) (hx5 : (-1000) ≤ x5 ∧ x5 ≤ 1000) (hPo : ∀ r hp1 n1, (n1 = n ∧ ∃ (r9 : Int), Tw (RX Γ cI cJ cZ y rf cn nm so sz dr mn fr tt wt co nu sa wo ln hw ro qi qc nf nt nw nc cl nx ie be sd bl bs wy ra rb lb bg os js ls sp jw go de yb ah im) hp1 ∧ r = some (.int (iv r9)) ∧ (0 ≤ r9 ∧ r9 ≤ 60) ∧ (r9 = tmA (Int.toNat (mn (Int.toNat x1))) (dr (Int.toNat x1)) (sh fr (60 * x1)) (sh tt (60 * x1)) (sh wt (60 * x1)) (sh co (60 * x1)) x2 x3 x4 x5)) → Po9 r hp1 n1) : Mt (gG D cI cJ cZ cT lo b L xs) mX12_times d 0 0 [.ref y, .int (iv x1), .int (iv x2), .int (iv x3), .int (iv x4), .int (iv x5)] hp n Po9 := by
  refine Mt.of rfl (Nat.le_of_ble_eq_true rfl) ?_
  refine Rn.pick (lv' := [(0, .ref y), (1, .int (iv x1)), (2, .int (iv x2)), (3, .int (iv x3)), (4, .int (iv x4)), (5, .int (iv x5))]) [0, 1, 2, 3, 4, 5] rfl ?_
  have rmn := hR_many (Int.toNat x1) (by omega)
  have rdr := hR_directs (Int.toNat x1) (by omega)
  refine r_iconst (pc := 0) (v := iv 0) dX12_times_0 (by decide) ?_
  refine r_istore (pc := 1) (lv' := [(6, .int (iv 0)), (0, .ref y), (1, .int (iv x1)), (2, .int (iv x2)), (3, .int (iv x3)), (4, .int (iv x4)), (5, .int (iv x5))]) dX12_times_1 (by decide) rfl ?_
  refine r_iconst (pc := 3) (v := iv 0) dX12_times_3 (by decide) ?_
  refine r_istore (pc := 4) (lv' := [(7, .int (iv 0)), (6, .int (iv 0)), (0, .ref y), (1, .int (iv x1)), (2, .int (iv x2)), (3, .int (iv x3)), (4, .int (iv x4)), (5, .int (iv x5))]) dX12_times_4 (by decide) rfl ?_
  have B6 : ∀ k : Nat, ∀ hp6 : MH, Tw (RX Γ cI cJ cZ y rf cn nm so sz dr mn fr tt wt co nu sa wo ln hw ro qi qc nf nt nw nc cl nx ie be sd bl bs wy ra rb lb bg os js ls sp jw go de yb ah im) hp6 → ∀  (v6_6 : Int) (v6_7 : Int), 0 ≤ v6_6 ∧ v6_6 ≤ 60 ∧ 0 ≤ v6_7 ∧ v6_7 ≤ 60 ∧ (v6_7 ≤ (mn (Int.toNat x1))) ∧ (v6_6 ≤ v6_7) ∧ (v6_6 = sgm (tmF (dr (Int.toNat x1)) (sh fr (60 * x1)) (sh tt (60 * x1)) (sh wt (60 * x1)) (sh co (60 * x1)) x2 x3 x4 x5) (Int.toNat v6_7)) → 60 - v6_7 ≤ (k : Int) → Rn (gG D cI cJ cZ cT lo b L xs) mX12_times d 6 [(0, .ref y), (1, .int (iv x1)), (2, .int (iv x2)), (3, .int (iv x3)), (4, .int (iv x4)), (5, .int (iv x5)), (6, .int (iv v6_6)), (7, .int (iv v6_7))] [] hp6 n 0 0 Po9 := by
    refine lpS _ ?_
    intro k6 ih6 hp6 ht6 v6_6 v6_7 hf6 hm6
    obtain ⟨hf6_0, hf6_1, hf6_2, hf6_3, hf6_4, hf6_5, ha6_6⟩ := hf6
    refine r_iload (pc := 6) dX12_times_6 rfl ?_
    refine r_aload_n (pc := 8) dX12_times_8 (i := 0) rfl rfl ?_
    refine t_getE (pc := 9) (.ref (y + 4)) ht6 (rd_of RX_y) fX12_20 dX12_times_9 rfl ?_
    refine r_iload_n (pc := 12) dX12_times_12 (i := 1) rfl rfl ?_
    refine t_ialdX (pc := 13) (t0 := 0) ht6 (rd_of RX_many) dX12_times_13 rfl (by decide) (by omega) (fun b1 => ?_)
    have rb1 := (show Rfx 121 0 60 mn by assumption) (Int.toNat x1) (by omega)
    refine t_icmp_ge (pc := 14) (tgt := 130) dX12_times_14 (by decide) (by omega) (by omega) (fun c14 => ?_) (fun c14 => ?_)
    · refine r_iload (pc := 130) dX12_times_130 rfl ?_
      exact r_iret (pc := 132) dX12_times_132 rfl (hPo _ _ _ ⟨rfl, v6_6, ht6, rfl, (by omega), (by (rw [(by assumption : v6_6 = sgm (tmF (dr (Int.toNat x1)) (sh fr (60 * x1)) (sh tt (60 * x1)) (sh wt (60 * x1)) (sh co (60 * x1)) x2 x3 x4 x5) (Int.toNat v6_7)), show Int.toNat v6_7 = (Int.toNat (mn (Int.toNat x1))) by omega]; rfl))⟩)
    · refine r_iload_n (pc := 17) dX12_times_17 (i := 1) rfl rfl ?_
      refine r_iload (pc := 18) dX12_times_18 rfl ?_
      refine t_callSI (pc := 20) (as := [.int (iv x1), .int (iv v6_7)]) (st := []) kX12_157 dX12_times_20 (t_X12_at1x (d := d - 1) (x1 := x1) (x2 := v6_7) (by omega)  ht6 (by omega) (by omega)) rfl (by omega) (Nat.le_of_ble_eq_true rfl) rfl (fun hp2 y4 ht3 by4 => ?_)
      have ey4 : y4 = 60 * x1 + v6_7 := by4
      subst ey4
      have eF := sh_at fr (60 * x1) (v := v6_7) (by omega)
      have eT := sh_at tt (60 * x1) (v := v6_7) (by omega)
      have eW := sh_at wt (60 * x1) (v := v6_7) (by omega)
      have eC := sh_at co (60 * x1) (v := v6_7) (by omega)
      refine r_istore (pc := 23) (lv' := [(8, .int (iv (60 * x1 + v6_7))), (0, .ref y), (1, .int (iv x1)), (2, .int (iv x2)), (3, .int (iv x3)), (4, .int (iv x4)), (5, .int (iv x5)), (6, .int (iv v6_6)), (7, .int (iv v6_7))]) dX12_times_23 (by decide) rfl ?_
      refine r_aload_n (pc := 25) dX12_times_25 (i := 0) rfl rfl ?_
      refine t_getE (pc := 26) (.ref (y + 5)) ht3 (rd_of RX_y) fX12_23 dX12_times_26 rfl ?_
      refine r_iload (pc := 29) dX12_times_29 rfl ?_
      refine t_ialdX (pc := 31) (t0 := 0) ht3 (rd_of RX_from) dX12_times_31 rfl (by decide) (by omega) (fun b5 => ?_)
      have rb5 := (show Rfx 7260 0 15 fr by assumption) (Int.toNat (60 * x1 + v6_7)) (by omega)
      refine r_iload_n (pc := 32) dX12_times_32 (i := 2) rfl rfl ?_
      have B83 : ∀ hp83 : MH, Tw (RX Γ cI cJ cZ y rf cn nm so sz dr mn fr tt wt co nu sa wo ln hw ro qi qc nf nt nw nc cl nx ie be sd bl bs wy ra rb lb bg os js ls sp jw go de yb ah im) hp83 → ∀  (u83_0 : Int), 0 ≤ u83_0 ∧ u83_0 ≤ 1 ∧ ((u83_0 = 1 ∧ ((((sh fr (60 * x1)) (Int.toNat v6_7)) = x2 ∧ ((sh tt (60 * x1)) (Int.toNat v6_7)) = x3) ∨ ((dr (Int.toNat x1)) = 0 ∧ ((sh fr (60 * x1)) (Int.toNat v6_7)) = x3 ∧ ((sh tt (60 * x1)) (Int.toNat v6_7)) = x2))) ∨ (u83_0 = 0 ∧ ¬ ((((sh fr (60 * x1)) (Int.toNat v6_7)) = x2 ∧ ((sh tt (60 * x1)) (Int.toNat v6_7)) = x3) ∨ ((dr (Int.toNat x1)) = 0 ∧ ((sh fr (60 * x1)) (Int.toNat v6_7)) = x3 ∧ ((sh tt (60 * x1)) (Int.toNat v6_7)) = x2)))) → Rn (gG D cI cJ cZ cT lo b L xs) mX12_times d 83 [(0, .ref y), (1, .int (iv x1)), (2, .int (iv x2)), (3, .int (iv x3)), (4, .int (iv x4)), (5, .int (iv x5)), (6, .int (iv v6_6)), (7, .int (iv v6_7)), (8, .int (iv (60 * x1 + v6_7)))] [.int (iv u83_0)] hp83 n 0 0 Po9 := by
        intro hp83 ht83 u83_0 hf83
        refine r_istore (pc := 83) (lv' := [(9, .int (iv u83_0)), (0, .ref y), (1, .int (iv x1)), (2, .int (iv x2)), (3, .int (iv x3)), (4, .int (iv x4)), (5, .int (iv x5)), (6, .int (iv v6_6)), (7, .int (iv v6_7)), (8, .int (iv (60 * x1 + v6_7)))]) dX12_times_83 (by decide) rfl ?_
        refine r_iload (pc := 85) dX12_times_85 rfl ?_
        refine r_iload (pc := 87) dX12_times_87 rfl ?_
        have B121 : ∀ hp121 : MH, Tw (RX Γ cI cJ cZ y rf cn nm so sz dr mn fr tt wt co nu sa wo ln hw ro qi qc nf nt nw nc cl nx ie be sd bl bs wy ra rb lb bg os js ls sp jw go de yb ah im) hp121 → ∀  (u121_1 : Int), 0 ≤ u121_1 ∧ u121_1 ≤ 1 ∧ ((u121_1 = 1 ∧ ((((sh fr (60 * x1)) (Int.toNat v6_7)) = x2 ∧ ((sh tt (60 * x1)) (Int.toNat v6_7)) = x3) ∨ ((dr (Int.toNat x1)) = 0 ∧ ((sh fr (60 * x1)) (Int.toNat v6_7)) = x3 ∧ ((sh tt (60 * x1)) (Int.toNat v6_7)) = x2)) ∧ ((sh wt (60 * x1)) (Int.toNat v6_7)) = x4 ∧ ((sh co (60 * x1)) (Int.toNat v6_7)) = x5) ∨ (u121_1 = 0 ∧ ¬ (((((sh fr (60 * x1)) (Int.toNat v6_7)) = x2 ∧ ((sh tt (60 * x1)) (Int.toNat v6_7)) = x3) ∨ ((dr (Int.toNat x1)) = 0 ∧ ((sh fr (60 * x1)) (Int.toNat v6_7)) = x3 ∧ ((sh tt (60 * x1)) (Int.toNat v6_7)) = x2)) ∧ ((sh wt (60 * x1)) (Int.toNat v6_7)) = x4 ∧ ((sh co (60 * x1)) (Int.toNat v6_7)) = x5))) → Rn (gG D cI cJ cZ cT lo b L xs) mX12_times d 121 [(0, .ref y), (1, .int (iv x1)), (2, .int (iv x2)), (3, .int (iv x3)), (4, .int (iv x4)), (5, .int (iv x5)), (7, .int (iv v6_7))] [.int (iv u121_1), .int (iv v6_6)] hp121 n 0 0 Po9 := by
          intro hp121 ht121 u121_1 hf121
          refine r_iadd (pc := 121) (v := iv (v6_6 + u121_1)) dX12_times_121 (iv_add _ _) ?_
          have htm := cnt_up (by omega) (by assumption : v6_6 = sgm (tmF (dr (Int.toNat x1)) (sh fr (60 * x1)) (sh tt (60 * x1)) (sh wt (60 * x1)) (sh co (60 * x1)) x2 x3 x4 x5) (Int.toNat v6_7)) (tmf_b hf121.2.2)
          refine r_istore (pc := 122) (lv' := [(6, .int (iv (v6_6 + u121_1))), (0, .ref y), (1, .int (iv x1)), (2, .int (iv x2)), (3, .int (iv x3)), (4, .int (iv x4)), (5, .int (iv x5)), (7, .int (iv v6_7))]) dX12_times_122 (by decide) rfl ?_
          refine r_iinc (pc := 124) (v := iv (v6_7 + 1)) (lv' := [(7, .int (iv (v6_7 + 1))), (6, .int (iv (v6_6 + u121_1))), (0, .ref y), (1, .int (iv x1)), (2, .int (iv x2)), (3, .int (iv x3)), (4, .int (iv x4)), (5, .int (iv x5))]) dX12_times_124 rfl (iv_add _ _) (by decide) rfl ?_
          refine r_goto (pc := 127) (tgt := 6) dX12_times_127 (by decide) ?_
          refine Rn.pick (lv' := [(0, .ref y), (1, .int (iv x1)), (2, .int (iv x2)), (3, .int (iv x3)), (4, .int (iv x4)), (5, .int (iv x5)), (6, .int (iv (v6_6 + u121_1))), (7, .int (iv (v6_7 + 1)))]) [2, 3, 4, 5, 6, 7, 1, 0] rfl ?_
          exact ih6 (Int.toNat (60 - (v6_7 + 1))) (by omega) _ ht121 (v6_6 + u121_1) (v6_7 + 1) ⟨by omega, by omega, by omega, by omega, by omega, by omega, by (first | exact htm | rfl)⟩ (by omega)
        refine t_if_eq (pc := 89) (tgt := 120) dX12_times_89 (by decide) (by omega) (fun c89 => ?_) (fun c89 => ?_)
        · refine r_iconst (pc := 120) (v := iv 0) dX12_times_120 (by decide) ?_
          refine Rn.pick (lv' := [(0, .ref y), (1, .int (iv x1)), (2, .int (iv x2)), (3, .int (iv x3)), (4, .int (iv x4)), (5, .int (iv x5)), (7, .int (iv v6_7))]) [1, 2, 3, 4, 5, 6, 8] rfl ?_
          exact B121 _ ht83 0 ⟨by omega, by omega, by omega⟩
        · refine r_aload_n (pc := 92) dX12_times_92 (i := 0) rfl rfl ?_
          refine t_getE (pc := 93) (.ref (y + 7)) ht83 (rd_of RX_y) fX12_29 dX12_times_93 rfl ?_
          refine r_iload (pc := 96) dX12_times_96 rfl ?_
          refine t_ialdX (pc := 98) (t0 := 0) ht83 (rd_of RX_weight) dX12_times_98 rfl (by decide) (by omega) (fun b6 => ?_)
          have rb6 := (show Rfx 7260 (-1000) 1000 wt by assumption) (Int.toNat (60 * x1 + v6_7)) (by omega)
          refine r_iload (pc := 99) dX12_times_99 rfl ?_
          refine t_icmp_ne (pc := 101) (tgt := 120) dX12_times_101 (by decide) (by omega) (by omega) (fun c101 => ?_) (fun c101 => ?_)
          · refine r_iconst (pc := 120) (v := iv 0) dX12_times_120 (by decide) ?_
            refine Rn.pick (lv' := [(0, .ref y), (1, .int (iv x1)), (2, .int (iv x2)), (3, .int (iv x3)), (4, .int (iv x4)), (5, .int (iv x5)), (7, .int (iv v6_7))]) [1, 2, 3, 4, 5, 6, 8] rfl ?_
            exact B121 _ ht83 0 ⟨by omega, by omega, by omega⟩
          · refine r_aload_n (pc := 104) dX12_times_104 (i := 0) rfl rfl ?_
            refine t_getE (pc := 105) (.ref (y + 8)) ht83 (rd_of RX_y) fX12_32 dX12_times_105 rfl ?_
            refine r_iload (pc := 108) dX12_times_108 rfl ?_
            refine t_ialdX (pc := 110) (t0 := 0) ht83 (rd_of RX_cost) dX12_times_110 rfl (by decide) (by omega) (fun b7 => ?_)
            have rb7 := (show Rfx 7260 (-1000) 1000 co by assumption) (Int.toNat (60 * x1 + v6_7)) (by omega)
            refine r_iload (pc := 111) dX12_times_111 rfl ?_
            refine t_icmp_ne (pc := 113) (tgt := 120) dX12_times_113 (by decide) (by omega) (by omega) (fun c113 => ?_) (fun c113 => ?_)
            · refine r_iconst (pc := 120) (v := iv 0) dX12_times_120 (by decide) ?_
              refine Rn.pick (lv' := [(0, .ref y), (1, .int (iv x1)), (2, .int (iv x2)), (3, .int (iv x3)), (4, .int (iv x4)), (5, .int (iv x5)), (7, .int (iv v6_7))]) [1, 2, 3, 4, 5, 6, 8] rfl ?_
              exact B121 _ ht83 0 ⟨by omega, by omega, by omega⟩
            · refine r_iconst (pc := 116) (v := iv 1) dX12_times_116 (by decide) ?_
              refine r_goto (pc := 117) (tgt := 121) dX12_times_117 (by decide) ?_
              refine Rn.pick (lv' := [(0, .ref y), (1, .int (iv x1)), (2, .int (iv x2)), (3, .int (iv x3)), (4, .int (iv x4)), (5, .int (iv x5)), (7, .int (iv v6_7))]) [1, 2, 3, 4, 5, 6, 8] rfl ?_
              exact B121 _ ht83 1 ⟨by omega, by omega, by omega⟩
      refine t_icmp_ne (pc := 33) (tgt := 47) dX12_times_33 (by decide) (by omega) (by omega) (fun c33 => ?_) (fun c33 => ?_)
      · refine r_aload_n (pc := 47) dX12_times_47 (i := 0) rfl rfl ?_
        refine t_getE (pc := 48) (.ref (y + 3)) ht3 (rd_of RX_y) fX12_16 dX12_times_48 rfl ?_
        refine r_iload_n (pc := 51) dX12_times_51 (i := 1) rfl rfl ?_
        refine t_zaldX (pc := 52) (t0 := 2) ht3 (rd_of RX_directs) dX12_times_52 rfl (by decide) (by omega) (fun b8 => ?_)
        have rb8 := (show Rfx 121 0 1 dr by assumption) (Int.toNat x1) (by omega)
        refine t_if_ne (pc := 53) (tgt := 82) dX12_times_53 (by decide) (by omega) (fun c53 => ?_) (fun c53 => ?_)
        · refine r_iconst (pc := 82) (v := iv 0) dX12_times_82 (by decide) ?_
          refine Rn.pick (lv' := [(0, .ref y), (1, .int (iv x1)), (2, .int (iv x2)), (3, .int (iv x3)), (4, .int (iv x4)), (5, .int (iv x5)), (6, .int (iv v6_6)), (7, .int (iv v6_7)), (8, .int (iv (60 * x1 + v6_7)))]) [1, 2, 3, 4, 5, 6, 7, 8, 0] rfl ?_
          exact B83 _ ht3 0 ⟨by omega, by omega, by omega⟩
        · refine r_aload_n (pc := 56) dX12_times_56 (i := 0) rfl rfl ?_
          refine t_getE (pc := 57) (.ref (y + 5)) ht3 (rd_of RX_y) fX12_23 dX12_times_57 rfl ?_
          refine r_iload (pc := 60) dX12_times_60 rfl ?_
          refine t_ialdX (pc := 62) (t0 := 0) ht3 (rd_of RX_from) dX12_times_62 rfl (by decide) (by omega) (fun b9 => ?_)
          have rb9 := (show Rfx 7260 0 15 fr by assumption) (Int.toNat (60 * x1 + v6_7)) (by omega)
          refine r_iload_n (pc := 63) dX12_times_63 (i := 3) rfl rfl ?_
          refine t_icmp_ne (pc := 64) (tgt := 82) dX12_times_64 (by decide) (by omega) (by omega) (fun c64 => ?_) (fun c64 => ?_)
          · refine r_iconst (pc := 82) (v := iv 0) dX12_times_82 (by decide) ?_
            refine Rn.pick (lv' := [(0, .ref y), (1, .int (iv x1)), (2, .int (iv x2)), (3, .int (iv x3)), (4, .int (iv x4)), (5, .int (iv x5)), (6, .int (iv v6_6)), (7, .int (iv v6_7)), (8, .int (iv (60 * x1 + v6_7)))]) [1, 2, 3, 4, 5, 6, 7, 8, 0] rfl ?_
            exact B83 _ ht3 0 ⟨by omega, by omega, by omega⟩
          · refine r_aload_n (pc := 67) dX12_times_67 (i := 0) rfl rfl ?_
            refine t_getE (pc := 68) (.ref (y + 6)) ht3 (rd_of RX_y) fX12_26 dX12_times_68 rfl ?_
            refine r_iload (pc := 71) dX12_times_71 rfl ?_
            refine t_ialdX (pc := 73) (t0 := 0) ht3 (rd_of RX_to) dX12_times_73 rfl (by decide) (by omega) (fun b10 => ?_)
            have rb10 := (show Rfx 7260 0 15 tt by assumption) (Int.toNat (60 * x1 + v6_7)) (by omega)
            refine r_iload_n (pc := 74) dX12_times_74 (i := 2) rfl rfl ?_
            refine t_icmp_ne (pc := 75) (tgt := 82) dX12_times_75 (by decide) (by omega) (by omega) (fun c75 => ?_) (fun c75 => ?_)
            · refine r_iconst (pc := 82) (v := iv 0) dX12_times_82 (by decide) ?_
              refine Rn.pick (lv' := [(0, .ref y), (1, .int (iv x1)), (2, .int (iv x2)), (3, .int (iv x3)), (4, .int (iv x4)), (5, .int (iv x5)), (6, .int (iv v6_6)), (7, .int (iv v6_7)), (8, .int (iv (60 * x1 + v6_7)))]) [1, 2, 3, 4, 5, 6, 7, 8, 0] rfl ?_
              exact B83 _ ht3 0 ⟨by omega, by omega, by omega⟩
            · refine r_iconst (pc := 78) (v := iv 1) dX12_times_78 (by decide) ?_
              refine r_goto (pc := 79) (tgt := 83) dX12_times_79 (by decide) ?_
              refine Rn.pick (lv' := [(0, .ref y), (1, .int (iv x1)), (2, .int (iv x2)), (3, .int (iv x3)), (4, .int (iv x4)), (5, .int (iv x5)), (6, .int (iv v6_6)), (7, .int (iv v6_7)), (8, .int (iv (60 * x1 + v6_7)))]) [1, 2, 3, 4, 5, 6, 7, 8, 0] rfl ?_
              exact B83 _ ht3 1 ⟨by omega, by omega, by omega⟩
      · refine r_aload_n (pc := 36) dX12_times_36 (i := 0) rfl rfl ?_
        refine t_getE (pc := 37) (.ref (y + 6)) ht3 (rd_of RX_y) fX12_26 dX12_times_37 rfl ?_
        refine r_iload (pc := 40) dX12_times_40 rfl ?_
        refine t_ialdX (pc := 42) (t0 := 0) ht3 (rd_of RX_to) dX12_times_42 rfl (by decide) (by omega) (fun b11 => ?_)
        have rb11 := (show Rfx 7260 0 15 tt by assumption) (Int.toNat (60 * x1 + v6_7)) (by omega)
        refine r_iload_n (pc := 43) dX12_times_43 (i := 3) rfl rfl ?_
        refine t_icmp_eq (pc := 44) (tgt := 78) dX12_times_44 (by decide) (by omega) (by omega) (fun c44 => ?_) (fun c44 => ?_)
        · refine r_iconst (pc := 78) (v := iv 1) dX12_times_78 (by decide) ?_
          refine r_goto (pc := 79) (tgt := 83) dX12_times_79 (by decide) ?_
          refine Rn.pick (lv' := [(0, .ref y), (1, .int (iv x1)), (2, .int (iv x2)), (3, .int (iv x3)), (4, .int (iv x4)), (5, .int (iv x5)), (6, .int (iv v6_6)), (7, .int (iv v6_7)), (8, .int (iv (60 * x1 + v6_7)))]) [1, 2, 3, 4, 5, 6, 7, 8, 0] rfl ?_
          exact B83 _ ht3 1 ⟨by omega, by omega, by omega⟩
        · refine r_aload_n (pc := 47) dX12_times_47 (i := 0) rfl rfl ?_
          refine t_getE (pc := 48) (.ref (y + 3)) ht3 (rd_of RX_y) fX12_16 dX12_times_48 rfl ?_
          refine r_iload_n (pc := 51) dX12_times_51 (i := 1) rfl rfl ?_
          refine t_zaldX (pc := 52) (t0 := 2) ht3 (rd_of RX_directs) dX12_times_52 rfl (by decide) (by omega) (fun b12 => ?_)
          have rb12 := (show Rfx 121 0 1 dr by assumption) (Int.toNat x1) (by omega)
          refine t_if_ne (pc := 53) (tgt := 82) dX12_times_53 (by decide) (by omega) (fun c53 => ?_) (fun c53 => ?_)
          · refine r_iconst (pc := 82) (v := iv 0) dX12_times_82 (by decide) ?_
            refine Rn.pick (lv' := [(0, .ref y), (1, .int (iv x1)), (2, .int (iv x2)), (3, .int (iv x3)), (4, .int (iv x4)), (5, .int (iv x5)), (6, .int (iv v6_6)), (7, .int (iv v6_7)), (8, .int (iv (60 * x1 + v6_7)))]) [1, 2, 3, 4, 5, 6, 7, 8, 0] rfl ?_
            exact B83 _ ht3 0 ⟨by omega, by omega, by omega⟩
          · refine r_aload_n (pc := 56) dX12_times_56 (i := 0) rfl rfl ?_
            refine t_getE (pc := 57) (.ref (y + 5)) ht3 (rd_of RX_y) fX12_23 dX12_times_57 rfl ?_
            refine r_iload (pc := 60) dX12_times_60 rfl ?_
            refine t_ialdX (pc := 62) (t0 := 0) ht3 (rd_of RX_from) dX12_times_62 rfl (by decide) (by omega) (fun b13 => ?_)
            have rb13 := (show Rfx 7260 0 15 fr by assumption) (Int.toNat (60 * x1 + v6_7)) (by omega)
            refine r_iload_n (pc := 63) dX12_times_63 (i := 3) rfl rfl ?_
            refine t_icmp_ne (pc := 64) (tgt := 82) dX12_times_64 (by decide) (by omega) (by omega) (fun c64 => ?_) (fun c64 => ?_)
            · refine r_iconst (pc := 82) (v := iv 0) dX12_times_82 (by decide) ?_
              refine Rn.pick (lv' := [(0, .ref y), (1, .int (iv x1)), (2, .int (iv x2)), (3, .int (iv x3)), (4, .int (iv x4)), (5, .int (iv x5)), (6, .int (iv v6_6)), (7, .int (iv v6_7)), (8, .int (iv (60 * x1 + v6_7)))]) [1, 2, 3, 4, 5, 6, 7, 8, 0] rfl ?_
              exact B83 _ ht3 0 ⟨by omega, by omega, by omega⟩
            · refine r_aload_n (pc := 67) dX12_times_67 (i := 0) rfl rfl ?_
              refine t_getE (pc := 68) (.ref (y + 6)) ht3 (rd_of RX_y) fX12_26 dX12_times_68 rfl ?_
              refine r_iload (pc := 71) dX12_times_71 rfl ?_
              refine t_ialdX (pc := 73) (t0 := 0) ht3 (rd_of RX_to) dX12_times_73 rfl (by decide) (by omega) (fun b14 => ?_)
              have rb14 := (show Rfx 7260 0 15 tt by assumption) (Int.toNat (60 * x1 + v6_7)) (by omega)
              refine r_iload_n (pc := 74) dX12_times_74 (i := 2) rfl rfl ?_
              refine t_icmp_ne (pc := 75) (tgt := 82) dX12_times_75 (by decide) (by omega) (by omega) (fun c75 => ?_) (fun c75 => ?_)
              · refine r_iconst (pc := 82) (v := iv 0) dX12_times_82 (by decide) ?_
                refine Rn.pick (lv' := [(0, .ref y), (1, .int (iv x1)), (2, .int (iv x2)), (3, .int (iv x3)), (4, .int (iv x4)), (5, .int (iv x5)), (6, .int (iv v6_6)), (7, .int (iv v6_7)), (8, .int (iv (60 * x1 + v6_7)))]) [1, 2, 3, 4, 5, 6, 7, 8, 0] rfl ?_
                exact B83 _ ht3 0 ⟨by omega, by omega, by omega⟩
              · refine r_iconst (pc := 78) (v := iv 1) dX12_times_78 (by decide) ?_
                refine r_goto (pc := 79) (tgt := 83) dX12_times_79 (by decide) ?_
                refine Rn.pick (lv' := [(0, .ref y), (1, .int (iv x1)), (2, .int (iv x2)), (3, .int (iv x3)), (4, .int (iv x4)), (5, .int (iv x5)), (6, .int (iv v6_6)), (7, .int (iv v6_7)), (8, .int (iv (60 * x1 + v6_7)))]) [1, 2, 3, 4, 5, 6, 7, 8, 0] rfl ?_
                exact B83 _ ht3 1 ⟨by omega, by omega, by omega⟩
  refine Rn.pick (lv' := [(0, .ref y), (1, .int (iv x1)), (2, .int (iv x2)), (3, .int (iv x3)), (4, .int (iv x4)), (5, .int (iv x5)), (6, .int (iv 0)), (7, .int (iv 0))]) [2, 3, 4, 5, 6, 7, 1, 0] rfl ?_
  exact B6 (Int.toNat (60 - 0)) _ ht 0 0 ⟨by omega, by omega, by omega, by omega, by omega, by omega, by (first | exact htm | rfl)⟩ (by omega)
set_option maxHeartbeats 4000000 in
set_option maxRecDepth 100000 in
theorem x_X12_ends {D : va_G} {cI cJ cZ cT : ClassId} {lo b L : Nat} {xs : Nat → Int32} {hp : MH} {n d : Nat} {Γ : TG} {y : Nat} {rf cn nm : Int} {so sz dr mn fr tt wt co : Nat → Int} {nu : Nat → Int64} {sa : Nat → Int} {wo : Nat → Int64} {ln : Nat → Int} {hw : Nat → Int64} {ro qi qc nf nt nw nc : Nat → Int} {cl nx : Nat → Int64} {ie be sd bl : Nat → Int} {bs wy ra rb : Nat → Int64} {lb bg os js ls : Nat → Int} {sp : Nat → Int64} {jw go : Nat → Int} {de : Nat → Int64} {yb ah im : Nat → Int} {x1 x2 : Int} {Po9 : Option Value → MH → Nat → Prop} (hd0 : 1 ≤ d) (hR_many : Rfx 121 0 60 mn) (hR_from : Rfx 7260 0 15 fr) (hR_to : Rfx 7260 0 15 tt) (hR_directs : Rfx 121 0 1 dr) (ht : Tw (RX Γ cI cJ cZ y rf cn nm so sz dr mn fr tt wt co nu sa wo ln hw ro qi qc nf nt nw nc cl nx ie be sd bl bs wy ra rb lb bg os js ls sp jw go de yb ah im) hp) (hx1 : 0 ≤ x1 ∧ x1 ≤ 120) (hx2 : 0 ≤ x2 ∧ x2 ≤ 15) (hPo : ∀ r hp1 n1, (n1 = n ∧ ∃ (r9 : Int), Tw (RX Γ cI cJ cZ y rf cn nm so sz dr mn fr tt wt co nu sa wo ln hw ro qi qc nf nt nw nc cl nx ie be sd bl bs wy ra rb lb bg os js ls sp jw go de yb ah im) hp1 ∧ r = some (.int (iv r9)) ∧ (0 ≤ r9 ∧ r9 ≤ 60060) ∧ (r9 = edA (Int.toNat (mn (Int.toNat x1))) (dr (Int.toNat x1)) (sh fr (60 * x1)) (sh tt (60 * x1)) x2)) → Po9 r hp1 n1) : Mt (gG D cI cJ cZ cT lo b L xs) mX12_ends d 0 0 [.ref y, .int (iv x1), .int (iv x2)] hp n Po9 := by
  refine Mt.of rfl (Nat.le_of_ble_eq_true rfl) ?_
  refine Rn.pick (lv' := [(0, .ref y), (1, .int (iv x1)), (2, .int (iv x2))]) [0, 1, 2] rfl ?_
  have rmn := hR_many (Int.toNat x1) (by omega)
  have rdr := hR_directs (Int.toNat x1) (by omega)
  refine r_iconst (pc := 0) (v := iv 0) dX12_ends_0 (by decide) ?_
  refine r_istore_n (pc := 1) (lv' := [(3, .int (iv 0)), (0, .ref y), (1, .int (iv x1)), (2, .int (iv x2))]) dX12_ends_1 (i := 3) rfl (by decide) rfl ?_
  refine r_iconst (pc := 2) (v := iv 0) dX12_ends_2 (by decide) ?_
  refine r_istore (pc := 3) (lv' := [(4, .int (iv 0)), (3, .int (iv 0)), (0, .ref y), (1, .int (iv x1)), (2, .int (iv x2))]) dX12_ends_3 (by decide) rfl ?_
  have B5 : ∀ k : Nat, ∀ hp5 : MH, Tw (RX Γ cI cJ cZ y rf cn nm so sz dr mn fr tt wt co nu sa wo ln hw ro qi qc nf nt nw nc cl nx ie be sd bl bs wy ra rb lb bg os js ls sp jw go de yb ah im) hp5 → ∀  (v5_3 : Int) (v5_4 : Int), 0 ≤ v5_3 ∧ v5_3 ≤ 60060 ∧ 0 ≤ v5_4 ∧ v5_4 ≤ 60 ∧ (v5_4 ≤ (mn (Int.toNat x1))) ∧ (v5_3 ≤ 1001 * v5_4) ∧ (v5_3 = sgm (edF (dr (Int.toNat x1)) (sh fr (60 * x1)) (sh tt (60 * x1)) x2) (Int.toNat v5_4)) → 60 - v5_4 ≤ (k : Int) → Rn (gG D cI cJ cZ cT lo b L xs) mX12_ends d 5 [(0, .ref y), (1, .int (iv x1)), (2, .int (iv x2)), (3, .int (iv v5_3)), (4, .int (iv v5_4))] [] hp5 n 0 0 Po9 := by
    refine lpS _ ?_
    intro k5 ih5 hp5 ht5 v5_3 v5_4 hf5 hm5
    obtain ⟨hf5_0, hf5_1, hf5_2, hf5_3, hf5_4, hf5_5, ha5_6⟩ := hf5
    refine r_iload (pc := 5) dX12_ends_5 rfl ?_
    refine r_aload_n (pc := 7) dX12_ends_7 (i := 0) rfl rfl ?_
    refine t_getE (pc := 8) (.ref (y + 4)) ht5 (rd_of RX_y) fX12_20 dX12_ends_8 rfl ?_
    refine r_iload_n (pc := 11) dX12_ends_11 (i := 1) rfl rfl ?_
    refine t_ialdX (pc := 12) (t0 := 0) ht5 (rd_of RX_many) dX12_ends_12 rfl (by decide) (by omega) (fun b1 => ?_)
    have rb1 := (show Rfx 121 0 60 mn by assumption) (Int.toNat x1) (by omega)
    refine t_icmp_ge (pc := 13) (tgt := 81) dX12_ends_13 (by decide) (by omega) (by omega) (fun c13 => ?_) (fun c13 => ?_)
    · refine r_iload_n (pc := 81) dX12_ends_81 (i := 3) rfl rfl ?_
      exact r_iret (pc := 82) dX12_ends_82 rfl (hPo _ _ _ ⟨rfl, v5_3, ht5, rfl, (by omega), (by (rw [(by assumption : v5_3 = sgm (edF (dr (Int.toNat x1)) (sh fr (60 * x1)) (sh tt (60 * x1)) x2) (Int.toNat v5_4)), show Int.toNat v5_4 = (Int.toNat (mn (Int.toNat x1))) by omega]; rfl))⟩)
    · refine r_iload_n (pc := 16) dX12_ends_16 (i := 1) rfl rfl ?_
      refine r_iload (pc := 17) dX12_ends_17 rfl ?_
      refine t_callSI (pc := 19) (as := [.int (iv x1), .int (iv v5_4)]) (st := []) kX12_157 dX12_ends_19 (t_X12_at1x (d := d - 1) (x1 := x1) (x2 := v5_4) (by omega)  ht5 (by omega) (by omega)) rfl (by omega) (Nat.le_of_ble_eq_true rfl) rfl (fun hp2 y4 ht3 by4 => ?_)
      have ey4 : y4 = 60 * x1 + v5_4 := by4
      subst ey4
      have eF := sh_at fr (60 * x1) (v := v5_4) (by omega)
      have eT := sh_at tt (60 * x1) (v := v5_4) (by omega)
      refine r_istore (pc := 22) (lv' := [(5, .int (iv (60 * x1 + v5_4))), (0, .ref y), (1, .int (iv x1)), (2, .int (iv x2)), (3, .int (iv v5_3)), (4, .int (iv v5_4))]) dX12_ends_22 (by decide) rfl ?_
      refine r_iload_n (pc := 24) dX12_ends_24 (i := 3) rfl rfl ?_
      refine r_aload_n (pc := 25) dX12_ends_25 (i := 0) rfl rfl ?_
      refine t_getE (pc := 26) (.ref (y + 5)) ht3 (rd_of RX_y) fX12_23 dX12_ends_26 rfl ?_
      refine r_iload (pc := 29) dX12_ends_29 rfl ?_
      refine t_ialdX (pc := 31) (t0 := 0) ht3 (rd_of RX_from) dX12_ends_31 rfl (by decide) (by omega) (fun b5 => ?_)
      have rb5 := (show Rfx 7260 0 15 fr by assumption) (Int.toNat (60 * x1 + v5_4)) (by omega)
      refine r_iload_n (pc := 32) dX12_ends_32 (i := 2) rfl rfl ?_
      have B41 : ∀ hp41 : MH, Tw (RX Γ cI cJ cZ y rf cn nm so sz dr mn fr tt wt co nu sa wo ln hw ro qi qc nf nt nw nc cl nx ie be sd bl bs wy ra rb lb bg os js ls sp jw go de yb ah im) hp41 → ∀  (u41_1 : Int), 0 ≤ u41_1 ∧ u41_1 ≤ 1 ∧ ((u41_1 = 1 ∧ (sh fr (60 * x1)) (Int.toNat v5_4) = x2) ∨ (u41_1 = 0 ∧ (sh fr (60 * x1)) (Int.toNat v5_4) ≠ x2)) → Rn (gG D cI cJ cZ cT lo b L xs) mX12_ends d 41 [(0, .ref y), (1, .int (iv x1)), (2, .int (iv x2)), (4, .int (iv v5_4)), (5, .int (iv (60 * x1 + v5_4)))] [.int (iv u41_1), .int (iv v5_3)] hp41 n 0 0 Po9 := by
        intro hp41 ht41 u41_1 hf41
        refine r_aload_n (pc := 41) dX12_ends_41 (i := 0) rfl rfl ?_
        refine t_getE (pc := 42) (.ref (y + 6)) ht41 (rd_of RX_y) fX12_26 dX12_ends_42 rfl ?_
        refine r_iload (pc := 45) dX12_ends_45 rfl ?_
        refine t_ialdX (pc := 47) (t0 := 0) ht41 (rd_of RX_to) dX12_ends_47 rfl (by decide) (by omega) (fun b6 => ?_)
        have rb6 := (show Rfx 7260 0 15 tt by assumption) (Int.toNat (60 * x1 + v5_4)) (by omega)
        refine r_iload_n (pc := 48) dX12_ends_48 (i := 2) rfl rfl ?_
        have B72 : ∀ hp72 : MH, Tw (RX Γ cI cJ cZ y rf cn nm so sz dr mn fr tt wt co nu sa wo ln hw ro qi qc nf nt nw nc cl nx ie be sd bl bs wy ra rb lb bg os js ls sp jw go de yb ah im) hp72 → ∀  (u72_2 : Int), 0 ≤ u72_2 ∧ u72_2 ≤ 1000 ∧ (((sh tt (60 * x1)) (Int.toNat v5_4) ≠ x2 ∧ u72_2 = 0) ∨ ((sh tt (60 * x1)) (Int.toNat v5_4) = x2 ∧ (dr (Int.toNat x1)) ≠ 0 ∧ u72_2 = 1000) ∨ ((sh tt (60 * x1)) (Int.toNat v5_4) = x2 ∧ (dr (Int.toNat x1)) = 0 ∧ u72_2 = 1)) → Rn (gG D cI cJ cZ cT lo b L xs) mX12_ends d 72 [(0, .ref y), (1, .int (iv x1)), (2, .int (iv x2)), (4, .int (iv v5_4))] [.int (iv u72_2), .int (iv u41_1), .int (iv v5_3)] hp72 n 0 0 Po9 := by
          intro hp72 ht72 u72_2 hf72
          refine r_iadd (pc := 72) (v := iv (u41_1 + u72_2)) dX12_ends_72 (iv_add _ _) ?_
          refine r_iadd (pc := 73) (v := iv (v5_3 + (u41_1 + u72_2))) dX12_ends_73 (iv_add _ _) ?_
          have hed := cnt_up (by omega) (by assumption : v5_3 = sgm (edF (dr (Int.toNat x1)) (sh fr (60 * x1)) (sh tt (60 * x1)) x2) (Int.toNat v5_4)) (edf_b hf41.2.2 hf72.2.2)
          refine r_istore_n (pc := 74) (lv' := [(3, .int (iv (v5_3 + (u41_1 + u72_2)))), (0, .ref y), (1, .int (iv x1)), (2, .int (iv x2)), (4, .int (iv v5_4))]) dX12_ends_74 (i := 3) rfl (by decide) rfl ?_
          refine r_iinc (pc := 75) (v := iv (v5_4 + 1)) (lv' := [(4, .int (iv (v5_4 + 1))), (3, .int (iv (v5_3 + (u41_1 + u72_2)))), (0, .ref y), (1, .int (iv x1)), (2, .int (iv x2))]) dX12_ends_75 rfl (iv_add _ _) (by decide) rfl ?_
          refine r_goto (pc := 78) (tgt := 5) dX12_ends_78 (by decide) ?_
          refine Rn.pick (lv' := [(0, .ref y), (1, .int (iv x1)), (2, .int (iv x2)), (3, .int (iv (v5_3 + (u41_1 + u72_2)))), (4, .int (iv (v5_4 + 1)))]) [2, 3, 4, 1, 0] rfl ?_
          exact ih5 (Int.toNat (60 - (v5_4 + 1))) (by omega) _ ht72 (v5_3 + (u41_1 + u72_2)) (v5_4 + 1) ⟨by omega, by omega, by omega, by omega, by omega, by omega, by (first | exact hed | rfl)⟩ (by omega)
        refine t_icmp_ne (pc := 49) (tgt := 71) dX12_ends_49 (by decide) (by omega) (by omega) (fun c49 => ?_) (fun c49 => ?_)
        · refine r_iconst (pc := 71) (v := iv 0) dX12_ends_71 (by decide) ?_
          refine Rn.pick (lv' := [(0, .ref y), (1, .int (iv x1)), (2, .int (iv x2)), (4, .int (iv v5_4))]) [0, 1, 2, 3] rfl ?_
          exact B72 _ ht41 0 ⟨by omega, by omega, by omega⟩
        · refine r_aload_n (pc := 52) dX12_ends_52 (i := 0) rfl rfl ?_
          refine t_getE (pc := 53) (.ref (y + 3)) ht41 (rd_of RX_y) fX12_16 dX12_ends_53 rfl ?_
          refine r_iload_n (pc := 56) dX12_ends_56 (i := 1) rfl rfl ?_
          refine t_zaldX (pc := 57) (t0 := 2) ht41 (rd_of RX_directs) dX12_ends_57 rfl (by decide) (by omega) (fun b7 => ?_)
          have rb7 := (show Rfx 121 0 1 dr by assumption) (Int.toNat x1) (by omega)
          refine t_if_eq (pc := 58) (tgt := 67) dX12_ends_58 (by decide) (by omega) (fun c58 => ?_) (fun c58 => ?_)
          · refine r_iconst (pc := 67) (v := iv 1) dX12_ends_67 (by decide) ?_
            refine r_goto (pc := 68) (tgt := 72) dX12_ends_68 (by decide) ?_
            refine Rn.pick (lv' := [(0, .ref y), (1, .int (iv x1)), (2, .int (iv x2)), (4, .int (iv v5_4))]) [0, 1, 2, 3] rfl ?_
            exact B72 _ ht41 1 ⟨by omega, by omega, by omega⟩
          · refine r_sipush (pc := 61) (v := iv 1000) dX12_ends_61 (by decide) ?_
            refine r_goto (pc := 64) (tgt := 72) dX12_ends_64 (by decide) ?_
            refine Rn.pick (lv' := [(0, .ref y), (1, .int (iv x1)), (2, .int (iv x2)), (4, .int (iv v5_4))]) [0, 1, 2, 3] rfl ?_
            exact B72 _ ht41 1000 ⟨by omega, by omega, by omega⟩
      refine t_icmp_ne (pc := 33) (tgt := 40) dX12_ends_33 (by decide) (by omega) (by omega) (fun c33 => ?_) (fun c33 => ?_)
      · refine r_iconst (pc := 40) (v := iv 0) dX12_ends_40 (by decide) ?_
        refine Rn.pick (lv' := [(0, .ref y), (1, .int (iv x1)), (2, .int (iv x2)), (4, .int (iv v5_4)), (5, .int (iv (60 * x1 + v5_4)))]) [1, 2, 3, 5, 0] rfl ?_
        exact B41 _ ht3 0 ⟨by omega, by omega, by omega⟩
      · refine r_iconst (pc := 36) (v := iv 1) dX12_ends_36 (by decide) ?_
        refine r_goto (pc := 37) (tgt := 41) dX12_ends_37 (by decide) ?_
        refine Rn.pick (lv' := [(0, .ref y), (1, .int (iv x1)), (2, .int (iv x2)), (4, .int (iv v5_4)), (5, .int (iv (60 * x1 + v5_4)))]) [1, 2, 3, 5, 0] rfl ?_
        exact B41 _ ht3 1 ⟨by omega, by omega, by omega⟩
  refine Rn.pick (lv' := [(0, .ref y), (1, .int (iv x1)), (2, .int (iv x2)), (3, .int (iv 0)), (4, .int (iv 0))]) [2, 3, 4, 1, 0] rfl ?_
  exact B5 (Int.toNat (60 - 0)) _ ht 0 0 ⟨by omega, by omega, by omega, by omega, by omega, by omega, by (first | exact hed | rfl)⟩ (by omega)
