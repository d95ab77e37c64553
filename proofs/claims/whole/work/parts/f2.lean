set_option maxHeartbeats 4000000 in
set_option maxRecDepth 100000 in
theorem xw_X12_way {D : va_G} {cI cJ cZ cT : ClassId} {lo b L : Nat} {xs : Nat → Int32} {hp : MH} {n d : Nat} {Γ : TG} {y : Nat} {rf cn nm : Int} {so sz dr mn fr tt wt co : Nat → Int} {nu : Nat → Int64} {sa : Nat → Int} {wo : Nat → Int64} {ln : Nat → Int} {hw : Nat → Int64} {ro qi qc nf nt nw nc : Nat → Int} {cl nx : Nat → Int64} {ie be sd bl : Nat → Int} {bs wy ra rb : Nat → Int64} {lb bg os js ls : Nat → Int} {sp : Nat → Int64} {jw go : Nat → Int} {de : Nat → Int64} {yb ah im : Nat → Int} {x1 x2 x3 : Int} {Po9 : Option Value → MH → Nat → Prop} (hd0 : 2 ≤ d) (hk : RK rf cn nm so sz dr mn fr tt wt co nu qi qc nf nt nw nc) (hR_state : Rfx 1936 0 2 sa) (hR_long1 : Rfx 1936 (-1) 15 ln) (ht : Tw (RX Γ cI cJ cZ y rf cn nm so sz dr mn fr tt wt co nu sa wo ln hw ro qi qc nf nt nw nc cl nx ie be sd bl bs wy ra rb lb bg os js ls sp jw go de yb ah im) hp) (hx1 : (-2147483648) ≤ x1 ∧ x1 ≤ 2147483647) (hx2 : (-2147483648) ≤ x2 ∧ x2 ≤ 2147483647) (hx3 : (-2147483648) ≤ x3 ∧ x3 ≤ 2147483647) (hPo : ∀ r hp1 n1, (n1 = n ∧ ∃ (rf' : Int) (v' : Int64), Tw (RX Γ cI cJ cZ y rf' cn nm so sz dr mn fr tt wt co nu sa wo ln hw ro qi qc nf nt nw nc cl nx ie be sd bl bs wy ra rb lb bg os js ls sp jw go de yb ah im) hp1 ∧ r = some (.long v') ∧ (RK rf' cn nm so sz dr mn fr tt wt co nu qi qc nf nt nw nc) ∧ (dfE sz dr mn fr tt wt co sz dr mn fr tt wt co) ∧ (rf' = dn1 cn so x1 3 (x3 < 0 ∨ 3 < x3 ∨ x2 < 0 ∨ (sz (Int.toNat x1)) ≤ x2)) ∧ (rf' ≠ 0 → v' = 0) ∧ (rf' = 0 → v' = wyV sa wo ln hw (Int.toNat (16 * x1 + x2)) x3)) → Po9 r hp1 n1) : Mt (gG D cI cJ cZ cT lo b L xs) mX12_way d 0 0 [.ref y, .int (iv x1), .int (iv x2), .int (iv x3)] hp n Po9 := by
  refine Mt.of rfl (Nat.le_of_ble_eq_true rfl) ?_
  refine Rn.pick (lv' := [(0, .ref y), (1, .int (iv x1)), (2, .int (iv x2)), (3, .int (iv x3))]) [0, 1, 2, 3] rfl ?_
  obtain ⟨hR_sorts, hR_sizes, hR_directs, hR_many, hR_from, hR_to, hR_weight, hR_cost, hR_inPart, hR_partCount, hcn, hrf, hnm, hdf, hgr, hpa, hsz⟩ := id hk
  refine r_aload_n (pc := 0) dX12_way_0 (i := 0) rfl rfl ?_
  refine r_iload_n (pc := 1) dX12_way_1 (i := 1) rfl rfl ?_
  refine r_iconst (pc := 2) (v := iv 3) dX12_way_2 (by decide) ?_
  obtain ⟨fs5, hfs5⟩ := t_obj ht (rd_of RX_y)
  refine r_callV (pc := 3) (as := [.int (iv x1), .int (iv 3)]) (st := []) kX12_183 rfl dX12_way_3 hfs5 (x_X12_has (d := d - 1) (x1 := x1) (x2 := 3) (by omega) (by omega) (by assumption) ht (by omega) (by omega) (fun _ _ _ h => h)) rfl (by omega) (Nat.le_of_ble_eq_true rfl) (Nat.zero_le _) (Nat.zero_le _) rfl (fun r2 hp1 n3 hq4 => ?_)
  obtain ⟨hnn3, v_7, b_8, ht6, hrr2, hhq40, hhq41⟩ := hq4
  subst n3 r2
  have hhq40 : -2 ≤ v_7 ∧ v_7 ≤ 0 ∧ (b_8 = 0 ∨ b_8 = 1) := hhq40
  have hhq41 : (b_8 = 1 ∧ v_7 = 0 ∧ 0 ≤ x1 ∧ x1 < cn ∧ so (Int.toNat x1) = 3) ∨ (b_8 = 0 ∧ v_7 = -1 ∧ ¬ (0 ≤ x1 ∧ x1 < cn)) ∨ (b_8 = 0 ∧ v_7 = -2 ∧ 0 ≤ x1 ∧ x1 < cn ∧ so (Int.toNat x1) ≠ 3) := hhq41
  change Rn _ _ _ 6 _ [.int (iv b_8)] _ _ _ _ _
  refine t_if_ne (pc := 6) (tgt := 11) dX12_way_6 (by decide) (by omega) (fun c6 => ?_) (fun c6 => ?_)
  · have rsz6 := hR_sizes (Int.toNat x1) (by omega)
    have rsy6 := hsz x1 (by omega) (by omega)
    refine r_iload_n (pc := 11) dX12_way_11 (i := 3) rfl rfl ?_
    have B34 : ∀ hp34 : MH, Tw (RX Γ cI cJ cZ y v_7 cn nm so sz dr mn fr tt wt co nu sa wo ln hw ro qi qc nf nt nw nc cl nx ie be sd bl bs wy ra rb lb bg os js ls sp jw go de yb ah im) hp34 → ((x3 < 0 ∨ 3 < x3 ∨ x2 < 0 ∨ (sz (Int.toNat x1)) ≤ x2)) → Rn (gG D cI cJ cZ cT lo b L xs) mX12_way d 34 [(0, .ref y)] [] hp34 n 0 0 Po9 := by
      intro hp34 ht34 hf34
      refine r_aload_n (pc := 34) dX12_way_34 (i := 0) rfl rfl ?_
      refine r_bipush (pc := 35) (v := iv (-3)) dX12_way_35 (by decide) ?_
      obtain ⟨fs13, hfs13⟩ := t_obj ht34 (rd_of RX_y)
      refine r_callV (pc := 37) (as := [.int (iv (-3))]) (st := []) kX12_153 rfl dX12_way_37 hfs13 (x_X12_refuse (d := d - 1) (x1 := (-3)) (by omega) ht34 (by omega) (fun _ _ _ h => h)) rfl (by omega) (Nat.le_of_ble_eq_true rfl) (Nat.zero_le _) (Nat.zero_le _) rfl (fun r10 hp9 n11 hq12 => ?_)
      obtain ⟨hnn11, ht14, hrr10⟩ := hq12
      subst n11 r10
      change Rn _ _ _ 40 _ [.int (iv (-3))] _ _ _ _ _
      refine r_pop (pc := 40) dX12_way_40 rfl ?_
      refine r_lconst (pc := 41) (v := 0) dX12_way_41 (by decide) ?_
      exact r_lret (pc := 42) dX12_way_42 rfl (hPo _ _ _ ⟨rfl, (-3), (0 : Int64), ht14, rfl, (by (first | assumption | exact RK_set hk (by omega) (by omega))), (by (first | assumption | exact df_r _ _ _ _ _ _ _)), (by (unfold dn1; by_cases hz1 : 0 ≤ x1 ∧ x1 < cn <;> by_cases hz2 : so (Int.toNat x1) = 3 <;> first | (exfalso; omega) | (rw [hdQ_y (by omega)] <;> omega) | (rw [hdQ_n (by omega), hdQ_y (by omega)] <;> omega) | (rw [hdQ_n (by omega), hdQ_n (by omega), hdQ_y (by omega)] <;> omega) | (rw [hdQ_n (by omega), hdQ_n (by omega), hdQ_n (fun h9 => h9)] <;> omega) | (rw [hdQ_n (by omega), hdQ_n (by omega), hdQ_n (by omega)] <;> omega))), (by (intro h9; first | rfl | (exfalso; omega))), (by (intro h9; first | (exfalso; omega) | (unfold wyV; (repeat' split) <;> first | rfl | (exfalso; omega))))⟩)
    refine t_if_lt (pc := 12) (tgt := 34) dX12_way_12 (by decide) (by omega) (fun c12 => ?_) (fun c12 => ?_)
    · refine Rn.pick (lv' := [(0, .ref y)]) [0] rfl ?_
      exact B34 _ ht6 (by omega)
    · refine r_iload_n (pc := 15) dX12_way_15 (i := 3) rfl rfl ?_
      refine r_iconst (pc := 16) (v := iv 3) dX12_way_16 (by decide) ?_
      refine t_icmp_gt (pc := 17) (tgt := 34) dX12_way_17 (by decide) (by omega) (by omega) (fun c17 => ?_) (fun c17 => ?_)
      · refine Rn.pick (lv' := [(0, .ref y)]) [0] rfl ?_
        exact B34 _ ht6 (by omega)
      · refine r_iload_n (pc := 20) dX12_way_20 (i := 2) rfl rfl ?_
        refine t_if_lt (pc := 21) (tgt := 34) dX12_way_21 (by decide) (by omega) (fun c21 => ?_) (fun c21 => ?_)
        · refine Rn.pick (lv' := [(0, .ref y)]) [0] rfl ?_
          exact B34 _ ht6 (by omega)
        · refine r_iload_n (pc := 24) dX12_way_24 (i := 2) rfl rfl ?_
          refine r_aload_n (pc := 25) dX12_way_25 (i := 0) rfl rfl ?_
          refine t_getE (pc := 26) (.ref (y + 2)) ht6 (rd_of RX_y) fX12_13 dX12_way_26 rfl ?_
          refine r_iload_n (pc := 29) dX12_way_29 (i := 1) rfl rfl ?_
          refine t_ialdX (pc := 30) (t0 := 0) ht6 (rd_of RX_sizes) dX12_way_30 rfl (by decide) (by omega) (fun b15 => ?_)
          have rb15 := (show Rfx 121 0 16 sz by assumption) (Int.toNat x1) (by omega)
          refine t_icmp_lt (pc := 31) (tgt := 43) dX12_way_31 (by decide) (by omega) (by omega) (fun c31 => ?_) (fun c31 => ?_)
          · refine r_bipush (pc := 43) (v := iv 16) dX12_way_43 (by decide) ?_
            refine r_iload_n (pc := 45) dX12_way_45 (i := 1) rfl rfl ?_
            refine r_imul (pc := 46) (v := iv (16 * x1)) dX12_way_46 (iv_mul _ _) ?_
            refine r_iload_n (pc := 47) dX12_way_47 (i := 2) rfl rfl ?_
            refine r_iadd (pc := 48) (v := iv ((16 * x1) + x2)) dX12_way_48 (iv_add _ _) ?_
            refine r_istore (pc := 49) (lv' := [(4, .int (iv ((16 * x1) + x2))), (0, .ref y), (1, .int (iv x1)), (2, .int (iv x2)), (3, .int (iv x3))]) dX12_way_49 (by decide) rfl ?_
            refine r_iload_n (pc := 51) dX12_way_51 (i := 3) rfl rfl ?_
            refine t_if_ne (pc := 52) (tgt := 66) dX12_way_52 (by decide) (by omega) (fun c52 => ?_) (fun c52 => ?_)
            · refine r_iload_n (pc := 66) dX12_way_66 (i := 3) rfl rfl ?_
              refine r_iconst (pc := 67) (v := iv 1) dX12_way_67 (by decide) ?_
              refine t_icmp_ne (pc := 68) (tgt := 81) dX12_way_68 (by decide) (by omega) (by omega) (fun c68 => ?_) (fun c68 => ?_)
              · refine r_iload_n (pc := 81) dX12_way_81 (i := 3) rfl rfl ?_
                refine r_iconst (pc := 82) (v := iv 2) dX12_way_82 (by decide) ?_
                refine t_icmp_ne (pc := 83) (tgt := 97) dX12_way_83 (by decide) (by omega) (by omega) (fun c83 => ?_) (fun c83 => ?_)
                · refine r_aload_n (pc := 97) dX12_way_97 (i := 0) rfl rfl ?_
                  refine t_getE (pc := 98) (.ref (y + 13)) ht6 (rd_of RX_y) fX12_48 dX12_way_98 rfl ?_
                  refine r_iload (pc := 101) dX12_way_101 rfl ?_
                  refine t_laldX (pc := 103) (t0 := 1) ht6 (rd_of RX_howMany) dX12_way_103 rfl (by decide) (by omega) ?_
                  exact r_lret (pc := 104) dX12_way_104 rfl (hPo _ _ _ ⟨rfl, v_7, (hw (Int.toNat ((16 * x1) + x2))), ht6, rfl, (by (first | assumption | exact RK_set hk (by omega) (by omega))), (by (first | assumption | exact df_r _ _ _ _ _ _ _)), (by (unfold dn1; by_cases hz1 : 0 ≤ x1 ∧ x1 < cn <;> by_cases hz2 : so (Int.toNat x1) = 3 <;> first | (exfalso; omega) | (rw [hdQ_y (by omega)] <;> omega) | (rw [hdQ_n (by omega), hdQ_y (by omega)] <;> omega) | (rw [hdQ_n (by omega), hdQ_n (by omega), hdQ_y (by omega)] <;> omega) | (rw [hdQ_n (by omega), hdQ_n (by omega), hdQ_n (fun h9 => h9)] <;> omega) | (rw [hdQ_n (by omega), hdQ_n (by omega), hdQ_n (by omega)] <;> omega))), (by (intro h9; first | rfl | (exfalso; omega))), (by (intro h9; first | (exfalso; omega) | (unfold wyV; (repeat' split) <;> first | rfl | (exfalso; omega))))⟩)
                · refine r_aload_n (pc := 86) dX12_way_86 (i := 0) rfl rfl ?_
                  refine t_getE (pc := 87) (.ref (y + 12)) ht6 (rd_of RX_y) fX12_45 dX12_way_87 rfl ?_
                  refine r_iload (pc := 90) dX12_way_90 rfl ?_
                  refine t_ialdX (pc := 92) (t0 := 0) ht6 (rd_of RX_long1) dX12_way_92 rfl (by decide) (by omega) (fun b16 => ?_)
                  have rb16 := (show Rfx 1936 (-1) 15 ln by assumption) (Int.toNat ((16 * x1) + x2)) (by omega)
                  refine r_i2l (pc := 93) (v := (iv (ln (Int.toNat ((16 * x1) + x2)))).toInt64) dX12_way_93 rfl ?_
                  refine r_goto (pc := 94) (tgt := 104) dX12_way_94 (by decide) ?_
                  exact r_lret (pc := 104) dX12_way_104 rfl (hPo _ _ _ ⟨rfl, v_7, ((iv (ln (Int.toNat ((16 * x1) + x2)))).toInt64), ht6, rfl, (by (first | assumption | exact RK_set hk (by omega) (by omega))), (by (first | assumption | exact df_r _ _ _ _ _ _ _)), (by (unfold dn1; by_cases hz1 : 0 ≤ x1 ∧ x1 < cn <;> by_cases hz2 : so (Int.toNat x1) = 3 <;> first | (exfalso; omega) | (rw [hdQ_y (by omega)] <;> omega) | (rw [hdQ_n (by omega), hdQ_y (by omega)] <;> omega) | (rw [hdQ_n (by omega), hdQ_n (by omega), hdQ_y (by omega)] <;> omega) | (rw [hdQ_n (by omega), hdQ_n (by omega), hdQ_n (fun h9 => h9)] <;> omega) | (rw [hdQ_n (by omega), hdQ_n (by omega), hdQ_n (by omega)] <;> omega))), (by (intro h9; first | rfl | (exfalso; omega))), (by (intro h9; first | (exfalso; omega) | (unfold wyV; (repeat' split) <;> first | rfl | (exfalso; omega))))⟩)
              · refine r_aload_n (pc := 71) dX12_way_71 (i := 0) rfl rfl ?_
                refine t_getE (pc := 72) (.ref (y + 11)) ht6 (rd_of RX_y) fX12_42 dX12_way_72 rfl ?_
                refine r_iload (pc := 75) dX12_way_75 rfl ?_
                refine t_laldX (pc := 77) (t0 := 1) ht6 (rd_of RX_worth) dX12_way_77 rfl (by decide) (by omega) ?_
                refine r_goto (pc := 78) (tgt := 104) dX12_way_78 (by decide) ?_
                exact r_lret (pc := 104) dX12_way_104 rfl (hPo _ _ _ ⟨rfl, v_7, (wo (Int.toNat ((16 * x1) + x2))), ht6, rfl, (by (first | assumption | exact RK_set hk (by omega) (by omega))), (by (first | assumption | exact df_r _ _ _ _ _ _ _)), (by (unfold dn1; by_cases hz1 : 0 ≤ x1 ∧ x1 < cn <;> by_cases hz2 : so (Int.toNat x1) = 3 <;> first | (exfalso; omega) | (rw [hdQ_y (by omega)] <;> omega) | (rw [hdQ_n (by omega), hdQ_y (by omega)] <;> omega) | (rw [hdQ_n (by omega), hdQ_n (by omega), hdQ_y (by omega)] <;> omega) | (rw [hdQ_n (by omega), hdQ_n (by omega), hdQ_n (fun h9 => h9)] <;> omega) | (rw [hdQ_n (by omega), hdQ_n (by omega), hdQ_n (by omega)] <;> omega))), (by (intro h9; first | rfl | (exfalso; omega))), (by (intro h9; first | (exfalso; omega) | (unfold wyV; (repeat' split) <;> first | rfl | (exfalso; omega))))⟩)
            · refine r_aload_n (pc := 55) dX12_way_55 (i := 0) rfl rfl ?_
              refine t_getE (pc := 56) (.ref (y + 10)) ht6 (rd_of RX_y) fX12_39 dX12_way_56 rfl ?_
              refine r_iload (pc := 59) dX12_way_59 rfl ?_
              refine t_ialdX (pc := 61) (t0 := 0) ht6 (rd_of RX_state) dX12_way_61 rfl (by decide) (by omega) (fun b17 => ?_)
              have rb17 := (show Rfx 1936 0 2 sa by assumption) (Int.toNat ((16 * x1) + x2)) (by omega)
              refine r_i2l (pc := 62) (v := (iv (sa (Int.toNat ((16 * x1) + x2)))).toInt64) dX12_way_62 rfl ?_
              refine r_goto (pc := 63) (tgt := 104) dX12_way_63 (by decide) ?_
              exact r_lret (pc := 104) dX12_way_104 rfl (hPo _ _ _ ⟨rfl, v_7, ((iv (sa (Int.toNat ((16 * x1) + x2)))).toInt64), ht6, rfl, (by (first | assumption | exact RK_set hk (by omega) (by omega))), (by (first | assumption | exact df_r _ _ _ _ _ _ _)), (by (unfold dn1; by_cases hz1 : 0 ≤ x1 ∧ x1 < cn <;> by_cases hz2 : so (Int.toNat x1) = 3 <;> first | (exfalso; omega) | (rw [hdQ_y (by omega)] <;> omega) | (rw [hdQ_n (by omega), hdQ_y (by omega)] <;> omega) | (rw [hdQ_n (by omega), hdQ_n (by omega), hdQ_y (by omega)] <;> omega) | (rw [hdQ_n (by omega), hdQ_n (by omega), hdQ_n (fun h9 => h9)] <;> omega) | (rw [hdQ_n (by omega), hdQ_n (by omega), hdQ_n (by omega)] <;> omega))), (by (intro h9; first | rfl | (exfalso; omega))), (by (intro h9; first | (exfalso; omega) | (unfold wyV; (repeat' split) <;> first | rfl | (exfalso; omega))))⟩)
          · refine Rn.pick (lv' := [(0, .ref y)]) [0] rfl ?_
            exact B34 _ ht6 (by omega)
  · refine r_lconst (pc := 9) (v := 0) dX12_way_9 (by decide) ?_
    exact r_lret (pc := 10) dX12_way_10 rfl (hPo _ _ _ ⟨rfl, v_7, (0 : Int64), ht6, rfl, (by (first | assumption | exact RK_set hk (by omega) (by omega))), (by (first | assumption | exact df_r _ _ _ _ _ _ _)), (by (unfold dn1; by_cases hz1 : 0 ≤ x1 ∧ x1 < cn <;> by_cases hz2 : so (Int.toNat x1) = 3 <;> first | (exfalso; omega) | (rw [hdQ_y (by omega)] <;> omega) | (rw [hdQ_n (by omega), hdQ_y (by omega)] <;> omega) | (rw [hdQ_n (by omega), hdQ_n (by omega), hdQ_y (by omega)] <;> omega) | (rw [hdQ_n (by omega), hdQ_n (by omega), hdQ_n (fun h9 => h9)] <;> omega) | (rw [hdQ_n (by omega), hdQ_n (by omega), hdQ_n (by omega)] <;> omega))), (by (intro h9; first | rfl | (exfalso; omega))), (by (intro h9; first | (exfalso; omega) | (unfold wyV; (repeat' split) <;> first | rfl | (exfalso; omega))))⟩)
set_option maxHeartbeats 4000000 in
set_option maxRecDepth 100000 in
theorem xw_X12_step {D : va_G} {cI cJ cZ cT : ClassId} {lo b L : Nat} {xs : Nat → Int32} {hp : MH} {n d : Nat} {Γ : TG} {y : Nat} {rf cn nm : Int} {so sz dr mn fr tt wt co : Nat → Int} {nu : Nat → Int64} {sa : Nat → Int} {wo : Nat → Int64} {ln : Nat → Int} {hw : Nat → Int64} {ro qi qc nf nt nw nc : Nat → Int} {cl nx : Nat → Int64} {ie be sd bl : Nat → Int} {bs wy ra rb : Nat → Int64} {lb bg os js ls : Nat → Int} {sp : Nat → Int64} {jw go : Nat → Int} {de : Nat → Int64} {yb ah im : Nat → Int} {x1 x2 x3 : Int} {Po9 : Option Value → MH → Nat → Prop} (hd0 : 2 ≤ d) (hk : RK rf cn nm so sz dr mn fr tt wt co nu qi qc nf nt nw nc) (hR_rows : Rfx 30976 0 59 ro) (hR_long1 : Rfx 1936 (-1) 15 ln) (ht : Tw (RX Γ cI cJ cZ y rf cn nm so sz dr mn fr tt wt co nu sa wo ln hw ro qi qc nf nt nw nc cl nx ie be sd bl bs wy ra rb lb bg os js ls sp jw go de yb ah im) hp) (hx1 : (-2147483648) ≤ x1 ∧ x1 ≤ 2147483647) (hx2 : (-2147483648) ≤ x2 ∧ x2 ≤ 2147483647) (hx3 : (-2147483648) ≤ x3 ∧ x3 ≤ 2147483647) (hPo : ∀ r hp1 n1, (n1 = n ∧ ∃ (rf' : Int) (v' : Int), Tw (RX Γ cI cJ cZ y rf' cn nm so sz dr mn fr tt wt co nu sa wo ln hw ro qi qc nf nt nw nc cl nx ie be sd bl bs wy ra rb lb bg os js ls sp jw go de yb ah im) hp1 ∧ r = some (.int (iv v')) ∧ (RK rf' cn nm so sz dr mn fr tt wt co nu qi qc nf nt nw nc) ∧ (dfE sz dr mn fr tt wt co sz dr mn fr tt wt co) ∧ (-2147483648 ≤ v' ∧ v' ≤ 2147483647) ∧ (rf' = dn1 cn so x1 3 (¬ (0 ≤ x2 ∧ x2 < (sz (Int.toNat x1))))) ∧ (rf' ≠ 0 → v' = 0) ∧ (rf' = 0 → v' = stV (ln (Int.toNat (16 * x1 + x2))) ro (256 * x1 + 16 * x2) x3)) → Po9 r hp1 n1) : Mt (gG D cI cJ cZ cT lo b L xs) mX12_step d 0 0 [.ref y, .int (iv x1), .int (iv x2), .int (iv x3)] hp n Po9 := by
  refine Mt.of rfl (Nat.le_of_ble_eq_true rfl) ?_
  refine Rn.pick (lv' := [(0, .ref y), (1, .int (iv x1)), (2, .int (iv x2)), (3, .int (iv x3))]) [0, 1, 2, 3] rfl ?_
  obtain ⟨hR_sorts, hR_sizes, hR_directs, hR_many, hR_from, hR_to, hR_weight, hR_cost, hR_inPart, hR_partCount, hcn, hrf, hnm, hdf, hgr, hpa, hsz⟩ := id hk
  refine r_aload_n (pc := 0) dX12_step_0 (i := 0) rfl rfl ?_
  refine r_iload_n (pc := 1) dX12_step_1 (i := 1) rfl rfl ?_
  refine r_iconst (pc := 2) (v := iv 3) dX12_step_2 (by decide) ?_
  obtain ⟨fs5, hfs5⟩ := t_obj ht (rd_of RX_y)
  refine r_callV (pc := 3) (as := [.int (iv x1), .int (iv 3)]) (st := []) kX12_183 rfl dX12_step_3 hfs5 (x_X12_has (d := d - 1) (x1 := x1) (x2 := 3) (by omega) (by omega) (by assumption) ht (by omega) (by omega) (fun _ _ _ h => h)) rfl (by omega) (Nat.le_of_ble_eq_true rfl) (Nat.zero_le _) (Nat.zero_le _) rfl (fun r2 hp1 n3 hq4 => ?_)
  obtain ⟨hnn3, v_7, b_8, ht6, hrr2, hhq40, hhq41⟩ := hq4
  subst n3 r2
  have hhq40 : -2 ≤ v_7 ∧ v_7 ≤ 0 ∧ (b_8 = 0 ∨ b_8 = 1) := hhq40
  have hhq41 : (b_8 = 1 ∧ v_7 = 0 ∧ 0 ≤ x1 ∧ x1 < cn ∧ so (Int.toNat x1) = 3) ∨ (b_8 = 0 ∧ v_7 = -1 ∧ ¬ (0 ≤ x1 ∧ x1 < cn)) ∨ (b_8 = 0 ∧ v_7 = -2 ∧ 0 ≤ x1 ∧ x1 < cn ∧ so (Int.toNat x1) ≠ 3) := hhq41
  change Rn _ _ _ 6 _ [.int (iv b_8)] _ _ _ _ _
  refine t_if_eq (pc := 6) (tgt := 18) dX12_step_6 (by decide) (by omega) (fun c6 => ?_) (fun c6 => ?_)
  · refine r_iconst (pc := 18) (v := iv 0) dX12_step_18 (by decide) ?_
    exact r_iret (pc := 19) dX12_step_19 rfl (hPo _ _ _ ⟨rfl, v_7, 0, ht6, rfl, (by (first | assumption | exact RK_set hk (by omega) (by omega))), (by (first | assumption | exact df_r _ _ _ _ _ _ _)), (by omega), (by (unfold dn1; by_cases hz1 : 0 ≤ x1 ∧ x1 < cn <;> by_cases hz2 : so (Int.toNat x1) = 3 <;> first | (exfalso; omega) | (rw [hdQ_y (by omega)] <;> omega) | (rw [hdQ_n (by omega), hdQ_y (by omega)] <;> omega) | (rw [hdQ_n (by omega), hdQ_n (by omega), hdQ_y (by omega)] <;> omega) | (rw [hdQ_n (by omega), hdQ_n (by omega), hdQ_n (fun h9 => h9)] <;> omega) | (rw [hdQ_n (by omega), hdQ_n (by omega), hdQ_n (by omega)] <;> omega))), (by omega), (by (intro h9; first | (exfalso; omega) | (unfold stV; split <;> first | rfl | (exfalso; omega))))⟩)
  · have rsz6 := hR_sizes (Int.toNat x1) (by omega)
    have rsy6 := hsz x1 (by omega) (by omega)
    refine r_aload_n (pc := 9) dX12_step_9 (i := 0) rfl rfl ?_
    refine r_iload_n (pc := 10) dX12_step_10 (i := 1) rfl rfl ?_
    refine r_iload_n (pc := 11) dX12_step_11 (i := 2) rfl rfl ?_
    obtain ⟨fs13, hfs13⟩ := t_obj ht6 (rd_of RX_y)
    refine r_callV (pc := 12) (as := [.int (iv x1), .int (iv x2)]) (st := []) kX12_307 rfl dX12_step_12 hfs13 (x_X12_isNode (d := d - 1) (x1 := x1) (x2 := x2) (by omega) (by assumption) (by omega) ht6 (by omega) (by omega) (fun _ _ _ h => h)) rfl (by omega) (Nat.le_of_ble_eq_true rfl) (Nat.zero_le _) (Nat.zero_le _) rfl (fun r10 hp9 n11 hq12 => ?_)
    obtain ⟨hnn11, v_15, b_16, ht14, hrr10, hhq120⟩ := hq12
    subst n11 r10
    have hhq120 : (b_16 = 1 ∧ v_15 = v_7 ∧ 0 ≤ x2 ∧ x2 < sz (Int.toNat x1)) ∨ (b_16 = 0 ∧ v_15 = -3 ∧ ¬ (0 ≤ x2 ∧ x2 < sz (Int.toNat x1))) := hhq120
    change Rn _ _ _ 15 _ [.int (iv b_16)] _ _ _ _ _
    refine t_if_ne (pc := 15) (tgt := 20) dX12_step_15 (by decide) (by omega) (fun c15 => ?_) (fun c15 => ?_)
    · refine r_iload_n (pc := 20) dX12_step_20 (i := 3) rfl rfl ?_
      refine t_if_lt (pc := 21) (tgt := 39) dX12_step_21 (by decide) (by omega) (fun c21 => ?_) (fun c21 => ?_)
      · refine r_iconst (pc := 39) (v := iv (-1)) dX12_step_39 (by decide) ?_
        refine r_goto (pc := 40) (tgt := 60) dX12_step_40 (by decide) ?_
        exact r_iret (pc := 60) dX12_step_60 rfl (hPo _ _ _ ⟨rfl, v_15, (-1), ht14, rfl, (by (first | assumption | exact RK_set hk (by omega) (by omega))), (by (first | assumption | exact df_r _ _ _ _ _ _ _)), (by omega), (by (unfold dn1; by_cases hz1 : 0 ≤ x1 ∧ x1 < cn <;> by_cases hz2 : so (Int.toNat x1) = 3 <;> first | (exfalso; omega) | (rw [hdQ_y (by omega)] <;> omega) | (rw [hdQ_n (by omega), hdQ_y (by omega)] <;> omega) | (rw [hdQ_n (by omega), hdQ_n (by omega), hdQ_y (by omega)] <;> omega) | (rw [hdQ_n (by omega), hdQ_n (by omega), hdQ_n (fun h9 => h9)] <;> omega) | (rw [hdQ_n (by omega), hdQ_n (by omega), hdQ_n (by omega)] <;> omega))), (by omega), (by (intro h9; first | (exfalso; omega) | (unfold stV; split <;> first | rfl | (exfalso; omega))))⟩)
      · refine r_iload_n (pc := 24) dX12_step_24 (i := 3) rfl rfl ?_
        refine r_aload_n (pc := 25) dX12_step_25 (i := 0) rfl rfl ?_
        refine t_getE (pc := 26) (.ref (y + 12)) ht14 (rd_of RX_y) fX12_45 dX12_step_26 rfl ?_
        refine r_bipush (pc := 29) (v := iv 16) dX12_step_29 (by decide) ?_
        refine r_iload_n (pc := 31) dX12_step_31 (i := 1) rfl rfl ?_
        refine r_imul (pc := 32) (v := iv (16 * x1)) dX12_step_32 (iv_mul _ _) ?_
        refine r_iload_n (pc := 33) dX12_step_33 (i := 2) rfl rfl ?_
        refine r_iadd (pc := 34) (v := iv ((16 * x1) + x2)) dX12_step_34 (iv_add _ _) ?_
        refine t_ialdX (pc := 35) (t0 := 0) ht14 (rd_of RX_long1) dX12_step_35 rfl (by decide) (by omega) (fun b17 => ?_)
        have rb17 := (show Rfx 1936 (-1) 15 ln by assumption) (Int.toNat ((16 * x1) + x2)) (by omega)
        refine t_icmp_lt (pc := 36) (tgt := 43) dX12_step_36 (by decide) (by omega) (by omega) (fun c36 => ?_) (fun c36 => ?_)
        · refine r_aload_n (pc := 43) dX12_step_43 (i := 0) rfl rfl ?_
          refine t_getE (pc := 44) (.ref (y + 14)) ht14 (rd_of RX_y) fX12_51 dX12_step_44 rfl ?_
          refine r_sipush (pc := 47) (v := iv 256) dX12_step_47 (by decide) ?_
          refine r_iload_n (pc := 50) dX12_step_50 (i := 1) rfl rfl ?_
          refine r_imul (pc := 51) (v := iv (256 * x1)) dX12_step_51 (iv_mul _ _) ?_
          refine r_bipush (pc := 52) (v := iv 16) dX12_step_52 (by decide) ?_
          refine r_iload_n (pc := 54) dX12_step_54 (i := 2) rfl rfl ?_
          refine r_imul (pc := 55) (v := iv (16 * x2)) dX12_step_55 (iv_mul _ _) ?_
          refine r_iadd (pc := 56) (v := iv ((256 * x1) + (16 * x2))) dX12_step_56 (iv_add _ _) ?_
          refine r_iload_n (pc := 57) dX12_step_57 (i := 3) rfl rfl ?_
          refine r_iadd (pc := 58) (v := iv (((256 * x1) + (16 * x2)) + x3)) dX12_step_58 (iv_add _ _) ?_
          refine t_ialdX (pc := 59) (t0 := 0) ht14 (rd_of RX_rows) dX12_step_59 rfl (by decide) (by omega) (fun b18 => ?_)
          have rb18 := (show Rfx 30976 0 59 ro by assumption) (Int.toNat (((256 * x1) + (16 * x2)) + x3)) (by omega)
          exact r_iret (pc := 60) dX12_step_60 rfl (hPo _ _ _ ⟨rfl, v_15, (ro (Int.toNat (((256 * x1) + (16 * x2)) + x3))), ht14, rfl, (by (first | assumption | exact RK_set hk (by omega) (by omega))), (by (first | assumption | exact df_r _ _ _ _ _ _ _)), (by omega), (by (unfold dn1; by_cases hz1 : 0 ≤ x1 ∧ x1 < cn <;> by_cases hz2 : so (Int.toNat x1) = 3 <;> first | (exfalso; omega) | (rw [hdQ_y (by omega)] <;> omega) | (rw [hdQ_n (by omega), hdQ_y (by omega)] <;> omega) | (rw [hdQ_n (by omega), hdQ_n (by omega), hdQ_y (by omega)] <;> omega) | (rw [hdQ_n (by omega), hdQ_n (by omega), hdQ_n (fun h9 => h9)] <;> omega) | (rw [hdQ_n (by omega), hdQ_n (by omega), hdQ_n (by omega)] <;> omega))), (by omega), (by (intro h9; first | (exfalso; omega) | (unfold stV; split <;> first | rfl | (exfalso; omega))))⟩)
        · refine r_iconst (pc := 39) (v := iv (-1)) dX12_step_39 (by decide) ?_
          refine r_goto (pc := 40) (tgt := 60) dX12_step_40 (by decide) ?_
          exact r_iret (pc := 60) dX12_step_60 rfl (hPo _ _ _ ⟨rfl, v_15, (-1), ht14, rfl, (by (first | assumption | exact RK_set hk (by omega) (by omega))), (by (first | assumption | exact df_r _ _ _ _ _ _ _)), (by omega), (by (unfold dn1; by_cases hz1 : 0 ≤ x1 ∧ x1 < cn <;> by_cases hz2 : so (Int.toNat x1) = 3 <;> first | (exfalso; omega) | (rw [hdQ_y (by omega)] <;> omega) | (rw [hdQ_n (by omega), hdQ_y (by omega)] <;> omega) | (rw [hdQ_n (by omega), hdQ_n (by omega), hdQ_y (by omega)] <;> omega) | (rw [hdQ_n (by omega), hdQ_n (by omega), hdQ_n (fun h9 => h9)] <;> omega) | (rw [hdQ_n (by omega), hdQ_n (by omega), hdQ_n (by omega)] <;> omega))), (by omega), (by (intro h9; first | (exfalso; omega) | (unfold stV; split <;> first | rfl | (exfalso; omega))))⟩)
    · refine r_iconst (pc := 18) (v := iv 0) dX12_step_18 (by decide) ?_
      exact r_iret (pc := 19) dX12_step_19 rfl (hPo _ _ _ ⟨rfl, v_15, 0, ht14, rfl, (by (first | assumption | exact RK_set hk (by omega) (by omega))), (by (first | assumption | exact df_r _ _ _ _ _ _ _)), (by omega), (by (unfold dn1; by_cases hz1 : 0 ≤ x1 ∧ x1 < cn <;> by_cases hz2 : so (Int.toNat x1) = 3 <;> first | (exfalso; omega) | (rw [hdQ_y (by omega)] <;> omega) | (rw [hdQ_n (by omega), hdQ_y (by omega)] <;> omega) | (rw [hdQ_n (by omega), hdQ_n (by omega), hdQ_y (by omega)] <;> omega) | (rw [hdQ_n (by omega), hdQ_n (by omega), hdQ_n (fun h9 => h9)] <;> omega) | (rw [hdQ_n (by omega), hdQ_n (by omega), hdQ_n (by omega)] <;> omega))), (by omega), (by (intro h9; first | (exfalso; omega) | (unfold stV; split <;> first | rfl | (exfalso; omega))))⟩)
