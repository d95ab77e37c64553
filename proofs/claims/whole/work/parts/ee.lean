set_option maxHeartbeats 4000000 in
set_option maxRecDepth 100000 in
theorem x_X12_ways {D : va_G} {cI cJ cZ cT : ClassId} {lo b L : Nat} {xs : Nat → Int32} {hp : MH} {n d : Nat} {Γ : TG} {y : Nat} {rf cn nm : Int} {so sz dr mn fr tt wt co : Nat → Int} {nu : Nat → Int64} {sa : Nat → Int} {wo : Nat → Int64} {ln : Nat → Int} {hw : Nat → Int64} {ro qi qc nf nt nw nc : Nat → Int} {cl nx : Nat → Int64} {ie be sd bl : Nat → Int} {bs wy ra rb : Nat → Int64} {lb bg os js ls : Nat → Int} {sp : Nat → Int64} {jw go : Nat → Int} {de : Nat → Int64} {yb ah im : Nat → Int} {x1 x2 x3 : Int} {Po9 : Option Value → MH → Nat → Prop} (hd0 : 5 ≤ d) (hk : RK rf cn nm so sz dr mn fr tt wt co nu qi qc nf nt nw nc) (hR_state : Rfx 1936 0 2 sa) (hR_long1 : Rfx 1936 (-1) 15 ln) (hR_rows : Rfx 30976 0 59 ro) (ht : Tw (RX Γ cI cJ cZ y rf cn nm so sz dr mn fr tt wt co nu sa wo ln hw ro qi qc nf nt nw nc cl nx ie be sd bl bs wy ra rb lb bg os js ls sp jw go de yb ah im) hp) (hx1 : (-2147483648) ≤ x1 ∧ x1 ≤ 2147483647) (hx2 : (-2147483648) ≤ x2 ∧ x2 ≤ 2147483647) (hx3 : (-2147483648) ≤ x3 ∧ x3 ≤ 2147483647) (hPo : ∀ r hp1 n1, (n1 = n ∧ ∃ (rf' : Int) (cn' : Int) (so' : Nat → Int) (sz' : Nat → Int) (sa' : Nat → Int) (wo' : Nat → Int64) (ln' : Nat → Int) (hw' : Nat → Int64) (ro' : Nat → Int) (bs' : Nat → Int64) (wy' : Nat → Int64) (ra' : Nat → Int64) (rb' : Nat → Int64) (v' : Int), Tw (RX Γ cI cJ cZ y rf' cn' nm so' sz' dr mn fr tt wt co nu sa' wo' ln' hw' ro' qi qc nf nt nw nc cl nx ie be sd bl bs' wy' ra' rb' lb bg os js ls sp jw go de yb ah im) hp1 ∧ r = some (.int (iv v')) ∧ (RK rf' cn' nm so' sz' dr mn fr tt wt co nu qi qc nf nt nw nc) ∧ (dfE sz dr mn fr tt wt co sz' dr mn fr tt wt co) ∧ (-2147483648 ≤ v' ∧ v' ≤ 2147483647) ∧ (v' = an1 cn so x1 1 (x2 < 0 ∨ 2 < x2 ∨ x3 < 0 ∨ (sz (Int.toNat x1)) ≤ x3) (cn = 120)) ∧ (v' < 0 → cn' = cn ∧ so' = so ∧ sz' = sz ∧ sa' = sa ∧ wo' = wo ∧ ln' = ln ∧ hw' = hw ∧ ro' = ro) ∧ (0 ≤ v' → WNw cn cn' so sz so' sz' (sz (Int.toNat x1)) ∧ wsQ (Int.toNat (mn (Int.toNat x1))) (dr (Int.toNat x1)) (sh fr (60 * x1)) (sh tt (60 * x1)) (sh wt (60 * x1)) x2 (Int.toNat x3) (sz (Int.toNat x1)) cn (sz (Int.toNat x1)) sa' wo' ln' hw' ro' sa wo ln hw ro) ∧ ((v' < 0 → rf' = v') ∧ (0 ≤ v' → rf' = 0)) ∧ (Rfx 1936 0 2 sa') ∧ (Rfx 1936 (-1) 15 ln') ∧ (Rfx 30976 0 59 ro')) → Po9 r hp1 n1) : Mt (gG D cI cJ cZ cT lo b L xs) mX12_ways d 0 0 [.ref y, .int (iv x1), .int (iv x2), .int (iv x3)] hp n Po9 := by
  refine Mt.of rfl (Nat.le_of_ble_eq_true rfl) ?_
  refine Rn.pick (lv' := [(0, .ref y), (1, .int (iv x1)), (2, .int (iv x2)), (3, .int (iv x3))]) [0, 1, 2, 3] rfl ?_
  obtain ⟨hR_sorts, hR_sizes, hR_directs, hR_many, hR_from, hR_to, hR_weight, hR_cost, hR_inPart, hR_partCount, hcn, hrf, hnm, hdf, hgr, hpa, hsz⟩ := id hk
  refine r_aload_n (pc := 0) dX12_ways_0 (i := 0) rfl rfl ?_
  refine r_iload_n (pc := 1) dX12_ways_1 (i := 1) rfl rfl ?_
  refine r_iconst (pc := 2) (v := iv 1) dX12_ways_2 (by decide) ?_
  obtain ⟨fs5, hfs5⟩ := t_obj ht (rd_of RX_y)
  refine r_callV (pc := 3) (as := [.int (iv x1), .int (iv 1)]) (st := []) kX12_183 rfl dX12_ways_3 hfs5 (x_X12_has (d := d - 1) (x1 := x1) (x2 := 1) (by omega) (by omega) (by assumption) ht (by omega) (by omega) (fun _ _ _ h => h)) rfl (by omega) (Nat.le_of_ble_eq_true rfl) (Nat.zero_le _) (Nat.zero_le _) rfl (fun r2 hp1 n3 hq4 => ?_)
  obtain ⟨hnn3, v_7, b_8, ht6, hrr2, hhq40, hhq41⟩ := hq4
  subst n3 r2
  have hhq40 : -2 ≤ v_7 ∧ v_7 ≤ 0 ∧ (b_8 = 0 ∨ b_8 = 1) := hhq40
  have hhq41 : (b_8 = 1 ∧ v_7 = 0 ∧ 0 ≤ x1 ∧ x1 < cn ∧ so (Int.toNat x1) = 1) ∨ (b_8 = 0 ∧ v_7 = -1 ∧ ¬ (0 ≤ x1 ∧ x1 < cn)) ∨ (b_8 = 0 ∧ v_7 = -2 ∧ 0 ≤ x1 ∧ x1 < cn ∧ so (Int.toNat x1) ≠ 1) := hhq41
  change Rn _ _ _ 6 _ [.int (iv b_8)] _ _ _ _ _
  refine t_if_ne (pc := 6) (tgt := 14) dX12_ways_6 (by decide) (by omega) (fun c6 => ?_) (fun c6 => ?_)
  · have hs6 := Or.resolve_right hhq41 (by omega)
    clear hhq40 hhq41
    have rsz6 := hR_sizes (Int.toNat x1) (by omega)
    have rsy6 := hsz x1 (by omega) (by omega)
    have hen := hgr x1 (by omega) (by omega) (by omega)
    have rmn6 := hR_many (Int.toNat x1) (by omega)
    refine r_iload_n (pc := 14) dX12_ways_14 (i := 2) rfl rfl ?_
    have B37 : ∀ hp37 : MH, Tw (RX Γ cI cJ cZ y v_7 cn nm so sz dr mn fr tt wt co nu sa wo ln hw ro qi qc nf nt nw nc cl nx ie be sd bl bs wy ra rb lb bg os js ls sp jw go de yb ah im) hp37 → ((x2 < 0 ∨ 2 < x2 ∨ x3 < 0 ∨ (sz (Int.toNat x1)) ≤ x3)) → Rn (gG D cI cJ cZ cT lo b L xs) mX12_ways d 37 [(0, .ref y)] [] hp37 n 0 0 Po9 := by
      intro hp37 ht37 hf37
      refine r_aload_n (pc := 37) dX12_ways_37 (i := 0) rfl rfl ?_
      refine r_bipush (pc := 38) (v := iv (-3)) dX12_ways_38 (by decide) ?_
      obtain ⟨fs13, hfs13⟩ := t_obj ht37 (rd_of RX_y)
      refine r_callV (pc := 40) (as := [.int (iv (-3))]) (st := []) kX12_153 rfl dX12_ways_40 hfs13 (x_X12_refuse (d := d - 1) (x1 := (-3)) (by omega) ht37 (by omega) (fun _ _ _ h => h)) rfl (by omega) (Nat.le_of_ble_eq_true rfl) (Nat.zero_le _) (Nat.zero_le _) rfl (fun r10 hp9 n11 hq12 => ?_)
      obtain ⟨hnn11, ht14, hrr10⟩ := hq12
      subst n11 r10
      change Rn _ _ _ 43 _ [.int (iv (-3))] _ _ _ _ _
      exact r_iret (pc := 43) dX12_ways_43 rfl (hPo _ _ _ ⟨rfl, (-3), cn, so, sz, sa, wo, ln, hw, ro, bs, wy, ra, rb, (-3), ht14, rfl, (by (exact RK_set hk (by omega) (by omega))), (by (exact df_r _ _ _ _ _ _ _)), (by omega), (by exact an1_b (by omega) (by omega) (by omega)), (by (intro h9; first | exact ⟨rfl, rfl, rfl, rfl, rfl, rfl, rfl, rfl⟩ | (exfalso; omega))), (by (intro h9; exfalso; omega)), (by omega), (by assumption), (by assumption), (by assumption)⟩)
    refine t_if_lt (pc := 15) (tgt := 37) dX12_ways_15 (by decide) (by omega) (fun c15 => ?_) (fun c15 => ?_)
    · refine Rn.pick (lv' := [(0, .ref y)]) [0] rfl ?_
      exact B37 _ ht6 (by omega)
    · refine r_iload_n (pc := 18) dX12_ways_18 (i := 2) rfl rfl ?_
      refine r_iconst (pc := 19) (v := iv 2) dX12_ways_19 (by decide) ?_
      refine t_icmp_gt (pc := 20) (tgt := 37) dX12_ways_20 (by decide) (by omega) (by omega) (fun c20 => ?_) (fun c20 => ?_)
      · refine Rn.pick (lv' := [(0, .ref y)]) [0] rfl ?_
        exact B37 _ ht6 (by omega)
      · refine r_iload_n (pc := 23) dX12_ways_23 (i := 3) rfl rfl ?_
        refine t_if_lt (pc := 24) (tgt := 37) dX12_ways_24 (by decide) (by omega) (fun c24 => ?_) (fun c24 => ?_)
        · refine Rn.pick (lv' := [(0, .ref y)]) [0] rfl ?_
          exact B37 _ ht6 (by omega)
        · refine r_iload_n (pc := 27) dX12_ways_27 (i := 3) rfl rfl ?_
          refine r_aload_n (pc := 28) dX12_ways_28 (i := 0) rfl rfl ?_
          refine t_getE (pc := 29) (.ref (y + 2)) ht6 (rd_of RX_y) fX12_13 dX12_ways_29 rfl ?_
          refine r_iload_n (pc := 32) dX12_ways_32 (i := 1) rfl rfl ?_
          refine t_ialdX (pc := 33) (t0 := 0) ht6 (rd_of RX_sizes) dX12_ways_33 rfl (by decide) (by omega) (fun b15 => ?_)
          have rb15 := (show Rfx 121 0 16 sz by assumption) (Int.toNat x1) (by omega)
          refine t_icmp_lt (pc := 34) (tgt := 44) dX12_ways_34 (by decide) (by omega) (by omega) (fun c34 => ?_) (fun c34 => ?_)
          · refine r_aload_n (pc := 44) dX12_ways_44 (i := 0) rfl rfl ?_
            refine r_iconst (pc := 45) (v := iv 3) dX12_ways_45 (by decide) ?_
            obtain ⟨fs20, hfs20⟩ := t_obj ht6 (rd_of RX_y)
            refine r_callV (pc := 46) (as := [.int (iv 3)]) (st := []) kX12_168 rfl dX12_ways_46 hfs20 (x_X12_keep (d := d - 1) (x1 := 3) (by omega) (by omega) (by assumption) (by omega) ht6 (by omega) (fun _ _ _ h => h)) rfl (by omega) (Nat.le_of_ble_eq_true rfl) (Nat.zero_le _) (Nat.zero_le _) rfl (fun r17 hp16 n18 hq19 => ?_)
            obtain ⟨hnn18, v_22, c1_23, s1_24, h_25, ht21, hrr17, hhq190, hhq191, hhq192, hhq193⟩ := hq19
            subst n18 r17
            have hhq190 : -4 ≤ h_25 ∧ h_25 ≤ 119 ∧ 0 ≤ c1_23 ∧ c1_23 ≤ 120 ∧ -2147483648 ≤ v_22 ∧ v_22 ≤ 2147483647 := hhq190
            have hhq191 : (cn = 120 ∧ h_25 = -4 ∧ v_22 = -4 ∧ c1_23 = cn) ∨ (cn < 120 ∧ h_25 = cn ∧ v_22 = v_7 ∧ c1_23 = cn + 1) := hhq191
            have hhq192 : cn = 120 → s1_24 = so := hhq192
            have hhq193 : cn < 120 → s1_24 = fup so (Int.toNat cn) 3 := hhq193
            change Rn _ _ _ 49 _ [.int (iv h_25)] _ _ _ _ _
            refine r_istore (pc := 49) (lv' := [(4, .int (iv h_25)), (0, .ref y), (1, .int (iv x1)), (2, .int (iv x2)), (3, .int (iv x3))]) dX12_ways_49 (by decide) rfl ?_
            refine r_iload (pc := 51) dX12_ways_51 rfl ?_
            refine t_if_ge (pc := 53) (tgt := 59) dX12_ways_53 (by decide) (by omega) (fun c53 => ?_) (fun c53 => ?_)
            · have ek : cn < 120 ∧ h_25 = cn ∧ v_22 = v_7 ∧ c1_23 = cn + 1 := by omega
              have es : s1_24 = fup so (Int.toNat cn) 3 := hhq193 (by omega)
              rw [ek.2.2.1, ek.2.2.2, es] at ht21
              have hRso : Rfx 121 0 4 (fup so (Int.toNat cn) 3) := Rfx_up (by assumption) (by omega)
              refine r_aload_n (pc := 59) dX12_ways_59 (i := 0) rfl rfl ?_
              refine t_getE (pc := 60) (.ref (y + 2)) ht21 (rd_of RX_y) fX12_13 dX12_ways_60 rfl ?_
              refine r_iload_n (pc := 63) dX12_ways_63 (i := 1) rfl rfl ?_
              refine t_ialdX (pc := 64) (t0 := 0) ht21 (rd_of RX_sizes) dX12_ways_64 rfl (by decide) (by omega) (fun b26 => ?_)
              have rb26 := (show Rfx 121 0 16 sz by assumption) (Int.toNat x1) (by omega)
              refine r_istore (pc := 65) (lv' := [(5, .int (iv (sz (Int.toNat x1)))), (4, .int (iv h_25)), (0, .ref y), (1, .int (iv x1)), (2, .int (iv x2)), (3, .int (iv x3))]) dX12_ways_65 (by decide) rfl ?_
              refine r_aload_n (pc := 67) dX12_ways_67 (i := 0) rfl rfl ?_
              refine t_getE (pc := 68) (.ref (y + 2)) ht21 (rd_of RX_y) fX12_13 dX12_ways_68 rfl ?_
              refine r_iload (pc := 71) dX12_ways_71 rfl ?_
              refine r_iload (pc := 73) dX12_ways_73 rfl ?_
              refine t_iastX (pc := 75) (t0 := 0) ht21 RX_sizes dX12_ways_75 rfl (by decide) (by omega) (by omega) (fun hp27 ht28 => ?_)
              have ht29 := RXw_sz ht28
              have hqht29 : Rfx 121 0 16 (fup sz (Int.toNat h_25) (sz (Int.toNat x1))) := Rfx_up (by assumption) (by omega)
              have hz9 : fup sz (Int.toNat h_25) (sz (Int.toNat x1)) (Int.toNat x1) = sz (Int.toNat x1) := fup_o _ _ (by omega)
              have hEn : enP fr tt mn (fup sz (Int.toNat h_25) (sz (Int.toNat x1))) x1 := (enA_eq hen hz9 rfl (fun _ _ _ => ⟨rfl, rfl⟩)).2
              refine r_iconst (pc := 76) (v := iv 0) dX12_ways_76 (by decide) ?_
              refine r_istore (pc := 77) (lv' := [(6, .int (iv 0)), (5, .int (iv (sz (Int.toNat x1)))), (4, .int (iv h_25)), (0, .ref y), (1, .int (iv x1)), (2, .int (iv x2)), (3, .int (iv x3))]) dX12_ways_77 (by decide) rfl ?_
              have B79 : ∀ k : Nat, ∀ sa79 : Nat → Int, ∀ wo79 : Nat → Int64, ∀ ln79 : Nat → Int, ∀ hw79 : Nat → Int64, ∀ ro79 : Nat → Int, ∀ bs79 : Nat → Int64, ∀ wy79 : Nat → Int64, ∀ ra79 : Nat → Int64, ∀ rb79 : Nat → Int64, ∀ hp79 : MH, Tw (RX Γ cI cJ cZ y v_7 (cn + 1) nm (fup so (Int.toNat cn) 3) (fup sz (Int.toNat h_25) (sz (Int.toNat x1))) dr mn fr tt wt co nu sa79 wo79 ln79 hw79 ro79 qi qc nf nt nw nc cl nx ie be sd bl bs79 wy79 ra79 rb79 lb bg os js ls sp jw go de yb ah im) hp79 → ∀  (v79_6 : Int), 0 ≤ v79_6 ∧ v79_6 ≤ 16 ∧ (Rfx 1936 0 2 sa79) ∧ (Rfx 1936 (-1) 15 ln79) ∧ (Rfx 30976 0 59 ro79) ∧ (v79_6 ≤ (sz (Int.toNat x1))) ∧ (wsQ (Int.toNat (mn (Int.toNat x1))) (dr (Int.toNat x1)) (sh fr (60 * x1)) (sh tt (60 * x1)) (sh wt (60 * x1)) x2 (Int.toNat x3) (sz (Int.toNat x1)) h_25 v79_6 sa79 wo79 ln79 hw79 ro79 sa wo ln hw ro) → 16 - v79_6 ≤ (k : Int) → Rn (gG D cI cJ cZ cT lo b L xs) mX12_ways d 79 [(0, .ref y), (1, .int (iv x1)), (2, .int (iv x2)), (3, .int (iv x3)), (4, .int (iv h_25)), (5, .int (iv (sz (Int.toNat x1)))), (6, .int (iv v79_6))] [] hp79 n 0 0 Po9 := by
                refine lpS _ ?_
                intro k79 ih79 sa79 wo79 ln79 hw79 ro79 bs79 wy79 ra79 rb79 hp79 ht79 v79_6 hf79 hm79
                obtain ⟨hf79_0, hf79_1, ha79_2, ha79_3, ha79_4, hf79_5, ha79_6⟩ := hf79
                refine r_iload (pc := 79) dX12_ways_79 rfl ?_
                refine r_iload (pc := 81) dX12_ways_81 rfl ?_
                refine t_icmp_ge (pc := 83) (tgt := 124) dX12_ways_83 (by decide) (by omega) (by omega) (fun c83 => ?_) (fun c83 => ?_)
                · refine r_iload (pc := 124) dX12_ways_124 rfl ?_
                  exact r_iret (pc := 126) dX12_ways_126 rfl (hPo _ _ _ ⟨rfl, v_7, (cn + 1), (fup so (Int.toNat cn) 3), (fup sz (Int.toNat h_25) (sz (Int.toNat x1))), sa79, wo79, ln79, hw79, ro79, bs79, wy79, ra79, rb79, h_25, ht79, rfl, (by (exact (RK_way (x1 := sz (Int.toNat x1)) (h := h_25) (v := v_7) (c1 := cn + 1) (u1 := nu) (RK_set (rf1 := v_7) (nm1 := nm) (nu1 := nu) (nf1 := nf) (nt1 := nt) (nw1 := nw) (nc1 := nc) hk (by omega) (by omega)) (by omega) (by omega) (fun h9 => by omega) (by omega) (fun _ => ⟨rfl, by rw [show h_25 = cn by omega]⟩)).1)), (by (exact ⟨fup_o _ _ (by omega), rfl, rfl, fun _ _ => ⟨rfl, rfl, rfl, rfl⟩⟩)), (by omega), (by exact an1_m ((show _ = cn by omega).trans (hdQ_n (by omega)).symm) (by omega) (by omega)), (by (intro h9; first | exact ⟨rfl, rfl, rfl, rfl, rfl, rfl, rfl, rfl⟩ | (exfalso; omega))), (by (intro h9; have e1 : h_25 = cn := (by omega); refine ⟨⟨rfl, rfl, by rw [e1]⟩, ?_⟩; have h8 : wsQ (Int.toNat (mn (Int.toNat x1))) (dr (Int.toNat x1)) (sh fr (60 * x1)) (sh tt (60 * x1)) (sh wt (60 * x1)) x2 (Int.toNat x3) (sz (Int.toNat x1)) h_25 v79_6 sa79 wo79 ln79 hw79 ro79 sa wo ln hw ro := (by assumption); rw [show v79_6 = (sz (Int.toNat x1)) by omega, e1] at h8; exact h8)), (by omega), (by assumption), (by assumption), (by assumption)⟩)
                · refine r_iload_n (pc := 86) dX12_ways_86 (i := 2) rfl rfl ?_
                  refine r_iconst (pc := 87) (v := iv 2) dX12_ways_87 (by decide) ?_
                  have B103 : ∀ hp103 : MH, Tw (RX Γ cI cJ cZ y v_7 (cn + 1) nm (fup so (Int.toNat cn) 3) (fup sz (Int.toNat h_25) (sz (Int.toNat x1))) dr mn fr tt wt co nu sa79 wo79 ln79 hw79 ro79 qi qc nf nt nw nc cl nx ie be sd bl bs79 wy79 ra79 rb79 lb bg os js ls sp jw go de yb ah im) hp103 → ∀  (x103_0 : Int64), (wbP (Int.toNat (mn (Int.toNat x1))) (dr (Int.toNat x1)) (sh fr (60 * x1)) (sh tt (60 * x1)) (sh wt (60 * x1)) x2 (Int.toNat x3) (Int.toNat v79_6) x103_0.toInt) → Rn (gG D cI cJ cZ cT lo b L xs) mX12_ways d 103 [(0, .ref y), (1, .int (iv x1)), (2, .int (iv x2)), (3, .int (iv x3)), (4, .int (iv h_25)), (5, .int (iv (sz (Int.toNat x1)))), (6, .int (iv v79_6))] [.long x103_0] hp103 n 0 0 Po9 := by
                    intro hp103 ht103 x103_0 hf103
                    have ha103_0 := hf103
                    refine r_lstore (pc := 103) (lv' := [(7, .long x103_0), (0, .ref y), (1, .int (iv x1)), (2, .int (iv x2)), (3, .int (iv x3)), (4, .int (iv h_25)), (5, .int (iv (sz (Int.toNat x1)))), (6, .int (iv v79_6))]) dX12_ways_103 (by decide) rfl ?_
                    refine r_aload_n (pc := 105) dX12_ways_105 (i := 0) rfl rfl ?_
                    refine r_iload (pc := 106) dX12_ways_106 rfl ?_
                    refine r_iload_n (pc := 108) dX12_ways_108 (i := 1) rfl rfl ?_
                    refine r_iload_n (pc := 109) dX12_ways_109 (i := 2) rfl rfl ?_
                    refine r_iload_n (pc := 110) dX12_ways_110 (i := 3) rfl rfl ?_
                    refine r_iload (pc := 111) dX12_ways_111 rfl ?_
                    refine r_lload (pc := 113) dX12_ways_113 rfl ?_
                    obtain ⟨fs34, hfs34⟩ := t_obj ht103 (rd_of RX_y)
                    refine r_callV (pc := 115) (as := [.int (iv h_25), .int (iv x1), .int (iv x2), .int (iv x3), .int (iv v79_6), .long x103_0]) (st := []) kX12_264 rfl dX12_ways_115 hfs34 (x_X12_fill (d := d - 1) (x1 := h_25) (x2 := x1) (x3 := x2) (x4 := x3) (x5 := v79_6) (j6 := x103_0) (by omega) (by assumption) (by assumption) (by assumption) (by assumption) (by assumption) (by assumption) (by assumption) (by assumption) (by assumption) ht103 (by omega) (by omega) (by omega) (by omega) (by omega) (by assumption) (by omega) (fun _ _ _ h => h)) rfl (by omega) (Nat.le_of_ble_eq_true rfl) (Nat.zero_le _) (Nat.zero_le _) rfl (fun r31 hp30 n32 hq33 => ?_)
                    obtain ⟨hnn32, sa1_36, wo1_37, ln1_38, hw1_39, ro1_40, bs1_41, wy1_42, ra1_43, rb1_44, ht35, hrr31, hhq330, hhq331, hhq332, hhq333, hhq334, hhq335, hhq336, hhq337, hhq338⟩ := hq33
                    subst n32 r31
                    have hhq330 : fiP (Int.toNat (mn (Int.toNat x1))) (dr (Int.toNat x1)) (sh fr (60 * x1)) (sh tt (60 * x1)) (sh wt (60 * x1)) x2 x103_0.toInt (Int.toNat x3) ((fup sz (Int.toNat h_25) (sz (Int.toNat x1))) (Int.toNat x1)) v79_6 (sa1_36 (Int.toNat (16 * h_25 + v79_6))) (wo1_37 (Int.toNat (16 * h_25 + v79_6))) (ln1_38 (Int.toNat (16 * h_25 + v79_6))) (hw1_39 (Int.toNat (16 * h_25 + v79_6))) (sh ro1_40 (256 * h_25 + 16 * v79_6)) := hhq330
                    have hhq331 : ∀ j, j ≠ (Int.toNat (16 * h_25 + v79_6)) → sa1_36 j = sa79 j := hhq331
                    have hhq332 : ∀ j, j ≠ (Int.toNat (16 * h_25 + v79_6)) → wo1_37 j = wo79 j := hhq332
                    have hhq333 : ∀ j, j ≠ (Int.toNat (16 * h_25 + v79_6)) → ln1_38 j = ln79 j := hhq333
                    have hhq334 : ∀ j, j ≠ (Int.toNat (16 * h_25 + v79_6)) → hw1_39 j = hw79 j := hhq334
                    have hhq335 : ∀ i : Nat, ((i : Int) < (256 * h_25 + 16 * v79_6) ∨ (256 * h_25 + 16 * v79_6) + 16 ≤ (i : Int)) → ro1_40 i = ro79 i := hhq335
                    have hhq336 : Rfx 1936 0 2 sa1_36 := hhq336
                    have hhq337 : Rfx 1936 (-1) 15 ln1_38 := hhq337
                    have hhq338 : Rfx 30976 0 59 ro1_40 := hhq338
                    change Rn _ _ _ 118 _ [] _ _ _ _ _
                    have hfi := hhq330
                    rw [hz9] at hfi
                    have hws := wsq_up (by assumption : wsQ (Int.toNat (mn (Int.toNat x1))) (dr (Int.toNat x1)) (sh fr (60 * x1)) (sh tt (60 * x1)) (sh wt (60 * x1)) x2 (Int.toNat x3) (sz (Int.toNat x1)) h_25 v79_6 sa79 wo79 ln79 hw79 ro79 sa wo ln hw ro) (by omega) (by omega) (by omega) (by assumption : wbP (Int.toNat (mn (Int.toNat x1))) (dr (Int.toNat x1)) (sh fr (60 * x1)) (sh tt (60 * x1)) (sh wt (60 * x1)) x2 (Int.toNat x3) (Int.toNat v79_6) x103_0.toInt) hfi hhq331 hhq332 hhq333 hhq334 hhq335
                    refine r_iinc (pc := 118) (v := iv (v79_6 + 1)) (lv' := [(6, .int (iv (v79_6 + 1))), (7, .long x103_0), (0, .ref y), (1, .int (iv x1)), (2, .int (iv x2)), (3, .int (iv x3)), (4, .int (iv h_25)), (5, .int (iv (sz (Int.toNat x1))))]) dX12_ways_118 rfl (iv_add _ _) (by decide) rfl ?_
                    refine r_goto (pc := 121) (tgt := 79) dX12_ways_121 (by decide) ?_
                    refine Rn.pick (lv' := [(0, .ref y), (1, .int (iv x1)), (2, .int (iv x2)), (3, .int (iv x3)), (4, .int (iv h_25)), (5, .int (iv (sz (Int.toNat x1)))), (6, .int (iv (v79_6 + 1)))]) [2, 3, 4, 5, 6, 7, 0] rfl ?_
                    exact ih79 (Int.toNat (16 - (v79_6 + 1))) (by omega) sa1_36 wo1_37 ln1_38 hw1_39 ro1_40 bs1_41 wy1_42 ra1_43 rb1_44 _ ht35 (v79_6 + 1) ⟨by omega, by omega, by assumption, by assumption, by assumption, by omega, by (first | exact ws_0 | exact hws)⟩ (by omega)
                  refine t_icmp_ne (pc := 88) (tgt := 102) dX12_ways_88 (by decide) (by omega) (by omega) (fun c88 => ?_) (fun c88 => ?_)
                  · refine r_lconst (pc := 102) (v := 0) dX12_ways_102 (by decide) ?_
                    have hk102 : (0 : Int64).toInt = 0 := by decide
                    refine Rn.pick (lv' := [(0, .ref y), (1, .int (iv x1)), (2, .int (iv x2)), (3, .int (iv x3)), (4, .int (iv h_25)), (5, .int (iv (sz (Int.toNat x1)))), (6, .int (iv v79_6))]) [0, 1, 2, 3, 4, 5, 6] rfl ?_
                    exact B103 _ ht79 (0 : Int64) (by (first | exact Or.inl ⟨by omega, hwd⟩ | exact Or.inr ⟨by omega, rfl⟩))
                  · refine r_aload_n (pc := 91) dX12_ways_91 (i := 0) rfl rfl ?_
                    refine r_iload_n (pc := 92) dX12_ways_92 (i := 1) rfl rfl ?_
                    refine r_iload_n (pc := 93) dX12_ways_93 (i := 3) rfl rfl ?_
                    refine r_iload (pc := 94) dX12_ways_94 rfl ?_
                    obtain ⟨fs49, hfs49⟩ := t_obj ht79 (rd_of RX_y)
                    refine r_callV (pc := 96) (as := [.int (iv x1), .int (iv x3), .int (iv v79_6)]) (st := []) kX12_260 rfl dX12_ways_96 hfs49 (x_X12_widest (d := d - 1) (x1 := x1) (x2 := x3) (x3 := v79_6) (by omega) (by assumption) (by assumption) (by assumption) (by assumption) (by assumption) (by assumption) ht79 (by omega) (by omega) (by omega) (by assumption) (by omega) (fun _ _ _ h => h)) rfl (by omega) (Nat.le_of_ble_eq_true rfl) (Nat.zero_le _) (Nat.zero_le _) rfl (fun r46 hp45 n47 hq48 => ?_)
                    obtain ⟨hnn47, q9_51, ht50, hrr46, hhq480⟩ := hq48
                    subst n47 r46
                    have hhq480 : wdP (Int.toNat (mn (Int.toNat x1))) (dr (Int.toNat x1)) (sh fr (60 * x1)) (sh tt (60 * x1)) (sh wt (60 * x1)) (Int.toNat x3) (Int.toNat v79_6) q9_51.toInt := hhq480
                    change Rn _ _ _ 99 _ [.long q9_51] _ _ _ _ _
                    have hwd := hhq480
                    refine r_goto (pc := 99) (tgt := 103) dX12_ways_99 (by decide) ?_
                    refine Rn.pick (lv' := [(0, .ref y), (1, .int (iv x1)), (2, .int (iv x2)), (3, .int (iv x3)), (4, .int (iv h_25)), (5, .int (iv (sz (Int.toNat x1)))), (6, .int (iv v79_6))]) [0, 1, 2, 3, 4, 5, 6] rfl ?_
                    exact B103 _ ht50 q9_51 (by (first | exact Or.inl ⟨by omega, hwd⟩ | exact Or.inr ⟨by omega, rfl⟩))
              refine Rn.pick (lv' := [(0, .ref y), (1, .int (iv x1)), (2, .int (iv x2)), (3, .int (iv x3)), (4, .int (iv h_25)), (5, .int (iv (sz (Int.toNat x1)))), (6, .int (iv 0))]) [3, 4, 5, 6, 2, 1, 0] rfl ?_
              exact B79 (Int.toNat (16 - 0)) sa wo ln hw ro bs wy ra rb _ ht29 0 ⟨by omega, by omega, by assumption, by assumption, by assumption, by omega, by (first | exact ws_0 | exact hws)⟩ (by omega)
            · have ek : cn = 120 ∧ h_25 = -4 ∧ v_22 = -4 ∧ c1_23 = cn := by omega
              have es : s1_24 = so := hhq192 (by omega)
              rw [ek.2.2.1, ek.2.2.2, es] at ht21
              refine r_iload (pc := 56) dX12_ways_56 rfl ?_
              exact r_iret (pc := 58) dX12_ways_58 rfl (hPo _ _ _ ⟨rfl, (-4), cn, so, sz, sa, wo, ln, hw, ro, bs, wy, ra, rb, h_25, ht21, rfl, (by (exact RK_set hk (by omega) (by omega))), (by (exact df_r _ _ _ _ _ _ _)), (by omega), (by exact an1_m ((show _ = (-4 : Int) by omega).trans (hdQ_y (by omega)).symm) (by omega) (by omega)), (by (intro h9; first | exact ⟨rfl, rfl, rfl, rfl, rfl, rfl, rfl, rfl⟩ | (exfalso; omega))), (by (intro h9; exfalso; omega)), (by omega), (by assumption), (by assumption), (by assumption)⟩)
          · refine Rn.pick (lv' := [(0, .ref y)]) [0] rfl ?_
            exact B37 _ ht6 (by omega)
  · refine r_aload_n (pc := 9) dX12_ways_9 (i := 0) rfl rfl ?_
    refine t_getE (pc := 10) (.int (iv v_7)) ht6 (rd_of RX_y) fX12_142 dX12_ways_10 rfl ?_
    exact r_iret (pc := 13) dX12_ways_13 rfl (hPo _ _ _ ⟨rfl, v_7, cn, so, sz, sa, wo, ln, hw, ro, bs, wy, ra, rb, v_7, ht6, rfl, (by (exact RK_set hk (by omega) (by omega))), (by (exact df_r _ _ _ _ _ _ _)), (by omega), (by exact an1_r (by omega)), (by (intro h9; first | exact ⟨rfl, rfl, rfl, rfl, rfl, rfl, rfl, rfl⟩ | (exfalso; omega))), (by (intro h9; exfalso; omega)), (by omega), (by assumption), (by assumption), (by assumption)⟩)
