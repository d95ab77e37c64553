set_option maxHeartbeats 4000000 in
set_option maxRecDepth 100000 in
theorem x_X12_parts {D : va_G} {cI cJ cZ cT : ClassId} {lo b L : Nat} {xs : Nat → Int32} {hp : MH} {n d : Nat} {Γ : TG} {y : Nat} {rf cn nm : Int} {so sz dr mn fr tt wt co : Nat → Int} {nu : Nat → Int64} {sa : Nat → Int} {wo : Nat → Int64} {ln : Nat → Int} {hw : Nat → Int64} {ro qi qc nf nt nw nc : Nat → Int} {cl nx : Nat → Int64} {ie be sd bl : Nat → Int} {bs wy ra rb : Nat → Int64} {lb bg os js ls : Nat → Int} {sp : Nat → Int64} {jw go : Nat → Int} {de : Nat → Int64} {yb ah im : Nat → Int} {x1 x2 x3 : Int} {Po9 : Option Value → MH → Nat → Prop} (hd0 : 3 ≤ d) (hk : RK rf cn nm so sz dr mn fr tt wt co nu qi qc nf nt nw nc) (hR_label : Rfx 16 0 65535 lb) (hR_beside : Rfx 16 0 65535 be) (hR_bridge : Rfx 60 0 1 bg) (hR_outs : Rfx 16 0 65535 os) (hR_ins : Rfx 16 0 65535 js) (ht : Tw (RX Γ cI cJ cZ y rf cn nm so sz dr mn fr tt wt co nu sa wo ln hw ro qi qc nf nt nw nc cl nx ie be sd bl bs wy ra rb lb bg os js ls sp jw go de yb ah im) hp) (hx1 : (-2147483648) ≤ x1 ∧ x1 ≤ 2147483647) (hx2 : (-2147483648) ≤ x2 ∧ x2 ≤ 2147483647) (hx3 : (-2147483648) ≤ x3 ∧ x3 ≤ 2147483647) (hPo : ∀ r hp1 n1, (n1 = n ∧ ∃ (rf' : Int) (cn' : Int) (so' : Nat → Int) (sz' : Nat → Int) (qi' : Nat → Int) (qc' : Nat → Int) (lb' : Nat → Int) (be' : Nat → Int) (bg' : Nat → Int) (os' : Nat → Int) (js' : Nat → Int) (v' : Int), Tw (RX Γ cI cJ cZ y rf' cn' nm so' sz' dr mn fr tt wt co nu sa wo ln hw ro qi' qc' nf nt nw nc cl nx ie be' sd bl bs wy ra rb lb' bg' os' js' ls sp jw go de yb ah im) hp1 ∧ r = some (.int (iv v')) ∧ (RK rf' cn' nm so' sz' dr mn fr tt wt co nu qi' qc' nf nt nw nc) ∧ (dfE sz dr mn fr tt wt co sz' dr mn fr tt wt co) ∧ (-2147483648 ≤ v' ∧ v' ≤ 2147483647) ∧ (v' = hdQ (x2 = 4) (an2 cn so x1 1 x3 2 (x2 < 0 ∨ 4 < x2 ∨ (x2 = 4 ∧ sz (Int.toNat x3) ≠ sz (Int.toNat x1))) (cn = 120)) (an1 cn so x1 1 (x2 < 0 ∨ 4 < x2 ∨ (x2 = 4 ∧ sz (Int.toNat x3) ≠ sz (Int.toNat x1))) (cn = 120))) ∧ (v' < 0 → SmP cn cn' so sz so' sz' qi qi' qc qc') ∧ (0 ≤ v' → PNw cn cn' so sz so' sz' qi qi' qc qc' (sz (Int.toNat x1)) (ptE (Int.toNat (mn (Int.toNat x1))) (dr (Int.toNat x1)) (sh fr (60 * x1)) (sh tt (60 * x1)) (sj nu (16 * x3)) x2)) ∧ ((v' < 0 → rf' = v') ∧ (0 ≤ v' → rf' = 0)) ∧ (Rfx 16 0 65535 lb') ∧ (Rfx 16 0 65535 be') ∧ (Rfx 60 0 1 bg') ∧ (Rfx 16 0 65535 os') ∧ (Rfx 16 0 65535 js')) → Po9 r hp1 n1) : Mt (gG D cI cJ cZ cT lo b L xs) mX12_parts d 0 0 [.ref y, .int (iv x1), .int (iv x2), .int (iv x3)] hp n Po9 := by
  refine Mt.of rfl (Nat.le_of_ble_eq_true rfl) ?_
  refine Rn.pick (lv' := [(0, .ref y), (1, .int (iv x1)), (2, .int (iv x2)), (3, .int (iv x3))]) [0, 1, 2, 3] rfl ?_
  obtain ⟨hR_sorts, hR_sizes, hR_directs, hR_many, hR_from, hR_to, hR_weight, hR_cost, hR_inPart, hR_partCount, hcn, hrf, hnm, hdf, hgr, hpa, hsz⟩ := id hk
  refine r_iload_n (pc := 0) dX12_parts_0 (i := 2) rfl rfl ?_
  refine r_iconst (pc := 1) (v := iv 4) dX12_parts_1 (by decide) ?_
  refine t_icmp_ne (pc := 2) (tgt := 9) dX12_parts_2 (by decide) (by omega) (by omega) (fun c2 => ?_) (fun c2 => ?_)
  · refine r_iconst (pc := 9) (v := iv 0) dX12_parts_9 (by decide) ?_
    refine r_istore (pc := 10) (lv' := [(4, .int (iv 0)), (0, .ref y), (1, .int (iv x1)), (2, .int (iv x2)), (3, .int (iv x3))]) dX12_parts_10 (by decide) rfl ?_
    refine r_iload (pc := 12) dX12_parts_12 rfl ?_
    have B45 : ∀ rf45 : Int, ∀ hp45 : MH, Tw (RX Γ cI cJ cZ y rf45 cn nm so sz dr mn fr tt wt co nu sa wo ln hw ro qi qc nf nt nw nc cl nx ie be sd bl bs wy ra rb lb bg os js ls sp jw go de yb ah im) hp45 → 0 ≤ x1 ∧ x1 ≤ 119 ∧ (-2147483648 ≤ rf45) ∧ (rf45 ≤ 2147483647) ∧ (rf45 = 0) ∧ (x1 < cn) ∧ (so (Int.toNat x1) = 1) ∧ (0 = 1 → 0 ≤ x3 ∧ x3 < cn) ∧ (0 = 1 → so (Int.toNat x3) = 2) ∧ ((0 = 1 ∧ x2 = 4) ∨ (0 = 0 ∧ x2 ≠ 4)) → Rn (gG D cI cJ cZ cT lo b L xs) mX12_parts d 45 [(0, .ref y), (1, .int (iv x1)), (2, .int (iv x2)), (3, .int (iv x3)), (4, .int (iv 0))] [] hp45 n 0 0 Po9 := by
      intro rf45 hp45 ht45 hf45
      refine r_iload_n (pc := 45) dX12_parts_45 (i := 2) rfl rfl ?_
      have rsz45 := hR_sizes (Int.toNat x1) (by omega)
      have rsy45 := hsz x1 (by omega) (by omega)
      have hen := hgr x1 (by omega) (by omega) (by omega)
      have B74 : ∀ hp74 : MH, Tw (RX Γ cI cJ cZ y rf45 cn nm so sz dr mn fr tt wt co nu sa wo ln hw ro qi qc nf nt nw nc cl nx ie be sd bl bs wy ra rb lb bg os js ls sp jw go de yb ah im) hp74 → ((x2 < 0 ∨ 4 < x2 ∨ (x2 = 4 ∧ sz (Int.toNat x3) ≠ sz (Int.toNat x1)))) → Rn (gG D cI cJ cZ cT lo b L xs) mX12_parts d 74 [(0, .ref y)] [] hp74 n 0 0 Po9 := by
        intro hp74 ht74 hf74
        refine r_aload_n (pc := 74) dX12_parts_74 (i := 0) rfl rfl ?_
        refine r_bipush (pc := 75) (v := iv (-3)) dX12_parts_75 (by decide) ?_
        obtain ⟨fs5, hfs5⟩ := t_obj ht74 (rd_of RX_y)
        refine r_callV (pc := 77) (as := [.int (iv (-3))]) (st := []) kX12_153 rfl dX12_parts_77 hfs5 (x_X12_refuse (d := d - 1) (x1 := (-3)) (by omega) ht74 (by omega) (fun _ _ _ h => h)) rfl (by omega) (Nat.le_of_ble_eq_true rfl) (Nat.zero_le _) (Nat.zero_le _) rfl (fun r2 hp1 n3 hq4 => ?_)
        obtain ⟨hnn3, ht6, hrr2⟩ := hq4
        subst n3 r2
        change Rn _ _ _ 80 _ [.int (iv (-3))] _ _ _ _ _
        exact r_iret (pc := 80) dX12_parts_80 rfl (hPo _ _ _ ⟨rfl, (-3), cn, so, sz, qi, qc, lb, be, bg, os, js, (-3), ht6, rfl, (by (first | assumption | exact RK_set hk (by omega) (by omega))), (by (first | assumption | exact df_r _ _ _ _ _ _ _)), (by omega), (by first | (rw [hdQ_y (show x2 = 4 by omega)]; exact an2_b (by omega) (by omega) (by omega)) | (rw [hdQ_n (show ¬ x2 = 4 by omega)]; exact an1_b (by omega) (by omega) (by omega))), (by (intro h9; first | (exfalso; omega) | exact ⟨rfl, rfl, rfl, rfl, rfl⟩ | exact hnwB h9)), (by (intro h9; first | (exfalso; omega) | exact PNw_E (hnwC h9) hE9)), (by (first | omega | exact ⟨hnwD, fun h9 => (hnwE h9).trans (by omega)⟩)), (by assumption), (by assumption), (by assumption), (by assumption), (by assumption)⟩)
      refine t_if_lt (pc := 46) (tgt := 74) dX12_parts_46 (by decide) (by omega) (fun c46 => ?_) (fun c46 => ?_)
      · refine Rn.pick (lv' := [(0, .ref y)]) [0] rfl ?_
        exact B74 _ ht45 (by omega)
      · refine r_iload_n (pc := 49) dX12_parts_49 (i := 2) rfl rfl ?_
        refine r_iconst (pc := 50) (v := iv 4) dX12_parts_50 (by decide) ?_
        refine t_icmp_gt (pc := 51) (tgt := 74) dX12_parts_51 (by decide) (by omega) (by omega) (fun c51 => ?_) (fun c51 => ?_)
        · refine Rn.pick (lv' := [(0, .ref y)]) [0] rfl ?_
          exact B74 _ ht45 (by omega)
        · refine r_iload (pc := 54) dX12_parts_54 rfl ?_
          have B81 : ∀ hp81 : MH, Tw (RX Γ cI cJ cZ y rf45 cn nm so sz dr mn fr tt wt co nu sa wo ln hw ro qi qc nf nt nw nc cl nx ie be sd bl bs wy ra rb lb bg os js ls sp jw go de yb ah im) hp81 → (0 = 1 → sz (Int.toNat x3) = sz (Int.toNat x1)) ∧ (0 ≤ x2) ∧ (x2 ≤ 4) → Rn (gG D cI cJ cZ cT lo b L xs) mX12_parts d 81 [(0, .ref y), (1, .int (iv x1)), (2, .int (iv x2)), (3, .int (iv x3)), (4, .int (iv 0))] [] hp81 n 0 0 Po9 := by
            intro hp81 ht81 hf81
            refine r_aload_n (pc := 81) dX12_parts_81 (i := 0) rfl rfl ?_
            refine t_getE (pc := 82) (.ref (y + 2)) ht81 (rd_of RX_y) fX12_13 dX12_parts_82 rfl ?_
            refine r_iload_n (pc := 85) dX12_parts_85 (i := 1) rfl rfl ?_
            refine t_ialdX (pc := 86) (t0 := 0) ht81 (rd_of RX_sizes) dX12_parts_86 rfl (by decide) (by omega) (fun b7 => ?_)
            have rb7 := (show Rfx 121 0 16 sz by assumption) (Int.toNat x1) (by omega)
            refine r_istore (pc := 87) (lv' := [(5, .int (iv (sz (Int.toNat x1)))), (0, .ref y), (1, .int (iv x1)), (2, .int (iv x2)), (3, .int (iv x3)), (4, .int (iv 0))]) dX12_parts_87 (by decide) rfl ?_
            have rmn45 := hR_many (Int.toNat x1) (by omega)
            have hFT := enF hen.2 (by assumption) (by assumption) (by omega) (by omega)
            have hEn : enP fr tt mn sz x1 := hen.2
            refine r_iload (pc := 89) dX12_parts_89 rfl ?_
            refine t_if_eq (pc := 91) (tgt := 186) dX12_parts_91 (by decide) (by omega) (fun c91 => ?_) (fun c91 => ?_)
            · refine r_iload_n (pc := 186) dX12_parts_186 (i := 2) rfl rfl ?_
              refine t_if_ne (pc := 187) (tgt := 290) dX12_parts_187 (by decide) (by omega) (fun c187 => ?_) (fun c187 => ?_)
              · refine r_iload_n (pc := 290) dX12_parts_290 (i := 2) rfl rfl ?_
                refine r_iconst (pc := 291) (v := iv 3) dX12_parts_291 (by decide) ?_
                refine t_icmp_ne (pc := 292) (tgt := 303) dX12_parts_292 (by decide) (by omega) (by omega) (fun c292 => ?_) (fun c292 => ?_)
                · refine r_iload_n (pc := 303) dX12_parts_303 (i := 2) rfl rfl ?_
                  refine r_iconst (pc := 304) (v := iv 2) dX12_parts_304 (by decide) ?_
                  refine t_icmp_ne (pc := 305) (tgt := 316) dX12_parts_305 (by decide) (by omega) (by omega) (fun c305 => ?_) (fun c305 => ?_)
                  · refine r_iconst (pc := 316) (v := iv 0) dX12_parts_316 (by decide) ?_
                    refine r_istore (pc := 317) (lv' := [(6, .int (iv 0)), (5, .int (iv (sz (Int.toNat x1)))), (0, .ref y), (1, .int (iv x1)), (2, .int (iv x2)), (3, .int (iv x3)), (4, .int (iv 0))]) dX12_parts_317 (by decide) rfl ?_
                    refine r_aload_n (pc := 319) dX12_parts_319 (i := 0) rfl rfl ?_
                    refine r_iload_n (pc := 320) dX12_parts_320 (i := 1) rfl rfl ?_
                    refine r_iconst (pc := 321) (v := iv (-1)) dX12_parts_321 (by decide) ?_
                    obtain ⟨fs12, hfs12⟩ := t_obj ht81 (rd_of RX_y)
                    refine r_callV (pc := 322) (as := [.int (iv x1), .int (iv (-1))]) (st := []) kX12_234 rfl dX12_parts_322 hfs12 (x_X12_joinsOf (d := d - 1) (x1 := x1) (x2 := (-1)) (by omega) (by assumption) (by assumption) (by assumption) (by assumption) (by assumption) ht81 (by omega) (by omega) (by assumption) (fun _ _ _ h => h)) rfl (by omega) (Nat.le_of_ble_eq_true rfl) (Nat.zero_le _) (Nat.zero_le _) rfl (fun r9 hp8 n10 hq11 => ?_)
                    obtain ⟨hnn10, b1_14, ht13, hrr9, hhq110, hhq111⟩ := hq11
                    subst n10 r9
                    have hhq110 : Rfx 16 0 65535 b1_14 := hhq110
                    have hhq111 : jbP b1_14 (Int.toNat (mn (Int.toNat x1))) (sh fr (60 * x1)) (sh tt (60 * x1)) (fun k => (k : Int) ≠ (-1)) := hhq111
                    change Rn _ _ _ 325 _ [] _ _ _ _ _
                    have hJ := jb_sym hhq111 hFT (by omega)
                    have hjr := jb_rc hhq111 hFT (by omega)
                    refine r_iload (pc := 325) dX12_parts_325 rfl ?_
                    refine t_if_le (pc := 327) (tgt := 335) dX12_parts_327 (by decide) (by omega) (fun c327 => ?_) (fun c327 => ?_)
                    · refine r_aload_n (pc := 335) dX12_parts_335 (i := 0) rfl rfl ?_
                      refine r_iload (pc := 336) dX12_parts_336 rfl ?_
                      obtain ⟨fs19, hfs19⟩ := t_obj ht13 (rd_of RX_y)
                      refine r_callV (pc := 338) (as := [.int (iv (sz (Int.toNat x1)))]) (st := []) kX12_298 rfl dX12_parts_338 hfs19 (x_X12_weakLabels (d := d - 1) (x1 := sz (Int.toNat x1)) (by omega) (by assumption) (by assumption) ht13 (by omega) (by assumption) (fun _ _ _ h => h)) rfl (by omega) (Nat.le_of_ble_eq_true rfl) (Nat.zero_le _) (Nat.zero_le _) rfl (fun r16 hp15 n17 hq18 => ?_)
                      obtain ⟨hnn17, l1_21, ht20, hrr16, hhq180, hhq181⟩ := hq18
                      subst n17 r16
                      have hhq180 : Rfx 16 0 65535 l1_21 := hhq180
                      have hhq181 : ∀ v : Nat, (v : Int) < (sz (Int.toNat x1)) → ∀ j, Me (l1_21 v) j ↔ RC (JB b1_14) (fun x => x = v) j := hhq181
                      change Rn _ _ _ 341 _ [] _ _ _ _ _
                      have hJX : ((x2 = 1 ∧ ∀ i j, JB b1_14 i j ↔ joX (Int.toNat (mn (Int.toNat x1))) (sh fr (60 * x1)) (sh tt (60 * x1)) (fun _ => True) i j) ∨ (x2 = 2 ∧ ∀ i j, JB b1_14 i j ↔ joX (Int.toNat (mn (Int.toNat x1))) (sh fr (60 * x1)) (sh tt (60 * x1)) (fun k => ¬ brX (Int.toNat (mn (Int.toNat x1))) (sh fr (60 * x1)) (sh tt (60 * x1)) (fun _ => True) k) i j)) := by
                        first
                        | exact Or.inl ⟨by omega, fun i j => (hjr i j).trans (joX_iff (fun k _ => ⟨fun _ => trivial, fun _ => by show (k : Int) ≠ -1; omega⟩) i j)⟩
                        | exact Or.inr ⟨by omega, fun i j => (hjr i j).trans (joX_iff (fun k hk => bg_iff1 hjr (by omega)) i j)⟩
                        | exact Or.inr ⟨by omega, fun i j => (hjr i j).trans (joX_iff (fun k hk => bg_iff0 hjr (hjr (by omega)) (by omega)) i j)⟩
                      have hE9 : ∀ u v, u < (Int.toNat (sz (Int.toNat x1))) → v < (Int.toNat (sz (Int.toNat x1))) → (l1_21 u = l1_21 v ↔ (ptE (Int.toNat (mn (Int.toNat x1))) (dr (Int.toNat x1)) (sh fr (60 * x1)) (sh tt (60 * x1)) (sj nu (16 * x3)) x2) u v) := by
                        rcases hJX with ⟨k1, k2⟩ | ⟨k1, k2⟩
                        · exact pt_w hhq181 (fun i j q => (hJ i j q).1) (fun i hi => ((by assumption : Rfx 16 0 65535 l1_21) i hi).1) (by omega) k2 (Or.inl ⟨k1, rfl⟩)
                        · exact pt_w hhq181 (fun i j q => (hJ i j q).1) (fun i hi => ((by assumption : Rfx 16 0 65535 l1_21) i hi).1) (by omega) k2 (Or.inr ⟨k1, rfl⟩)
                      refine r_aload_n (pc := 341) dX12_parts_341 (i := 0) rfl rfl ?_
                      refine r_iload (pc := 342) dX12_parts_342 rfl ?_
                      obtain ⟨fs26, hfs26⟩ := t_obj ht20 (rd_of RX_y)
                      refine r_callV (pc := 344) (as := [.int (iv (sz (Int.toNat x1)))]) (st := []) kX12_301 rfl dX12_parts_344 hfs26 (x_X12_madeParts (d := d - 1) (x1 := sz (Int.toNat x1)) (by omega) (by omega) (by assumption) (by omega) (by assumption) (by assumption) (by assumption) ht20 (by omega) (fun _ _ _ h => h)) rfl (by omega) (Nat.le_of_ble_eq_true rfl) (Nat.zero_le _) (Nat.zero_le _) rfl (fun r23 hp22 n24 hq25 => ?_)
                      obtain ⟨hnn24, h_28, v_29, c1_30, s1_31, z1_32, i1_33, p1_34, ht27, hrr23, hhq250, hhq251, hhq252, hhq253, hhq254, hhq255, hhq256, hhq257⟩ := hq25
                      subst n24 r23
                      have hhq250 : cn = 120 → h_28 = -4 ∧ v_29 = -4 ∧ c1_30 = cn := hhq250
                      have hhq251 : cn = 120 → s1_31 = so ∧ z1_32 = sz ∧ i1_33 = qi ∧ p1_34 = qc := hhq251
                      have hhq252 : cn < 120 → h_28 = cn ∧ v_29 = rf45 ∧ c1_30 = cn + 1 := hhq252
                      have hhq253 : cn < 120 → s1_31 = fup so (Int.toNat cn) 4 ∧ z1_32 = fup sz (Int.toNat cn) (sz (Int.toNat x1)) := hhq253
                      have hhq254 : Rfx 1936 0 15 i1_33 := hhq254
                      have hhq255 : Rfx 121 0 16 p1_34 := hhq255
                      have hhq256 : cn < 120 → fqP i1_33 qi cn ∧ pqP i1_33 cn (sz (Int.toNat x1)) (p1_34 (Int.toNat cn)) ∧ ∀ g : Nat, g ≠ Int.toNat cn → p1_34 g = qc g := hhq256
                      have hhq257 : cn < 120 → nuP2 (fun a b => l1_21 a = l1_21 b) (sh i1_33 (16 * cn)) (Int.toNat (sz (Int.toNat x1))) ∧ p1_34 (Int.toNat cn) = (cnP (fsP (fun a b => l1_21 a = l1_21 b)) (Int.toNat (sz (Int.toNat x1))) : Int) := hhq257
                      change Rn _ _ _ 347 _ [.int (iv h_28)] _ _ _ _ _
                      obtain ⟨hRKm, hDFm, hhm⟩ := RK_prt (x1 := sz (Int.toNat x1)) (RK_set (nu1 := nu) (nf1 := nf) (nt1 := nt) (nw1 := nw) (nc1 := nc) hk (by omega) (by omega)) (by omega) hhq250 hhq251 hhq252 hhq253 hhq254 hhq255 hhq256
                      obtain ⟨hnwA, hnwB, hnwC, hnwD, hnwE⟩ := mk_prt (x1 := sz (Int.toNat x1)) (by omega) (by omega) hhq250 hhq251 hhq252 hhq253 hhq256 hhq257
                      clear hhq250 hhq251 hhq252 hhq253 hhq256 hhq257
                      exact r_iret (pc := 347) dX12_parts_347 rfl (hPo _ _ _ ⟨rfl, v_29, c1_30, s1_31, z1_32, i1_33, p1_34, l1_21, b1_14, bg, os, js, h_28, ht27, rfl, (by (first | assumption | exact RK_set hk (by omega) (by omega))), (by (first | assumption | exact df_r _ _ _ _ _ _ _)), (by omega), (by first | (rw [hdQ_y (show x2 = 4 by omega)]; first | exact an2_m hnwA (by omega) (by omega) | exact an2_r (by omega)) | (rw [hdQ_n (show ¬ x2 = 4 by omega)]; first | exact an1_m hnwA (by omega) (by omega) | exact an1_r (by omega))), (by (intro h9; first | (exfalso; omega) | exact ⟨rfl, rfl, rfl, rfl, rfl⟩ | exact hnwB h9)), (by (intro h9; first | (exfalso; omega) | exact PNw_E (hnwC h9) hE9)), (by (first | omega | exact ⟨hnwD, fun h9 => (hnwE h9).trans (by omega)⟩)), (by assumption), (by assumption), (by assumption), (by assumption), (by assumption)⟩)
                    · exfalso
                      omega
                  · refine r_aload_n (pc := 308) dX12_parts_308 (i := 0) rfl rfl ?_
                    refine r_iload_n (pc := 309) dX12_parts_309 (i := 1) rfl rfl ?_
                    obtain ⟨fs39, hfs39⟩ := t_obj ht81 (rd_of RX_y)
                    refine r_callV (pc := 310) (as := [.int (iv x1)]) (st := []) kX12_292 rfl dX12_parts_310 hfs39 (x_X12_bridgesOf (d := d - 1) (x1 := x1) (by omega) (by assumption) (by assumption) (by assumption) (by assumption) (by assumption) (by assumption) ht81 (by omega) (by assumption) (fun _ _ _ h => h)) rfl (by omega) (Nat.le_of_ble_eq_true rfl) (Nat.zero_le _) (Nat.zero_le _) rfl (fun r36 hp35 n37 hq38 => ?_)
                    obtain ⟨hnn37, r9_41, b1_42, g1_43, ht40, hrr36, hhq380, hhq381, hhq382, hhq383, hhq384⟩ := hq38
                    subst n37 r36
                    have hhq380 : 0 ≤ r9_41 ∧ r9_41 ≤ 60 := hhq380
                    have hhq381 : Rfx 16 0 65535 b1_42 := hhq381
                    have hhq382 : Rfx 60 0 1 g1_43 := hhq382
                    have hhq383 : bgP (Int.toNat (mn (Int.toNat x1))) (sh fr (60 * x1)) (sh tt (60 * x1)) (mn (Int.toNat x1)) g1_43 := hhq383
                    have hhq384 : r9_41 = 0 → ∀ j : Nat, (j : Int) < (mn (Int.toNat x1)) → g1_43 j = 0 := hhq384
                    change Rn _ _ _ 313 _ [.int (iv r9_41)] _ _ _ _ _
                    refine r_goto (pc := 313) (tgt := 317) dX12_parts_313 (by decide) ?_
                    refine r_istore (pc := 317) (lv' := [(6, .int (iv r9_41)), (5, .int (iv (sz (Int.toNat x1)))), (0, .ref y), (1, .int (iv x1)), (2, .int (iv x2)), (3, .int (iv x3)), (4, .int (iv 0))]) dX12_parts_317 (by decide) rfl ?_
                    refine r_aload_n (pc := 319) dX12_parts_319 (i := 0) rfl rfl ?_
                    refine r_iload_n (pc := 320) dX12_parts_320 (i := 1) rfl rfl ?_
                    refine r_iconst (pc := 321) (v := iv (-1)) dX12_parts_321 (by decide) ?_
                    obtain ⟨fs48, hfs48⟩ := t_obj ht40 (rd_of RX_y)
                    refine r_callV (pc := 322) (as := [.int (iv x1), .int (iv (-1))]) (st := []) kX12_234 rfl dX12_parts_322 hfs48 (x_X12_joinsOf (d := d - 1) (x1 := x1) (x2 := (-1)) (by omega) (by assumption) (by assumption) (by assumption) (by assumption) (by assumption) ht40 (by omega) (by omega) (by assumption) (fun _ _ _ h => h)) rfl (by omega) (Nat.le_of_ble_eq_true rfl) (Nat.zero_le _) (Nat.zero_le _) rfl (fun r45 hp44 n46 hq47 => ?_)
                    obtain ⟨hnn46, b1_50, ht49, hrr45, hhq470, hhq471⟩ := hq47
                    subst n46 r45
                    have hhq470 : Rfx 16 0 65535 b1_50 := hhq470
                    have hhq471 : jbP b1_50 (Int.toNat (mn (Int.toNat x1))) (sh fr (60 * x1)) (sh tt (60 * x1)) (fun k => (k : Int) ≠ (-1)) := hhq471
                    change Rn _ _ _ 325 _ [] _ _ _ _ _
                    have hJ := jb_sym hhq471 hFT (by omega)
                    have hjr := jb_rc hhq471 hFT (by omega)
                    refine r_iload (pc := 325) dX12_parts_325 rfl ?_
                    refine t_if_le (pc := 327) (tgt := 335) dX12_parts_327 (by decide) (by omega) (fun c327 => ?_) (fun c327 => ?_)
                    · refine r_aload_n (pc := 335) dX12_parts_335 (i := 0) rfl rfl ?_
                      refine r_iload (pc := 336) dX12_parts_336 rfl ?_
                      obtain ⟨fs55, hfs55⟩ := t_obj ht49 (rd_of RX_y)
                      refine r_callV (pc := 338) (as := [.int (iv (sz (Int.toNat x1)))]) (st := []) kX12_298 rfl dX12_parts_338 hfs55 (x_X12_weakLabels (d := d - 1) (x1 := sz (Int.toNat x1)) (by omega) (by assumption) (by assumption) ht49 (by omega) (by assumption) (fun _ _ _ h => h)) rfl (by omega) (Nat.le_of_ble_eq_true rfl) (Nat.zero_le _) (Nat.zero_le _) rfl (fun r52 hp51 n53 hq54 => ?_)
                      obtain ⟨hnn53, l1_57, ht56, hrr52, hhq540, hhq541⟩ := hq54
                      subst n53 r52
                      have hhq540 : Rfx 16 0 65535 l1_57 := hhq540
                      have hhq541 : ∀ v : Nat, (v : Int) < (sz (Int.toNat x1)) → ∀ j, Me (l1_57 v) j ↔ RC (JB b1_50) (fun x => x = v) j := hhq541
                      change Rn _ _ _ 341 _ [] _ _ _ _ _
                      have hJX : ((x2 = 1 ∧ ∀ i j, JB b1_50 i j ↔ joX (Int.toNat (mn (Int.toNat x1))) (sh fr (60 * x1)) (sh tt (60 * x1)) (fun _ => True) i j) ∨ (x2 = 2 ∧ ∀ i j, JB b1_50 i j ↔ joX (Int.toNat (mn (Int.toNat x1))) (sh fr (60 * x1)) (sh tt (60 * x1)) (fun k => ¬ brX (Int.toNat (mn (Int.toNat x1))) (sh fr (60 * x1)) (sh tt (60 * x1)) (fun _ => True) k) i j)) := by
                        first
                        | exact Or.inl ⟨by omega, fun i j => (hjr i j).trans (joX_iff (fun k _ => ⟨fun _ => trivial, fun _ => by show (k : Int) ≠ -1; omega⟩) i j)⟩
                        | exact Or.inr ⟨by omega, fun i j => (hjr i j).trans (joX_iff (fun k hk => bg_iff1 hhq383 (by omega)) i j)⟩
                        | exact Or.inr ⟨by omega, fun i j => (hjr i j).trans (joX_iff (fun k hk => bg_iff0 hhq383 (hhq384 (by omega)) (by omega)) i j)⟩
                      have hE9 : ∀ u v, u < (Int.toNat (sz (Int.toNat x1))) → v < (Int.toNat (sz (Int.toNat x1))) → (l1_57 u = l1_57 v ↔ (ptE (Int.toNat (mn (Int.toNat x1))) (dr (Int.toNat x1)) (sh fr (60 * x1)) (sh tt (60 * x1)) (sj nu (16 * x3)) x2) u v) := by
                        rcases hJX with ⟨k1, k2⟩ | ⟨k1, k2⟩
                        · exact pt_w hhq541 (fun i j q => (hJ i j q).1) (fun i hi => ((by assumption : Rfx 16 0 65535 l1_57) i hi).1) (by omega) k2 (Or.inl ⟨k1, rfl⟩)
                        · exact pt_w hhq541 (fun i j q => (hJ i j q).1) (fun i hi => ((by assumption : Rfx 16 0 65535 l1_57) i hi).1) (by omega) k2 (Or.inr ⟨k1, rfl⟩)
                      refine r_aload_n (pc := 341) dX12_parts_341 (i := 0) rfl rfl ?_
                      refine r_iload (pc := 342) dX12_parts_342 rfl ?_
                      obtain ⟨fs62, hfs62⟩ := t_obj ht56 (rd_of RX_y)
                      refine r_callV (pc := 344) (as := [.int (iv (sz (Int.toNat x1)))]) (st := []) kX12_301 rfl dX12_parts_344 hfs62 (x_X12_madeParts (d := d - 1) (x1 := sz (Int.toNat x1)) (by omega) (by omega) (by assumption) (by omega) (by assumption) (by assumption) (by assumption) ht56 (by omega) (fun _ _ _ h => h)) rfl (by omega) (Nat.le_of_ble_eq_true rfl) (Nat.zero_le _) (Nat.zero_le _) rfl (fun r59 hp58 n60 hq61 => ?_)
                      obtain ⟨hnn60, h_64, v_65, c1_66, s1_67, z1_68, i1_69, p1_70, ht63, hrr59, hhq610, hhq611, hhq612, hhq613, hhq614, hhq615, hhq616, hhq617⟩ := hq61
                      subst n60 r59
                      have hhq610 : cn = 120 → h_64 = -4 ∧ v_65 = -4 ∧ c1_66 = cn := hhq610
                      have hhq611 : cn = 120 → s1_67 = so ∧ z1_68 = sz ∧ i1_69 = qi ∧ p1_70 = qc := hhq611
                      have hhq612 : cn < 120 → h_64 = cn ∧ v_65 = rf45 ∧ c1_66 = cn + 1 := hhq612
                      have hhq613 : cn < 120 → s1_67 = fup so (Int.toNat cn) 4 ∧ z1_68 = fup sz (Int.toNat cn) (sz (Int.toNat x1)) := hhq613
                      have hhq614 : Rfx 1936 0 15 i1_69 := hhq614
                      have hhq615 : Rfx 121 0 16 p1_70 := hhq615
                      have hhq616 : cn < 120 → fqP i1_69 qi cn ∧ pqP i1_69 cn (sz (Int.toNat x1)) (p1_70 (Int.toNat cn)) ∧ ∀ g : Nat, g ≠ Int.toNat cn → p1_70 g = qc g := hhq616
                      have hhq617 : cn < 120 → nuP2 (fun a b => l1_57 a = l1_57 b) (sh i1_69 (16 * cn)) (Int.toNat (sz (Int.toNat x1))) ∧ p1_70 (Int.toNat cn) = (cnP (fsP (fun a b => l1_57 a = l1_57 b)) (Int.toNat (sz (Int.toNat x1))) : Int) := hhq617
                      change Rn _ _ _ 347 _ [.int (iv h_64)] _ _ _ _ _
                      obtain ⟨hRKm, hDFm, hhm⟩ := RK_prt (x1 := sz (Int.toNat x1)) (RK_set (nu1 := nu) (nf1 := nf) (nt1 := nt) (nw1 := nw) (nc1 := nc) hk (by omega) (by omega)) (by omega) hhq610 hhq611 hhq612 hhq613 hhq614 hhq615 hhq616
                      obtain ⟨hnwA, hnwB, hnwC, hnwD, hnwE⟩ := mk_prt (x1 := sz (Int.toNat x1)) (by omega) (by omega) hhq610 hhq611 hhq612 hhq613 hhq616 hhq617
                      clear hhq610 hhq611 hhq612 hhq613 hhq616 hhq617
                      exact r_iret (pc := 347) dX12_parts_347 rfl (hPo _ _ _ ⟨rfl, v_65, c1_66, s1_67, z1_68, i1_69, p1_70, l1_57, b1_50, g1_43, os, js, h_64, ht63, rfl, (by (first | assumption | exact RK_set hk (by omega) (by omega))), (by (first | assumption | exact df_r _ _ _ _ _ _ _)), (by omega), (by first | (rw [hdQ_y (show x2 = 4 by omega)]; first | exact an2_m hnwA (by omega) (by omega) | exact an2_r (by omega)) | (rw [hdQ_n (show ¬ x2 = 4 by omega)]; first | exact an1_m hnwA (by omega) (by omega) | exact an1_r (by omega))), (by (intro h9; first | (exfalso; omega) | exact ⟨rfl, rfl, rfl, rfl, rfl⟩ | exact hnwB h9)), (by (intro h9; first | (exfalso; omega) | exact PNw_E (hnwC h9) hE9)), (by (first | omega | exact ⟨hnwD, fun h9 => (hnwE h9).trans (by omega)⟩)), (by assumption), (by assumption), (by assumption), (by assumption), (by assumption)⟩)
                    · refine r_aload_n (pc := 330) dX12_parts_330 (i := 0) rfl rfl ?_
                      refine r_iload_n (pc := 331) dX12_parts_331 (i := 1) rfl rfl ?_
                      obtain ⟨fs75, hfs75⟩ := t_obj ht49 (rd_of RX_y)
                      refine r_callV (pc := 332) (as := [.int (iv x1)]) (st := []) kX12_295 rfl dX12_parts_332 hfs75 (x_X12_withoutBridges (d := d - 1) (x1 := x1) (by omega) (by assumption) (by assumption) (by assumption) (by assumption) (by assumption) (by assumption) ht49 (by omega) (by assumption) (fun _ _ _ h => h)) rfl (by omega) (Nat.le_of_ble_eq_true rfl) (Nat.zero_le _) (Nat.zero_le _) rfl (fun r72 hp71 n73 hq74 => ?_)
                      obtain ⟨hnn73, b1_77, ht76, hrr72, hhq740, hhq741⟩ := hq74
                      subst n73 r72
                      have hhq740 : Rfx 16 0 65535 b1_77 := hhq740
                      have hhq741 : jbP b1_77 (Int.toNat (mn (Int.toNat x1))) (sh fr (60 * x1)) (sh tt (60 * x1)) (fun k => g1_43 k = 0) := hhq741
                      change Rn _ _ _ 335 _ [] _ _ _ _ _
                      have hJ := jb_sym hhq741 hFT (by omega)
                      have hjr := jb_rc hhq741 hFT (by omega)
                      refine r_aload_n (pc := 335) dX12_parts_335 (i := 0) rfl rfl ?_
                      refine r_iload (pc := 336) dX12_parts_336 rfl ?_
                      obtain ⟨fs82, hfs82⟩ := t_obj ht76 (rd_of RX_y)
                      refine r_callV (pc := 338) (as := [.int (iv (sz (Int.toNat x1)))]) (st := []) kX12_298 rfl dX12_parts_338 hfs82 (x_X12_weakLabels (d := d - 1) (x1 := sz (Int.toNat x1)) (by omega) (by assumption) (by assumption) ht76 (by omega) (by assumption) (fun _ _ _ h => h)) rfl (by omega) (Nat.le_of_ble_eq_true rfl) (Nat.zero_le _) (Nat.zero_le _) rfl (fun r79 hp78 n80 hq81 => ?_)
                      obtain ⟨hnn80, l1_84, ht83, hrr79, hhq810, hhq811⟩ := hq81
                      subst n80 r79
                      have hhq810 : Rfx 16 0 65535 l1_84 := hhq810
                      have hhq811 : ∀ v : Nat, (v : Int) < (sz (Int.toNat x1)) → ∀ j, Me (l1_84 v) j ↔ RC (JB b1_77) (fun x => x = v) j := hhq811
                      change Rn _ _ _ 341 _ [] _ _ _ _ _
                      have hJX : ((x2 = 1 ∧ ∀ i j, JB b1_77 i j ↔ joX (Int.toNat (mn (Int.toNat x1))) (sh fr (60 * x1)) (sh tt (60 * x1)) (fun _ => True) i j) ∨ (x2 = 2 ∧ ∀ i j, JB b1_77 i j ↔ joX (Int.toNat (mn (Int.toNat x1))) (sh fr (60 * x1)) (sh tt (60 * x1)) (fun k => ¬ brX (Int.toNat (mn (Int.toNat x1))) (sh fr (60 * x1)) (sh tt (60 * x1)) (fun _ => True) k) i j)) := by
                        first
                        | exact Or.inl ⟨by omega, fun i j => (hjr i j).trans (joX_iff (fun k _ => ⟨fun _ => trivial, fun _ => by show (k : Int) ≠ -1; omega⟩) i j)⟩
                        | exact Or.inr ⟨by omega, fun i j => (hjr i j).trans (joX_iff (fun k hk => bg_iff1 hhq383 (by omega)) i j)⟩
                        | exact Or.inr ⟨by omega, fun i j => (hjr i j).trans (joX_iff (fun k hk => bg_iff0 hhq383 (hhq384 (by omega)) (by omega)) i j)⟩
                      have hE9 : ∀ u v, u < (Int.toNat (sz (Int.toNat x1))) → v < (Int.toNat (sz (Int.toNat x1))) → (l1_84 u = l1_84 v ↔ (ptE (Int.toNat (mn (Int.toNat x1))) (dr (Int.toNat x1)) (sh fr (60 * x1)) (sh tt (60 * x1)) (sj nu (16 * x3)) x2) u v) := by
                        rcases hJX with ⟨k1, k2⟩ | ⟨k1, k2⟩
                        · exact pt_w hhq811 (fun i j q => (hJ i j q).1) (fun i hi => ((by assumption : Rfx 16 0 65535 l1_84) i hi).1) (by omega) k2 (Or.inl ⟨k1, rfl⟩)
                        · exact pt_w hhq811 (fun i j q => (hJ i j q).1) (fun i hi => ((by assumption : Rfx 16 0 65535 l1_84) i hi).1) (by omega) k2 (Or.inr ⟨k1, rfl⟩)
                      refine r_aload_n (pc := 341) dX12_parts_341 (i := 0) rfl rfl ?_
                      refine r_iload (pc := 342) dX12_parts_342 rfl ?_
                      obtain ⟨fs89, hfs89⟩ := t_obj ht83 (rd_of RX_y)
                      refine r_callV (pc := 344) (as := [.int (iv (sz (Int.toNat x1)))]) (st := []) kX12_301 rfl dX12_parts_344 hfs89 (x_X12_madeParts (d := d - 1) (x1 := sz (Int.toNat x1)) (by omega) (by omega) (by assumption) (by omega) (by assumption) (by assumption) (by assumption) ht83 (by omega) (fun _ _ _ h => h)) rfl (by omega) (Nat.le_of_ble_eq_true rfl) (Nat.zero_le _) (Nat.zero_le _) rfl (fun r86 hp85 n87 hq88 => ?_)
                      obtain ⟨hnn87, h_91, v_92, c1_93, s1_94, z1_95, i1_96, p1_97, ht90, hrr86, hhq880, hhq881, hhq882, hhq883, hhq884, hhq885, hhq886, hhq887⟩ := hq88
                      subst n87 r86
                      have hhq880 : cn = 120 → h_91 = -4 ∧ v_92 = -4 ∧ c1_93 = cn := hhq880
                      have hhq881 : cn = 120 → s1_94 = so ∧ z1_95 = sz ∧ i1_96 = qi ∧ p1_97 = qc := hhq881
                      have hhq882 : cn < 120 → h_91 = cn ∧ v_92 = rf45 ∧ c1_93 = cn + 1 := hhq882
                      have hhq883 : cn < 120 → s1_94 = fup so (Int.toNat cn) 4 ∧ z1_95 = fup sz (Int.toNat cn) (sz (Int.toNat x1)) := hhq883
                      have hhq884 : Rfx 1936 0 15 i1_96 := hhq884
                      have hhq885 : Rfx 121 0 16 p1_97 := hhq885
                      have hhq886 : cn < 120 → fqP i1_96 qi cn ∧ pqP i1_96 cn (sz (Int.toNat x1)) (p1_97 (Int.toNat cn)) ∧ ∀ g : Nat, g ≠ Int.toNat cn → p1_97 g = qc g := hhq886
                      have hhq887 : cn < 120 → nuP2 (fun a b => l1_84 a = l1_84 b) (sh i1_96 (16 * cn)) (Int.toNat (sz (Int.toNat x1))) ∧ p1_97 (Int.toNat cn) = (cnP (fsP (fun a b => l1_84 a = l1_84 b)) (Int.toNat (sz (Int.toNat x1))) : Int) := hhq887
                      change Rn _ _ _ 347 _ [.int (iv h_91)] _ _ _ _ _
                      obtain ⟨hRKm, hDFm, hhm⟩ := RK_prt (x1 := sz (Int.toNat x1)) (RK_set (nu1 := nu) (nf1 := nf) (nt1 := nt) (nw1 := nw) (nc1 := nc) hk (by omega) (by omega)) (by omega) hhq880 hhq881 hhq882 hhq883 hhq884 hhq885 hhq886
                      obtain ⟨hnwA, hnwB, hnwC, hnwD, hnwE⟩ := mk_prt (x1 := sz (Int.toNat x1)) (by omega) (by omega) hhq880 hhq881 hhq882 hhq883 hhq886 hhq887
                      clear hhq880 hhq881 hhq882 hhq883 hhq886 hhq887
                      exact r_iret (pc := 347) dX12_parts_347 rfl (hPo _ _ _ ⟨rfl, v_92, c1_93, s1_94, z1_95, i1_96, p1_97, l1_84, b1_77, g1_43, os, js, h_91, ht90, rfl, (by (first | assumption | exact RK_set hk (by omega) (by omega))), (by (first | assumption | exact df_r _ _ _ _ _ _ _)), (by omega), (by first | (rw [hdQ_y (show x2 = 4 by omega)]; first | exact an2_m hnwA (by omega) (by omega) | exact an2_r (by omega)) | (rw [hdQ_n (show ¬ x2 = 4 by omega)]; first | exact an1_m hnwA (by omega) (by omega) | exact an1_r (by omega))), (by (intro h9; first | (exfalso; omega) | exact ⟨rfl, rfl, rfl, rfl, rfl⟩ | exact hnwB h9)), (by (intro h9; first | (exfalso; omega) | exact PNw_E (hnwC h9) hE9)), (by (first | omega | exact ⟨hnwD, fun h9 => (hnwE h9).trans (by omega)⟩)), (by assumption), (by assumption), (by assumption), (by assumption), (by assumption)⟩)
                · refine r_aload_n (pc := 295) dX12_parts_295 (i := 0) rfl rfl ?_
                  refine r_iload_n (pc := 296) dX12_parts_296 (i := 1) rfl rfl ?_
                  obtain ⟨fs102, hfs102⟩ := t_obj ht81 (rd_of RX_y)
                  refine r_callV (pc := 297) (as := [.int (iv x1)]) (st := []) kX12_289 rfl dX12_parts_297 hfs102 (x_X12_same (d := d - 1) (x1 := x1) (by omega) (by assumption) (by assumption) (by assumption) (by assumption) (by assumption) (by assumption) (by assumption) (by assumption) ht81 (by omega) (by assumption) (fun _ _ _ h => h)) rfl (by omega) (Nat.le_of_ble_eq_true rfl) (Nat.zero_le _) (Nat.zero_le _) rfl (fun r99 hp98 n100 hq101 => ?_)
                  obtain ⟨hnn100, o1_104, j1_105, l1_106, ht103, hrr99, hhq1010, hhq1011, hhq1012, hhq1013, hhq1014, hhq1015⟩ := hq101
                  subst n100 r99
                  have hhq1010 : Rfx 16 0 65535 o1_104 := hhq1010
                  have hhq1011 : Rfx 16 0 65535 j1_105 := hhq1011
                  have hhq1012 : Rfx 16 0 65535 l1_106 := hhq1012
                  have hhq1013 : sbP o1_104 (Int.toNat (mn (Int.toNat x1))) (dr (Int.toNat x1)) (sh fr (60 * x1)) (sh tt (60 * x1)) (sz (Int.toNat x1)) := hhq1013
                  have hhq1014 : sbP j1_105 (Int.toNat (mn (Int.toNat x1))) (dr (Int.toNat x1)) (sh tt (60 * x1)) (sh fr (60 * x1)) (sz (Int.toNat x1)) := hhq1014
                  have hhq1015 : lqP (fun u v => o1_104 u = o1_104 v ∧ j1_105 u = j1_105 v) l1_106 (sz (Int.toNat x1)) := hhq1015
                  change Rn _ _ _ 300 _ [] _ _ _ _ _
                  have hE9 : ∀ u v, u < (Int.toNat (sz (Int.toNat x1))) → v < (Int.toNat (sz (Int.toNat x1))) → (l1_106 u = l1_106 v ↔ (ptE (Int.toNat (mn (Int.toNat x1))) (dr (Int.toNat x1)) (sh fr (60 * x1)) (sh tt (60 * x1)) (sj nu (16 * x3)) x2) u v) := by rw [show x2 = 3 by omega]; exact pt_3 hhq1015 hhq1013 hhq1014 (fun i hi => (hhq1010 i hi).1) (fun i hi => (hhq1011 i hi).1) (by omega)
                  refine r_goto (pc := 300) (tgt := 341) dX12_parts_300 (by decide) ?_
                  refine r_aload_n (pc := 341) dX12_parts_341 (i := 0) rfl rfl ?_
                  refine r_iload (pc := 342) dX12_parts_342 rfl ?_
                  obtain ⟨fs111, hfs111⟩ := t_obj ht103 (rd_of RX_y)
                  refine r_callV (pc := 344) (as := [.int (iv (sz (Int.toNat x1)))]) (st := []) kX12_301 rfl dX12_parts_344 hfs111 (x_X12_madeParts (d := d - 1) (x1 := sz (Int.toNat x1)) (by omega) (by omega) (by assumption) (by omega) (by assumption) (by assumption) (by assumption) ht103 (by omega) (fun _ _ _ h => h)) rfl (by omega) (Nat.le_of_ble_eq_true rfl) (Nat.zero_le _) (Nat.zero_le _) rfl (fun r108 hp107 n109 hq110 => ?_)
                  obtain ⟨hnn109, h_113, v_114, c1_115, s1_116, z1_117, i1_118, p1_119, ht112, hrr108, hhq1100, hhq1101, hhq1102, hhq1103, hhq1104, hhq1105, hhq1106, hhq1107⟩ := hq110
                  subst n109 r108
                  have hhq1100 : cn = 120 → h_113 = -4 ∧ v_114 = -4 ∧ c1_115 = cn := hhq1100
                  have hhq1101 : cn = 120 → s1_116 = so ∧ z1_117 = sz ∧ i1_118 = qi ∧ p1_119 = qc := hhq1101
                  have hhq1102 : cn < 120 → h_113 = cn ∧ v_114 = rf45 ∧ c1_115 = cn + 1 := hhq1102
                  have hhq1103 : cn < 120 → s1_116 = fup so (Int.toNat cn) 4 ∧ z1_117 = fup sz (Int.toNat cn) (sz (Int.toNat x1)) := hhq1103
                  have hhq1104 : Rfx 1936 0 15 i1_118 := hhq1104
                  have hhq1105 : Rfx 121 0 16 p1_119 := hhq1105
                  have hhq1106 : cn < 120 → fqP i1_118 qi cn ∧ pqP i1_118 cn (sz (Int.toNat x1)) (p1_119 (Int.toNat cn)) ∧ ∀ g : Nat, g ≠ Int.toNat cn → p1_119 g = qc g := hhq1106
                  have hhq1107 : cn < 120 → nuP2 (fun a b => l1_106 a = l1_106 b) (sh i1_118 (16 * cn)) (Int.toNat (sz (Int.toNat x1))) ∧ p1_119 (Int.toNat cn) = (cnP (fsP (fun a b => l1_106 a = l1_106 b)) (Int.toNat (sz (Int.toNat x1))) : Int) := hhq1107
                  change Rn _ _ _ 347 _ [.int (iv h_113)] _ _ _ _ _
                  obtain ⟨hRKm, hDFm, hhm⟩ := RK_prt (x1 := sz (Int.toNat x1)) (RK_set (nu1 := nu) (nf1 := nf) (nt1 := nt) (nw1 := nw) (nc1 := nc) hk (by omega) (by omega)) (by omega) hhq1100 hhq1101 hhq1102 hhq1103 hhq1104 hhq1105 hhq1106
                  obtain ⟨hnwA, hnwB, hnwC, hnwD, hnwE⟩ := mk_prt (x1 := sz (Int.toNat x1)) (by omega) (by omega) hhq1100 hhq1101 hhq1102 hhq1103 hhq1106 hhq1107
                  clear hhq1100 hhq1101 hhq1102 hhq1103 hhq1106 hhq1107
                  exact r_iret (pc := 347) dX12_parts_347 rfl (hPo _ _ _ ⟨rfl, v_114, c1_115, s1_116, z1_117, i1_118, p1_119, l1_106, be, bg, o1_104, j1_105, h_113, ht112, rfl, (by (first | assumption | exact RK_set hk (by omega) (by omega))), (by (first | assumption | exact df_r _ _ _ _ _ _ _)), (by omega), (by first | (rw [hdQ_y (show x2 = 4 by omega)]; first | exact an2_m hnwA (by omega) (by omega) | exact an2_r (by omega)) | (rw [hdQ_n (show ¬ x2 = 4 by omega)]; first | exact an1_m hnwA (by omega) (by omega) | exact an1_r (by omega))), (by (intro h9; first | (exfalso; omega) | exact ⟨rfl, rfl, rfl, rfl, rfl⟩ | exact hnwB h9)), (by (intro h9; first | (exfalso; omega) | exact PNw_E (hnwC h9) hE9)), (by (first | omega | exact ⟨hnwD, fun h9 => (hnwE h9).trans (by omega)⟩)), (by assumption), (by assumption), (by assumption), (by assumption), (by assumption)⟩)
              · refine r_iconst (pc := 190) (v := iv 0) dX12_parts_190 (by decide) ?_
                refine r_istore (pc := 191) (lv' := [(6, .int (iv 0)), (5, .int (iv (sz (Int.toNat x1)))), (0, .ref y), (1, .int (iv x1)), (2, .int (iv x2)), (3, .int (iv x3)), (4, .int (iv 0))]) dX12_parts_191 (by decide) rfl ?_
                have B193 : ∀ k : Nat, ∀ lb193 : Nat → Int, ∀ hp193 : MH, Tw (RX Γ cI cJ cZ y rf45 cn nm so sz dr mn fr tt wt co nu sa wo ln hw ro qi qc nf nt nw nc cl nx ie be sd bl bs wy ra rb lb193 bg os js ls sp jw go de yb ah im) hp193 → ∀  (v193_6 : Int), 0 ≤ v193_6 ∧ v193_6 ≤ 16 ∧ (Rfx 16 0 65535 lb193) ∧ (v193_6 ≤ (sz (Int.toNat x1))) ∧ (slQ (stP (Int.toNat (mn (Int.toNat x1))) (dr (Int.toNat x1)) (sh fr (60 * x1)) (sh tt (60 * x1))) (sz (Int.toNat x1)) v193_6 lb193) → 16 - v193_6 ≤ (k : Int) → Rn (gG D cI cJ cZ cT lo b L xs) mX12_parts d 193 [(0, .ref y), (1, .int (iv x1)), (5, .int (iv (sz (Int.toNat x1)))), (6, .int (iv v193_6))] [] hp193 n 0 0 Po9 := by
                  refine lpS _ ?_
                  intro k193 ih193 lb193 hp193 ht193 v193_6 hf193 hm193
                  obtain ⟨hf193_0, hf193_1, ha193_2, hf193_3, ha193_4⟩ := hf193
                  refine r_iload (pc := 193) dX12_parts_193 rfl ?_
                  refine r_iload (pc := 195) dX12_parts_195 rfl ?_
                  refine t_icmp_ge (pc := 197) (tgt := 287) dX12_parts_197 (by decide) (by omega) (by omega) (fun c197 => ?_) (fun c197 => ?_)
                  · have hE9 : ∀ u v, u < (Int.toNat (sz (Int.toNat x1))) → v < (Int.toNat (sz (Int.toNat x1))) → (lb193 u = lb193 v ↔ (ptE (Int.toNat (mn (Int.toNat x1))) (dr (Int.toNat x1)) (sh fr (60 * x1)) (sh tt (60 * x1)) (sj nu (16 * x3)) x2) u v) := by rw [show x2 = 0 by omega]; exact ptE_0 (by have h8 : slQ (stP (Int.toNat (mn (Int.toNat x1))) (dr (Int.toNat x1)) (sh fr (60 * x1)) (sh tt (60 * x1))) (sz (Int.toNat x1)) v193_6 lb193 := (by assumption); rw [show v193_6 = (sz (Int.toNat x1)) by omega] at h8; exact h8) (fun i hi => ((by assumption : Rfx 16 0 65535 lb193) i hi).1) (by omega) hFT
                    refine r_goto (pc := 287) (tgt := 341) dX12_parts_287 (by decide) ?_
                    refine r_aload_n (pc := 341) dX12_parts_341 (i := 0) rfl rfl ?_
                    refine r_iload (pc := 342) dX12_parts_342 rfl ?_
                    obtain ⟨fs124, hfs124⟩ := t_obj ht193 (rd_of RX_y)
                    refine r_callV (pc := 344) (as := [.int (iv (sz (Int.toNat x1)))]) (st := []) kX12_301 rfl dX12_parts_344 hfs124 (x_X12_madeParts (d := d - 1) (x1 := sz (Int.toNat x1)) (by omega) (by omega) (by assumption) (by omega) (by assumption) (by assumption) (by assumption) ht193 (by omega) (fun _ _ _ h => h)) rfl (by omega) (Nat.le_of_ble_eq_true rfl) (Nat.zero_le _) (Nat.zero_le _) rfl (fun r121 hp120 n122 hq123 => ?_)
                    obtain ⟨hnn122, h_126, v_127, c1_128, s1_129, z1_130, i1_131, p1_132, ht125, hrr121, hhq1230, hhq1231, hhq1232, hhq1233, hhq1234, hhq1235, hhq1236, hhq1237⟩ := hq123
                    subst n122 r121
                    have hhq1230 : cn = 120 → h_126 = -4 ∧ v_127 = -4 ∧ c1_128 = cn := hhq1230
                    have hhq1231 : cn = 120 → s1_129 = so ∧ z1_130 = sz ∧ i1_131 = qi ∧ p1_132 = qc := hhq1231
                    have hhq1232 : cn < 120 → h_126 = cn ∧ v_127 = rf45 ∧ c1_128 = cn + 1 := hhq1232
                    have hhq1233 : cn < 120 → s1_129 = fup so (Int.toNat cn) 4 ∧ z1_130 = fup sz (Int.toNat cn) (sz (Int.toNat x1)) := hhq1233
                    have hhq1234 : Rfx 1936 0 15 i1_131 := hhq1234
                    have hhq1235 : Rfx 121 0 16 p1_132 := hhq1235
                    have hhq1236 : cn < 120 → fqP i1_131 qi cn ∧ pqP i1_131 cn (sz (Int.toNat x1)) (p1_132 (Int.toNat cn)) ∧ ∀ g : Nat, g ≠ Int.toNat cn → p1_132 g = qc g := hhq1236
                    have hhq1237 : cn < 120 → nuP2 (fun a b => lb193 a = lb193 b) (sh i1_131 (16 * cn)) (Int.toNat (sz (Int.toNat x1))) ∧ p1_132 (Int.toNat cn) = (cnP (fsP (fun a b => lb193 a = lb193 b)) (Int.toNat (sz (Int.toNat x1))) : Int) := hhq1237
                    change Rn _ _ _ 347 _ [.int (iv h_126)] _ _ _ _ _
                    obtain ⟨hRKm, hDFm, hhm⟩ := RK_prt (x1 := sz (Int.toNat x1)) (RK_set (nu1 := nu) (nf1 := nf) (nt1 := nt) (nw1 := nw) (nc1 := nc) hk (by omega) (by omega)) (by omega) hhq1230 hhq1231 hhq1232 hhq1233 hhq1234 hhq1235 hhq1236
                    obtain ⟨hnwA, hnwB, hnwC, hnwD, hnwE⟩ := mk_prt (x1 := sz (Int.toNat x1)) (by omega) (by omega) hhq1230 hhq1231 hhq1232 hhq1233 hhq1236 hhq1237
                    clear hhq1230 hhq1231 hhq1232 hhq1233 hhq1236 hhq1237
                    exact r_iret (pc := 347) dX12_parts_347 rfl (hPo _ _ _ ⟨rfl, v_127, c1_128, s1_129, z1_130, i1_131, p1_132, lb193, be, bg, os, js, h_126, ht125, rfl, (by (first | assumption | exact RK_set hk (by omega) (by omega))), (by (first | assumption | exact df_r _ _ _ _ _ _ _)), (by omega), (by first | (rw [hdQ_y (show x2 = 4 by omega)]; first | exact an2_m hnwA (by omega) (by omega) | exact an2_r (by omega)) | (rw [hdQ_n (show ¬ x2 = 4 by omega)]; first | exact an1_m hnwA (by omega) (by omega) | exact an1_r (by omega))), (by (intro h9; first | (exfalso; omega) | exact ⟨rfl, rfl, rfl, rfl, rfl⟩ | exact hnwB h9)), (by (intro h9; first | (exfalso; omega) | exact PNw_E (hnwC h9) hE9)), (by (first | omega | exact ⟨hnwD, fun h9 => (hnwE h9).trans (by omega)⟩)), (by assumption), (by assumption), (by assumption), (by assumption), (by assumption)⟩)
                  · refine r_aload_n (pc := 200) dX12_parts_200 (i := 0) rfl rfl ?_
                    refine r_iload_n (pc := 201) dX12_parts_201 (i := 1) rfl rfl ?_
                    refine r_iconst (pc := 202) (v := iv 1) dX12_parts_202 (by decide) ?_
                    refine r_iload (pc := 203) dX12_parts_203 rfl ?_
                    refine r_ishl (pc := 205) (v := iv ((2 ^ Int.toNat v193_6 : Nat) : Int)) dX12_parts_205 (shl_e (by omega)) ?_
                    have mp205_133 : 1 ≤ 2 ^ Int.toNat v193_6 := Nat.one_le_two_pow
                    have mq205_134 : 2 ^ Int.toNat v193_6 ≤ 2 ^ 15 := Nat.pow_le_pow_right (by omega) (by omega)
                    have ms205 := Me_shl (Int.toNat v193_6)
                    obtain ⟨fs139, hfs139⟩ := t_obj ht193 (rd_of RX_y)
                    refine r_callV (pc := 206) (as := [.int (iv x1), .int (iv ((2 ^ Int.toNat v193_6 : Nat) : Int))]) (st := []) kX12_283 rfl dX12_parts_206 hfs139 (x_X12_reachAll (d := d - 1) (x1 := x1) (x2 := ((2 ^ Int.toNat v193_6 : Nat) : Int)) (by omega) (by assumption) (by assumption) (by assumption) (by assumption) (by assumption) ht193 (by omega) (by omega) (by assumption) (fun _ _ _ h => h)) rfl (by omega) (Nat.le_of_ble_eq_true rfl) (Nat.zero_le _) (Nat.zero_le _) rfl (fun r136 hp135 n137 hq138 => ?_)
                    obtain ⟨hnn137, r9_141, ht140, hrr136, hhq1380, hhq1381⟩ := hq138
                    subst n137 r136
                    have hhq1380 : 0 ≤ r9_141 ∧ r9_141 ≤ 65535 := hhq1380
                    have hhq1381 : ∀ j, Me r9_141 j ↔ RC (stP (Int.toNat (mn (Int.toNat x1))) (dr (Int.toNat x1)) (sh fr (60 * x1)) (sh tt (60 * x1))) (fun x => Me ((2 ^ Int.toNat v193_6 : Nat) : Int) x) j := hhq1381
                    change Rn _ _ _ 209 _ [.int (iv r9_141)] _ _ _ _ _
                    have hraV := fun j => (hhq1381 j).trans (RC_pt ms205 j)
                    refine r_istore (pc := 209) (lv' := [(7, .int (iv r9_141)), (0, .ref y), (1, .int (iv x1)), (5, .int (iv (sz (Int.toNat x1)))), (6, .int (iv v193_6))]) dX12_parts_209 (by decide) rfl ?_
                    refine r_iconst (pc := 211) (v := iv 0) dX12_parts_211 (by decide) ?_
                    refine r_istore (pc := 212) (lv' := [(8, .int (iv 0)), (7, .int (iv r9_141)), (0, .ref y), (1, .int (iv x1)), (5, .int (iv (sz (Int.toNat x1)))), (6, .int (iv v193_6))]) dX12_parts_212 (by decide) rfl ?_
                    refine r_iconst (pc := 214) (v := iv 0) dX12_parts_214 (by decide) ?_
                    refine r_istore (pc := 215) (lv' := [(9, .int (iv 0)), (8, .int (iv 0)), (7, .int (iv r9_141)), (0, .ref y), (1, .int (iv x1)), (5, .int (iv (sz (Int.toNat x1)))), (6, .int (iv v193_6))]) dX12_parts_215 (by decide) rfl ?_
                    have B217 : ∀ k : Nat, ∀ hp217 : MH, Tw (RX Γ cI cJ cZ y rf45 cn nm so sz dr mn fr tt wt co nu sa wo ln hw ro qi qc nf nt nw nc cl nx ie be sd bl bs wy ra rb lb193 bg os js ls sp jw go de yb ah im) hp217 → ∀  (v217_8 : Int) (v217_9 : Int), 0 ≤ v217_8 ∧ v217_8 ≤ 65535 ∧ 0 ≤ v217_9 ∧ v217_9 ≤ 16 ∧ (v217_9 ≤ (sz (Int.toNat x1))) ∧ (sbQ (stP (Int.toNat (mn (Int.toNat x1))) (dr (Int.toNat x1)) (sh fr (60 * x1)) (sh tt (60 * x1))) (Int.toNat v193_6) v217_9 v217_8) → 16 - v217_9 ≤ (k : Int) → Rn (gG D cI cJ cZ cT lo b L xs) mX12_parts d 217 [(0, .ref y), (1, .int (iv x1)), (5, .int (iv (sz (Int.toNat x1)))), (6, .int (iv v193_6)), (7, .int (iv r9_141)), (8, .int (iv v217_8)), (9, .int (iv v217_9))] [] hp217 n 0 0 Po9 := by
                      refine lpS _ ?_
                      intro k217 ih217 hp217 ht217 v217_8 v217_9 hf217 hm217
                      obtain ⟨hf217_0, hf217_1, hf217_2, hf217_3, hf217_4, ha217_5⟩ := hf217
                      refine r_iload (pc := 217) dX12_parts_217 rfl ?_
                      refine r_iload (pc := 219) dX12_parts_219 rfl ?_
                      refine t_icmp_ge (pc := 221) (tgt := 272) dX12_parts_221 (by decide) (by omega) (by omega) (fun c221 => ?_) (fun c221 => ?_)
                      · refine r_aload_n (pc := 272) dX12_parts_272 (i := 0) rfl rfl ?_
                        refine t_getE (pc := 273) (.ref (y + 31)) ht217 (rd_of RX_y) fX12_103 dX12_parts_273 rfl ?_
                        refine r_iload (pc := 276) dX12_parts_276 rfl ?_
                        refine r_iload (pc := 278) dX12_parts_278 rfl ?_
                        refine t_iastX (pc := 280) (t0 := 0) ht217 RX_label dX12_parts_280 rfl (by decide) (by omega) (by omega) (fun hp142 ht143 => ?_)
                        have ht144 := RXw_lb ht143
                        have hqht144 : Rfx 16 0 65535 (fup lb193 (Int.toNat v193_6) v217_8) := Rfx_up (by assumption) (by omega)
                        refine r_iinc (pc := 281) (v := iv (v193_6 + 1)) (lv' := [(6, .int (iv (v193_6 + 1))), (0, .ref y), (1, .int (iv x1)), (5, .int (iv (sz (Int.toNat x1)))), (7, .int (iv r9_141)), (8, .int (iv v217_8)), (9, .int (iv v217_9))]) dX12_parts_281 rfl (iv_add _ _) (by decide) rfl ?_
                        refine r_goto (pc := 284) (tgt := 193) dX12_parts_284 (by decide) ?_
                        refine Rn.pick (lv' := [(0, .ref y), (1, .int (iv x1)), (5, .int (iv (sz (Int.toNat x1)))), (6, .int (iv (v193_6 + 1)))]) [1, 2, 3, 0] rfl ?_
                        exact ih193 (Int.toNat (16 - (v193_6 + 1))) (by omega) (fup lb193 (Int.toNat v193_6) v217_8) _ ht144 (v193_6 + 1) ⟨by omega, by omega, by assumption, by omega, by (first | (intro u hu; exfalso; omega) | exact slQ_up (u := v217_9) (by assumption) (by omega) (by assumption) (by omega))⟩ (by omega)
                      · refine r_iload (pc := 224) dX12_parts_224 rfl ?_
                        refine r_iload (pc := 226) dX12_parts_226 rfl ?_
                        refine r_iload (pc := 228) dX12_parts_228 rfl ?_
                        have hq230_145 := shr_le (Int.toNat r9_141) (Int.toNat v217_9)
                        refine r_ishr (pc := 230) (v := iv ((Int.toNat r9_141 >>> Int.toNat v217_9 : Nat) : Int)) dX12_parts_230 (shr_e (by omega) (by omega)) ?_
                        refine r_iconst (pc := 231) (v := iv 1) dX12_parts_231 (by decide) ?_
                        refine r_iand (pc := 232) (v := iv (((Int.toNat r9_141 >>> Int.toNat v217_9 : Nat) : Int) % 2)) dX12_parts_232 (and1_e _ (by omega)) ?_
                        have mb232 := @Me_bit r9_141 v217_9
                        refine r_iconst (pc := 233) (v := iv 1) dX12_parts_233 (by decide) ?_
                        refine t_icmp_ne (pc := 234) (tgt := 262) dX12_parts_234 (by decide) (by omega) (by omega) (fun c234 => ?_) (fun c234 => ?_)
                        · have nm234 : ¬ Me r9_141 (Int.toNat v217_9) := fun h9 => absurd (Me_bit.mpr h9) (by omega)
                          refine r_iconst (pc := 262) (v := iv 0) dX12_parts_262 (by decide) ?_
                          obtain ⟨z146, hz146, bz146⟩ := or_2 16 v217_8 0 (by omega) (by omega) (by decide)
                          refine r_ior (pc := 263) (v := iv z146) dX12_parts_263 hz146 ?_
                          have mez146 := Me_or hz146 (by omega) (by omega) (by omega)
                          refine r_istore (pc := 264) (lv' := [(8, .int (iv z146)), (0, .ref y), (1, .int (iv x1)), (5, .int (iv (sz (Int.toNat x1)))), (6, .int (iv v193_6)), (7, .int (iv r9_141)), (9, .int (iv v217_9))]) dX12_parts_264 (by decide) rfl ?_
                          refine r_iinc (pc := 266) (v := iv (v217_9 + 1)) (lv' := [(9, .int (iv (v217_9 + 1))), (8, .int (iv z146)), (0, .ref y), (1, .int (iv x1)), (5, .int (iv (sz (Int.toNat x1)))), (6, .int (iv v193_6)), (7, .int (iv r9_141))]) dX12_parts_266 rfl (iv_add _ _) (by decide) rfl ?_
                          refine r_goto (pc := 269) (tgt := 217) dX12_parts_269 (by decide) ?_
                          refine Rn.pick (lv' := [(0, .ref y), (1, .int (iv x1)), (5, .int (iv (sz (Int.toNat x1)))), (6, .int (iv v193_6)), (7, .int (iv r9_141)), (8, .int (iv z146)), (9, .int (iv (v217_9 + 1)))]) [2, 3, 4, 5, 6, 1, 0] rfl ?_
                          exact ih217 (Int.toNat (16 - (v217_9 + 1))) (by omega) _ ht217 z146 (v217_9 + 1) ⟨by omega, by omega, by omega, by omega, by omega, by (first | exact sbQ_0 _ _ | exact sbQ_y (by assumption) (by omega) (by assumption) ms258 ((hraV _).mp pm234) ((hraU _).mp pm252) | exact sbQ_n (by assumption) (by omega) (by assumption) (fun h9 => nm234 ((hraV _).mpr h9.1)) | exact sbQ_n (by assumption) (by omega) (by assumption) (fun h9 => nm252 ((hraU _).mpr h9.2)))⟩ (by omega)
                        · have pm234 : Me r9_141 (Int.toNat v217_9) := Me_bit.mp (by omega)
                          refine r_aload_n (pc := 237) dX12_parts_237 (i := 0) rfl rfl ?_
                          refine r_iload_n (pc := 238) dX12_parts_238 (i := 1) rfl rfl ?_
                          refine r_iconst (pc := 239) (v := iv 1) dX12_parts_239 (by decide) ?_
                          refine r_iload (pc := 240) dX12_parts_240 rfl ?_
                          refine r_ishl (pc := 242) (v := iv ((2 ^ Int.toNat v217_9 : Nat) : Int)) dX12_parts_242 (shl_e (by omega)) ?_
                          have mp242_147 : 1 ≤ 2 ^ Int.toNat v217_9 := Nat.one_le_two_pow
                          have mq242_148 : 2 ^ Int.toNat v217_9 ≤ 2 ^ 15 := Nat.pow_le_pow_right (by omega) (by omega)
                          have ms242 := Me_shl (Int.toNat v217_9)
                          obtain ⟨fs153, hfs153⟩ := t_obj ht217 (rd_of RX_y)
                          refine r_callV (pc := 243) (as := [.int (iv x1), .int (iv ((2 ^ Int.toNat v217_9 : Nat) : Int))]) (st := [.int (iv v217_8)]) kX12_283 rfl dX12_parts_243 hfs153 (x_X12_reachAll (d := d - 1) (x1 := x1) (x2 := ((2 ^ Int.toNat v217_9 : Nat) : Int)) (by omega) (by assumption) (by assumption) (by assumption) (by assumption) (by assumption) ht217 (by omega) (by omega) (by assumption) (fun _ _ _ h => h)) rfl (by omega) (Nat.le_of_ble_eq_true rfl) (Nat.zero_le _) (Nat.zero_le _) rfl (fun r150 hp149 n151 hq152 => ?_)
                          obtain ⟨hnn151, r9_155, ht154, hrr150, hhq1520, hhq1521⟩ := hq152
                          subst n151 r150
                          have hhq1520 : 0 ≤ r9_155 ∧ r9_155 ≤ 65535 := hhq1520
                          have hhq1521 : ∀ j, Me r9_155 j ↔ RC (stP (Int.toNat (mn (Int.toNat x1))) (dr (Int.toNat x1)) (sh fr (60 * x1)) (sh tt (60 * x1))) (fun x => Me ((2 ^ Int.toNat v217_9 : Nat) : Int) x) j := hhq1521
                          change Rn _ _ _ 246 _ [.int (iv r9_155), .int (iv v217_8)] _ _ _ _ _
                          have hraU := fun j => (hhq1521 j).trans (RC_pt ms242 j)
                          refine r_iload (pc := 246) dX12_parts_246 rfl ?_
                          have hq248_156 := shr_le (Int.toNat r9_155) (Int.toNat v193_6)
                          refine r_ishr (pc := 248) (v := iv ((Int.toNat r9_155 >>> Int.toNat v193_6 : Nat) : Int)) dX12_parts_248 (shr_e (by omega) (by omega)) ?_
                          refine r_iconst (pc := 249) (v := iv 1) dX12_parts_249 (by decide) ?_
                          refine r_iand (pc := 250) (v := iv (((Int.toNat r9_155 >>> Int.toNat v193_6 : Nat) : Int) % 2)) dX12_parts_250 (and1_e _ (by omega)) ?_
                          have mb250 := @Me_bit r9_155 v193_6
                          refine r_iconst (pc := 251) (v := iv 1) dX12_parts_251 (by decide) ?_
                          refine t_icmp_ne (pc := 252) (tgt := 262) dX12_parts_252 (by decide) (by omega) (by omega) (fun c252 => ?_) (fun c252 => ?_)
                          · have nm252 : ¬ Me r9_155 (Int.toNat v193_6) := fun h9 => absurd (Me_bit.mpr h9) (by omega)
                            refine r_iconst (pc := 262) (v := iv 0) dX12_parts_262 (by decide) ?_
                            obtain ⟨z157, hz157, bz157⟩ := or_2 16 v217_8 0 (by omega) (by omega) (by decide)
                            refine r_ior (pc := 263) (v := iv z157) dX12_parts_263 hz157 ?_
                            have mez157 := Me_or hz157 (by omega) (by omega) (by omega)
                            refine r_istore (pc := 264) (lv' := [(8, .int (iv z157)), (0, .ref y), (1, .int (iv x1)), (5, .int (iv (sz (Int.toNat x1)))), (6, .int (iv v193_6)), (7, .int (iv r9_141)), (9, .int (iv v217_9))]) dX12_parts_264 (by decide) rfl ?_
                            refine r_iinc (pc := 266) (v := iv (v217_9 + 1)) (lv' := [(9, .int (iv (v217_9 + 1))), (8, .int (iv z157)), (0, .ref y), (1, .int (iv x1)), (5, .int (iv (sz (Int.toNat x1)))), (6, .int (iv v193_6)), (7, .int (iv r9_141))]) dX12_parts_266 rfl (iv_add _ _) (by decide) rfl ?_
                            refine r_goto (pc := 269) (tgt := 217) dX12_parts_269 (by decide) ?_
                            refine Rn.pick (lv' := [(0, .ref y), (1, .int (iv x1)), (5, .int (iv (sz (Int.toNat x1)))), (6, .int (iv v193_6)), (7, .int (iv r9_141)), (8, .int (iv z157)), (9, .int (iv (v217_9 + 1)))]) [2, 3, 4, 5, 6, 1, 0] rfl ?_
                            exact ih217 (Int.toNat (16 - (v217_9 + 1))) (by omega) _ ht154 z157 (v217_9 + 1) ⟨by omega, by omega, by omega, by omega, by omega, by (first | exact sbQ_0 _ _ | exact sbQ_y (by assumption) (by omega) (by assumption) ms258 ((hraV _).mp pm234) ((hraU _).mp pm252) | exact sbQ_n (by assumption) (by omega) (by assumption) (fun h9 => nm234 ((hraV _).mpr h9.1)) | exact sbQ_n (by assumption) (by omega) (by assumption) (fun h9 => nm252 ((hraU _).mpr h9.2)))⟩ (by omega)
                          · have pm252 : Me r9_155 (Int.toNat v193_6) := Me_bit.mp (by omega)
                            refine r_iconst (pc := 255) (v := iv 1) dX12_parts_255 (by decide) ?_
                            refine r_iload (pc := 256) dX12_parts_256 rfl ?_
                            refine r_ishl (pc := 258) (v := iv ((2 ^ Int.toNat v217_9 : Nat) : Int)) dX12_parts_258 (shl_e (by omega)) ?_
                            have mp258_158 : 1 ≤ 2 ^ Int.toNat v217_9 := Nat.one_le_two_pow
                            have mq258_159 : 2 ^ Int.toNat v217_9 ≤ 2 ^ 15 := Nat.pow_le_pow_right (by omega) (by omega)
                            have ms258 := Me_shl (Int.toNat v217_9)
                            refine r_goto (pc := 259) (tgt := 263) dX12_parts_259 (by decide) ?_
                            obtain ⟨z160, hz160, bz160⟩ := or_2 16 v217_8 ((2 ^ Int.toNat v217_9 : Nat) : Int) (by omega) (by omega) (by decide)
                            refine r_ior (pc := 263) (v := iv z160) dX12_parts_263 hz160 ?_
                            have mez160 := Me_or hz160 (by omega) (by omega) (by omega)
                            refine r_istore (pc := 264) (lv' := [(8, .int (iv z160)), (0, .ref y), (1, .int (iv x1)), (5, .int (iv (sz (Int.toNat x1)))), (6, .int (iv v193_6)), (7, .int (iv r9_141)), (9, .int (iv v217_9))]) dX12_parts_264 (by decide) rfl ?_
                            refine r_iinc (pc := 266) (v := iv (v217_9 + 1)) (lv' := [(9, .int (iv (v217_9 + 1))), (8, .int (iv z160)), (0, .ref y), (1, .int (iv x1)), (5, .int (iv (sz (Int.toNat x1)))), (6, .int (iv v193_6)), (7, .int (iv r9_141))]) dX12_parts_266 rfl (iv_add _ _) (by decide) rfl ?_
                            refine r_goto (pc := 269) (tgt := 217) dX12_parts_269 (by decide) ?_
                            refine Rn.pick (lv' := [(0, .ref y), (1, .int (iv x1)), (5, .int (iv (sz (Int.toNat x1)))), (6, .int (iv v193_6)), (7, .int (iv r9_141)), (8, .int (iv z160)), (9, .int (iv (v217_9 + 1)))]) [2, 3, 4, 5, 6, 1, 0] rfl ?_
                            exact ih217 (Int.toNat (16 - (v217_9 + 1))) (by omega) _ ht154 z160 (v217_9 + 1) ⟨by omega, by omega, by omega, by omega, by omega, by (first | exact sbQ_0 _ _ | exact sbQ_y (by assumption) (by omega) (by assumption) ms258 ((hraV _).mp pm234) ((hraU _).mp pm252) | exact sbQ_n (by assumption) (by omega) (by assumption) (fun h9 => nm234 ((hraV _).mpr h9.1)) | exact sbQ_n (by assumption) (by omega) (by assumption) (fun h9 => nm252 ((hraU _).mpr h9.2)))⟩ (by omega)
                    refine Rn.pick (lv' := [(0, .ref y), (1, .int (iv x1)), (5, .int (iv (sz (Int.toNat x1)))), (6, .int (iv v193_6)), (7, .int (iv r9_141)), (8, .int (iv 0)), (9, .int (iv 0))]) [3, 4, 5, 6, 2, 1, 0] rfl ?_
                    exact B217 (Int.toNat (16 - 0)) _ ht140 0 0 ⟨by omega, by omega, by omega, by omega, by omega, by (first | exact sbQ_0 _ _ | exact sbQ_y (by assumption) (by omega) (by assumption) ms258 ((hraV _).mp pm234) ((hraU _).mp pm252) | exact sbQ_n (by assumption) (by omega) (by assumption) (fun h9 => nm234 ((hraV _).mpr h9.1)) | exact sbQ_n (by assumption) (by omega) (by assumption) (fun h9 => nm252 ((hraU _).mpr h9.2)))⟩ (by omega)
                refine Rn.pick (lv' := [(0, .ref y), (1, .int (iv x1)), (5, .int (iv (sz (Int.toNat x1)))), (6, .int (iv 0))]) [2, 3, 1, 0] rfl ?_
                exact B193 (Int.toNat (16 - 0)) lb _ ht81 0 ⟨by omega, by omega, by assumption, by omega, by (first | (intro u hu; exfalso; omega) | exact slQ_up (u := v217_9) (by assumption) (by omega) (by assumption) (by omega))⟩ (by omega)
            · exfalso
              omega
          refine t_if_eq (pc := 56) (tgt := 81) dX12_parts_56 (by decide) (by omega) (fun c56 => ?_) (fun c56 => ?_)
          · refine Rn.pick (lv' := [(0, .ref y), (1, .int (iv x1)), (2, .int (iv x2)), (3, .int (iv x3)), (4, .int (iv 0))]) [0, 1, 2, 3, 4] rfl ?_
            exact B81 _ ht45 ⟨by omega, by omega, by omega⟩
          · exfalso
            omega
    refine t_if_eq (pc := 14) (tgt := 31) dX12_parts_14 (by decide) (by omega) (fun c14 => ?_) (fun c14 => ?_)
    · refine r_aload_n (pc := 31) dX12_parts_31 (i := 0) rfl rfl ?_
      refine r_iload_n (pc := 32) dX12_parts_32 (i := 1) rfl rfl ?_
      refine r_iconst (pc := 33) (v := iv 1) dX12_parts_33 (by decide) ?_
      obtain ⟨fs165, hfs165⟩ := t_obj ht (rd_of RX_y)
      refine r_callV (pc := 34) (as := [.int (iv x1), .int (iv 1)]) (st := []) kX12_183 rfl dX12_parts_34 hfs165 (x_X12_has (d := d - 1) (x1 := x1) (x2 := 1) (by omega) (by omega) (by assumption) ht (by omega) (by omega) (fun _ _ _ h => h)) rfl (by omega) (Nat.le_of_ble_eq_true rfl) (Nat.zero_le _) (Nat.zero_le _) rfl (fun r162 hp161 n163 hq164 => ?_)
      obtain ⟨hnn163, v_167, b_168, ht166, hrr162, hhq1640, hhq1641⟩ := hq164
      subst n163 r162
      have hhq1640 : -2 ≤ v_167 ∧ v_167 ≤ 0 ∧ (b_168 = 0 ∨ b_168 = 1) := hhq1640
      have hhq1641 : (b_168 = 1 ∧ v_167 = 0 ∧ 0 ≤ x1 ∧ x1 < cn ∧ so (Int.toNat x1) = 1) ∨ (b_168 = 0 ∧ v_167 = -1 ∧ ¬ (0 ≤ x1 ∧ x1 < cn)) ∨ (b_168 = 0 ∧ v_167 = -2 ∧ 0 ≤ x1 ∧ x1 < cn ∧ so (Int.toNat x1) ≠ 1) := hhq1641
      change Rn _ _ _ 37 _ [.int (iv b_168)] _ _ _ _ _
      refine t_if_ne (pc := 37) (tgt := 45) dX12_parts_37 (by decide) (by omega) (fun c37 => ?_) (fun c37 => ?_)
      · have hs37 := Or.resolve_right hhq1641 (by omega)
        clear hhq1640 hhq1641
        have rsz37 := hR_sizes (Int.toNat x1) (by omega)
        have rsy37 := hsz x1 (by omega) (by omega)
        have hen := hgr x1 (by omega) (by omega) (by omega)
        have rmn37 := hR_many (Int.toNat x1) (by omega)
        refine Rn.pick (lv' := [(0, .ref y), (1, .int (iv x1)), (2, .int (iv x2)), (3, .int (iv x3)), (4, .int (iv 0))]) [1, 2, 3, 4, 0] rfl ?_
        exact B45 v_167 _ ht166 ⟨by omega, by omega, by omega, by omega, by omega, by omega, by omega, by omega, by omega, by omega⟩
      · refine r_aload_n (pc := 40) dX12_parts_40 (i := 0) rfl rfl ?_
        refine t_getE (pc := 41) (.int (iv v_167)) ht166 (rd_of RX_y) fX12_142 dX12_parts_41 rfl ?_
        exact r_iret (pc := 44) dX12_parts_44 rfl (hPo _ _ _ ⟨rfl, v_167, cn, so, sz, qi, qc, lb, be, bg, os, js, v_167, ht166, rfl, (by (first | assumption | exact RK_set hk (by omega) (by omega))), (by (first | assumption | exact df_r _ _ _ _ _ _ _)), (by omega), (by first | (rw [hdQ_y (show x2 = 4 by omega)]; first | exact an2_m hnwA (by omega) (by omega) | exact an2_r (by omega)) | (rw [hdQ_n (show ¬ x2 = 4 by omega)]; first | exact an1_m hnwA (by omega) (by omega) | exact an1_r (by omega))), (by (intro h9; first | (exfalso; omega) | exact ⟨rfl, rfl, rfl, rfl, rfl⟩ | exact hnwB h9)), (by (intro h9; first | (exfalso; omega) | exact PNw_E (hnwC h9) hE9)), (by (first | omega | exact ⟨hnwD, fun h9 => (hnwE h9).trans (by omega)⟩)), (by assumption), (by assumption), (by assumption), (by assumption), (by assumption)⟩)
    · exfalso
      omega
  · refine r_iconst (pc := 5) (v := iv 1) dX12_parts_5 (by decide) ?_
    refine r_goto (pc := 6) (tgt := 10) dX12_parts_6 (by decide) ?_
    refine r_istore (pc := 10) (lv' := [(4, .int (iv 1)), (0, .ref y), (1, .int (iv x1)), (2, .int (iv x2)), (3, .int (iv x3))]) dX12_parts_10 (by decide) rfl ?_
    refine r_iload (pc := 12) dX12_parts_12 rfl ?_
    have B45 : ∀ rf45 : Int, ∀ hp45 : MH, Tw (RX Γ cI cJ cZ y rf45 cn nm so sz dr mn fr tt wt co nu sa wo ln hw ro qi qc nf nt nw nc cl nx ie be sd bl bs wy ra rb lb bg os js ls sp jw go de yb ah im) hp45 → 0 ≤ x1 ∧ x1 ≤ 119 ∧ (-2147483648 ≤ rf45) ∧ (rf45 ≤ 2147483647) ∧ (rf45 = 0) ∧ (x1 < cn) ∧ (so (Int.toNat x1) = 1) ∧ (1 = 1 → 0 ≤ x3 ∧ x3 < cn) ∧ (1 = 1 → so (Int.toNat x3) = 2) ∧ ((1 = 1 ∧ x2 = 4) ∨ (1 = 0 ∧ x2 ≠ 4)) → Rn (gG D cI cJ cZ cT lo b L xs) mX12_parts d 45 [(0, .ref y), (1, .int (iv x1)), (2, .int (iv x2)), (3, .int (iv x3)), (4, .int (iv 1))] [] hp45 n 0 0 Po9 := by
      intro rf45 hp45 ht45 hf45
      refine r_iload_n (pc := 45) dX12_parts_45 (i := 2) rfl rfl ?_
      have rsz45 := hR_sizes (Int.toNat x1) (by omega)
      have rsy45 := hsz x1 (by omega) (by omega)
      have hen := hgr x1 (by omega) (by omega) (by omega)
      have B74 : ∀ hp74 : MH, Tw (RX Γ cI cJ cZ y rf45 cn nm so sz dr mn fr tt wt co nu sa wo ln hw ro qi qc nf nt nw nc cl nx ie be sd bl bs wy ra rb lb bg os js ls sp jw go de yb ah im) hp74 → ((x2 < 0 ∨ 4 < x2 ∨ (x2 = 4 ∧ sz (Int.toNat x3) ≠ sz (Int.toNat x1)))) → Rn (gG D cI cJ cZ cT lo b L xs) mX12_parts d 74 [(0, .ref y)] [] hp74 n 0 0 Po9 := by
        intro hp74 ht74 hf74
        refine r_aload_n (pc := 74) dX12_parts_74 (i := 0) rfl rfl ?_
        refine r_bipush (pc := 75) (v := iv (-3)) dX12_parts_75 (by decide) ?_
        obtain ⟨fs173, hfs173⟩ := t_obj ht74 (rd_of RX_y)
        refine r_callV (pc := 77) (as := [.int (iv (-3))]) (st := []) kX12_153 rfl dX12_parts_77 hfs173 (x_X12_refuse (d := d - 1) (x1 := (-3)) (by omega) ht74 (by omega) (fun _ _ _ h => h)) rfl (by omega) (Nat.le_of_ble_eq_true rfl) (Nat.zero_le _) (Nat.zero_le _) rfl (fun r170 hp169 n171 hq172 => ?_)
        obtain ⟨hnn171, ht174, hrr170⟩ := hq172
        subst n171 r170
        change Rn _ _ _ 80 _ [.int (iv (-3))] _ _ _ _ _
        exact r_iret (pc := 80) dX12_parts_80 rfl (hPo _ _ _ ⟨rfl, (-3), cn, so, sz, qi, qc, lb, be, bg, os, js, (-3), ht174, rfl, (by (first | assumption | exact RK_set hk (by omega) (by omega))), (by (first | assumption | exact df_r _ _ _ _ _ _ _)), (by omega), (by first | (rw [hdQ_y (show x2 = 4 by omega)]; exact an2_b (by omega) (by omega) (by omega)) | (rw [hdQ_n (show ¬ x2 = 4 by omega)]; exact an1_b (by omega) (by omega) (by omega))), (by (intro h9; first | (exfalso; omega) | exact ⟨rfl, rfl, rfl, rfl, rfl⟩ | exact hnwB h9)), (by (intro h9; first | (exfalso; omega) | exact PNw_E (hnwC h9) hE9)), (by (first | omega | exact ⟨hnwD, fun h9 => (hnwE h9).trans (by omega)⟩)), (by assumption), (by assumption), (by assumption), (by assumption), (by assumption)⟩)
      refine t_if_lt (pc := 46) (tgt := 74) dX12_parts_46 (by decide) (by omega) (fun c46 => ?_) (fun c46 => ?_)
      · exfalso
        omega
      · refine r_iload_n (pc := 49) dX12_parts_49 (i := 2) rfl rfl ?_
        refine r_iconst (pc := 50) (v := iv 4) dX12_parts_50 (by decide) ?_
        refine t_icmp_gt (pc := 51) (tgt := 74) dX12_parts_51 (by decide) (by omega) (by omega) (fun c51 => ?_) (fun c51 => ?_)
        · exfalso
          omega
        · refine r_iload (pc := 54) dX12_parts_54 rfl ?_
          have B81 : ∀ hp81 : MH, Tw (RX Γ cI cJ cZ y rf45 cn nm so sz dr mn fr tt wt co nu sa wo ln hw ro qi qc nf nt nw nc cl nx ie be sd bl bs wy ra rb lb bg os js ls sp jw go de yb ah im) hp81 → (1 = 1 → sz (Int.toNat x3) = sz (Int.toNat x1)) ∧ (0 ≤ x2) ∧ (x2 ≤ 4) → Rn (gG D cI cJ cZ cT lo b L xs) mX12_parts d 81 [(0, .ref y), (1, .int (iv x1)), (2, .int (iv x2)), (3, .int (iv x3)), (4, .int (iv 1))] [] hp81 n 0 0 Po9 := by
            intro hp81 ht81 hf81
            refine r_aload_n (pc := 81) dX12_parts_81 (i := 0) rfl rfl ?_
            refine t_getE (pc := 82) (.ref (y + 2)) ht81 (rd_of RX_y) fX12_13 dX12_parts_82 rfl ?_
            refine r_iload_n (pc := 85) dX12_parts_85 (i := 1) rfl rfl ?_
            refine t_ialdX (pc := 86) (t0 := 0) ht81 (rd_of RX_sizes) dX12_parts_86 rfl (by decide) (by omega) (fun b175 => ?_)
            have rb175 := (show Rfx 121 0 16 sz by assumption) (Int.toNat x1) (by omega)
            refine r_istore (pc := 87) (lv' := [(5, .int (iv (sz (Int.toNat x1)))), (0, .ref y), (1, .int (iv x1)), (2, .int (iv x2)), (3, .int (iv x3)), (4, .int (iv 1))]) dX12_parts_87 (by decide) rfl ?_
            have rmn45 := hR_many (Int.toNat x1) (by omega)
            have hFT := enF hen.2 (by assumption) (by assumption) (by omega) (by omega)
            have hEn : enP fr tt mn sz x1 := hen.2
            refine r_iload (pc := 89) dX12_parts_89 rfl ?_
            refine t_if_eq (pc := 91) (tgt := 186) dX12_parts_91 (by decide) (by omega) (fun c91 => ?_) (fun c91 => ?_)
            · exfalso
              omega
            · have rsw := hR_sizes (Int.toNat x3) (by omega)
              refine r_iconst (pc := 94) (v := iv 0) dX12_parts_94 (by decide) ?_
              refine r_istore (pc := 95) (lv' := [(6, .int (iv 0)), (5, .int (iv (sz (Int.toNat x1)))), (0, .ref y), (1, .int (iv x1)), (2, .int (iv x2)), (3, .int (iv x3)), (4, .int (iv 1))]) dX12_parts_95 (by decide) rfl ?_
              have B97 : ∀ k : Nat, ∀ lb97 : Nat → Int, ∀ hp97 : MH, Tw (RX Γ cI cJ cZ y rf45 cn nm so sz dr mn fr tt wt co nu sa wo ln hw ro qi qc nf nt nw nc cl nx ie be sd bl bs wy ra rb lb97 bg os js ls sp jw go de yb ah im) hp97 → ∀  (v97_6 : Int), 0 ≤ v97_6 ∧ v97_6 ≤ 16 ∧ (Rfx 16 0 65535 lb97) ∧ (v97_6 ≤ (sz (Int.toNat x1))) ∧ (lqP (fun u v => sj nu (16 * x3) u = sj nu (16 * x3) v) lb97 v97_6) → 16 - v97_6 ≤ (k : Int) → Rn (gG D cI cJ cZ cT lo b L xs) mX12_parts d 97 [(0, .ref y), (3, .int (iv x3)), (5, .int (iv (sz (Int.toNat x1)))), (6, .int (iv v97_6))] [] hp97 n 0 0 Po9 := by
                refine lpS _ ?_
                intro k97 ih97 lb97 hp97 ht97 v97_6 hf97 hm97
                obtain ⟨hf97_0, hf97_1, ha97_2, hf97_3, ha97_4⟩ := hf97
                refine r_iload (pc := 97) dX12_parts_97 rfl ?_
                refine r_iload (pc := 99) dX12_parts_99 rfl ?_
                refine t_icmp_ge (pc := 101) (tgt := 183) dX12_parts_101 (by decide) (by omega) (by omega) (fun c101 => ?_) (fun c101 => ?_)
                · have hE9 : ∀ u v, u < (Int.toNat (sz (Int.toNat x1))) → v < (Int.toNat (sz (Int.toNat x1))) → (lb97 u = lb97 v ↔ (ptE (Int.toNat (mn (Int.toNat x1))) (dr (Int.toNat x1)) (sh fr (60 * x1)) (sh tt (60 * x1)) (sj nu (16 * x3)) x2) u v) := by rw [show x2 = 4 by omega]; exact pt_4 (by have h8 : lqP (fun u v => sj nu (16 * x3) u = sj nu (16 * x3) v) lb97 v97_6 := (by assumption); rw [show v97_6 = (sz (Int.toNat x1)) by omega] at h8; exact h8) (by omega)
                  refine r_goto (pc := 183) (tgt := 341) dX12_parts_183 (by decide) ?_
                  refine r_aload_n (pc := 341) dX12_parts_341 (i := 0) rfl rfl ?_
                  refine r_iload (pc := 342) dX12_parts_342 rfl ?_
                  obtain ⟨fs180, hfs180⟩ := t_obj ht97 (rd_of RX_y)
                  refine r_callV (pc := 344) (as := [.int (iv (sz (Int.toNat x1)))]) (st := []) kX12_301 rfl dX12_parts_344 hfs180 (x_X12_madeParts (d := d - 1) (x1 := sz (Int.toNat x1)) (by omega) (by omega) (by assumption) (by omega) (by assumption) (by assumption) (by assumption) ht97 (by omega) (fun _ _ _ h => h)) rfl (by omega) (Nat.le_of_ble_eq_true rfl) (Nat.zero_le _) (Nat.zero_le _) rfl (fun r177 hp176 n178 hq179 => ?_)
                  obtain ⟨hnn178, h_182, v_183, c1_184, s1_185, z1_186, i1_187, p1_188, ht181, hrr177, hhq1790, hhq1791, hhq1792, hhq1793, hhq1794, hhq1795, hhq1796, hhq1797⟩ := hq179
                  subst n178 r177
                  have hhq1790 : cn = 120 → h_182 = -4 ∧ v_183 = -4 ∧ c1_184 = cn := hhq1790
                  have hhq1791 : cn = 120 → s1_185 = so ∧ z1_186 = sz ∧ i1_187 = qi ∧ p1_188 = qc := hhq1791
                  have hhq1792 : cn < 120 → h_182 = cn ∧ v_183 = rf45 ∧ c1_184 = cn + 1 := hhq1792
                  have hhq1793 : cn < 120 → s1_185 = fup so (Int.toNat cn) 4 ∧ z1_186 = fup sz (Int.toNat cn) (sz (Int.toNat x1)) := hhq1793
                  have hhq1794 : Rfx 1936 0 15 i1_187 := hhq1794
                  have hhq1795 : Rfx 121 0 16 p1_188 := hhq1795
                  have hhq1796 : cn < 120 → fqP i1_187 qi cn ∧ pqP i1_187 cn (sz (Int.toNat x1)) (p1_188 (Int.toNat cn)) ∧ ∀ g : Nat, g ≠ Int.toNat cn → p1_188 g = qc g := hhq1796
                  have hhq1797 : cn < 120 → nuP2 (fun a b => lb97 a = lb97 b) (sh i1_187 (16 * cn)) (Int.toNat (sz (Int.toNat x1))) ∧ p1_188 (Int.toNat cn) = (cnP (fsP (fun a b => lb97 a = lb97 b)) (Int.toNat (sz (Int.toNat x1))) : Int) := hhq1797
                  change Rn _ _ _ 347 _ [.int (iv h_182)] _ _ _ _ _
                  obtain ⟨hRKm, hDFm, hhm⟩ := RK_prt (x1 := sz (Int.toNat x1)) (RK_set (nu1 := nu) (nf1 := nf) (nt1 := nt) (nw1 := nw) (nc1 := nc) hk (by omega) (by omega)) (by omega) hhq1790 hhq1791 hhq1792 hhq1793 hhq1794 hhq1795 hhq1796
                  obtain ⟨hnwA, hnwB, hnwC, hnwD, hnwE⟩ := mk_prt (x1 := sz (Int.toNat x1)) (by omega) (by omega) hhq1790 hhq1791 hhq1792 hhq1793 hhq1796 hhq1797
                  clear hhq1790 hhq1791 hhq1792 hhq1793 hhq1796 hhq1797
                  exact r_iret (pc := 347) dX12_parts_347 rfl (hPo _ _ _ ⟨rfl, v_183, c1_184, s1_185, z1_186, i1_187, p1_188, lb97, be, bg, os, js, h_182, ht181, rfl, (by (first | assumption | exact RK_set hk (by omega) (by omega))), (by (first | assumption | exact df_r _ _ _ _ _ _ _)), (by omega), (by first | (rw [hdQ_y (show x2 = 4 by omega)]; first | exact an2_m hnwA (by omega) (by omega) | exact an2_r (by omega)) | (rw [hdQ_n (show ¬ x2 = 4 by omega)]; first | exact an1_m hnwA (by omega) (by omega) | exact an1_r (by omega))), (by (intro h9; first | (exfalso; omega) | exact ⟨rfl, rfl, rfl, rfl, rfl⟩ | exact hnwB h9)), (by (intro h9; first | (exfalso; omega) | exact PNw_E (hnwC h9) hE9)), (by (first | omega | exact ⟨hnwD, fun h9 => (hnwE h9).trans (by omega)⟩)), (by assumption), (by assumption), (by assumption), (by assumption), (by assumption)⟩)
                · refine r_aload_n (pc := 104) dX12_parts_104 (i := 0) rfl rfl ?_
                  refine t_getE (pc := 105) (.ref (y + 31)) ht97 (rd_of RX_y) fX12_103 dX12_parts_105 rfl ?_
                  refine r_iload (pc := 108) dX12_parts_108 rfl ?_
                  refine r_iload (pc := 110) dX12_parts_110 rfl ?_
                  refine t_iastX (pc := 112) (t0 := 0) ht97 RX_label dX12_parts_112 rfl (by decide) (by omega) (by omega) (fun hp189 ht190 => ?_)
                  have ht191 := RXw_lb ht190
                  have hqht191 : Rfx 16 0 65535 (fup lb97 (Int.toNat v97_6) v97_6) := Rfx_up (by assumption) (by omega)
                  refine r_iload (pc := 113) dX12_parts_113 rfl ?_
                  refine r_iconst (pc := 115) (v := iv 1) dX12_parts_115 (by decide) ?_
                  refine r_isub (pc := 116) (v := iv (v97_6 - 1)) dX12_parts_116 (iv_sub _ _) ?_
                  refine r_istore (pc := 117) (lv' := [(7, .int (iv (v97_6 - 1))), (0, .ref y), (3, .int (iv x3)), (5, .int (iv (sz (Int.toNat x1)))), (6, .int (iv v97_6))]) dX12_parts_117 (by decide) rfl ?_
                  have B119 : ∀ k : Nat, ∀ lb119 : Nat → Int, ∀ hp119 : MH, Tw (RX Γ cI cJ cZ y rf45 cn nm so sz dr mn fr tt wt co nu sa wo ln hw ro qi qc nf nt nw nc cl nx ie be sd bl bs wy ra rb lb119 bg os js ls sp jw go de yb ah im) hp119 → ∀  (v119_7 : Int), (-1) ≤ v119_7 ∧ v119_7 ≤ 14 ∧ v119_7 ≤ v97_6 - 1 ∧ (Rfx 16 0 65535 lb119) ∧ (v119_7 ≤ v97_6) ∧ (lcP (fun u v => sj nu (16 * x3) u = sj nu (16 * x3) v) (lb119 (Int.toNat v97_6)) v97_6 v119_7) ∧ (exI lb119 lb97 (Int.toNat v97_6)) → v119_7 - (-1) ≤ (k : Int) → Rn (gG D cI cJ cZ cT lo b L xs) mX12_parts d 119 [(0, .ref y), (3, .int (iv x3)), (5, .int (iv (sz (Int.toNat x1)))), (6, .int (iv v97_6)), (7, .int (iv v119_7))] [] hp119 n 0 0 Po9 := by
                    refine lpS _ ?_
                    intro k119 ih119 lb119 hp119 ht119 v119_7 hf119 hm119
                    obtain ⟨hf119_0, hf119_1, hf119_2, ha119_3, hf119_4, ha119_5, ha119_6⟩ := hf119
                    refine r_iload (pc := 119) dX12_parts_119 rfl ?_
                    refine t_if_lt (pc := 121) (tgt := 177) dX12_parts_121 (by decide) (by omega) (fun c121 => ?_) (fun c121 => ?_)
                    · refine r_iinc (pc := 177) (v := iv (v97_6 + 1)) (lv' := [(6, .int (iv (v97_6 + 1))), (0, .ref y), (3, .int (iv x3)), (5, .int (iv (sz (Int.toNat x1)))), (7, .int (iv v119_7))]) dX12_parts_177 rfl (iv_add _ _) (by decide) rfl ?_
                      refine r_goto (pc := 180) (tgt := 97) dX12_parts_180 (by decide) ?_
                      refine Rn.pick (lv' := [(0, .ref y), (3, .int (iv x3)), (5, .int (iv (sz (Int.toNat x1)))), (6, .int (iv (v97_6 + 1)))]) [1, 2, 3, 0] rfl ?_
                      exact ih97 (Int.toNat (16 - (v97_6 + 1))) (by omega) lb119 _ ht119 (v97_6 + 1) ⟨by omega, by omega, by assumption, by omega, by (first | (intro u hu; exfalso; omega) | exact lq_up (u := v119_7) (by assumption) (by omega) (by omega) (by assumption) (by omega) (by assumption))⟩ (by omega)
                    · refine r_aload_n (pc := 124) dX12_parts_124 (i := 0) rfl rfl ?_
                      refine t_getE (pc := 125) (.ref (y + 31)) ht119 (rd_of RX_y) fX12_103 dX12_parts_125 rfl ?_
                      refine r_iload (pc := 128) dX12_parts_128 rfl ?_
                      refine r_aload_n (pc := 130) dX12_parts_130 (i := 0) rfl rfl ?_
                      refine t_getE (pc := 131) (.ref (y + 9)) ht119 (rd_of RX_y) fX12_35 dX12_parts_131 rfl ?_
                      refine r_bipush (pc := 134) (v := iv 16) dX12_parts_134 (by decide) ?_
                      refine r_iload_n (pc := 136) dX12_parts_136 (i := 3) rfl rfl ?_
                      refine r_imul (pc := 137) (v := iv (16 * x3)) dX12_parts_137 (iv_mul _ _) ?_
                      refine r_iload (pc := 138) dX12_parts_138 rfl ?_
                      refine r_iadd (pc := 140) (v := iv ((16 * x3) + v119_7)) dX12_parts_140 (iv_add _ _) ?_
                      refine t_laldX (pc := 141) (t0 := 1) ht119 (rd_of RX_numbers) dX12_parts_141 rfl (by decide) (by omega) ?_
                      refine r_aload_n (pc := 142) dX12_parts_142 (i := 0) rfl rfl ?_
                      refine t_getE (pc := 143) (.ref (y + 9)) ht119 (rd_of RX_y) fX12_35 dX12_parts_143 rfl ?_
                      refine r_bipush (pc := 146) (v := iv 16) dX12_parts_146 (by decide) ?_
                      refine r_iload_n (pc := 148) dX12_parts_148 (i := 3) rfl rfl ?_
                      refine r_imul (pc := 149) (v := iv (16 * x3)) dX12_parts_149 (iv_mul _ _) ?_
                      refine r_iload (pc := 150) dX12_parts_150 rfl ?_
                      refine r_iadd (pc := 152) (v := iv ((16 * x3) + v97_6)) dX12_parts_152 (iv_add _ _) ?_
                      refine t_laldX (pc := 153) (t0 := 1) ht119 (rd_of RX_numbers) dX12_parts_153 rfl (by decide) (by omega) ?_
                      refine r_lcmp (pc := 154) dX12_parts_154 ?_
                      refine t_lif_ne (pc := 155) (tgt := 163) dX12_parts_155 (by decide) (fun c155 => ?_) (fun c155 => ?_)
                      · refine r_aload_n (pc := 163) dX12_parts_163 (i := 0) rfl rfl ?_
                        refine t_getE (pc := 164) (.ref (y + 31)) ht119 (rd_of RX_y) fX12_103 dX12_parts_164 rfl ?_
                        refine r_iload (pc := 167) dX12_parts_167 rfl ?_
                        refine t_ialdX (pc := 169) (t0 := 0) ht119 (rd_of RX_label) dX12_parts_169 rfl (by decide) (by omega) (fun b192 => ?_)
                        have rb192 := (show Rfx 16 0 65535 lb119 by assumption) (Int.toNat v97_6) (by omega)
                        refine t_iastX (pc := 170) (t0 := 0) ht119 RX_label dX12_parts_170 rfl (by decide) (by omega) (by omega) (fun hp193 ht194 => ?_)
                        have ht195 := RXw_lb ht194
                        have hqht195 : Rfx 16 0 65535 (fup lb119 (Int.toNat v97_6) (lb119 (Int.toNat v97_6))) := Rfx_up (by assumption) (by omega)
                        refine r_iinc (pc := 171) (v := iv (v119_7 - 1)) (lv' := [(7, .int (iv (v119_7 - 1))), (0, .ref y), (3, .int (iv x3)), (5, .int (iv (sz (Int.toNat x1)))), (6, .int (iv v97_6))]) dX12_parts_171 rfl ((iv_add _ _).trans (congrArg iv (show v119_7 + (-1) = v119_7 - 1 by omega))) (by decide) rfl ?_
                        refine r_goto (pc := 174) (tgt := 119) dX12_parts_174 (by decide) ?_
                        refine Rn.pick (lv' := [(0, .ref y), (3, .int (iv x3)), (5, .int (iv (sz (Int.toNat x1)))), (6, .int (iv v97_6)), (7, .int (iv (v119_7 - 1)))]) [1, 2, 3, 4, 0] rfl ?_
                        exact ih119 (Int.toNat ((v119_7 - 1) - (-1))) (by omega) (fup lb119 (Int.toNat v97_6) (lb119 (Int.toNat v97_6))) _ ht195 (v119_7 - 1) ⟨by omega, by omega, by omega, by assumption, by omega, by (first | (rw [fup_s]; exact lc_0 rfl (by omega)) | (rw [fup_s]; exact lc_y (by assumption) (by omega) (by show sj nu (16 * x3) (Int.toNat v119_7) = sj nu (16 * x3) (Int.toNat v97_6); rw [← sj_at nu (16 * x3) (v := v119_7) (by omega), ← sj_at nu (16 * x3) (v := v97_6) (by omega)]; exact Int64.toInt_inj.mp (by omega))) | (rw [fup_s]; exact lc_n (by assumption) (by omega) (by show ¬ (sj nu (16 * x3) (Int.toNat v119_7) = sj nu (16 * x3) (Int.toNat v97_6)); rw [← sj_at nu (16 * x3) (v := v119_7) (by omega), ← sj_at nu (16 * x3) (v := v97_6) (by omega)]; intro h9; have h8 := congrArg Int64.toInt h9; omega))), by (first | exact exI_up (by assumption) | exact exI_u _ _ _)⟩ (by omega)
                      · refine r_iload (pc := 158) dX12_parts_158 rfl ?_
                        refine r_goto (pc := 160) (tgt := 170) dX12_parts_160 (by decide) ?_
                        refine t_iastX (pc := 170) (t0 := 0) ht119 RX_label dX12_parts_170 rfl (by decide) (by omega) (by omega) (fun hp196 ht197 => ?_)
                        have ht198 := RXw_lb ht197
                        have hqht198 : Rfx 16 0 65535 (fup lb119 (Int.toNat v97_6) v119_7) := Rfx_up (by assumption) (by omega)
                        refine r_iinc (pc := 171) (v := iv (v119_7 - 1)) (lv' := [(7, .int (iv (v119_7 - 1))), (0, .ref y), (3, .int (iv x3)), (5, .int (iv (sz (Int.toNat x1)))), (6, .int (iv v97_6))]) dX12_parts_171 rfl ((iv_add _ _).trans (congrArg iv (show v119_7 + (-1) = v119_7 - 1 by omega))) (by decide) rfl ?_
                        refine r_goto (pc := 174) (tgt := 119) dX12_parts_174 (by decide) ?_
                        refine Rn.pick (lv' := [(0, .ref y), (3, .int (iv x3)), (5, .int (iv (sz (Int.toNat x1)))), (6, .int (iv v97_6)), (7, .int (iv (v119_7 - 1)))]) [1, 2, 3, 4, 0] rfl ?_
                        exact ih119 (Int.toNat ((v119_7 - 1) - (-1))) (by omega) (fup lb119 (Int.toNat v97_6) v119_7) _ ht198 (v119_7 - 1) ⟨by omega, by omega, by omega, by assumption, by omega, by (first | (rw [fup_s]; exact lc_0 rfl (by omega)) | (rw [fup_s]; exact lc_y (by assumption) (by omega) (by show sj nu (16 * x3) (Int.toNat v119_7) = sj nu (16 * x3) (Int.toNat v97_6); rw [← sj_at nu (16 * x3) (v := v119_7) (by omega), ← sj_at nu (16 * x3) (v := v97_6) (by omega)]; exact Int64.toInt_inj.mp (by omega))) | (rw [fup_s]; exact lc_n (by assumption) (by omega) (by show ¬ (sj nu (16 * x3) (Int.toNat v119_7) = sj nu (16 * x3) (Int.toNat v97_6)); rw [← sj_at nu (16 * x3) (v := v119_7) (by omega), ← sj_at nu (16 * x3) (v := v97_6) (by omega)]; intro h9; have h8 := congrArg Int64.toInt h9; omega))), by (first | exact exI_up (by assumption) | exact exI_u _ _ _)⟩ (by omega)
                  refine Rn.pick (lv' := [(0, .ref y), (3, .int (iv x3)), (5, .int (iv (sz (Int.toNat x1)))), (6, .int (iv v97_6)), (7, .int (iv (v97_6 - 1)))]) [1, 2, 3, 4, 0] rfl ?_
                  exact B119 (Int.toNat ((v97_6 - 1) - (-1))) (fup lb97 (Int.toNat v97_6) v97_6) _ ht191 (v97_6 - 1) ⟨by omega, by omega, by omega, by assumption, by omega, by (first | (rw [fup_s]; exact lc_0 rfl (by omega)) | (rw [fup_s]; exact lc_y (by assumption) (by omega) (by show sj nu (16 * x3) (Int.toNat v119_7) = sj nu (16 * x3) (Int.toNat v97_6); rw [← sj_at nu (16 * x3) (v := v119_7) (by omega), ← sj_at nu (16 * x3) (v := v97_6) (by omega)]; exact Int64.toInt_inj.mp (by omega))) | (rw [fup_s]; exact lc_n (by assumption) (by omega) (by show ¬ (sj nu (16 * x3) (Int.toNat v119_7) = sj nu (16 * x3) (Int.toNat v97_6)); rw [← sj_at nu (16 * x3) (v := v119_7) (by omega), ← sj_at nu (16 * x3) (v := v97_6) (by omega)]; intro h9; have h8 := congrArg Int64.toInt h9; omega))), by (first | exact exI_up (by assumption) | exact exI_u _ _ _)⟩ (by omega)
              refine Rn.pick (lv' := [(0, .ref y), (3, .int (iv x3)), (5, .int (iv (sz (Int.toNat x1)))), (6, .int (iv 0))]) [2, 5, 1, 0] rfl ?_
              exact B97 (Int.toNat (16 - 0)) lb _ ht81 0 ⟨by omega, by omega, by assumption, by omega, by (first | (intro u hu; exfalso; omega) | exact lq_up (u := v119_7) (by assumption) (by omega) (by omega) (by assumption) (by omega) (by assumption))⟩ (by omega)
          refine t_if_eq (pc := 56) (tgt := 81) dX12_parts_56 (by decide) (by omega) (fun c56 => ?_) (fun c56 => ?_)
          · exfalso
            omega
          · refine r_aload_n (pc := 59) dX12_parts_59 (i := 0) rfl rfl ?_
            refine t_getE (pc := 60) (.ref (y + 2)) ht45 (rd_of RX_y) fX12_13 dX12_parts_60 rfl ?_
            refine r_iload_n (pc := 63) dX12_parts_63 (i := 3) rfl rfl ?_
            refine t_ialdX (pc := 64) (t0 := 0) ht45 (rd_of RX_sizes) dX12_parts_64 rfl (by decide) (by omega) (fun b199 => ?_)
            have rb199 := (show Rfx 121 0 16 sz by assumption) (Int.toNat x3) (by omega)
            refine r_aload_n (pc := 65) dX12_parts_65 (i := 0) rfl rfl ?_
            refine t_getE (pc := 66) (.ref (y + 2)) ht45 (rd_of RX_y) fX12_13 dX12_parts_66 rfl ?_
            refine r_iload_n (pc := 69) dX12_parts_69 (i := 1) rfl rfl ?_
            refine t_ialdX (pc := 70) (t0 := 0) ht45 (rd_of RX_sizes) dX12_parts_70 rfl (by decide) (by omega) (fun b200 => ?_)
            have rb200 := (show Rfx 121 0 16 sz by assumption) (Int.toNat x1) (by omega)
            refine t_icmp_eq (pc := 71) (tgt := 81) dX12_parts_71 (by decide) (by omega) (by omega) (fun c71 => ?_) (fun c71 => ?_)
            · refine Rn.pick (lv' := [(0, .ref y), (1, .int (iv x1)), (2, .int (iv x2)), (3, .int (iv x3)), (4, .int (iv 1))]) [0, 1, 2, 3, 4] rfl ?_
              exact B81 _ ht45 ⟨by omega, by omega, by omega⟩
            · refine Rn.pick (lv' := [(0, .ref y)]) [0] rfl ?_
              exact B74 _ ht45 (by omega)
    refine t_if_eq (pc := 14) (tgt := 31) dX12_parts_14 (by decide) (by omega) (fun c14 => ?_) (fun c14 => ?_)
    · exfalso
      omega
    · refine r_aload_n (pc := 17) dX12_parts_17 (i := 0) rfl rfl ?_
      refine r_iload_n (pc := 18) dX12_parts_18 (i := 1) rfl rfl ?_
      refine r_iconst (pc := 19) (v := iv 1) dX12_parts_19 (by decide) ?_
      refine r_iload_n (pc := 20) dX12_parts_20 (i := 3) rfl rfl ?_
      refine r_iconst (pc := 21) (v := iv 2) dX12_parts_21 (by decide) ?_
      obtain ⟨fs205, hfs205⟩ := t_obj ht (rd_of RX_y)
      refine r_callV (pc := 22) (as := [.int (iv x1), .int (iv 1), .int (iv x3), .int (iv 2)]) (st := []) kX12_209 rfl dX12_parts_22 hfs205 (x_X12_haveTwo (d := d - 1) (x1 := x1) (x2 := 1) (x3 := x3) (x4 := 2) (by omega) (by omega) (by assumption) ht (by omega) (by omega) (by omega) (by omega) (fun _ _ _ h => h)) rfl (by omega) (Nat.le_of_ble_eq_true rfl) (Nat.zero_le _) (Nat.zero_le _) rfl (fun r202 hp201 n203 hq204 => ?_)
      obtain ⟨hnn203, v_207, b_208, ht206, hrr202, hhq2040, hhq2041⟩ := hq204
      subst n203 r202
      have hhq2040 : -2 ≤ v_207 ∧ v_207 ≤ 0 ∧ (b_208 = 0 ∨ b_208 = 1) := hhq2040
      have hhq2041 : (b_208 = 1 ∧ v_207 = 0 ∧ 0 ≤ x1 ∧ x1 < cn ∧ 0 ≤ x3 ∧ x3 < cn ∧ so (Int.toNat x1) = 1 ∧ so (Int.toNat x3) = 2) ∨ (b_208 = 0 ∧ v_207 = -1 ∧ ¬ (0 ≤ x1 ∧ x1 < cn ∧ 0 ≤ x3 ∧ x3 < cn)) ∨ (b_208 = 0 ∧ v_207 = -2 ∧ 0 ≤ x1 ∧ x1 < cn ∧ 0 ≤ x3 ∧ x3 < cn ∧ ¬ (so (Int.toNat x1) = 1 ∧ so (Int.toNat x3) = 2)) := hhq2041
      change Rn _ _ _ 25 _ [.int (iv b_208)] _ _ _ _ _
      refine t_if_ne (pc := 25) (tgt := 45) dX12_parts_25 (by decide) (by omega) (fun c25 => ?_) (fun c25 => ?_)
      · have hs25 := Or.resolve_right hhq2041 (by omega)
        clear hhq2040 hhq2041
        have rsz25 := hR_sizes (Int.toNat x1) (by omega)
        have rsy25 := hsz x1 (by omega) (by omega)
        have hen := hgr x1 (by omega) (by omega) (by omega)
        have rmn25 := hR_many (Int.toNat x1) (by omega)
        have rsw25 := hR_sizes (Int.toNat x3) (by omega)
        have rsx25 := hsz x3 (by omega) (by omega)
        refine Rn.pick (lv' := [(0, .ref y), (1, .int (iv x1)), (2, .int (iv x2)), (3, .int (iv x3)), (4, .int (iv 1))]) [1, 2, 3, 4, 0] rfl ?_
        exact B45 v_207 _ ht206 ⟨by omega, by omega, by omega, by omega, by omega, by omega, by omega, by omega, by omega, by omega⟩
      · refine r_goto (pc := 28) (tgt := 40) dX12_parts_28 (by decide) ?_
        refine r_aload_n (pc := 40) dX12_parts_40 (i := 0) rfl rfl ?_
        refine t_getE (pc := 41) (.int (iv v_207)) ht206 (rd_of RX_y) fX12_142 dX12_parts_41 rfl ?_
        exact r_iret (pc := 44) dX12_parts_44 rfl (hPo _ _ _ ⟨rfl, v_207, cn, so, sz, qi, qc, lb, be, bg, os, js, v_207, ht206, rfl, (by (first | assumption | exact RK_set hk (by omega) (by omega))), (by (first | assumption | exact df_r _ _ _ _ _ _ _)), (by omega), (by first | (rw [hdQ_y (show x2 = 4 by omega)]; first | exact an2_m hnwA (by omega) (by omega) | exact an2_r (by omega)) | (rw [hdQ_n (show ¬ x2 = 4 by omega)]; first | exact an1_m hnwA (by omega) (by omega) | exact an1_r (by omega))), (by (intro h9; first | (exfalso; omega) | exact ⟨rfl, rfl, rfl, rfl, rfl⟩ | exact hnwB h9)), (by (intro h9; first | (exfalso; omega) | exact PNw_E (hnwC h9) hE9)), (by (first | omega | exact ⟨hnwD, fun h9 => (hnwE h9).trans (by omega)⟩)), (by assumption), (by assumption), (by assumption), (by assumption), (by assumption)⟩)
