set_option maxHeartbeats 4000000 in
set_option maxRecDepth 100000 in
theorem x_X12_run {D : va_G} {cI cJ cZ cT : ClassId} {lo b L : Nat} {xs : Nat → Int32} {hp : MH} {n d : Nat} {Γ : TG} {y : Nat} {rf cn nm : Int} {so sz dr mn fr tt wt co : Nat → Int} {nu : Nat → Int64} {sa : Nat → Int} {wo : Nat → Int64} {ln : Nat → Int} {hw : Nat → Int64} {ro qi qc nf nt nw nc : Nat → Int} {cl nx : Nat → Int64} {ie be sd bl : Nat → Int} {bs wy ra rb : Nat → Int64} {lb bg os js ls : Nat → Int} {sp : Nat → Int64} {jw go : Nat → Int} {de : Nat → Int64} {yb ah im : Nat → Int} {x1 x2 x3 x4 x5 x6 : Int} {Po9 : Option Value → MH → Nat → Prop} (hd0 : 3 ≤ d) (hk : RK rf cn nm so sz dr mn fr tt wt co nu qi qc nf nt nw nc) (ht : Tw (RX Γ cI cJ cZ y rf cn nm so sz dr mn fr tt wt co nu sa wo ln hw ro qi qc nf nt nw nc cl nx ie be sd bl bs wy ra rb lb bg os js ls sp jw go de yb ah im) hp) (hx1 : (-2147483648) ≤ x1 ∧ x1 ≤ 2147483647) (hx2 : (-2147483648) ≤ x2 ∧ x2 ≤ 2147483647) (hx3 : (-2147483648) ≤ x3 ∧ x3 ≤ 2147483647) (hx4 : (-2147483648) ≤ x4 ∧ x4 ≤ 2147483647) (hx5 : 0 ≤ x5 ∧ x5 ≤ 1) (hx6 : (-2147483648) ≤ x6 ∧ x6 ≤ 2147483647) (hPo : ∀ r hp1 n1, (n1 = n ∧ ∃ (rf' : Int) (cn' : Int) (so' : Nat → Int) (sz' : Nat → Int) (nu' : Nat → Int64) (cl' : Nat → Int64) (nx' : Nat → Int64) (v' : Int), Tw (RX Γ cI cJ cZ y rf' cn' nm so' sz' dr mn fr tt wt co nu' sa wo ln hw ro qi qc nf nt nw nc cl' nx' ie be sd bl bs wy ra rb lb bg os js ls sp jw go de yb ah im) hp1 ∧ r = some (.int (iv v')) ∧ (RK rf' cn' nm so' sz' dr mn fr tt wt co nu' qi qc nf nt nw nc) ∧ (dfE sz dr mn fr tt wt co sz' dr mn fr tt wt co) ∧ (-2147483648 ≤ v' ∧ v' ≤ 2147483647) ∧ (v' = an2 cn so x1 1 x2 2 (sz (Int.toNat x1) ≠ sz (Int.toNat x2) ∨ x3 < 0 ∨ 4 < x3 ∨ x4 < 0 ∨ 3 < x4 ∨ x6 < 0 ∨ 200 < x6) (cn = 120)) ∧ (v' < 0 → SmC cn cn' so sz so' sz' nu nu') ∧ (0 ≤ v' → CNw cn cn' so sz so' sz' nu nu' (sz (Int.toNat x1)) (rnC (Int.toNat (mn (Int.toNat x1))) (dr (Int.toNat x1)) (sh fr (60 * x1)) (sh tt (60 * x1)) (sh wt (60 * x1)) x3 x4 x5 (sj nu (16 * x2)) (Int.toNat x6))) ∧ ((v' < 0 → rf' = v') ∧ (0 ≤ v' → rf' = 0))) → Po9 r hp1 n1) : Mt (gG D cI cJ cZ cT lo b L xs) mX12_run d 0 0 [.ref y, .int (iv x1), .int (iv x2), .int (iv x3), .int (iv x4), .int (iv x5), .int (iv x6)] hp n Po9 := by
  refine Mt.of rfl (Nat.le_of_ble_eq_true rfl) ?_
  refine Rn.pick (lv' := [(0, .ref y), (1, .int (iv x1)), (2, .int (iv x2)), (3, .int (iv x3)), (4, .int (iv x4)), (5, .int (iv x5)), (6, .int (iv x6))]) [0, 1, 2, 3, 4, 5, 6] rfl ?_
  obtain ⟨hR_sorts, hR_sizes, hR_directs, hR_many, hR_from, hR_to, hR_weight, hR_cost, hR_inPart, hR_partCount, hcn, hrf, hnm, hdf, hgr, hpa, hsz⟩ := id hk
  refine r_aload_n (pc := 0) dX12_run_0 (i := 0) rfl rfl ?_
  refine r_iload_n (pc := 1) dX12_run_1 (i := 1) rfl rfl ?_
  refine r_iconst (pc := 2) (v := iv 1) dX12_run_2 (by decide) ?_
  refine r_iload_n (pc := 3) dX12_run_3 (i := 2) rfl rfl ?_
  refine r_iconst (pc := 4) (v := iv 2) dX12_run_4 (by decide) ?_
  obtain ⟨fs5, hfs5⟩ := t_obj ht (rd_of RX_y)
  refine r_callV (pc := 5) (as := [.int (iv x1), .int (iv 1), .int (iv x2), .int (iv 2)]) (st := []) kX12_209 rfl dX12_run_5 hfs5 (x_X12_haveTwo (d := d - 1) (x1 := x1) (x2 := 1) (x3 := x2) (x4 := 2) (by omega) (by omega) (by assumption) ht (by omega) (by omega) (by omega) (by omega) (fun _ _ _ h => h)) rfl (by omega) (Nat.le_of_ble_eq_true rfl) (Nat.zero_le _) (Nat.zero_le _) rfl (fun r2 hp1 n3 hq4 => ?_)
  obtain ⟨hnn3, v_7, b_8, ht6, hrr2, hhq40, hhq41⟩ := hq4
  subst n3 r2
  have hhq40 : -2 ≤ v_7 ∧ v_7 ≤ 0 ∧ (b_8 = 0 ∨ b_8 = 1) := hhq40
  have hhq41 : (b_8 = 1 ∧ v_7 = 0 ∧ 0 ≤ x1 ∧ x1 < cn ∧ 0 ≤ x2 ∧ x2 < cn ∧ so (Int.toNat x1) = 1 ∧ so (Int.toNat x2) = 2) ∨ (b_8 = 0 ∧ v_7 = -1 ∧ ¬ (0 ≤ x1 ∧ x1 < cn ∧ 0 ≤ x2 ∧ x2 < cn)) ∨ (b_8 = 0 ∧ v_7 = -2 ∧ 0 ≤ x1 ∧ x1 < cn ∧ 0 ≤ x2 ∧ x2 < cn ∧ ¬ (so (Int.toNat x1) = 1 ∧ so (Int.toNat x2) = 2)) := hhq41
  change Rn _ _ _ 8 _ [.int (iv b_8)] _ _ _ _ _
  refine t_if_ne (pc := 8) (tgt := 16) dX12_run_8 (by decide) (by omega) (fun c8 => ?_) (fun c8 => ?_)
  · have hs8 := Or.resolve_right hhq41 (by omega)
    clear hhq40 hhq41
    have rsz8 := hR_sizes (Int.toNat x1) (by omega)
    have rsy8 := hsz x1 (by omega) (by omega)
    have hen := hgr x1 (by omega) (by omega) (by omega)
    have rmn8 := hR_many (Int.toNat x1) (by omega)
    have rsw8 := hR_sizes (Int.toNat x2) (by omega)
    have rsx8 := hsz x2 (by omega) (by omega)
    refine r_aload_n (pc := 16) dX12_run_16 (i := 0) rfl rfl ?_
    refine t_getE (pc := 17) (.ref (y + 2)) ht6 (rd_of RX_y) fX12_13 dX12_run_17 rfl ?_
    refine r_iload_n (pc := 20) dX12_run_20 (i := 1) rfl rfl ?_
    refine t_ialdX (pc := 21) (t0 := 0) ht6 (rd_of RX_sizes) dX12_run_21 rfl (by decide) (by omega) (fun b9 => ?_)
    have rb9 := (show Rfx 121 0 16 sz by assumption) (Int.toNat x1) (by omega)
    refine r_aload_n (pc := 22) dX12_run_22 (i := 0) rfl rfl ?_
    refine t_getE (pc := 23) (.ref (y + 2)) ht6 (rd_of RX_y) fX12_13 dX12_run_23 rfl ?_
    refine r_iload_n (pc := 26) dX12_run_26 (i := 2) rfl rfl ?_
    refine t_ialdX (pc := 27) (t0 := 0) ht6 (rd_of RX_sizes) dX12_run_27 rfl (by decide) (by omega) (fun b10 => ?_)
    have rb10 := (show Rfx 121 0 16 sz by assumption) (Int.toNat x2) (by omega)
    have B64 : ∀ hp64 : MH, Tw (RX Γ cI cJ cZ y v_7 cn nm so sz dr mn fr tt wt co nu sa wo ln hw ro qi qc nf nt nw nc cl nx ie be sd bl bs wy ra rb lb bg os js ls sp jw go de yb ah im) hp64 → ((sz (Int.toNat x1) ≠ sz (Int.toNat x2) ∨ x3 < 0 ∨ 4 < x3 ∨ x4 < 0 ∨ 3 < x4 ∨ x6 < 0 ∨ 200 < x6)) → Rn (gG D cI cJ cZ cT lo b L xs) mX12_run d 64 [(0, .ref y)] [] hp64 n 0 0 Po9 := by
      intro hp64 ht64 hf64
      refine r_aload_n (pc := 64) dX12_run_64 (i := 0) rfl rfl ?_
      refine r_bipush (pc := 65) (v := iv (-3)) dX12_run_65 (by decide) ?_
      obtain ⟨fs15, hfs15⟩ := t_obj ht64 (rd_of RX_y)
      refine r_callV (pc := 67) (as := [.int (iv (-3))]) (st := []) kX12_153 rfl dX12_run_67 hfs15 (x_X12_refuse (d := d - 1) (x1 := (-3)) (by omega) ht64 (by omega) (fun _ _ _ h => h)) rfl (by omega) (Nat.le_of_ble_eq_true rfl) (Nat.zero_le _) (Nat.zero_le _) rfl (fun r12 hp11 n13 hq14 => ?_)
      obtain ⟨hnn13, ht16, hrr12⟩ := hq14
      subst n13 r12
      change Rn _ _ _ 70 _ [.int (iv (-3))] _ _ _ _ _
      exact r_iret (pc := 70) dX12_run_70 rfl (hPo _ _ _ ⟨rfl, (-3), cn, so, sz, nu, cl, nx, (-3), ht16, rfl, (by (first | assumption | exact RK_set hk (by omega) (by omega))), (by (first | assumption | exact df_r _ _ _ _ _ _ _)), (by omega), (by exact an2_b (by omega) (by omega) (by omega)), (by (intro h9; first | (exfalso; omega) | exact ⟨rfl, rfl, rfl, rfl⟩ | exact hnwB h9)), (by (intro h9; first | (exfalso; omega) | exact CNw_eq (hnwC h9) (by rw [← show v117_8 = x6 by omega]; assumption))), (by (first | omega | exact ⟨hnwD, fun h9 => (hnwE h9).trans (by omega)⟩))⟩)
    refine t_icmp_ne (pc := 28) (tgt := 64) dX12_run_28 (by decide) (by omega) (by omega) (fun c28 => ?_) (fun c28 => ?_)
    · refine Rn.pick (lv' := [(0, .ref y)]) [0] rfl ?_
      exact B64 _ ht6 (by omega)
    · refine r_iload_n (pc := 31) dX12_run_31 (i := 3) rfl rfl ?_
      refine t_if_lt (pc := 32) (tgt := 64) dX12_run_32 (by decide) (by omega) (fun c32 => ?_) (fun c32 => ?_)
      · refine Rn.pick (lv' := [(0, .ref y)]) [0] rfl ?_
        exact B64 _ ht6 (by omega)
      · refine r_iload_n (pc := 35) dX12_run_35 (i := 3) rfl rfl ?_
        refine r_iconst (pc := 36) (v := iv 4) dX12_run_36 (by decide) ?_
        refine t_icmp_gt (pc := 37) (tgt := 64) dX12_run_37 (by decide) (by omega) (by omega) (fun c37 => ?_) (fun c37 => ?_)
        · refine Rn.pick (lv' := [(0, .ref y)]) [0] rfl ?_
          exact B64 _ ht6 (by omega)
        · refine r_iload (pc := 40) dX12_run_40 rfl ?_
          refine t_if_lt (pc := 42) (tgt := 64) dX12_run_42 (by decide) (by omega) (fun c42 => ?_) (fun c42 => ?_)
          · refine Rn.pick (lv' := [(0, .ref y)]) [0] rfl ?_
            exact B64 _ ht6 (by omega)
          · refine r_iload (pc := 45) dX12_run_45 rfl ?_
            refine r_iconst (pc := 47) (v := iv 3) dX12_run_47 (by decide) ?_
            refine t_icmp_gt (pc := 48) (tgt := 64) dX12_run_48 (by decide) (by omega) (by omega) (fun c48 => ?_) (fun c48 => ?_)
            · refine Rn.pick (lv' := [(0, .ref y)]) [0] rfl ?_
              exact B64 _ ht6 (by omega)
            · refine r_iload (pc := 51) dX12_run_51 rfl ?_
              refine t_if_lt (pc := 53) (tgt := 64) dX12_run_53 (by decide) (by omega) (fun c53 => ?_) (fun c53 => ?_)
              · refine Rn.pick (lv' := [(0, .ref y)]) [0] rfl ?_
                exact B64 _ ht6 (by omega)
              · refine r_iload (pc := 56) dX12_run_56 rfl ?_
                refine r_sipush (pc := 58) (v := iv 200) dX12_run_58 (by decide) ?_
                refine t_icmp_le (pc := 61) (tgt := 71) dX12_run_61 (by decide) (by omega) (by omega) (fun c61 => ?_) (fun c61 => ?_)
                · refine r_aload_n (pc := 71) dX12_run_71 (i := 0) rfl rfl ?_
                  refine t_getE (pc := 72) (.ref (y + 2)) ht6 (rd_of RX_y) fX12_13 dX12_run_72 rfl ?_
                  refine r_iload_n (pc := 75) dX12_run_75 (i := 1) rfl rfl ?_
                  refine t_ialdX (pc := 76) (t0 := 0) ht6 (rd_of RX_sizes) dX12_run_76 rfl (by decide) (by omega) (fun b17 => ?_)
                  have rb17 := (show Rfx 121 0 16 sz by assumption) (Int.toNat x1) (by omega)
                  refine r_istore (pc := 77) (lv' := [(7, .int (iv (sz (Int.toNat x1)))), (0, .ref y), (1, .int (iv x1)), (2, .int (iv x2)), (3, .int (iv x3)), (4, .int (iv x4)), (5, .int (iv x5)), (6, .int (iv x6))]) dX12_run_77 (by decide) rfl ?_
                  have hFT := enF hen.2 (by assumption) (by assumption) (by omega) (by omega)
                  refine r_iconst (pc := 79) (v := iv 0) dX12_run_79 (by decide) ?_
                  refine r_istore (pc := 80) (lv' := [(8, .int (iv 0)), (7, .int (iv (sz (Int.toNat x1)))), (0, .ref y), (1, .int (iv x1)), (2, .int (iv x2)), (3, .int (iv x3)), (4, .int (iv x4)), (5, .int (iv x5)), (6, .int (iv x6))]) dX12_run_80 (by decide) rfl ?_
                  have B82 : ∀ k : Nat, ∀ cl82 : Nat → Int64, ∀ hp82 : MH, Tw (RX Γ cI cJ cZ y v_7 cn nm so sz dr mn fr tt wt co nu sa wo ln hw ro qi qc nf nt nw nc cl82 nx ie be sd bl bs wy ra rb lb bg os js ls sp jw go de yb ah im) hp82 → ∀  (v82_8 : Int), 0 ≤ v82_8 ∧ v82_8 ≤ 16 ∧ (v82_8 ≤ (sz (Int.toNat x1))) ∧ (eqB cl82 (sj nu (16 * x2)) v82_8) → 16 - v82_8 ≤ (k : Int) → Rn (gG D cI cJ cZ cT lo b L xs) mX12_run d 82 [(0, .ref y), (1, .int (iv x1)), (2, .int (iv x2)), (3, .int (iv x3)), (4, .int (iv x4)), (5, .int (iv x5)), (6, .int (iv x6)), (7, .int (iv (sz (Int.toNat x1)))), (8, .int (iv v82_8))] [] hp82 n 0 0 Po9 := by
                    refine lpS _ ?_
                    intro k82 ih82 cl82 hp82 ht82 v82_8 hf82 hm82
                    obtain ⟨hf82_0, hf82_1, hf82_2, ha82_3⟩ := hf82
                    refine r_iload (pc := 82) dX12_run_82 rfl ?_
                    refine r_iload (pc := 84) dX12_run_84 rfl ?_
                    refine t_icmp_ge (pc := 86) (tgt := 114) dX12_run_86 (by decide) (by omega) (by omega) (fun c86 => ?_) (fun c86 => ?_)
                    · refine r_iconst (pc := 114) (v := iv 0) dX12_run_114 (by decide) ?_
                      refine r_istore (pc := 115) (lv' := [(8, .int (iv 0)), (0, .ref y), (1, .int (iv x1)), (2, .int (iv x2)), (3, .int (iv x3)), (4, .int (iv x4)), (5, .int (iv x5)), (6, .int (iv x6)), (7, .int (iv (sz (Int.toNat x1))))]) dX12_run_115 (by decide) rfl ?_
                      have B117 : ∀ k : Nat, ∀ cl117 : Nat → Int64, ∀ nx117 : Nat → Int64, ∀ hp117 : MH, Tw (RX Γ cI cJ cZ y v_7 cn nm so sz dr mn fr tt wt co nu sa wo ln hw ro qi qc nf nt nw nc cl117 nx117 ie be sd bl bs wy ra rb lb bg os js ls sp jw go de yb ah im) hp117 → ∀  (v117_8 : Int), 0 ≤ v117_8 ∧ v117_8 ≤ 200 ∧ (v117_8 ≤ x6) ∧ (eqB cl117 (rnC (Int.toNat (mn (Int.toNat x1))) (dr (Int.toNat x1)) (sh fr (60 * x1)) (sh tt (60 * x1)) (sh wt (60 * x1)) x3 x4 x5 (sj nu (16 * x2)) (Int.toNat v117_8)) (sz (Int.toNat x1))) → 200 - v117_8 ≤ (k : Int) → Rn (gG D cI cJ cZ cT lo b L xs) mX12_run d 117 [(0, .ref y), (1, .int (iv x1)), (3, .int (iv x3)), (4, .int (iv x4)), (5, .int (iv x5)), (6, .int (iv x6)), (7, .int (iv (sz (Int.toNat x1)))), (8, .int (iv v117_8))] [] hp117 n 0 0 Po9 := by
                        refine lpS _ ?_
                        intro k117 ih117 cl117 nx117 hp117 ht117 v117_8 hf117 hm117
                        obtain ⟨hf117_0, hf117_1, hf117_2, ha117_3⟩ := hf117
                        refine r_iload (pc := 117) dX12_run_117 rfl ?_
                        refine r_iload (pc := 119) dX12_run_119 rfl ?_
                        refine t_icmp_ge (pc := 121) (tgt := 195) dX12_run_121 (by decide) (by omega) (by omega) (fun c121 => ?_) (fun c121 => ?_)
                        · refine r_aload_n (pc := 195) dX12_run_195 (i := 0) rfl rfl ?_
                          refine r_iload (pc := 196) dX12_run_196 rfl ?_
                          obtain ⟨fs22, hfs22⟩ := t_obj ht117 (rd_of RX_y)
                          refine r_callV (pc := 198) (as := [.int (iv (sz (Int.toNat x1)))]) (st := []) kX12_228 rfl dX12_run_198 hfs22 (x_X12_madeColumn (d := d - 1) (x1 := sz (Int.toNat x1)) (by omega) (by omega) (by assumption) (by omega) (by assumption) ht117 (by omega) (fun _ _ _ h => h)) rfl (by omega) (Nat.le_of_ble_eq_true rfl) (Nat.zero_le _) (Nat.zero_le _) rfl (fun r19 hp18 n20 hq21 => ?_)
                          obtain ⟨hnn20, h_24, v_25, c1_26, s1_27, z1_28, u1_29, ht23, hrr19, hhq210, hhq211, hhq212, hhq213, hhq214, hhq215⟩ := hq21
                          subst n20 r19
                          have hhq210 : cn = 120 → h_24 = -4 ∧ v_25 = -4 ∧ c1_26 = cn := hhq210
                          have hhq211 : cn = 120 → s1_27 = so ∧ z1_28 = sz := hhq211
                          have hhq212 : cn < 120 → h_24 = cn ∧ v_25 = v_7 ∧ c1_26 = cn + 1 := hhq212
                          have hhq213 : cn < 120 → s1_27 = fup so (Int.toNat cn) 2 ∧ z1_28 = fup sz (Int.toNat cn) (sz (Int.toNat x1)) := hhq213
                          have hhq214 : cn = 120 → u1_29 = nu := hhq214
                          have hhq215 : cn < 120 → u1_29 = kjF cl117 nu (Int.toNat (16 * cn)) (Int.toNat (sz (Int.toNat x1))) := hhq215
                          change Rn _ _ _ 201 _ [.int (iv h_24)] _ _ _ _ _
                          obtain ⟨hRKm, hDFm, hhm⟩ := RK_col (nu := nu) (x1 := sz (Int.toNat x1)) (u1 := u1_29) (RK_set (nf1 := nf) (nt1 := nt) (nw1 := nw) (nc1 := nc) hk (by omega) (by omega)) (by omega) hhq210 hhq211 hhq212 hhq213
                          obtain ⟨hnwA, hnwB, hnwC, hnwD, hnwE⟩ := mk_col (x1 := sz (Int.toNat x1)) (by omega) (by omega) hhq210 hhq211 hhq212 hhq213 hhq214 hhq215
                          clear hhq210 hhq211 hhq212 hhq213 hhq214 hhq215
                          exact r_iret (pc := 201) dX12_run_201 rfl (hPo _ _ _ ⟨rfl, v_25, c1_26, s1_27, z1_28, u1_29, cl117, nx117, h_24, ht23, rfl, (by (first | assumption | exact RK_set hk (by omega) (by omega))), (by (first | assumption | exact df_r _ _ _ _ _ _ _)), (by omega), (by first | exact an2_m hnwA (by omega) (by omega) | exact an2_r (by omega)), (by (intro h9; first | (exfalso; omega) | exact ⟨rfl, rfl, rfl, rfl⟩ | exact hnwB h9)), (by (intro h9; first | (exfalso; omega) | exact CNw_eq (hnwC h9) (by rw [← show v117_8 = x6 by omega]; assumption))), (by (first | omega | exact ⟨hnwD, fun h9 => (hnwE h9).trans (by omega)⟩))⟩)
                        · refine r_iconst (pc := 124) (v := iv 0) dX12_run_124 (by decide) ?_
                          refine r_istore (pc := 125) (lv' := [(9, .int (iv 0)), (0, .ref y), (1, .int (iv x1)), (3, .int (iv x3)), (4, .int (iv x4)), (5, .int (iv x5)), (6, .int (iv x6)), (7, .int (iv (sz (Int.toNat x1)))), (8, .int (iv v117_8))]) dX12_run_125 (by decide) rfl ?_
                          have B127 : ∀ k : Nat, ∀ nx127 : Nat → Int64, ∀ hp127 : MH, Tw (RX Γ cI cJ cZ y v_7 cn nm so sz dr mn fr tt wt co nu sa wo ln hw ro qi qc nf nt nw nc cl117 nx127 ie be sd bl bs wy ra rb lb bg os js ls sp jw go de yb ah im) hp127 → ∀  (v127_9 : Int), 0 ≤ v127_9 ∧ v127_9 ≤ 16 ∧ (v127_9 ≤ (sz (Int.toNat x1))) ∧ (eqB nx127 (rnC (Int.toNat (mn (Int.toNat x1))) (dr (Int.toNat x1)) (sh fr (60 * x1)) (sh tt (60 * x1)) (sh wt (60 * x1)) x3 x4 x5 (sj nu (16 * x2)) (Int.toNat v117_8 + 1)) v127_9) → 16 - v127_9 ≤ (k : Int) → Rn (gG D cI cJ cZ cT lo b L xs) mX12_run d 127 [(0, .ref y), (1, .int (iv x1)), (3, .int (iv x3)), (4, .int (iv x4)), (5, .int (iv x5)), (6, .int (iv x6)), (7, .int (iv (sz (Int.toNat x1)))), (8, .int (iv v117_8)), (9, .int (iv v127_9))] [] hp127 n 0 0 Po9 := by
                            refine lpS _ ?_
                            intro k127 ih127 nx127 hp127 ht127 v127_9 hf127 hm127
                            obtain ⟨hf127_0, hf127_1, hf127_2, ha127_3⟩ := hf127
                            refine r_iload (pc := 127) dX12_run_127 rfl ?_
                            refine r_iload (pc := 129) dX12_run_129 rfl ?_
                            refine t_icmp_ge (pc := 131) (tgt := 159) dX12_run_131 (by decide) (by omega) (by omega) (fun c131 => ?_) (fun c131 => ?_)
                            · refine r_iconst (pc := 159) (v := iv 0) dX12_run_159 (by decide) ?_
                              refine r_istore (pc := 160) (lv' := [(9, .int (iv 0)), (0, .ref y), (1, .int (iv x1)), (3, .int (iv x3)), (4, .int (iv x4)), (5, .int (iv x5)), (6, .int (iv x6)), (7, .int (iv (sz (Int.toNat x1)))), (8, .int (iv v117_8))]) dX12_run_160 (by decide) rfl ?_
                              have B162 : ∀ k : Nat, ∀ cl162 : Nat → Int64, ∀ hp162 : MH, Tw (RX Γ cI cJ cZ y v_7 cn nm so sz dr mn fr tt wt co nu sa wo ln hw ro qi qc nf nt nw nc cl162 nx127 ie be sd bl bs wy ra rb lb bg os js ls sp jw go de yb ah im) hp162 → ∀  (v162_9 : Int), 0 ≤ v162_9 ∧ v162_9 ≤ 16 ∧ (v162_9 ≤ (sz (Int.toNat x1))) ∧ (eqB cl162 (rnC (Int.toNat (mn (Int.toNat x1))) (dr (Int.toNat x1)) (sh fr (60 * x1)) (sh tt (60 * x1)) (sh wt (60 * x1)) x3 x4 x5 (sj nu (16 * x2)) (Int.toNat v117_8 + 1)) v162_9) ∧ (eqB nx127 (rnC (Int.toNat (mn (Int.toNat x1))) (dr (Int.toNat x1)) (sh fr (60 * x1)) (sh tt (60 * x1)) (sh wt (60 * x1)) x3 x4 x5 (sj nu (16 * x2)) (Int.toNat v117_8 + 1)) (sz (Int.toNat x1))) → 16 - v162_9 ≤ (k : Int) → Rn (gG D cI cJ cZ cT lo b L xs) mX12_run d 162 [(0, .ref y), (1, .int (iv x1)), (3, .int (iv x3)), (4, .int (iv x4)), (5, .int (iv x5)), (6, .int (iv x6)), (7, .int (iv (sz (Int.toNat x1)))), (8, .int (iv v117_8)), (9, .int (iv v162_9))] [] hp162 n 0 0 Po9 := by
                                refine lpS _ ?_
                                intro k162 ih162 cl162 hp162 ht162 v162_9 hf162 hm162
                                obtain ⟨hf162_0, hf162_1, hf162_2, ha162_3, ha162_4⟩ := hf162
                                refine r_iload (pc := 162) dX12_run_162 rfl ?_
                                refine r_iload (pc := 164) dX12_run_164 rfl ?_
                                refine t_icmp_ge (pc := 166) (tgt := 189) dX12_run_166 (by decide) (by omega) (by omega) (fun c166 => ?_) (fun c166 => ?_)
                                · refine r_iinc (pc := 189) (v := iv (v117_8 + 1)) (lv' := [(8, .int (iv (v117_8 + 1))), (0, .ref y), (1, .int (iv x1)), (3, .int (iv x3)), (4, .int (iv x4)), (5, .int (iv x5)), (6, .int (iv x6)), (7, .int (iv (sz (Int.toNat x1)))), (9, .int (iv v162_9))]) dX12_run_189 rfl (iv_add _ _) (by decide) rfl ?_
                                  refine r_goto (pc := 192) (tgt := 117) dX12_run_192 (by decide) ?_
                                  refine Rn.pick (lv' := [(0, .ref y), (1, .int (iv x1)), (3, .int (iv x3)), (4, .int (iv x4)), (5, .int (iv x5)), (6, .int (iv x6)), (7, .int (iv (sz (Int.toNat x1)))), (8, .int (iv (v117_8 + 1)))]) [1, 2, 3, 4, 5, 6, 7, 0] rfl ?_
                                  exact ih117 (Int.toNat (200 - (v117_8 + 1))) (by omega) cl162 nx127 _ ht162 (v117_8 + 1) ⟨by omega, by omega, by omega, by (first | exact eqB_le (v := v82_8) (by assumption) (by omega) | exact rn_up (v := v162_9) (by assumption) (by omega) (by omega))⟩ (by omega)
                                · refine r_aload_n (pc := 169) dX12_run_169 (i := 0) rfl rfl ?_
                                  refine t_getE (pc := 170) (.ref (y + 21)) ht162 (rd_of RX_y) fX12_72 dX12_run_170 rfl ?_
                                  refine r_iload (pc := 173) dX12_run_173 rfl ?_
                                  refine r_aload_n (pc := 175) dX12_run_175 (i := 0) rfl rfl ?_
                                  refine t_getE (pc := 176) (.ref (y + 22)) ht162 (rd_of RX_y) fX12_75 dX12_run_176 rfl ?_
                                  refine r_iload (pc := 179) dX12_run_179 rfl ?_
                                  refine t_laldX (pc := 181) (t0 := 1) ht162 (rd_of RX_next) dX12_run_181 rfl (by decide) (by omega) ?_
                                  refine t_lastX (pc := 182) (t0 := 1) ht162 RX_column dX12_run_182 rfl (by decide) (by omega) (fun hp30 ht31 => ?_)
                                  have ht32 := RXw_cl ht31
                                  refine r_iinc (pc := 183) (v := iv (v162_9 + 1)) (lv' := [(9, .int (iv (v162_9 + 1))), (0, .ref y), (1, .int (iv x1)), (3, .int (iv x3)), (4, .int (iv x4)), (5, .int (iv x5)), (6, .int (iv x6)), (7, .int (iv (sz (Int.toNat x1)))), (8, .int (iv v117_8))]) dX12_run_183 rfl (iv_add _ _) (by decide) rfl ?_
                                  refine r_goto (pc := 186) (tgt := 162) dX12_run_186 (by decide) ?_
                                  refine Rn.pick (lv' := [(0, .ref y), (1, .int (iv x1)), (3, .int (iv x3)), (4, .int (iv x4)), (5, .int (iv x5)), (6, .int (iv x6)), (7, .int (iv (sz (Int.toNat x1)))), (8, .int (iv v117_8)), (9, .int (iv (v162_9 + 1)))]) [1, 2, 3, 4, 5, 6, 7, 8, 0] rfl ?_
                                  exact ih162 (Int.toNat (16 - (v162_9 + 1))) (by omega) (fuj cl162 (Int.toNat v162_9) (nx127 (Int.toNat v162_9))) _ ht32 (v162_9 + 1) ⟨by omega, by omega, by omega, by (first | exact eqB_0 _ _ | exact eqB_up (by assumption) (by omega) ((show eqB nx127 _ (sz (Int.toNat x1)) by assumption) _ (by omega))), by (first | assumption | exact eqB_le (v := v127_9) (by assumption) (by omega))⟩ (by omega)
                              refine Rn.pick (lv' := [(0, .ref y), (1, .int (iv x1)), (3, .int (iv x3)), (4, .int (iv x4)), (5, .int (iv x5)), (6, .int (iv x6)), (7, .int (iv (sz (Int.toNat x1)))), (8, .int (iv v117_8)), (9, .int (iv 0))]) [1, 2, 3, 4, 5, 6, 7, 8, 0] rfl ?_
                              exact B162 (Int.toNat (16 - 0)) cl117 _ ht127 0 ⟨by omega, by omega, by omega, by (first | exact eqB_0 _ _ | exact eqB_up (by assumption) (by omega) ((show eqB nx127 _ (sz (Int.toNat x1)) by assumption) _ (by omega))), by (first | assumption | exact eqB_le (v := v127_9) (by assumption) (by omega))⟩ (by omega)
                            · refine r_aload_n (pc := 134) dX12_run_134 (i := 0) rfl rfl ?_
                              refine t_getE (pc := 135) (.ref (y + 22)) ht127 (rd_of RX_y) fX12_75 dX12_run_135 rfl ?_
                              refine r_iload (pc := 138) dX12_run_138 rfl ?_
                              refine r_aload_n (pc := 140) dX12_run_140 (i := 0) rfl rfl ?_
                              refine r_iload_n (pc := 141) dX12_run_141 (i := 1) rfl rfl ?_
                              refine r_iload (pc := 142) dX12_run_142 rfl ?_
                              refine r_iload_n (pc := 144) dX12_run_144 (i := 3) rfl rfl ?_
                              refine r_iload (pc := 145) dX12_run_145 rfl ?_
                              refine r_iload (pc := 147) dX12_run_147 rfl ?_
                              obtain ⟨fs37, hfs37⟩ := t_obj ht127 (rd_of RX_y)
                              refine r_callV (pc := 149) (as := [.int (iv x1), .int (iv v127_9), .int (iv x3), .int (iv x4), .int (iv x5)]) (st := [.int (iv v127_9), .ref (y + 22)]) kX12_240 rfl dX12_run_149 hfs37 (x_X12_heard (d := d - 1) (x1 := x1) (x2 := v127_9) (x3 := x3) (x4 := x4) (x5 := x5) (by omega) (by assumption) (by assumption) (by assumption) (by assumption) (by assumption) ht127 (by omega) (by omega) (by omega) (by omega) (by omega) (fun _ _ _ h => h)) rfl (by omega) (Nat.le_of_ble_eq_true rfl) (Nat.zero_le _) (Nat.zero_le _) rfl (fun r34 hp33 n35 hq36 => ?_)
                              obtain ⟨hnn35, q9_39, ht38, hrr34, hhq360⟩ := hq36
                              subst n35 r34
                              have hhq360 : q9_39 = hdV (Int.toNat (mn (Int.toNat x1))) (dr (Int.toNat x1)) (sh fr (60 * x1)) (sh tt (60 * x1)) (sh wt (60 * x1)) x3 x4 x5 cl117 (Int.toNat v127_9) := hhq360
                              change Rn _ _ _ 152 _ [.long q9_39, .int (iv v127_9), .ref (y + 22)] _ _ _ _ _
                              refine t_lastX (pc := 152) (t0 := 1) ht38 RX_next dX12_run_152 rfl (by decide) (by omega) (fun hp40 ht41 => ?_)
                              have ht42 := RXw_nx ht41
                              have hn152 : eqB (fuj nx127 (Int.toNat v127_9) q9_39) (rnC (Int.toNat (mn (Int.toNat x1))) (dr (Int.toNat x1)) (sh fr (60 * x1)) (sh tt (60 * x1)) (sh wt (60 * x1)) x3 x4 x5 (sj nu (16 * x2)) (Int.toNat v117_8 + 1)) (v127_9 + 1) := eqB_up (by assumption) (by omega) (by rw [hhq360]; exact hdV_eq (show eqB cl117 _ _ by assumption) (by omega) hFT)
                              refine r_iinc (pc := 153) (v := iv (v127_9 + 1)) (lv' := [(9, .int (iv (v127_9 + 1))), (0, .ref y), (1, .int (iv x1)), (3, .int (iv x3)), (4, .int (iv x4)), (5, .int (iv x5)), (6, .int (iv x6)), (7, .int (iv (sz (Int.toNat x1)))), (8, .int (iv v117_8))]) dX12_run_153 rfl (iv_add _ _) (by decide) rfl ?_
                              refine r_goto (pc := 156) (tgt := 127) dX12_run_156 (by decide) ?_
                              refine Rn.pick (lv' := [(0, .ref y), (1, .int (iv x1)), (3, .int (iv x3)), (4, .int (iv x4)), (5, .int (iv x5)), (6, .int (iv x6)), (7, .int (iv (sz (Int.toNat x1)))), (8, .int (iv v117_8)), (9, .int (iv (v127_9 + 1)))]) [1, 2, 3, 4, 5, 6, 7, 8, 0] rfl ?_
                              exact ih127 (Int.toNat (16 - (v127_9 + 1))) (by omega) (fuj nx127 (Int.toNat v127_9) q9_39) _ ht42 (v127_9 + 1) ⟨by omega, by omega, by omega, by (first | assumption | exact eqB_0 _ _)⟩ (by omega)
                          refine Rn.pick (lv' := [(0, .ref y), (1, .int (iv x1)), (3, .int (iv x3)), (4, .int (iv x4)), (5, .int (iv x5)), (6, .int (iv x6)), (7, .int (iv (sz (Int.toNat x1)))), (8, .int (iv v117_8)), (9, .int (iv 0))]) [1, 2, 3, 4, 5, 6, 7, 8, 0] rfl ?_
                          exact B127 (Int.toNat (16 - 0)) nx117 _ ht117 0 ⟨by omega, by omega, by omega, by (first | assumption | exact eqB_0 _ _)⟩ (by omega)
                      refine Rn.pick (lv' := [(0, .ref y), (1, .int (iv x1)), (3, .int (iv x3)), (4, .int (iv x4)), (5, .int (iv x5)), (6, .int (iv x6)), (7, .int (iv (sz (Int.toNat x1)))), (8, .int (iv 0))]) [1, 2, 4, 5, 6, 7, 8, 0] rfl ?_
                      exact B117 (Int.toNat (200 - 0)) cl82 nx _ ht82 0 ⟨by omega, by omega, by omega, by (first | exact eqB_le (v := v82_8) (by assumption) (by omega) | exact rn_up (v := v162_9) (by assumption) (by omega) (by omega))⟩ (by omega)
                    · refine r_aload_n (pc := 89) dX12_run_89 (i := 0) rfl rfl ?_
                      refine t_getE (pc := 90) (.ref (y + 21)) ht82 (rd_of RX_y) fX12_72 dX12_run_90 rfl ?_
                      refine r_iload (pc := 93) dX12_run_93 rfl ?_
                      refine r_aload_n (pc := 95) dX12_run_95 (i := 0) rfl rfl ?_
                      refine t_getE (pc := 96) (.ref (y + 9)) ht82 (rd_of RX_y) fX12_35 dX12_run_96 rfl ?_
                      refine r_bipush (pc := 99) (v := iv 16) dX12_run_99 (by decide) ?_
                      refine r_iload_n (pc := 101) dX12_run_101 (i := 2) rfl rfl ?_
                      refine r_imul (pc := 102) (v := iv (16 * x2)) dX12_run_102 (iv_mul _ _) ?_
                      refine r_iload (pc := 103) dX12_run_103 rfl ?_
                      refine r_iadd (pc := 105) (v := iv ((16 * x2) + v82_8)) dX12_run_105 (iv_add _ _) ?_
                      refine t_laldX (pc := 106) (t0 := 1) ht82 (rd_of RX_numbers) dX12_run_106 rfl (by decide) (by omega) ?_
                      refine t_lastX (pc := 107) (t0 := 1) ht82 RX_column dX12_run_107 rfl (by decide) (by omega) (fun hp43 ht44 => ?_)
                      have ht45 := RXw_cl ht44
                      refine r_iinc (pc := 108) (v := iv (v82_8 + 1)) (lv' := [(8, .int (iv (v82_8 + 1))), (0, .ref y), (1, .int (iv x1)), (2, .int (iv x2)), (3, .int (iv x3)), (4, .int (iv x4)), (5, .int (iv x5)), (6, .int (iv x6)), (7, .int (iv (sz (Int.toNat x1))))]) dX12_run_108 rfl (iv_add _ _) (by decide) rfl ?_
                      refine r_goto (pc := 111) (tgt := 82) dX12_run_111 (by decide) ?_
                      refine Rn.pick (lv' := [(0, .ref y), (1, .int (iv x1)), (2, .int (iv x2)), (3, .int (iv x3)), (4, .int (iv x4)), (5, .int (iv x5)), (6, .int (iv x6)), (7, .int (iv (sz (Int.toNat x1)))), (8, .int (iv (v82_8 + 1)))]) [1, 2, 3, 4, 5, 6, 7, 8, 0] rfl ?_
                      exact ih82 (Int.toNat (16 - (v82_8 + 1))) (by omega) (fuj cl82 (Int.toNat v82_8) (nu (Int.toNat ((16 * x2) + v82_8)))) _ ht45 (v82_8 + 1) ⟨by omega, by omega, by omega, by (first | exact eqB_0 _ _ | exact eqB_up (by assumption) (by omega) (sj_at nu (16 * x2) (by omega)))⟩ (by omega)
                  refine Rn.pick (lv' := [(0, .ref y), (1, .int (iv x1)), (2, .int (iv x2)), (3, .int (iv x3)), (4, .int (iv x4)), (5, .int (iv x5)), (6, .int (iv x6)), (7, .int (iv (sz (Int.toNat x1)))), (8, .int (iv 0))]) [2, 3, 4, 5, 6, 7, 8, 1, 0] rfl ?_
                  exact B82 (Int.toNat (16 - 0)) cl _ ht6 0 ⟨by omega, by omega, by omega, by (first | exact eqB_0 _ _ | exact eqB_up (by assumption) (by omega) (sj_at nu (16 * x2) (by omega)))⟩ (by omega)
                · refine Rn.pick (lv' := [(0, .ref y)]) [0] rfl ?_
                  exact B64 _ ht6 (by omega)
  · refine r_aload_n (pc := 11) dX12_run_11 (i := 0) rfl rfl ?_
    refine t_getE (pc := 12) (.int (iv v_7)) ht6 (rd_of RX_y) fX12_142 dX12_run_12 rfl ?_
    exact r_iret (pc := 15) dX12_run_15 rfl (hPo _ _ _ ⟨rfl, v_7, cn, so, sz, nu, cl, nx, v_7, ht6, rfl, (by (first | assumption | exact RK_set hk (by omega) (by omega))), (by (first | assumption | exact df_r _ _ _ _ _ _ _)), (by omega), (by first | exact an2_m hnwA (by omega) (by omega) | exact an2_r (by omega)), (by (intro h9; first | (exfalso; omega) | exact ⟨rfl, rfl, rfl, rfl⟩ | exact hnwB h9)), (by (intro h9; first | (exfalso; omega) | exact CNw_eq (hnwC h9) (by rw [← show v117_8 = x6 by omega]; assumption))), (by (first | omega | exact ⟨hnwD, fun h9 => (hnwE h9).trans (by omega)⟩))⟩)
