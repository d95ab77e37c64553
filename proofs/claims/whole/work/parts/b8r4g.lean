set_option maxHeartbeats 4000000 in
set_option maxRecDepth 100000 in
theorem x_X12_column {D : va_G} {cI cJ cZ cT : ClassId} {lo b L : Nat} {xs : Nat → Int32} {hp : MH} {n d : Nat} {Γ : TG} {y : Nat} {rf cn nm : Int} {so sz dr mn fr tt wt co : Nat → Int} {nu : Nat → Int64} {sa : Nat → Int} {wo : Nat → Int64} {ln : Nat → Int} {hw : Nat → Int64} {ro qi qc nf nt nw nc : Nat → Int} {cl nx : Nat → Int64} {ie be sd bl : Nat → Int} {bs wy ra rb : Nat → Int64} {lb bg os js ls : Nat → Int} {sp : Nat → Int64} {jw go : Nat → Int} {de : Nat → Int64} {yb ah im : Nat → Int} {x1 x2 x3 : Int} {Po9 : Option Value → MH → Nat → Prop} (hd0 : 3 ≤ d) (hk : RK rf cn nm so sz dr mn fr tt wt co nu qi qc nf nt nw nc) (hR_beside : Rfx 16 0 65535 be) (hR_solid : Rfx 65536 0 1 sd) (hR_below : Rfx 65536 0 1 bl) (ht : Tw (RX Γ cI cJ cZ y rf cn nm so sz dr mn fr tt wt co nu sa wo ln hw ro qi qc nf nt nw nc cl nx ie be sd bl bs wy ra rb lb bg os js ls sp jw go de yb ah im) hp) (hx1 : (-2147483648) ≤ x1 ∧ x1 ≤ 2147483647) (hx2 : (-2147483648) ≤ x2 ∧ x2 ≤ 2147483647) (hx3 : (-2147483648) ≤ x3 ∧ x3 ≤ 2147483647) (hPo : ∀ r hp1 n1, (n1 = n ∧ ∃ (rf' : Int) (cn' : Int) (so' : Nat → Int) (sz' : Nat → Int) (nu' : Nat → Int64) (cl' : Nat → Int64) (nx' : Nat → Int64) (ie' : Nat → Int) (be' : Nat → Int) (sd' : Nat → Int) (bl' : Nat → Int) (v' : Int), Tw (RX Γ cI cJ cZ y rf' cn' nm so' sz' dr mn fr tt wt co nu' sa wo ln hw ro qi qc nf nt nw nc cl' nx' ie' be' sd' bl' bs wy ra rb lb bg os js ls sp jw go de yb ah im) hp1 ∧ r = some (.int (iv v')) ∧ (RK rf' cn' nm so' sz' dr mn fr tt wt co nu' qi qc nf nt nw nc) ∧ (dfE sz dr mn fr tt wt co sz' dr mn fr tt wt co) ∧ (-2147483648 ≤ v' ∧ v' ≤ 2147483647) ∧ (v' = an1 cn so x1 1 (x2 < 0 ∨ 6 < x2 ∨ (x2 = 5 ∧ (x3 < 0 ∨ 1000 < x3))) (cn = 120)) ∧ (v' < 0 → SmC cn cn' so sz so' sz' nu nu') ∧ (0 ≤ v' → ∃ f, CNw cn cn' so sz so' sz' nu nu' (sz (Int.toNat x1)) f ∧ ckP (sz (Int.toNat x1)) (mn (Int.toNat x1)) (dr (Int.toNat x1)) (sh fr (60 * x1)) (sh tt (60 * x1)) (sh wt (60 * x1)) x2 x3 f) ∧ ((v' < 0 → rf' = v') ∧ (0 ≤ v' → rf' = 0)) ∧ (Rfx 16 0 65535 be') ∧ (Rfx 65536 0 1 sd') ∧ (Rfx 65536 0 1 bl')) → Po9 r hp1 n1) : Mt (gG D cI cJ cZ cT lo b L xs) mX12_column d 0 0 [.ref y, .int (iv x1), .int (iv x2), .int (iv x3)] hp n Po9 := by
  refine Mt.of rfl (Nat.le_of_ble_eq_true rfl) ?_
  refine Rn.pick (lv' := [(0, .ref y), (1, .int (iv x1)), (2, .int (iv x2)), (3, .int (iv x3))]) [0, 1, 2, 3] rfl ?_
  obtain ⟨hR_sorts, hR_sizes, hR_directs, hR_many, hR_from, hR_to, hR_weight, hR_cost, hR_inPart, hR_partCount, hcn, hrf, hnm, hdf, hgr, hpa, hsz⟩ := id hk
  refine r_aload_n (pc := 0) dX12_column_0 (i := 0) rfl rfl ?_
  refine r_iload_n (pc := 1) dX12_column_1 (i := 1) rfl rfl ?_
  refine r_iconst (pc := 2) (v := iv 1) dX12_column_2 (by decide) ?_
  obtain ⟨fs5, hfs5⟩ := t_obj ht (rd_of RX_y)
  refine r_callV (pc := 3) (as := [.int (iv x1), .int (iv 1)]) (st := []) kX12_183 rfl dX12_column_3 hfs5 (x_X12_has (d := d - 1) (x1 := x1) (x2 := 1) (by omega) (by omega) (by assumption) ht (by omega) (by omega) (fun _ _ _ h => h)) rfl (by omega) (Nat.le_of_ble_eq_true rfl) (Nat.zero_le _) (Nat.zero_le _) rfl (fun r2 hp1 n3 hq4 => ?_)
  obtain ⟨hnn3, v_7, b_8, ht6, hrr2, hhq40, hhq41⟩ := hq4
  subst n3 r2
  have hhq40 : -2 ≤ v_7 ∧ v_7 ≤ 0 ∧ (b_8 = 0 ∨ b_8 = 1) := hhq40
  have hhq41 : (b_8 = 1 ∧ v_7 = 0 ∧ 0 ≤ x1 ∧ x1 < cn ∧ so (Int.toNat x1) = 1) ∨ (b_8 = 0 ∧ v_7 = -1 ∧ ¬ (0 ≤ x1 ∧ x1 < cn)) ∨ (b_8 = 0 ∧ v_7 = -2 ∧ 0 ≤ x1 ∧ x1 < cn ∧ so (Int.toNat x1) ≠ 1) := hhq41
  change Rn _ _ _ 6 _ [.int (iv b_8)] _ _ _ _ _
  refine t_if_ne (pc := 6) (tgt := 14) dX12_column_6 (by decide) (by omega) (fun c6 => ?_) (fun c6 => ?_)
  · have hs6 := Or.resolve_right hhq41 (by omega)
    clear hhq40 hhq41
    have rsz6 := hR_sizes (Int.toNat x1) (by omega)
    have rsy6 := hsz x1 (by omega) (by omega)
    have hen := hgr x1 (by omega) (by omega) (by omega)
    have rmn6 := hR_many (Int.toNat x1) (by omega)
    refine r_iload_n (pc := 14) dX12_column_14 (i := 2) rfl rfl ?_
    have B40 : ∀ hp40 : MH, Tw (RX Γ cI cJ cZ y v_7 cn nm so sz dr mn fr tt wt co nu sa wo ln hw ro qi qc nf nt nw nc cl nx ie be sd bl bs wy ra rb lb bg os js ls sp jw go de yb ah im) hp40 → ((x2 < 0 ∨ 6 < x2 ∨ (x2 = 5 ∧ (x3 < 0 ∨ 1000 < x3)))) → Rn (gG D cI cJ cZ cT lo b L xs) mX12_column d 40 [(0, .ref y)] [] hp40 n 0 0 Po9 := by
      intro hp40 ht40 hf40
      refine r_aload_n (pc := 40) dX12_column_40 (i := 0) rfl rfl ?_
      refine r_bipush (pc := 41) (v := iv (-3)) dX12_column_41 (by decide) ?_
      obtain ⟨fs13, hfs13⟩ := t_obj ht40 (rd_of RX_y)
      refine r_callV (pc := 43) (as := [.int (iv (-3))]) (st := []) kX12_153 rfl dX12_column_43 hfs13 (x_X12_refuse (d := d - 1) (x1 := (-3)) (by omega) ht40 (by omega) (fun _ _ _ h => h)) rfl (by omega) (Nat.le_of_ble_eq_true rfl) (Nat.zero_le _) (Nat.zero_le _) rfl (fun r10 hp9 n11 hq12 => ?_)
      obtain ⟨hnn11, ht14, hrr10⟩ := hq12
      subst n11 r10
      change Rn _ _ _ 46 _ [.int (iv (-3))] _ _ _ _ _
      exact r_iret (pc := 46) dX12_column_46 rfl (hPo _ _ _ ⟨rfl, (-3), cn, so, sz, nu, cl, nx, ie, be, sd, bl, (-3), ht14, rfl, (by (first | assumption | exact RK_set hk (by omega) (by omega))), (by (first | assumption | exact df_r _ _ _ _ _ _ _)), (by omega), (by exact an1_b (by omega) (by omega) (by omega)), (by (intro h9; first | (exfalso; omega) | exact ⟨rfl, rfl, rfl, rfl⟩ | exact hnwB h9)), (by (intro h9; first | (exfalso; omega) | exact ⟨_, hnwC h9, hck⟩)), (by (first | omega | exact ⟨hnwD, fun h9 => (hnwE h9).trans (by omega)⟩)), (by assumption), (by assumption), (by assumption)⟩)
    refine t_if_lt (pc := 15) (tgt := 40) dX12_column_15 (by decide) (by omega) (fun c15 => ?_) (fun c15 => ?_)
    · refine Rn.pick (lv' := [(0, .ref y)]) [0] rfl ?_
      exact B40 _ ht6 (by omega)
    · refine r_iload_n (pc := 18) dX12_column_18 (i := 2) rfl rfl ?_
      refine r_bipush (pc := 19) (v := iv 6) dX12_column_19 (by decide) ?_
      refine t_icmp_gt (pc := 21) (tgt := 40) dX12_column_21 (by decide) (by omega) (by omega) (fun c21 => ?_) (fun c21 => ?_)
      · refine Rn.pick (lv' := [(0, .ref y)]) [0] rfl ?_
        exact B40 _ ht6 (by omega)
      · refine r_iload_n (pc := 24) dX12_column_24 (i := 2) rfl rfl ?_
        refine r_iconst (pc := 25) (v := iv 5) dX12_column_25 (by decide) ?_
        have B47 : ∀ hp47 : MH, Tw (RX Γ cI cJ cZ y v_7 cn nm so sz dr mn fr tt wt co nu sa wo ln hw ro qi qc nf nt nw nc cl nx ie be sd bl bs wy ra rb lb bg os js ls sp jw go de yb ah im) hp47 → (x2 = 5 → 0 ≤ x3 ∧ x3 ≤ 1000) ∧ (0 ≤ x2) ∧ (x2 ≤ 6) → Rn (gG D cI cJ cZ cT lo b L xs) mX12_column d 47 [(0, .ref y), (1, .int (iv x1)), (2, .int (iv x2)), (3, .int (iv x3))] [] hp47 n 0 0 Po9 := by
          intro hp47 ht47 hf47
          refine r_aload_n (pc := 47) dX12_column_47 (i := 0) rfl rfl ?_
          refine t_getE (pc := 48) (.ref (y + 2)) ht47 (rd_of RX_y) fX12_13 dX12_column_48 rfl ?_
          refine r_iload_n (pc := 51) dX12_column_51 (i := 1) rfl rfl ?_
          refine t_ialdX (pc := 52) (t0 := 0) ht47 (rd_of RX_sizes) dX12_column_52 rfl (by decide) (by omega) (fun b15 => ?_)
          have rb15 := (show Rfx 121 0 16 sz by assumption) (Int.toNat x1) (by omega)
          refine r_istore (pc := 53) (lv' := [(4, .int (iv (sz (Int.toNat x1)))), (0, .ref y), (1, .int (iv x1)), (2, .int (iv x2)), (3, .int (iv x3))]) dX12_column_53 (by decide) rfl ?_
          have hFT := enF hen.2 (by assumption) (by assumption) (by omega) (by omega)
          refine r_iconst (pc := 55) (v := iv 0) dX12_column_55 (by decide) ?_
          refine r_istore (pc := 56) (lv' := [(5, .int (iv 0)), (4, .int (iv (sz (Int.toNat x1)))), (0, .ref y), (1, .int (iv x1)), (2, .int (iv x2)), (3, .int (iv x3))]) dX12_column_56 (by decide) rfl ?_
          have B58 : ∀ k : Nat, ∀ cl58 : Nat → Int64, ∀ hp58 : MH, Tw (RX Γ cI cJ cZ y v_7 cn nm so sz dr mn fr tt wt co nu sa wo ln hw ro qi qc nf nt nw nc cl58 nx ie be sd bl bs wy ra rb lb bg os js ls sp jw go de yb ah im) hp58 → ∀  (v58_5 : Int), 0 ≤ v58_5 ∧ v58_5 ≤ 16 ∧ (v58_5 ≤ (sz (Int.toNat x1))) ∧ (eqB cl58 (fun _ => if x2 = 5 then 1 else 0) v58_5) → 16 - v58_5 ≤ (k : Int) → Rn (gG D cI cJ cZ cT lo b L xs) mX12_column d 58 [(0, .ref y), (1, .int (iv x1)), (2, .int (iv x2)), (3, .int (iv x3)), (4, .int (iv (sz (Int.toNat x1)))), (5, .int (iv v58_5))] [] hp58 n 0 0 Po9 := by
            refine lpS _ ?_
            intro k58 ih58 cl58 hp58 ht58 v58_5 hf58 hm58
            obtain ⟨hf58_0, hf58_1, hf58_2, ha58_3⟩ := hf58
            refine r_iload (pc := 58) dX12_column_58 rfl ?_
            refine r_iload (pc := 60) dX12_column_60 rfl ?_
            refine t_icmp_ge (pc := 62) (tgt := 88) dX12_column_62 (by decide) (by omega) (by omega) (fun c62 => ?_) (fun c62 => ?_)
            · refine r_iload_n (pc := 88) dX12_column_88 (i := 2) rfl rfl ?_
              refine r_iconst (pc := 89) (v := iv 3) dX12_column_89 (by decide) ?_
              refine t_icmp_ge (pc := 90) (tgt := 102) dX12_column_90 (by decide) (by omega) (by omega) (fun c90 => ?_) (fun c90 => ?_)
              · refine r_iload_n (pc := 102) dX12_column_102 (i := 2) rfl rfl ?_
                refine r_iconst (pc := 103) (v := iv 3) dX12_column_103 (by decide) ?_
                refine t_icmp_ne (pc := 104) (tgt := 115) dX12_column_104 (by decide) (by omega) (by omega) (fun c104 => ?_) (fun c104 => ?_)
                · refine r_iload_n (pc := 115) dX12_column_115 (i := 2) rfl rfl ?_
                  refine r_iconst (pc := 116) (v := iv 4) dX12_column_116 (by decide) ?_
                  refine t_icmp_ne (pc := 117) (tgt := 128) dX12_column_117 (by decide) (by omega) (by omega) (fun c117 => ?_) (fun c117 => ?_)
                  · refine r_iload_n (pc := 128) dX12_column_128 (i := 2) rfl rfl ?_
                    refine r_iconst (pc := 129) (v := iv 5) dX12_column_129 (by decide) ?_
                    refine t_icmp_ne (pc := 130) (tgt := 142) dX12_column_130 (by decide) (by omega) (by omega) (fun c130 => ?_) (fun c130 => ?_)
                    · refine r_aload_n (pc := 142) dX12_column_142 (i := 0) rfl rfl ?_
                      refine r_iload_n (pc := 143) dX12_column_143 (i := 1) rfl rfl ?_
                      have h0c : eqB cl58 (fun _ => 0) (sz (Int.toNat x1)) := eqB_le (v := v58_5) (by have h8 : eqB cl58 (fun _ => if x2 = 5 then 1 else 0) v58_5 := (by assumption); rw [if_neg (by omega)] at h8; exact h8) (by omega)
                      have hEn : enP fr tt mn sz x1 := hen.2
                      obtain ⟨fs20, hfs20⟩ := t_obj ht58 (rd_of RX_y)
                      refine r_callV (pc := 144) (as := [.int (iv x1)]) (st := []) kX12_225 rfl dX12_column_144 hfs20 (x_X12_blocks (d := d - 1) (x1 := x1) (by omega) (by assumption) (by assumption) (by assumption) (by assumption) (by assumption) (by assumption) (by assumption) ht58 (by omega) (by assumption) (by assumption) (by omega) (fun _ _ _ h => h)) rfl (by omega) (Nat.le_of_ble_eq_true rfl) (Nat.zero_le _) (Nat.zero_le _) rfl (fun r17 hp16 n18 hq19 => ?_)
                      obtain ⟨hnn18, k1_22, b1_23, d1_24, e1_25, ht21, hrr17, hhq190, hhq191, hhq192, hhq193, hhq194⟩ := hq19
                      subst n18 r17
                      have hhq190 : Rfx 16 0 65535 b1_23 := hhq190
                      have hhq191 : Rfx 65536 0 1 d1_24 := hhq191
                      have hhq192 : Rfx 65536 0 1 e1_25 := hhq192
                      have hhq193 : jbP b1_23 (Int.toNat (mn (Int.toNat x1))) (sh fr (60 * x1)) (sh tt (60 * x1)) (fun k => (k : Int) ≠ -1) := hhq193
                      have hhq194 : ∀ u : Nat, (u : Int) < (sz (Int.toNat x1)) → (k1_22 u).toInt = (cnP (bkP (JB b1_23) (Int.toNat (sz (Int.toNat x1))) u) (2 ^ (Int.toNat (sz (Int.toNat x1)))) : Int) := hhq194
                      change Rn _ _ _ 147 _ [] _ _ _ _ _
                      have ejb := jb_eq hhq193 hFT (by omega)
                      have hck : ckP (sz (Int.toNat x1)) (mn (Int.toNat x1)) (dr (Int.toNat x1)) (sh fr (60 * x1)) (sh tt (60 * x1)) (sh wt (60 * x1)) x2 x3 k1_22 := ⟨fun h9 => by omega, fun h9 => by omega, fun h9 => by omega, fun h9 => by omega, fun _ v hv => (by rw [← ejb]; exact hhq194 v hv)⟩
                      refine r_aload_n (pc := 147) dX12_column_147 (i := 0) rfl rfl ?_
                      refine r_iload (pc := 148) dX12_column_148 rfl ?_
                      obtain ⟨fs30, hfs30⟩ := t_obj ht21 (rd_of RX_y)
                      refine r_callV (pc := 150) (as := [.int (iv (sz (Int.toNat x1)))]) (st := []) kX12_228 rfl dX12_column_150 hfs30 (x_X12_madeColumn (d := d - 1) (x1 := sz (Int.toNat x1)) (by omega) (by omega) (by assumption) (by omega) (by assumption) ht21 (by omega) (fun _ _ _ h => h)) rfl (by omega) (Nat.le_of_ble_eq_true rfl) (Nat.zero_le _) (Nat.zero_le _) rfl (fun r27 hp26 n28 hq29 => ?_)
                      obtain ⟨hnn28, h_32, v_33, c1_34, s1_35, z1_36, u1_37, ht31, hrr27, hhq290, hhq291, hhq292, hhq293, hhq294, hhq295⟩ := hq29
                      subst n28 r27
                      have hhq290 : cn = 120 → h_32 = -4 ∧ v_33 = -4 ∧ c1_34 = cn := hhq290
                      have hhq291 : cn = 120 → s1_35 = so ∧ z1_36 = sz := hhq291
                      have hhq292 : cn < 120 → h_32 = cn ∧ v_33 = v_7 ∧ c1_34 = cn + 1 := hhq292
                      have hhq293 : cn < 120 → s1_35 = fup so (Int.toNat cn) 2 ∧ z1_36 = fup sz (Int.toNat cn) (sz (Int.toNat x1)) := hhq293
                      have hhq294 : cn = 120 → u1_37 = nu := hhq294
                      have hhq295 : cn < 120 → u1_37 = kjF k1_22 nu (Int.toNat (16 * cn)) (Int.toNat (sz (Int.toNat x1))) := hhq295
                      change Rn _ _ _ 153 _ [.int (iv h_32)] _ _ _ _ _
                      obtain ⟨hRKm, hDFm, hhm⟩ := RK_col (nu := nu) (x1 := sz (Int.toNat x1)) (u1 := u1_37) (RK_set (nf1 := nf) (nt1 := nt) (nw1 := nw) (nc1 := nc) hk (by omega) (by omega)) (by omega) hhq290 hhq291 hhq292 hhq293
                      obtain ⟨hnwA, hnwB, hnwC, hnwD, hnwE⟩ := mk_col (x1 := sz (Int.toNat x1)) (by omega) (by omega) hhq290 hhq291 hhq292 hhq293 hhq294 hhq295
                      clear hhq290 hhq291 hhq292 hhq293 hhq294 hhq295
                      exact r_iret (pc := 153) dX12_column_153 rfl (hPo _ _ _ ⟨rfl, v_33, c1_34, s1_35, z1_36, u1_37, k1_22, nx, ie, b1_23, d1_24, e1_25, h_32, ht31, rfl, (by (first | assumption | exact RK_set hk (by omega) (by omega))), (by (first | assumption | exact df_r _ _ _ _ _ _ _)), (by omega), (by first | exact an1_m hnwA (by omega) (by omega) | exact an1_r (by omega)), (by (intro h9; first | (exfalso; omega) | exact ⟨rfl, rfl, rfl, rfl⟩ | exact hnwB h9)), (by (intro h9; first | (exfalso; omega) | exact ⟨_, hnwC h9, hck⟩)), (by (first | omega | exact ⟨hnwD, fun h9 => (hnwE h9).trans (by omega)⟩)), (by assumption), (by assumption), (by assumption)⟩)
                    · refine r_aload_n (pc := 133) dX12_column_133 (i := 0) rfl rfl ?_
                      refine r_iload_n (pc := 134) dX12_column_134 (i := 1) rfl rfl ?_
                      refine r_iload_n (pc := 135) dX12_column_135 (i := 3) rfl rfl ?_
                      have h1c : eqB cl58 (fun _ => 1) (sz (Int.toNat x1)) := eqB_le (v := v58_5) (by have h8 : eqB cl58 (fun _ => if x2 = 5 then 1 else 0) v58_5 := (by assumption); rw [if_pos (by omega)] at h8; exact h8) (by omega)
                      have hEn : enP fr tt mn sz x1 := hen.2
                      obtain ⟨fs42, hfs42⟩ := t_obj ht58 (rd_of RX_y)
                      refine r_callV (pc := 136) (as := [.int (iv x1), .int (iv x3)]) (st := []) kX12_222 rfl dX12_column_136 hfs42 (x_X12_walks (d := d - 1) (x1 := x1) (x2 := x3) (by omega) (by assumption) (by assumption) (by assumption) (by assumption) (by assumption) ht58 (by omega) (by omega) (by assumption) (by assumption) (fun _ _ _ h => h)) rfl (by omega) (Nat.le_of_ble_eq_true rfl) (Nat.zero_le _) (Nat.zero_le _) rfl (fun r39 hp38 n40 hq41 => ?_)
                      obtain ⟨hnn40, k1_44, n1_45, ht43, hrr39, hhq410⟩ := hq41
                      subst n40 r39
                      have hhq410 : eqB k1_44 (wkC (Int.toNat (mn (Int.toNat x1))) (dr (Int.toNat x1)) (sh fr (60 * x1)) (sh tt (60 * x1)) (Int.toNat x3)) (sz (Int.toNat x1)) := hhq410
                      change Rn _ _ _ 139 _ [] _ _ _ _ _
                      have hck : ckP (sz (Int.toNat x1)) (mn (Int.toNat x1)) (dr (Int.toNat x1)) (sh fr (60 * x1)) (sh tt (60 * x1)) (sh wt (60 * x1)) x2 x3 k1_44 := ⟨fun h9 => by omega, fun h9 => by omega, fun h9 => by omega, fun _ => hhq410, fun h9 => by omega⟩
                      refine r_goto (pc := 139) (tgt := 147) dX12_column_139 (by decide) ?_
                      refine r_aload_n (pc := 147) dX12_column_147 (i := 0) rfl rfl ?_
                      refine r_iload (pc := 148) dX12_column_148 rfl ?_
                      obtain ⟨fs50, hfs50⟩ := t_obj ht43 (rd_of RX_y)
                      refine r_callV (pc := 150) (as := [.int (iv (sz (Int.toNat x1)))]) (st := []) kX12_228 rfl dX12_column_150 hfs50 (x_X12_madeColumn (d := d - 1) (x1 := sz (Int.toNat x1)) (by omega) (by omega) (by assumption) (by omega) (by assumption) ht43 (by omega) (fun _ _ _ h => h)) rfl (by omega) (Nat.le_of_ble_eq_true rfl) (Nat.zero_le _) (Nat.zero_le _) rfl (fun r47 hp46 n48 hq49 => ?_)
                      obtain ⟨hnn48, h_52, v_53, c1_54, s1_55, z1_56, u1_57, ht51, hrr47, hhq490, hhq491, hhq492, hhq493, hhq494, hhq495⟩ := hq49
                      subst n48 r47
                      have hhq490 : cn = 120 → h_52 = -4 ∧ v_53 = -4 ∧ c1_54 = cn := hhq490
                      have hhq491 : cn = 120 → s1_55 = so ∧ z1_56 = sz := hhq491
                      have hhq492 : cn < 120 → h_52 = cn ∧ v_53 = v_7 ∧ c1_54 = cn + 1 := hhq492
                      have hhq493 : cn < 120 → s1_55 = fup so (Int.toNat cn) 2 ∧ z1_56 = fup sz (Int.toNat cn) (sz (Int.toNat x1)) := hhq493
                      have hhq494 : cn = 120 → u1_57 = nu := hhq494
                      have hhq495 : cn < 120 → u1_57 = kjF k1_44 nu (Int.toNat (16 * cn)) (Int.toNat (sz (Int.toNat x1))) := hhq495
                      change Rn _ _ _ 153 _ [.int (iv h_52)] _ _ _ _ _
                      obtain ⟨hRKm, hDFm, hhm⟩ := RK_col (nu := nu) (x1 := sz (Int.toNat x1)) (u1 := u1_57) (RK_set (nf1 := nf) (nt1 := nt) (nw1 := nw) (nc1 := nc) hk (by omega) (by omega)) (by omega) hhq490 hhq491 hhq492 hhq493
                      obtain ⟨hnwA, hnwB, hnwC, hnwD, hnwE⟩ := mk_col (x1 := sz (Int.toNat x1)) (by omega) (by omega) hhq490 hhq491 hhq492 hhq493 hhq494 hhq495
                      clear hhq490 hhq491 hhq492 hhq493 hhq494 hhq495
                      exact r_iret (pc := 153) dX12_column_153 rfl (hPo _ _ _ ⟨rfl, v_53, c1_54, s1_55, z1_56, u1_57, k1_44, n1_45, ie, be, sd, bl, h_52, ht51, rfl, (by (first | assumption | exact RK_set hk (by omega) (by omega))), (by (first | assumption | exact df_r _ _ _ _ _ _ _)), (by omega), (by first | exact an1_m hnwA (by omega) (by omega) | exact an1_r (by omega)), (by (intro h9; first | (exfalso; omega) | exact ⟨rfl, rfl, rfl, rfl⟩ | exact hnwB h9)), (by (intro h9; first | (exfalso; omega) | exact ⟨_, hnwC h9, hck⟩)), (by (first | omega | exact ⟨hnwD, fun h9 => (hnwE h9).trans (by omega)⟩)), (by assumption), (by assumption), (by assumption)⟩)
                  · refine r_aload_n (pc := 120) dX12_column_120 (i := 0) rfl rfl ?_
                    refine r_iload_n (pc := 121) dX12_column_121 (i := 1) rfl rfl ?_
                    have h0c : eqB cl58 (fun _ => 0) (sz (Int.toNat x1)) := eqB_le (v := v58_5) (by have h8 : eqB cl58 (fun _ => if x2 = 5 then 1 else 0) v58_5 := (by assumption); rw [if_neg (by omega)] at h8; exact h8) (by omega)
                    have hEn : enP fr tt mn sz x1 := hen.2
                    obtain ⟨fs62, hfs62⟩ := t_obj ht58 (rd_of RX_y)
                    refine r_callV (pc := 122) (as := [.int (iv x1)]) (st := []) kX12_219 rfl dX12_column_122 hfs62 (x_X12_farthest (d := d - 1) (x1 := x1) (by omega) (by assumption) (by assumption) (by assumption) (by assumption) (by assumption) ht58 (by omega) (by assumption) (by assumption) (fun _ _ _ h => h)) rfl (by omega) (Nat.le_of_ble_eq_true rfl) (Nat.zero_le _) (Nat.zero_le _) rfl (fun r59 hp58 n60 hq61 => ?_)
                    obtain ⟨hnn60, k1_64, ht63, hrr59, hhq610⟩ := hq61
                    subst n60 r59
                    have hhq610 : fcP (stP (Int.toNat (mn (Int.toNat x1))) (dr (Int.toNat x1)) (sh fr (60 * x1)) (sh tt (60 * x1))) (sz (Int.toNat x1)) (sz (Int.toNat x1)) k1_64 := hhq610
                    change Rn _ _ _ 125 _ [] _ _ _ _ _
                    have hck : ckP (sz (Int.toNat x1)) (mn (Int.toNat x1)) (dr (Int.toNat x1)) (sh fr (60 * x1)) (sh tt (60 * x1)) (sh wt (60 * x1)) x2 x3 k1_64 := ⟨fun h9 => by omega, fun h9 => by omega, fun _ v hv => (hhq610).1 v hv, fun h9 => by omega, fun h9 => by omega⟩
                    refine r_goto (pc := 125) (tgt := 147) dX12_column_125 (by decide) ?_
                    refine r_aload_n (pc := 147) dX12_column_147 (i := 0) rfl rfl ?_
                    refine r_iload (pc := 148) dX12_column_148 rfl ?_
                    obtain ⟨fs69, hfs69⟩ := t_obj ht63 (rd_of RX_y)
                    refine r_callV (pc := 150) (as := [.int (iv (sz (Int.toNat x1)))]) (st := []) kX12_228 rfl dX12_column_150 hfs69 (x_X12_madeColumn (d := d - 1) (x1 := sz (Int.toNat x1)) (by omega) (by omega) (by assumption) (by omega) (by assumption) ht63 (by omega) (fun _ _ _ h => h)) rfl (by omega) (Nat.le_of_ble_eq_true rfl) (Nat.zero_le _) (Nat.zero_le _) rfl (fun r66 hp65 n67 hq68 => ?_)
                    obtain ⟨hnn67, h_71, v_72, c1_73, s1_74, z1_75, u1_76, ht70, hrr66, hhq680, hhq681, hhq682, hhq683, hhq684, hhq685⟩ := hq68
                    subst n67 r66
                    have hhq680 : cn = 120 → h_71 = -4 ∧ v_72 = -4 ∧ c1_73 = cn := hhq680
                    have hhq681 : cn = 120 → s1_74 = so ∧ z1_75 = sz := hhq681
                    have hhq682 : cn < 120 → h_71 = cn ∧ v_72 = v_7 ∧ c1_73 = cn + 1 := hhq682
                    have hhq683 : cn < 120 → s1_74 = fup so (Int.toNat cn) 2 ∧ z1_75 = fup sz (Int.toNat cn) (sz (Int.toNat x1)) := hhq683
                    have hhq684 : cn = 120 → u1_76 = nu := hhq684
                    have hhq685 : cn < 120 → u1_76 = kjF k1_64 nu (Int.toNat (16 * cn)) (Int.toNat (sz (Int.toNat x1))) := hhq685
                    change Rn _ _ _ 153 _ [.int (iv h_71)] _ _ _ _ _
                    obtain ⟨hRKm, hDFm, hhm⟩ := RK_col (nu := nu) (x1 := sz (Int.toNat x1)) (u1 := u1_76) (RK_set (nf1 := nf) (nt1 := nt) (nw1 := nw) (nc1 := nc) hk (by omega) (by omega)) (by omega) hhq680 hhq681 hhq682 hhq683
                    obtain ⟨hnwA, hnwB, hnwC, hnwD, hnwE⟩ := mk_col (x1 := sz (Int.toNat x1)) (by omega) (by omega) hhq680 hhq681 hhq682 hhq683 hhq684 hhq685
                    clear hhq680 hhq681 hhq682 hhq683 hhq684 hhq685
                    exact r_iret (pc := 153) dX12_column_153 rfl (hPo _ _ _ ⟨rfl, v_72, c1_73, s1_74, z1_75, u1_76, k1_64, nx, ie, be, sd, bl, h_71, ht70, rfl, (by (first | assumption | exact RK_set hk (by omega) (by omega))), (by (first | assumption | exact df_r _ _ _ _ _ _ _)), (by omega), (by first | exact an1_m hnwA (by omega) (by omega) | exact an1_r (by omega)), (by (intro h9; first | (exfalso; omega) | exact ⟨rfl, rfl, rfl, rfl⟩ | exact hnwB h9)), (by (intro h9; first | (exfalso; omega) | exact ⟨_, hnwC h9, hck⟩)), (by (first | omega | exact ⟨hnwD, fun h9 => (hnwE h9).trans (by omega)⟩)), (by assumption), (by assumption), (by assumption)⟩)
                · refine r_aload_n (pc := 107) dX12_column_107 (i := 0) rfl rfl ?_
                  refine r_iload_n (pc := 108) dX12_column_108 (i := 1) rfl rfl ?_
                  have h0c : eqB cl58 (fun _ => 0) (sz (Int.toNat x1)) := eqB_le (v := v58_5) (by have h8 : eqB cl58 (fun _ => if x2 = 5 then 1 else 0) v58_5 := (by assumption); rw [if_neg (by omega)] at h8; exact h8) (by omega)
                  have hEn : enP fr tt mn sz x1 := hen.2
                  obtain ⟨fs81, hfs81⟩ := t_obj ht58 (rd_of RX_y)
                  refine r_callV (pc := 109) (as := [.int (iv x1)]) (st := []) kX12_216 rfl dX12_column_109 hfs81 (x_X12_cores (d := d - 1) (x1 := x1) (by omega) (by assumption) (by assumption) (by assumption) (by assumption) ht58 (by omega) (by assumption) (by assumption) (fun _ _ _ h => h)) rfl (by omega) (Nat.le_of_ble_eq_true rfl) (Nat.zero_le _) (Nat.zero_le _) rfl (fun r78 hp77 n79 hq80 => ?_)
                  obtain ⟨hnn79, k1_83, i1_84, ht82, hrr78, hhq800⟩ := hq80
                  subst n79 r78
                  have hhq800 : csP (Int.toNat (mn (Int.toNat x1))) (sh fr (60 * x1)) (sh tt (60 * x1)) (sz (Int.toNat x1)) ((2 ^ Int.toNat (sz (Int.toNat x1)) : Nat) : Int) k1_83 := hhq800
                  change Rn _ _ _ 112 _ [] _ _ _ _ _
                  have hck : ckP (sz (Int.toNat x1)) (mn (Int.toNat x1)) (dr (Int.toNat x1)) (sh fr (60 * x1)) (sh tt (60 * x1)) (sh wt (60 * x1)) x2 x3 k1_83 := ⟨fun h9 => by omega, fun _ v hv => cs_co (hhq800 v hv) (by omega), fun h9 => by omega, fun h9 => by omega, fun h9 => by omega⟩
                  refine r_goto (pc := 112) (tgt := 147) dX12_column_112 (by decide) ?_
                  refine r_aload_n (pc := 147) dX12_column_147 (i := 0) rfl rfl ?_
                  refine r_iload (pc := 148) dX12_column_148 rfl ?_
                  obtain ⟨fs89, hfs89⟩ := t_obj ht82 (rd_of RX_y)
                  refine r_callV (pc := 150) (as := [.int (iv (sz (Int.toNat x1)))]) (st := []) kX12_228 rfl dX12_column_150 hfs89 (x_X12_madeColumn (d := d - 1) (x1 := sz (Int.toNat x1)) (by omega) (by omega) (by assumption) (by omega) (by assumption) ht82 (by omega) (fun _ _ _ h => h)) rfl (by omega) (Nat.le_of_ble_eq_true rfl) (Nat.zero_le _) (Nat.zero_le _) rfl (fun r86 hp85 n87 hq88 => ?_)
                  obtain ⟨hnn87, h_91, v_92, c1_93, s1_94, z1_95, u1_96, ht90, hrr86, hhq880, hhq881, hhq882, hhq883, hhq884, hhq885⟩ := hq88
                  subst n87 r86
                  have hhq880 : cn = 120 → h_91 = -4 ∧ v_92 = -4 ∧ c1_93 = cn := hhq880
                  have hhq881 : cn = 120 → s1_94 = so ∧ z1_95 = sz := hhq881
                  have hhq882 : cn < 120 → h_91 = cn ∧ v_92 = v_7 ∧ c1_93 = cn + 1 := hhq882
                  have hhq883 : cn < 120 → s1_94 = fup so (Int.toNat cn) 2 ∧ z1_95 = fup sz (Int.toNat cn) (sz (Int.toNat x1)) := hhq883
                  have hhq884 : cn = 120 → u1_96 = nu := hhq884
                  have hhq885 : cn < 120 → u1_96 = kjF k1_83 nu (Int.toNat (16 * cn)) (Int.toNat (sz (Int.toNat x1))) := hhq885
                  change Rn _ _ _ 153 _ [.int (iv h_91)] _ _ _ _ _
                  obtain ⟨hRKm, hDFm, hhm⟩ := RK_col (nu := nu) (x1 := sz (Int.toNat x1)) (u1 := u1_96) (RK_set (nf1 := nf) (nt1 := nt) (nw1 := nw) (nc1 := nc) hk (by omega) (by omega)) (by omega) hhq880 hhq881 hhq882 hhq883
                  obtain ⟨hnwA, hnwB, hnwC, hnwD, hnwE⟩ := mk_col (x1 := sz (Int.toNat x1)) (by omega) (by omega) hhq880 hhq881 hhq882 hhq883 hhq884 hhq885
                  clear hhq880 hhq881 hhq882 hhq883 hhq884 hhq885
                  exact r_iret (pc := 153) dX12_column_153 rfl (hPo _ _ _ ⟨rfl, v_92, c1_93, s1_94, z1_95, u1_96, k1_83, nx, i1_84, be, sd, bl, h_91, ht90, rfl, (by (first | assumption | exact RK_set hk (by omega) (by omega))), (by (first | assumption | exact df_r _ _ _ _ _ _ _)), (by omega), (by first | exact an1_m hnwA (by omega) (by omega) | exact an1_r (by omega)), (by (intro h9; first | (exfalso; omega) | exact ⟨rfl, rfl, rfl, rfl⟩ | exact hnwB h9)), (by (intro h9; first | (exfalso; omega) | exact ⟨_, hnwC h9, hck⟩)), (by (first | omega | exact ⟨hnwD, fun h9 => (hnwE h9).trans (by omega)⟩)), (by assumption), (by assumption), (by assumption)⟩)
              · refine r_aload_n (pc := 93) dX12_column_93 (i := 0) rfl rfl ?_
                refine r_iload_n (pc := 94) dX12_column_94 (i := 1) rfl rfl ?_
                refine r_iload_n (pc := 95) dX12_column_95 (i := 2) rfl rfl ?_
                have h0c : eqB cl58 (fun _ => 0) (sz (Int.toNat x1)) := eqB_le (v := v58_5) (by have h8 : eqB cl58 (fun _ => if x2 = 5 then 1 else 0) v58_5 := (by assumption); rw [if_neg (by omega)] at h8; exact h8) (by omega)
                have hEn : enP fr tt mn sz x1 := hen.2
                obtain ⟨fs101, hfs101⟩ := t_obj ht58 (rd_of RX_y)
                refine r_callV (pc := 96) (as := [.int (iv x1), .int (iv x2)]) (st := []) kX12_213 rfl dX12_column_96 hfs101 (x_X12_degrees (d := d - 1) (x1 := x1) (x2 := x2) (by omega) (by assumption) (by assumption) (by assumption) (by assumption) (by assumption) ht58 (by omega) (by omega) (fun _ _ _ h => h)) rfl (by omega) (Nat.le_of_ble_eq_true rfl) (Nat.zero_le _) (Nat.zero_le _) rfl (fun r98 hp97 n99 hq100 => ?_)
                obtain ⟨hnn99, k1_103, ht102, hrr98, hhq1000⟩ := hq100
                subst n99 r98
                have hhq1000 : k1_103 = dgF x2 (dr (Int.toNat x1)) (sh fr (60 * x1)) (sh tt (60 * x1)) (sh wt (60 * x1)) cl58 (Int.toNat (mn (Int.toNat x1))) := hhq1000
                change Rn _ _ _ 99 _ [] _ _ _ _ _
                have hck : ckP (sz (Int.toNat x1)) (mn (Int.toNat x1)) (dr (Int.toNat x1)) (sh fr (60 * x1)) (sh tt (60 * x1)) (sh wt (60 * x1)) x2 x3 k1_103 := ⟨fun _ => (by rw [hhq1000]; exact dgF_eq h0c hFT), fun h9 => by omega, fun h9 => by omega, fun h9 => by omega, fun h9 => by omega⟩
                refine r_goto (pc := 99) (tgt := 147) dX12_column_99 (by decide) ?_
                refine r_aload_n (pc := 147) dX12_column_147 (i := 0) rfl rfl ?_
                refine r_iload (pc := 148) dX12_column_148 rfl ?_
                obtain ⟨fs108, hfs108⟩ := t_obj ht102 (rd_of RX_y)
                refine r_callV (pc := 150) (as := [.int (iv (sz (Int.toNat x1)))]) (st := []) kX12_228 rfl dX12_column_150 hfs108 (x_X12_madeColumn (d := d - 1) (x1 := sz (Int.toNat x1)) (by omega) (by omega) (by assumption) (by omega) (by assumption) ht102 (by omega) (fun _ _ _ h => h)) rfl (by omega) (Nat.le_of_ble_eq_true rfl) (Nat.zero_le _) (Nat.zero_le _) rfl (fun r105 hp104 n106 hq107 => ?_)
                obtain ⟨hnn106, h_110, v_111, c1_112, s1_113, z1_114, u1_115, ht109, hrr105, hhq1070, hhq1071, hhq1072, hhq1073, hhq1074, hhq1075⟩ := hq107
                subst n106 r105
                have hhq1070 : cn = 120 → h_110 = -4 ∧ v_111 = -4 ∧ c1_112 = cn := hhq1070
                have hhq1071 : cn = 120 → s1_113 = so ∧ z1_114 = sz := hhq1071
                have hhq1072 : cn < 120 → h_110 = cn ∧ v_111 = v_7 ∧ c1_112 = cn + 1 := hhq1072
                have hhq1073 : cn < 120 → s1_113 = fup so (Int.toNat cn) 2 ∧ z1_114 = fup sz (Int.toNat cn) (sz (Int.toNat x1)) := hhq1073
                have hhq1074 : cn = 120 → u1_115 = nu := hhq1074
                have hhq1075 : cn < 120 → u1_115 = kjF k1_103 nu (Int.toNat (16 * cn)) (Int.toNat (sz (Int.toNat x1))) := hhq1075
                change Rn _ _ _ 153 _ [.int (iv h_110)] _ _ _ _ _
                obtain ⟨hRKm, hDFm, hhm⟩ := RK_col (nu := nu) (x1 := sz (Int.toNat x1)) (u1 := u1_115) (RK_set (nf1 := nf) (nt1 := nt) (nw1 := nw) (nc1 := nc) hk (by omega) (by omega)) (by omega) hhq1070 hhq1071 hhq1072 hhq1073
                obtain ⟨hnwA, hnwB, hnwC, hnwD, hnwE⟩ := mk_col (x1 := sz (Int.toNat x1)) (by omega) (by omega) hhq1070 hhq1071 hhq1072 hhq1073 hhq1074 hhq1075
                clear hhq1070 hhq1071 hhq1072 hhq1073 hhq1074 hhq1075
                exact r_iret (pc := 153) dX12_column_153 rfl (hPo _ _ _ ⟨rfl, v_111, c1_112, s1_113, z1_114, u1_115, k1_103, nx, ie, be, sd, bl, h_110, ht109, rfl, (by (first | assumption | exact RK_set hk (by omega) (by omega))), (by (first | assumption | exact df_r _ _ _ _ _ _ _)), (by omega), (by first | exact an1_m hnwA (by omega) (by omega) | exact an1_r (by omega)), (by (intro h9; first | (exfalso; omega) | exact ⟨rfl, rfl, rfl, rfl⟩ | exact hnwB h9)), (by (intro h9; first | (exfalso; omega) | exact ⟨_, hnwC h9, hck⟩)), (by (first | omega | exact ⟨hnwD, fun h9 => (hnwE h9).trans (by omega)⟩)), (by assumption), (by assumption), (by assumption)⟩)
            · refine r_aload_n (pc := 65) dX12_column_65 (i := 0) rfl rfl ?_
              refine t_getE (pc := 66) (.ref (y + 21)) ht58 (rd_of RX_y) fX12_72 dX12_column_66 rfl ?_
              refine r_iload (pc := 69) dX12_column_69 rfl ?_
              refine r_iload_n (pc := 71) dX12_column_71 (i := 2) rfl rfl ?_
              refine r_iconst (pc := 72) (v := iv 5) dX12_column_72 (by decide) ?_
              refine t_icmp_ne (pc := 73) (tgt := 80) dX12_column_73 (by decide) (by omega) (by omega) (fun c73 => ?_) (fun c73 => ?_)
              · refine r_lconst (pc := 80) (v := 0) dX12_column_80 (by decide) ?_
                refine t_lastX (pc := 81) (t0 := 1) ht58 RX_column dX12_column_81 rfl (by decide) (by omega) (fun hp116 ht117 => ?_)
                have ht118 := RXw_cl ht117
                refine r_iinc (pc := 82) (v := iv (v58_5 + 1)) (lv' := [(5, .int (iv (v58_5 + 1))), (0, .ref y), (1, .int (iv x1)), (2, .int (iv x2)), (3, .int (iv x3)), (4, .int (iv (sz (Int.toNat x1))))]) dX12_column_82 rfl (iv_add _ _) (by decide) rfl ?_
                refine r_goto (pc := 85) (tgt := 58) dX12_column_85 (by decide) ?_
                refine Rn.pick (lv' := [(0, .ref y), (1, .int (iv x1)), (2, .int (iv x2)), (3, .int (iv x3)), (4, .int (iv (sz (Int.toNat x1)))), (5, .int (iv (v58_5 + 1)))]) [1, 2, 3, 4, 5, 0] rfl ?_
                exact ih58 (Int.toNat (16 - (v58_5 + 1))) (by omega) (fuj cl58 (Int.toNat v58_5) (0 : Int64)) _ ht118 (v58_5 + 1) ⟨by omega, by omega, by omega, by (first | exact eqB_0 _ _ | exact eqB_up (by assumption) (by omega) (by show _ = (if x2 = 5 then (1 : Int64) else 0); first | rw [if_pos (by omega)] | rw [if_neg (by omega)]))⟩ (by omega)
              · refine r_lconst (pc := 76) (v := 1) dX12_column_76 (by decide) ?_
                refine r_goto (pc := 77) (tgt := 81) dX12_column_77 (by decide) ?_
                refine t_lastX (pc := 81) (t0 := 1) ht58 RX_column dX12_column_81 rfl (by decide) (by omega) (fun hp119 ht120 => ?_)
                have ht121 := RXw_cl ht120
                refine r_iinc (pc := 82) (v := iv (v58_5 + 1)) (lv' := [(5, .int (iv (v58_5 + 1))), (0, .ref y), (1, .int (iv x1)), (2, .int (iv x2)), (3, .int (iv x3)), (4, .int (iv (sz (Int.toNat x1))))]) dX12_column_82 rfl (iv_add _ _) (by decide) rfl ?_
                refine r_goto (pc := 85) (tgt := 58) dX12_column_85 (by decide) ?_
                refine Rn.pick (lv' := [(0, .ref y), (1, .int (iv x1)), (2, .int (iv x2)), (3, .int (iv x3)), (4, .int (iv (sz (Int.toNat x1)))), (5, .int (iv (v58_5 + 1)))]) [1, 2, 3, 4, 5, 0] rfl ?_
                exact ih58 (Int.toNat (16 - (v58_5 + 1))) (by omega) (fuj cl58 (Int.toNat v58_5) (1 : Int64)) _ ht121 (v58_5 + 1) ⟨by omega, by omega, by omega, by (first | exact eqB_0 _ _ | exact eqB_up (by assumption) (by omega) (by show _ = (if x2 = 5 then (1 : Int64) else 0); first | rw [if_pos (by omega)] | rw [if_neg (by omega)]))⟩ (by omega)
          refine Rn.pick (lv' := [(0, .ref y), (1, .int (iv x1)), (2, .int (iv x2)), (3, .int (iv x3)), (4, .int (iv (sz (Int.toNat x1)))), (5, .int (iv 0))]) [2, 3, 4, 5, 1, 0] rfl ?_
          exact B58 (Int.toNat (16 - 0)) cl _ ht47 0 ⟨by omega, by omega, by omega, by (first | exact eqB_0 _ _ | exact eqB_up (by assumption) (by omega) (by show _ = (if x2 = 5 then (1 : Int64) else 0); first | rw [if_pos (by omega)] | rw [if_neg (by omega)]))⟩ (by omega)
        refine t_icmp_ne (pc := 26) (tgt := 47) dX12_column_26 (by decide) (by omega) (by omega) (fun c26 => ?_) (fun c26 => ?_)
        · refine Rn.pick (lv' := [(0, .ref y), (1, .int (iv x1)), (2, .int (iv x2)), (3, .int (iv x3))]) [0, 1, 2, 3] rfl ?_
          exact B47 _ ht6 ⟨by omega, by omega, by omega⟩
        · refine r_iload_n (pc := 29) dX12_column_29 (i := 3) rfl rfl ?_
          refine t_if_lt (pc := 30) (tgt := 40) dX12_column_30 (by decide) (by omega) (fun c30 => ?_) (fun c30 => ?_)
          · refine Rn.pick (lv' := [(0, .ref y)]) [0] rfl ?_
            exact B40 _ ht6 (by omega)
          · refine r_iload_n (pc := 33) dX12_column_33 (i := 3) rfl rfl ?_
            refine r_sipush (pc := 34) (v := iv 1000) dX12_column_34 (by decide) ?_
            refine t_icmp_le (pc := 37) (tgt := 47) dX12_column_37 (by decide) (by omega) (by omega) (fun c37 => ?_) (fun c37 => ?_)
            · refine Rn.pick (lv' := [(0, .ref y), (1, .int (iv x1)), (2, .int (iv x2)), (3, .int (iv x3))]) [0, 1, 2, 3] rfl ?_
              exact B47 _ ht6 ⟨by omega, by omega, by omega⟩
            · refine Rn.pick (lv' := [(0, .ref y)]) [0] rfl ?_
              exact B40 _ ht6 (by omega)
  · refine r_aload_n (pc := 9) dX12_column_9 (i := 0) rfl rfl ?_
    refine t_getE (pc := 10) (.int (iv v_7)) ht6 (rd_of RX_y) fX12_142 dX12_column_10 rfl ?_
    exact r_iret (pc := 13) dX12_column_13 rfl (hPo _ _ _ ⟨rfl, v_7, cn, so, sz, nu, cl, nx, ie, be, sd, bl, v_7, ht6, rfl, (by (first | assumption | exact RK_set hk (by omega) (by omega))), (by (first | assumption | exact df_r _ _ _ _ _ _ _)), (by omega), (by first | exact an1_m hnwA (by omega) (by omega) | exact an1_r (by omega)), (by (intro h9; first | (exfalso; omega) | exact ⟨rfl, rfl, rfl, rfl⟩ | exact hnwB h9)), (by (intro h9; first | (exfalso; omega) | exact ⟨_, hnwC h9, hck⟩)), (by (first | omega | exact ⟨hnwD, fun h9 => (hnwE h9).trans (by omega)⟩)), (by assumption), (by assumption), (by assumption)⟩)
