set_option maxHeartbeats 4000000 in
set_option maxRecDepth 100000 in
theorem x_X12_join {D : va_G} {cI cJ cZ cT : ClassId} {lo b L : Nat} {xs : Nat → Int32} {hp : MH} {n d : Nat} {Γ : TG} {y : Nat} {rf cn nm : Int} {so sz dr mn fr tt wt co : Nat → Int} {nu : Nat → Int64} {sa : Nat → Int} {wo : Nat → Int64} {ln : Nat → Int} {hw : Nat → Int64} {ro qi qc nf nt nw nc : Nat → Int} {cl nx : Nat → Int64} {ie be sd bl : Nat → Int} {bs wy ra rb : Nat → Int64} {lb bg os js ls : Nat → Int} {sp : Nat → Int64} {jw go : Nat → Int} {de : Nat → Int64} {yb ah im : Nat → Int} {x1 x2 x3 : Int} {Po9 : Option Value → MH → Nat → Prop} (hd0 : 3 ≤ d) (hk : RK rf cn nm so sz dr mn fr tt wt co nu qi qc nf nt nw nc) (ht : Tw (RX Γ cI cJ cZ y rf cn nm so sz dr mn fr tt wt co nu sa wo ln hw ro qi qc nf nt nw nc cl nx ie be sd bl bs wy ra rb lb bg os js ls sp jw go de yb ah im) hp) (hx1 : (-2147483648) ≤ x1 ∧ x1 ≤ 2147483647) (hx2 : (-2147483648) ≤ x2 ∧ x2 ≤ 2147483647) (hx3 : 0 ≤ x3 ∧ x3 ≤ 1) (hPo : ∀ r hp1 n1, (n1 = n ∧ ∃ (rf' : Int) (cn' : Int) (nm' : Int) (so' : Nat → Int) (sz' : Nat → Int) (dr' : Nat → Int) (mn' : Nat → Int) (fr' : Nat → Int) (tt' : Nat → Int) (wt' : Nat → Int) (co' : Nat → Int) (nf' : Nat → Int) (nt' : Nat → Int) (nw' : Nat → Int) (nc' : Nat → Int) (v' : Int), Tw (RX Γ cI cJ cZ y rf' cn' nm' so' sz' dr' mn' fr' tt' wt' co' nu sa wo ln hw ro qi qc nf' nt' nw' nc' cl nx ie be sd bl bs wy ra rb lb bg os js ls sp jw go de yb ah im) hp1 ∧ r = some (.int (iv v')) ∧ (RK rf' cn' nm' so' sz' dr' mn' fr' tt' wt' co' nu qi qc nf' nt' nw' nc') ∧ (dfE sz dr mn fr tt wt co sz' dr' mn' fr' tt' wt' co') ∧ (-2147483648 ≤ v' ∧ v' ≤ 2147483647) ∧ (v' = an2 cn so x1 1 x2 (if x3 = 0 then 1 else 4) ((x3 ≠ 0 ∧ sz (Int.toNat x1) ≠ sz (Int.toNat x2)) ∨ (x3 = 0 ∧ dr (Int.toNat x1) ≠ dr (Int.toNat x2))) ((x3 = 0 ∧ 16 < sz (Int.toNat x1) + sz (Int.toNat x2)) ∨ 60 < (((if x3 = 0 then (acc (cpE (sh fr (60 * x1)) (sh tt (60 * x1)) (sh wt (60 * x1)) (sh co (60 * x1)) 0) (Int.toNat (mn (Int.toNat x1))) ++ acc (cpE (sh fr (60 * x2)) (sh tt (60 * x2)) (sh wt (60 * x2)) (sh co (60 * x2)) (sz (Int.toNat x1))) (Int.toNat (mn (Int.toNat x2)))) else (acc (mlE (sh fr (60 * x1)) (sh tt (60 * x1)) (sh wt (60 * x1)) (sh co (60 * x1)) (sh qi (16 * x2))) (Int.toNat (mn (Int.toNat x1)))))).length : Int) ∨ cn = 120)) ∧ (v' < 0 → SmG cn cn' so sz dr mn fr tt wt co so' sz' dr' mn' fr' tt' wt' co') ∧ (0 ≤ v' → GNw cn cn' so sz dr mn fr tt wt co so' sz' dr' mn' fr' tt' wt' co' (if x3 = 0 then sz (Int.toNat x1) + sz (Int.toNat x2) else qc (Int.toNat x2)) (dr (Int.toNat x1)) (if x3 = 0 then (acc (cpE (sh fr (60 * x1)) (sh tt (60 * x1)) (sh wt (60 * x1)) (sh co (60 * x1)) 0) (Int.toNat (mn (Int.toNat x1))) ++ acc (cpE (sh fr (60 * x2)) (sh tt (60 * x2)) (sh wt (60 * x2)) (sh co (60 * x2)) (sz (Int.toNat x1))) (Int.toNat (mn (Int.toNat x2)))) else (acc (mlE (sh fr (60 * x1)) (sh tt (60 * x1)) (sh wt (60 * x1)) (sh co (60 * x1)) (sh qi (16 * x2))) (Int.toNat (mn (Int.toNat x1)))))) ∧ ((v' < 0 → rf' = v') ∧ (0 ≤ v' → rf' = 0))) → Po9 r hp1 n1) : Mt (gG D cI cJ cZ cT lo b L xs) mX12_join d 0 0 [.ref y, .int (iv x1), .int (iv x2), .int (iv x3)] hp n Po9 := by
  refine Mt.of rfl (Nat.le_of_ble_eq_true rfl) ?_
  refine Rn.pick (lv' := [(0, .ref y), (1, .int (iv x1)), (2, .int (iv x2)), (3, .int (iv x3))]) [0, 1, 2, 3] rfl ?_
  obtain ⟨hR_sorts, hR_sizes, hR_directs, hR_many, hR_from, hR_to, hR_weight, hR_cost, hR_inPart, hR_partCount, hcn, hrf, hnm, hdf, hgr, hpa, hsz⟩ := id hk
  refine r_aload_n (pc := 0) dX12_join_0 (i := 0) rfl rfl ?_
  refine r_iload_n (pc := 1) dX12_join_1 (i := 1) rfl rfl ?_
  refine r_iconst (pc := 2) (v := iv 1) dX12_join_2 (by decide) ?_
  refine r_iload_n (pc := 3) dX12_join_3 (i := 2) rfl rfl ?_
  refine r_iload_n (pc := 4) dX12_join_4 (i := 3) rfl rfl ?_
  have B13 : ∀ hp13 : MH, Tw (RX Γ cI cJ cZ y rf cn nm so sz dr mn fr tt wt co nu sa wo ln hw ro qi qc nf nt nw nc cl nx ie be sd bl bs wy ra rb lb bg os js ls sp jw go de yb ah im) hp13 → ∀  (u13_4 : Int), 1 ≤ u13_4 ∧ u13_4 ≤ 4 ∧ ((x3 = 0 ∧ u13_4 = 1) ∨ (x3 ≠ 0 ∧ u13_4 = 4)) → Rn (gG D cI cJ cZ cT lo b L xs) mX12_join d 13 [(0, .ref y), (1, .int (iv x1)), (2, .int (iv x2)), (3, .int (iv x3))] [.int (iv u13_4), .int (iv x2), .int (iv 1), .int (iv x1), .ref y] hp13 n 0 0 Po9 := by
    intro hp13 ht13 u13_4 hf13
    obtain ⟨fs5, hfs5⟩ := t_obj ht13 (rd_of RX_y)
    refine r_callV (pc := 13) (as := [.int (iv x1), .int (iv 1), .int (iv x2), .int (iv u13_4)]) (st := []) kX12_209 rfl dX12_join_13 hfs5 (x_X12_haveTwo (d := d - 1) (x1 := x1) (x2 := 1) (x3 := x2) (x4 := u13_4) (by omega) (by omega) (by assumption) ht13 (by omega) (by omega) (by omega) (by omega) (fun _ _ _ h => h)) rfl (by omega) (Nat.le_of_ble_eq_true rfl) (Nat.zero_le _) (Nat.zero_le _) rfl (fun r2 hp1 n3 hq4 => ?_)
    obtain ⟨hnn3, v_7, b_8, ht6, hrr2, hhq40, hhq41⟩ := hq4
    subst n3 r2
    have hhq40 : -2 ≤ v_7 ∧ v_7 ≤ 0 ∧ (b_8 = 0 ∨ b_8 = 1) := hhq40
    have hhq41 : (b_8 = 1 ∧ v_7 = 0 ∧ 0 ≤ x1 ∧ x1 < cn ∧ 0 ≤ x2 ∧ x2 < cn ∧ so (Int.toNat x1) = 1 ∧ so (Int.toNat x2) = u13_4) ∨ (b_8 = 0 ∧ v_7 = -1 ∧ ¬ (0 ≤ x1 ∧ x1 < cn ∧ 0 ≤ x2 ∧ x2 < cn)) ∨ (b_8 = 0 ∧ v_7 = -2 ∧ 0 ≤ x1 ∧ x1 < cn ∧ 0 ≤ x2 ∧ x2 < cn ∧ ¬ (so (Int.toNat x1) = 1 ∧ so (Int.toNat x2) = u13_4)) := hhq41
    change Rn _ _ _ 16 _ [.int (iv b_8)] _ _ _ _ _
    refine t_if_ne (pc := 16) (tgt := 24) dX12_join_16 (by decide) (by omega) (fun c16 => ?_) (fun c16 => ?_)
    · have hs16 := Or.resolve_right hhq41 (by omega)
      clear hhq40 hhq41
      have rsz16 := hR_sizes (Int.toNat x1) (by omega)
      have rsy16 := hsz x1 (by omega) (by omega)
      have hen := hgr x1 (by omega) (by omega) (by omega)
      have rmn16 := hR_many (Int.toNat x1) (by omega)
      have rsw16 := hR_sizes (Int.toNat x2) (by omega)
      have rsx16 := hsz x2 (by omega) (by omega)
      refine r_aload_n (pc := 24) dX12_join_24 (i := 0) rfl rfl ?_
      refine r_iconst (pc := 25) (v := iv 0) dX12_join_25 (by decide) ?_
      refine t_putX (pc := 26) (ty := .int) ht6 RX_y fX12_165 tyX12 tyX12_ok nmX12 (by decide +kernel) (Or.inl rfl) dX12_join_26 (Nat.le_of_ble_eq_true rfl) rfl rfl rfl (fun hp9 ht10 => ?_)
      have ht11 := RXw_nm ht10
      have ha0 : arP nf nt nw nc 0 (qc (Int.toNat x2)) := ar_0 _ _ _ _ _
      have rqc := hR_partCount (Int.toNat x2) (by omega)
      have rmn2 := hR_many (Int.toNat x2) (by omega)
      have hpl0 : PL ([] ++ acc (mlE (sh fr (60 * x1)) (sh tt (60 * x1)) (sh wt (60 * x1)) (sh co (60 * x1)) (sh qi (16 * x2))) (Int.toNat 0)) 0 nf nt nw nc := PL_0 _ _ _ _
      refine r_iload_n (pc := 29) dX12_join_29 (i := 3) rfl rfl ?_
      refine t_if_eq (pc := 30) (tgt := 167) dX12_join_30 (by decide) (by omega) (fun c30 => ?_) (fun c30 => ?_)
      · refine r_aload_n (pc := 167) dX12_join_167 (i := 0) rfl rfl ?_
        refine t_getE (pc := 168) (.ref (y + 3)) ht11 (rd_of RX_y) fX12_16 dX12_join_168 rfl ?_
        refine r_iload_n (pc := 171) dX12_join_171 (i := 1) rfl rfl ?_
        refine t_zaldX (pc := 172) (t0 := 2) ht11 (rd_of RX_directs) dX12_join_172 rfl (by decide) (by omega) (fun b12 => ?_)
        have rb12 := (show Rfx 121 0 1 dr by assumption) (Int.toNat x1) (by omega)
        refine r_aload_n (pc := 173) dX12_join_173 (i := 0) rfl rfl ?_
        refine t_getE (pc := 174) (.ref (y + 3)) ht11 (rd_of RX_y) fX12_16 dX12_join_174 rfl ?_
        refine r_iload_n (pc := 177) dX12_join_177 (i := 2) rfl rfl ?_
        refine t_zaldX (pc := 178) (t0 := 2) ht11 (rd_of RX_directs) dX12_join_178 rfl (by decide) (by omega) (fun b13 => ?_)
        have rb13 := (show Rfx 121 0 1 dr by assumption) (Int.toNat x2) (by omega)
        refine t_icmp_eq (pc := 179) (tgt := 189) dX12_join_179 (by decide) (by omega) (by omega) (fun c179 => ?_) (fun c179 => ?_)
        · refine r_aload_n (pc := 189) dX12_join_189 (i := 0) rfl rfl ?_
          refine t_getE (pc := 190) (.ref (y + 2)) ht11 (rd_of RX_y) fX12_13 dX12_join_190 rfl ?_
          refine r_iload_n (pc := 193) dX12_join_193 (i := 1) rfl rfl ?_
          refine t_ialdX (pc := 194) (t0 := 0) ht11 (rd_of RX_sizes) dX12_join_194 rfl (by decide) (by omega) (fun b14 => ?_)
          have rb14 := (show Rfx 121 0 16 sz by assumption) (Int.toNat x1) (by omega)
          refine r_aload_n (pc := 195) dX12_join_195 (i := 0) rfl rfl ?_
          refine t_getE (pc := 196) (.ref (y + 2)) ht11 (rd_of RX_y) fX12_13 dX12_join_196 rfl ?_
          refine r_iload_n (pc := 199) dX12_join_199 (i := 2) rfl rfl ?_
          refine t_ialdX (pc := 200) (t0 := 0) ht11 (rd_of RX_sizes) dX12_join_200 rfl (by decide) (by omega) (fun b15 => ?_)
          have rb15 := (show Rfx 121 0 16 sz by assumption) (Int.toNat x2) (by omega)
          refine r_iadd (pc := 201) (v := iv ((sz (Int.toNat x1)) + (sz (Int.toNat x2)))) dX12_join_201 (iv_add _ _) ?_
          refine r_bipush (pc := 202) (v := iv 16) dX12_join_202 (by decide) ?_
          refine t_icmp_le (pc := 204) (tgt := 214) dX12_join_204 (by decide) (by omega) (by omega) (fun c204 => ?_) (fun c204 => ?_)
          · refine r_aload_n (pc := 214) dX12_join_214 (i := 0) rfl rfl ?_
            refine r_iload_n (pc := 215) dX12_join_215 (i := 1) rfl rfl ?_
            refine r_iconst (pc := 216) (v := iv 0) dX12_join_216 (by decide) ?_
            obtain ⟨fs20, hfs20⟩ := t_obj ht11 (rd_of RX_y)
            refine r_callV (pc := 217) (as := [.int (iv x1), .int (iv 0)]) (st := []) kX12_175 rfl dX12_join_217 hfs20 (x_X12_copyArcs (d := d - 1) (x1 := x1) (x2 := 0) (by omega) (by assumption) (by assumption) (by assumption) (by assumption) (by assumption) (by omega) ht11 (by omega) (by omega) (by omega) (fun _ _ _ h => h)) rfl (by omega) (Nat.le_of_ble_eq_true rfl) (Nat.zero_le _) (Nat.zero_le _) rfl (fun r17 hp16 n18 hq19 => ?_)
            obtain ⟨hnn18, nf1_22, nt1_23, nw1_24, nc1_25, m1_26, ht21, hrr17, hhq190, hhq191, hhq192, hhq193, hhq194⟩ := hq19
            subst n18 r17
            have hhq190 : m1_26 = 0 + mn (Int.toNat x1) := hhq190
            have hhq191 : nf1_22 = kcF (fun i : Nat => fr (Int.toNat (60 * x1 + (i : Int))) + 0) nf (Int.toNat 0) (Int.toNat (mn (Int.toNat x1))) := hhq191
            have hhq192 : nt1_23 = kcF (fun i : Nat => tt (Int.toNat (60 * x1 + (i : Int))) + 0) nt (Int.toNat 0) (Int.toNat (mn (Int.toNat x1))) := hhq192
            have hhq193 : nw1_24 = kcF (fun i : Nat => wt (Int.toNat (60 * x1 + (i : Int)))) nw (Int.toNat 0) (Int.toNat (mn (Int.toNat x1))) := hhq193
            have hhq194 : nc1_25 = kcF (fun i : Nat => co (Int.toNat (60 * x1 + (i : Int)))) nc (Int.toNat 0) (Int.toNat (mn (Int.toNat x1))) := hhq194
            change Rn _ _ _ 220 _ [] _ _ _ _ _
            have hap1 : arP nf1_22 nt1_23 nw1_24 nc1_25 m1_26 (sz (Int.toNat x1) + sz (Int.toNat x2)) := ar_cp (s := 0) (g := x1) (ar_0 _ _ _ _ _) (by omega) (by omega) hhq190 hhq191 hhq192 hhq193 hhq194 hen.2 hR_many hR_from hR_to hR_weight hR_cost (by omega)
            have hplA := PL_cp (s := 0) (g := x1) (mg := (mn (Int.toNat x1))) (PL_0 nf nt nw nc) (by omega) hhq190 hhq191 hhq192 hhq193 hhq194
            refine r_aload_n (pc := 220) dX12_join_220 (i := 0) rfl rfl ?_
            refine r_iload_n (pc := 221) dX12_join_221 (i := 2) rfl rfl ?_
            refine r_aload_n (pc := 222) dX12_join_222 (i := 0) rfl rfl ?_
            refine t_getE (pc := 223) (.ref (y + 2)) ht21 (rd_of RX_y) fX12_13 dX12_join_223 rfl ?_
            refine r_iload_n (pc := 226) dX12_join_226 (i := 1) rfl rfl ?_
            refine t_ialdX (pc := 227) (t0 := 0) ht21 (rd_of RX_sizes) dX12_join_227 rfl (by decide) (by omega) (fun b27 => ?_)
            have rb27 := (show Rfx 121 0 16 sz by assumption) (Int.toNat x1) (by omega)
            obtain ⟨fs32, hfs32⟩ := t_obj ht21 (rd_of RX_y)
            refine r_callV (pc := 228) (as := [.int (iv x2), .int (iv (sz (Int.toNat x1)))]) (st := []) kX12_175 rfl dX12_join_228 hfs32 (x_X12_copyArcs (d := d - 1) (x1 := x2) (x2 := sz (Int.toNat x1)) (by omega) (by assumption) (by assumption) (by assumption) (by assumption) (by assumption) (by omega) ht21 (by omega) (by omega) (by omega) (fun _ _ _ h => h)) rfl (by omega) (Nat.le_of_ble_eq_true rfl) (Nat.zero_le _) (Nat.zero_le _) rfl (fun r29 hp28 n30 hq31 => ?_)
            obtain ⟨hnn30, nf1_34, nt1_35, nw1_36, nc1_37, m1_38, ht33, hrr29, hhq310, hhq311, hhq312, hhq313, hhq314⟩ := hq31
            subst n30 r29
            have hhq310 : m1_38 = m1_26 + mn (Int.toNat x2) := hhq310
            have hhq311 : nf1_34 = kcF (fun i : Nat => fr (Int.toNat (60 * x2 + (i : Int))) + (sz (Int.toNat x1))) nf1_22 (Int.toNat m1_26) (Int.toNat (mn (Int.toNat x2))) := hhq311
            have hhq312 : nt1_35 = kcF (fun i : Nat => tt (Int.toNat (60 * x2 + (i : Int))) + (sz (Int.toNat x1))) nt1_23 (Int.toNat m1_26) (Int.toNat (mn (Int.toNat x2))) := hhq312
            have hhq313 : nw1_36 = kcF (fun i : Nat => wt (Int.toNat (60 * x2 + (i : Int)))) nw1_24 (Int.toNat m1_26) (Int.toNat (mn (Int.toNat x2))) := hhq313
            have hhq314 : nc1_37 = kcF (fun i : Nat => co (Int.toNat (60 * x2 + (i : Int)))) nc1_25 (Int.toNat m1_26) (Int.toNat (mn (Int.toNat x2))) := hhq314
            change Rn _ _ _ 231 _ [] _ _ _ _ _
            have hap2 : arP nf1_34 nt1_35 nw1_36 nc1_37 m1_38 (sz (Int.toNat x1) + sz (Int.toNat x2)) := ar_cp (s := (sz (Int.toNat x1))) (g := x2) hap1 (by omega) (by omega) hhq310 hhq311 hhq312 hhq313 hhq314 (hgr x2 (by omega) (by omega) (by omega)).2 hR_many hR_from hR_to hR_weight hR_cost (by omega)
            have rmnB := hR_many (Int.toNat x2) (by omega)
            have hplB := PL_cp (s := sz (Int.toNat x1)) (g := x2) (mg := mn (Int.toNat x2)) hplA (by omega) hhq310 hhq311 hhq312 hhq313 hhq314
            refine r_aload_n (pc := 231) dX12_join_231 (i := 0) rfl rfl ?_
            refine r_aload_n (pc := 232) dX12_join_232 (i := 0) rfl rfl ?_
            refine t_getE (pc := 233) (.ref (y + 2)) ht33 (rd_of RX_y) fX12_13 dX12_join_233 rfl ?_
            refine r_iload_n (pc := 236) dX12_join_236 (i := 1) rfl rfl ?_
            refine t_ialdX (pc := 237) (t0 := 0) ht33 (rd_of RX_sizes) dX12_join_237 rfl (by decide) (by omega) (fun b39 => ?_)
            have rb39 := (show Rfx 121 0 16 sz by assumption) (Int.toNat x1) (by omega)
            refine r_aload_n (pc := 238) dX12_join_238 (i := 0) rfl rfl ?_
            refine t_getE (pc := 239) (.ref (y + 2)) ht33 (rd_of RX_y) fX12_13 dX12_join_239 rfl ?_
            refine r_iload_n (pc := 242) dX12_join_242 (i := 2) rfl rfl ?_
            refine t_ialdX (pc := 243) (t0 := 0) ht33 (rd_of RX_sizes) dX12_join_243 rfl (by decide) (by omega) (fun b40 => ?_)
            have rb40 := (show Rfx 121 0 16 sz by assumption) (Int.toNat x2) (by omega)
            refine r_iadd (pc := 244) (v := iv ((sz (Int.toNat x1)) + (sz (Int.toNat x2)))) dX12_join_244 (iv_add _ _) ?_
            refine r_aload_n (pc := 245) dX12_join_245 (i := 0) rfl rfl ?_
            refine t_getE (pc := 246) (.ref (y + 3)) ht33 (rd_of RX_y) fX12_16 dX12_join_246 rfl ?_
            refine r_iload_n (pc := 249) dX12_join_249 (i := 1) rfl rfl ?_
            refine t_zaldX (pc := 250) (t0 := 2) ht33 (rd_of RX_directs) dX12_join_250 rfl (by decide) (by omega) (fun b41 => ?_)
            have rb41 := (show Rfx 121 0 1 dr by assumption) (Int.toNat x1) (by omega)
            obtain ⟨fs46, hfs46⟩ := t_obj ht33 (rd_of RX_y)
            refine r_callV (pc := 251) (as := [.int (iv ((sz (Int.toNat x1)) + (sz (Int.toNat x2)))), .int (iv (dr (Int.toNat x1)))]) (st := []) kX12_179 rfl dX12_join_251 hfs46 (x_X12_made (d := d - 1) (x1 := (sz (Int.toNat x1)) + (sz (Int.toNat x2))) (x2 := dr (Int.toNat x1)) (by omega) (RK_set hk (by omega) (by omega)) ht33 (by omega) (by omega) (fun _ => hap2) (fun _ _ _ h => h)) rfl (by omega) (Nat.le_of_ble_eq_true rfl) (Nat.zero_le _) (Nat.zero_le _) rfl (fun r43 hp42 n44 hq45 => ?_)
            obtain ⟨hnn44, h_48, v_49, c1_50, s1_51, z1_52, d1_53, m1_54, f1_55, t1_56, w1_57, o1_58, ht47, hrr43, hhq450, hhq451, hhq452, hhq453⟩ := hq45
            subst n44 r43
            have hhq450 : (60 < m1_38 ∨ cn = 120) → h_48 = -4 ∧ v_49 = -4 ∧ c1_50 = cn := hhq450
            have hhq451 : (60 < m1_38 ∨ cn = 120) → s1_51 = so ∧ z1_52 = sz ∧ d1_53 = dr ∧ m1_54 = mn ∧ f1_55 = fr ∧ t1_56 = tt ∧ w1_57 = wt ∧ o1_58 = co := hhq451
            have hhq452 : m1_38 ≤ 60 ∧ cn < 120 → h_48 = cn ∧ v_49 = v_7 ∧ c1_50 = cn + 1 := hhq452
            have hhq453 : m1_38 ≤ 60 ∧ cn < 120 → s1_51 = fup so (Int.toNat cn) 1 ∧ z1_52 = fup sz (Int.toNat cn) ((sz (Int.toNat x1)) + (sz (Int.toNat x2))) ∧ d1_53 = fup dr (Int.toNat cn) (dr (Int.toNat x1)) ∧ m1_54 = fup mn (Int.toNat cn) m1_38 ∧ f1_55 = kcF nf1_34 fr (Int.toNat (60 * cn)) (Int.toNat m1_38) ∧ t1_56 = kcF nt1_35 tt (Int.toNat (60 * cn)) (Int.toNat m1_38) ∧ w1_57 = kcF nw1_36 wt (Int.toNat (60 * cn)) (Int.toNat m1_38) ∧ o1_58 = kcF nc1_37 co (Int.toNat (60 * cn)) (Int.toNat m1_38) := hhq453
            change Rn _ _ _ 254 _ [.int (iv h_48)] _ _ _ _ _
            obtain ⟨hRKm, hDFm, hhm⟩ := RK_made (x1 := (sz (Int.toNat x1)) + (sz (Int.toNat x2))) (x2 := dr (Int.toNat x1)) (RK_set (nm1 := m1_38) (nu1 := nu) (nf1 := nf1_34) (nt1 := nt1_35) (nw1 := nw1_36) (nc1 := nc1_37) hk (by omega) (by omega)) (by omega) (by omega) (fun _ => hap2) hhq450 hhq451 hhq452 hhq453
            obtain ⟨hnwA, hnwB, hnwC, hnwD, hnwE⟩ := mk_new (x1 := (sz (Int.toNat x1)) + (sz (Int.toNat x2))) (x2 := dr (Int.toNat x1)) (l := (if x3 = 0 then (acc (cpE (sh fr (60 * x1)) (sh tt (60 * x1)) (sh wt (60 * x1)) (sh co (60 * x1)) 0) (Int.toNat (mn (Int.toNat x1))) ++ acc (cpE (sh fr (60 * x2)) (sh tt (60 * x2)) (sh wt (60 * x2)) (sh co (60 * x2)) (sz (Int.toNat x1))) (Int.toNat (mn (Int.toNat x2)))) else (acc (mlE (sh fr (60 * x1)) (sh tt (60 * x1)) (sh wt (60 * x1)) (sh co (60 * x1)) (sh qi (16 * x2))) (Int.toNat (mn (Int.toNat x1)))))) (by rw [if_pos (by omega)]; exact hplB) (by omega) hhq450 hhq451 hhq452 hhq453 (by omega)
            clear hhq450 hhq451 hhq452 hhq453
            exact r_iret (pc := 254) dX12_join_254 rfl (hPo _ _ _ ⟨rfl, v_49, c1_50, m1_38, s1_51, z1_52, d1_53, m1_54, f1_55, t1_56, w1_57, o1_58, nf1_34, nt1_35, nw1_36, nc1_37, h_48, ht47, rfl, (by (first | assumption | exact RK_set hk (by omega) (by omega))), (by (first | assumption | exact df_r _ _ _ _ _ _ _)), (by omega), (by first | exact an2_m (hnwA.trans (hdQ_c (by omega))) (by (try rw [if_pos (show x3 = 0 by omega)]); (try rw [if_neg (show ¬ x3 = 0 by omega)]); omega) (by omega) | exact an2_r (by (try rw [if_pos (show x3 = 0 by omega)]); (try rw [if_neg (show ¬ x3 = 0 by omega)]); omega)), (by (intro h9; first | (exfalso; omega) | exact ⟨rfl, rfl, rfl, rfl, rfl, rfl, rfl, rfl, rfl⟩ | exact hnwB h9)), (by (intro h9; first | (exfalso; omega) | exact GNw_c (hnwC h9) (by (repeat' split) <;> omega) rfl)), (by (first | omega | exact ⟨hnwD, fun h9 => (hnwE h9).trans (by omega)⟩))⟩)
          · refine r_aload_n (pc := 207) dX12_join_207 (i := 0) rfl rfl ?_
            refine r_bipush (pc := 208) (v := iv (-4)) dX12_join_208 (by decide) ?_
            obtain ⟨fs63, hfs63⟩ := t_obj ht11 (rd_of RX_y)
            refine r_callV (pc := 210) (as := [.int (iv (-4))]) (st := []) kX12_153 rfl dX12_join_210 hfs63 (x_X12_refuse (d := d - 1) (x1 := (-4)) (by omega) ht11 (by omega) (fun _ _ _ h => h)) rfl (by omega) (Nat.le_of_ble_eq_true rfl) (Nat.zero_le _) (Nat.zero_le _) rfl (fun r60 hp59 n61 hq62 => ?_)
            obtain ⟨hnn61, ht64, hrr60⟩ := hq62
            subst n61 r60
            change Rn _ _ _ 213 _ [.int (iv (-4))] _ _ _ _ _
            exact r_iret (pc := 213) dX12_join_213 rfl (hPo _ _ _ ⟨rfl, (-4), cn, 0, so, sz, dr, mn, fr, tt, wt, co, nf, nt, nw, nc, (-4), ht64, rfl, (by (first | assumption | exact RK_set hk (by omega) (by omega))), (by (first | assumption | exact df_r _ _ _ _ _ _ _)), (by omega), (by exact an2_m (hdQ_y (by omega)).symm (by (try rw [if_pos (show x3 = 0 by omega)]); (try rw [if_neg (show ¬ x3 = 0 by omega)]); omega) (by omega)), (by (intro h9; first | (exfalso; omega) | exact ⟨rfl, rfl, rfl, rfl, rfl, rfl, rfl, rfl, rfl⟩ | exact hnwB h9)), (by (intro h9; first | (exfalso; omega) | exact GNw_c (hnwC h9) (by (repeat' split) <;> omega) rfl)), (by (first | omega | exact ⟨hnwD, fun h9 => (hnwE h9).trans (by omega)⟩))⟩)
        · refine r_aload_n (pc := 182) dX12_join_182 (i := 0) rfl rfl ?_
          refine r_bipush (pc := 183) (v := iv (-3)) dX12_join_183 (by decide) ?_
          obtain ⟨fs69, hfs69⟩ := t_obj ht11 (rd_of RX_y)
          refine r_callV (pc := 185) (as := [.int (iv (-3))]) (st := []) kX12_153 rfl dX12_join_185 hfs69 (x_X12_refuse (d := d - 1) (x1 := (-3)) (by omega) ht11 (by omega) (fun _ _ _ h => h)) rfl (by omega) (Nat.le_of_ble_eq_true rfl) (Nat.zero_le _) (Nat.zero_le _) rfl (fun r66 hp65 n67 hq68 => ?_)
          obtain ⟨hnn67, ht70, hrr66⟩ := hq68
          subst n67 r66
          change Rn _ _ _ 188 _ [.int (iv (-3))] _ _ _ _ _
          exact r_iret (pc := 188) dX12_join_188 rfl (hPo _ _ _ ⟨rfl, (-3), cn, 0, so, sz, dr, mn, fr, tt, wt, co, nf, nt, nw, nc, (-3), ht70, rfl, (by (first | assumption | exact RK_set hk (by omega) (by omega))), (by (first | assumption | exact df_r _ _ _ _ _ _ _)), (by omega), (by exact an2_b (by omega) (by (try rw [if_pos (show x3 = 0 by omega)]); (try rw [if_neg (show ¬ x3 = 0 by omega)]); omega) (by omega)), (by (intro h9; first | (exfalso; omega) | exact ⟨rfl, rfl, rfl, rfl, rfl, rfl, rfl, rfl, rfl⟩ | exact hnwB h9)), (by (intro h9; first | (exfalso; omega) | exact GNw_c (hnwC h9) (by (repeat' split) <;> omega) rfl)), (by (first | omega | exact ⟨hnwD, fun h9 => (hnwE h9).trans (by omega)⟩))⟩)
      · refine r_aload_n (pc := 33) dX12_join_33 (i := 0) rfl rfl ?_
        refine t_getE (pc := 34) (.ref (y + 2)) ht11 (rd_of RX_y) fX12_13 dX12_join_34 rfl ?_
        refine r_iload_n (pc := 37) dX12_join_37 (i := 1) rfl rfl ?_
        refine t_ialdX (pc := 38) (t0 := 0) ht11 (rd_of RX_sizes) dX12_join_38 rfl (by decide) (by omega) (fun b71 => ?_)
        have rb71 := (show Rfx 121 0 16 sz by assumption) (Int.toNat x1) (by omega)
        refine r_aload_n (pc := 39) dX12_join_39 (i := 0) rfl rfl ?_
        refine t_getE (pc := 40) (.ref (y + 2)) ht11 (rd_of RX_y) fX12_13 dX12_join_40 rfl ?_
        refine r_iload_n (pc := 43) dX12_join_43 (i := 2) rfl rfl ?_
        refine t_ialdX (pc := 44) (t0 := 0) ht11 (rd_of RX_sizes) dX12_join_44 rfl (by decide) (by omega) (fun b72 => ?_)
        have rb72 := (show Rfx 121 0 16 sz by assumption) (Int.toNat x2) (by omega)
        refine t_icmp_eq (pc := 45) (tgt := 55) dX12_join_45 (by decide) (by omega) (by omega) (fun c45 => ?_) (fun c45 => ?_)
        · refine r_iconst (pc := 55) (v := iv 0) dX12_join_55 (by decide) ?_
          refine r_istore (pc := 56) (lv' := [(4, .int (iv 0)), (0, .ref y), (1, .int (iv x1)), (2, .int (iv x2)), (3, .int (iv x3))]) dX12_join_56 (by decide) rfl ?_
          have B58 : ∀ k : Nat, ∀ nm58 : Int, ∀ nf58 : Nat → Int, ∀ nt58 : Nat → Int, ∀ nw58 : Nat → Int, ∀ nc58 : Nat → Int, ∀ hp58 : MH, Tw (RX Γ cI cJ cZ y v_7 cn nm58 so sz dr mn fr tt wt co nu sa wo ln hw ro qi qc nf58 nt58 nw58 nc58 cl nx ie be sd bl bs wy ra rb lb bg os js ls sp jw go de yb ah im) hp58 → ∀  (v58_4 : Int), 0 ≤ v58_4 ∧ v58_4 ≤ 60 ∧ (0 ≤ nm58) ∧ (nm58 ≤ 400) ∧ (v58_4 ≤ (mn (Int.toNat x1))) ∧ (nm58 ≤ v58_4) ∧ (arP nf58 nt58 nw58 nc58 nm58 (qc (Int.toNat x2))) ∧ (PL ([] ++ acc (mlE (sh fr (60 * x1)) (sh tt (60 * x1)) (sh wt (60 * x1)) (sh co (60 * x1)) (sh qi (16 * x2))) (Int.toNat v58_4)) nm58 nf58 nt58 nw58 nc58) → 60 - v58_4 ≤ (k : Int) → Rn (gG D cI cJ cZ cT lo b L xs) mX12_join d 58 [(0, .ref y), (1, .int (iv x1)), (2, .int (iv x2)), (4, .int (iv v58_4))] [] hp58 n 0 0 Po9 := by
            refine lpS _ ?_
            intro k58 ih58 nm58 nf58 nt58 nw58 nc58 hp58 ht58 v58_4 hf58 hm58
            obtain ⟨hf58_0, hf58_1, hf58_2, hf58_3, hf58_4, hf58_5, ha58_6, ha58_7⟩ := hf58
            refine r_iload (pc := 58) dX12_join_58 rfl ?_
            refine r_aload_n (pc := 60) dX12_join_60 (i := 0) rfl rfl ?_
            refine t_getE (pc := 61) (.ref (y + 4)) ht58 (rd_of RX_y) fX12_20 dX12_join_61 rfl ?_
            refine r_iload_n (pc := 64) dX12_join_64 (i := 1) rfl rfl ?_
            refine t_ialdX (pc := 65) (t0 := 0) ht58 (rd_of RX_many) dX12_join_65 rfl (by decide) (by omega) (fun b73 => ?_)
            have rb73 := (show Rfx 121 0 60 mn by assumption) (Int.toNat x1) (by omega)
            refine t_icmp_ge (pc := 66) (tgt := 150) dX12_join_66 (by decide) (by omega) (by omega) (fun c66 => ?_) (fun c66 => ?_)
            · refine r_aload_n (pc := 150) dX12_join_150 (i := 0) rfl rfl ?_
              refine r_aload_n (pc := 151) dX12_join_151 (i := 0) rfl rfl ?_
              refine t_getE (pc := 152) (.ref (y + 16)) ht58 (rd_of RX_y) fX12_57 dX12_join_152 rfl ?_
              refine r_iload_n (pc := 155) dX12_join_155 (i := 2) rfl rfl ?_
              refine t_ialdX (pc := 156) (t0 := 0) ht58 (rd_of RX_partCount) dX12_join_156 rfl (by decide) (by omega) (fun b74 => ?_)
              have rb74 := (show Rfx 121 0 16 qc by assumption) (Int.toNat x2) (by omega)
              have hq156 := hpa x2 (by omega) (by omega) (by omega) 0 (by omega) (by omega)
              have hr156 := hR_inPart (Int.toNat (16 * x2 + 0)) (by omega)
              refine r_aload_n (pc := 157) dX12_join_157 (i := 0) rfl rfl ?_
              refine t_getE (pc := 158) (.ref (y + 3)) ht58 (rd_of RX_y) fX12_16 dX12_join_158 rfl ?_
              refine r_iload_n (pc := 161) dX12_join_161 (i := 1) rfl rfl ?_
              refine t_zaldX (pc := 162) (t0 := 2) ht58 (rd_of RX_directs) dX12_join_162 rfl (by decide) (by omega) (fun b75 => ?_)
              have rb75 := (show Rfx 121 0 1 dr by assumption) (Int.toNat x1) (by omega)
              obtain ⟨fs80, hfs80⟩ := t_obj ht58 (rd_of RX_y)
              refine r_callV (pc := 163) (as := [.int (iv (qc (Int.toNat x2))), .int (iv (dr (Int.toNat x1)))]) (st := []) kX12_179 rfl dX12_join_163 hfs80 (x_X12_made (d := d - 1) (x1 := qc (Int.toNat x2)) (x2 := dr (Int.toNat x1)) (by omega) (RK_set hk (by omega) (by omega)) ht58 (by omega) (by omega) (fun _ => (by assumption)) (fun _ _ _ h => h)) rfl (by omega) (Nat.le_of_ble_eq_true rfl) (Nat.zero_le _) (Nat.zero_le _) rfl (fun r77 hp76 n78 hq79 => ?_)
              obtain ⟨hnn78, h_82, v_83, c1_84, s1_85, z1_86, d1_87, m1_88, f1_89, t1_90, w1_91, o1_92, ht81, hrr77, hhq790, hhq791, hhq792, hhq793⟩ := hq79
              subst n78 r77
              have hhq790 : (60 < nm58 ∨ cn = 120) → h_82 = -4 ∧ v_83 = -4 ∧ c1_84 = cn := hhq790
              have hhq791 : (60 < nm58 ∨ cn = 120) → s1_85 = so ∧ z1_86 = sz ∧ d1_87 = dr ∧ m1_88 = mn ∧ f1_89 = fr ∧ t1_90 = tt ∧ w1_91 = wt ∧ o1_92 = co := hhq791
              have hhq792 : nm58 ≤ 60 ∧ cn < 120 → h_82 = cn ∧ v_83 = v_7 ∧ c1_84 = cn + 1 := hhq792
              have hhq793 : nm58 ≤ 60 ∧ cn < 120 → s1_85 = fup so (Int.toNat cn) 1 ∧ z1_86 = fup sz (Int.toNat cn) (qc (Int.toNat x2)) ∧ d1_87 = fup dr (Int.toNat cn) (dr (Int.toNat x1)) ∧ m1_88 = fup mn (Int.toNat cn) nm58 ∧ f1_89 = kcF nf58 fr (Int.toNat (60 * cn)) (Int.toNat nm58) ∧ t1_90 = kcF nt58 tt (Int.toNat (60 * cn)) (Int.toNat nm58) ∧ w1_91 = kcF nw58 wt (Int.toNat (60 * cn)) (Int.toNat nm58) ∧ o1_92 = kcF nc58 co (Int.toNat (60 * cn)) (Int.toNat nm58) := hhq793
              change Rn _ _ _ 166 _ [.int (iv h_82)] _ _ _ _ _
              obtain ⟨hRKm, hDFm, hhm⟩ := RK_made (x1 := qc (Int.toNat x2)) (x2 := dr (Int.toNat x1)) (RK_set (nm1 := nm58) (nu1 := nu) (nf1 := nf58) (nt1 := nt58) (nw1 := nw58) (nc1 := nc58) hk (by omega) (by omega)) (by omega) (by omega) (fun _ => (by assumption)) hhq790 hhq791 hhq792 hhq793
              obtain ⟨hnwA, hnwB, hnwC, hnwD, hnwE⟩ := mk_new (x1 := qc (Int.toNat x2)) (x2 := dr (Int.toNat x1)) (l := (if x3 = 0 then (acc (cpE (sh fr (60 * x1)) (sh tt (60 * x1)) (sh wt (60 * x1)) (sh co (60 * x1)) 0) (Int.toNat (mn (Int.toNat x1))) ++ acc (cpE (sh fr (60 * x2)) (sh tt (60 * x2)) (sh wt (60 * x2)) (sh co (60 * x2)) (sz (Int.toNat x1))) (Int.toNat (mn (Int.toNat x2)))) else (acc (mlE (sh fr (60 * x1)) (sh tt (60 * x1)) (sh wt (60 * x1)) (sh co (60 * x1)) (sh qi (16 * x2))) (Int.toNat (mn (Int.toNat x1)))))) (by rw [if_neg (by omega)]; have h8 : PL ([] ++ acc (mlE (sh fr (60 * x1)) (sh tt (60 * x1)) (sh wt (60 * x1)) (sh co (60 * x1)) (sh qi (16 * x2))) (Int.toNat v58_4)) _ _ _ _ _ := (by assumption); rw [show v58_4 = (mn (Int.toNat x1)) by omega] at h8; exact h8) (by omega) hhq790 hhq791 hhq792 hhq793 (by omega)
              clear hhq790 hhq791 hhq792 hhq793
              exact r_iret (pc := 166) dX12_join_166 rfl (hPo _ _ _ ⟨rfl, v_83, c1_84, nm58, s1_85, z1_86, d1_87, m1_88, f1_89, t1_90, w1_91, o1_92, nf58, nt58, nw58, nc58, h_82, ht81, rfl, (by (first | assumption | exact RK_set hk (by omega) (by omega))), (by (first | assumption | exact df_r _ _ _ _ _ _ _)), (by omega), (by first | exact an2_m (hnwA.trans (hdQ_c (by omega))) (by (try rw [if_pos (show x3 = 0 by omega)]); (try rw [if_neg (show ¬ x3 = 0 by omega)]); omega) (by omega) | exact an2_r (by (try rw [if_pos (show x3 = 0 by omega)]); (try rw [if_neg (show ¬ x3 = 0 by omega)]); omega)), (by (intro h9; first | (exfalso; omega) | exact ⟨rfl, rfl, rfl, rfl, rfl, rfl, rfl, rfl, rfl⟩ | exact hnwB h9)), (by (intro h9; first | (exfalso; omega) | exact GNw_c (hnwC h9) (by (repeat' split) <;> omega) rfl)), (by (first | omega | exact ⟨hnwD, fun h9 => (hnwE h9).trans (by omega)⟩))⟩)
            · refine r_iload_n (pc := 69) dX12_join_69 (i := 1) rfl rfl ?_
              refine r_iload (pc := 70) dX12_join_70 rfl ?_
              refine t_callSI (pc := 72) (as := [.int (iv x1), .int (iv v58_4)]) (st := []) kX12_157 dX12_join_72 (t_X12_at1x (d := d - 1) (x1 := x1) (x2 := v58_4) (by omega)  ht58 (by omega) (by omega)) rfl (by omega) (Nat.le_of_ble_eq_true rfl) rfl (fun hp93 y95 ht94 by95 => ?_)
              have ey95 : y95 = 60 * x1 + v58_4 := by95
              subst ey95
              refine r_istore (pc := 75) (lv' := [(5, .int (iv (60 * x1 + v58_4))), (0, .ref y), (1, .int (iv x1)), (2, .int (iv x2)), (4, .int (iv v58_4))]) dX12_join_75 (by decide) rfl ?_
              have he9 := hen.2 v58_4 (by omega) (by omega)
              refine r_aload_n (pc := 77) dX12_join_77 (i := 0) rfl rfl ?_
              refine t_getE (pc := 78) (.ref (y + 15)) ht94 (rd_of RX_y) fX12_54 dX12_join_78 rfl ?_
              refine r_bipush (pc := 81) (v := iv 16) dX12_join_81 (by decide) ?_
              refine r_iload_n (pc := 83) dX12_join_83 (i := 2) rfl rfl ?_
              refine r_imul (pc := 84) (v := iv (16 * x2)) dX12_join_84 (iv_mul _ _) ?_
              refine r_aload_n (pc := 85) dX12_join_85 (i := 0) rfl rfl ?_
              refine t_getE (pc := 86) (.ref (y + 5)) ht94 (rd_of RX_y) fX12_23 dX12_join_86 rfl ?_
              refine r_iload (pc := 89) dX12_join_89 rfl ?_
              refine t_ialdX (pc := 91) (t0 := 0) ht94 (rd_of RX_from) dX12_join_91 rfl (by decide) (by omega) (fun b96 => ?_)
              have rb96 := (show Rfx 7260 0 15 fr by assumption) (Int.toNat (60 * x1 + v58_4)) (by omega)
              refine r_iadd (pc := 92) (v := iv ((16 * x2) + (fr (Int.toNat (60 * x1 + v58_4))))) dX12_join_92 (iv_add _ _) ?_
              refine t_ialdX (pc := 93) (t0 := 0) ht94 (rd_of RX_inPart) dX12_join_93 rfl (by decide) (by omega) (fun b97 => ?_)
              have rb97 := (show Rfx 1936 0 15 qi by assumption) (Int.toNat ((16 * x2) + (fr (Int.toNat (60 * x1 + v58_4))))) (by omega)
              have hq93 := hpa x2 (by omega) (by omega) (by omega) (fr (Int.toNat (60 * x1 + v58_4))) (by omega) (by omega)
              refine r_istore (pc := 94) (lv' := [(6, .int (iv (qi (Int.toNat ((16 * x2) + (fr (Int.toNat (60 * x1 + v58_4)))))))), (5, .int (iv (60 * x1 + v58_4))), (0, .ref y), (1, .int (iv x1)), (2, .int (iv x2)), (4, .int (iv v58_4))]) dX12_join_94 (by decide) rfl ?_
              refine r_aload_n (pc := 96) dX12_join_96 (i := 0) rfl rfl ?_
              refine t_getE (pc := 97) (.ref (y + 15)) ht94 (rd_of RX_y) fX12_54 dX12_join_97 rfl ?_
              refine r_bipush (pc := 100) (v := iv 16) dX12_join_100 (by decide) ?_
              refine r_iload_n (pc := 102) dX12_join_102 (i := 2) rfl rfl ?_
              refine r_imul (pc := 103) (v := iv (16 * x2)) dX12_join_103 (iv_mul _ _) ?_
              refine r_aload_n (pc := 104) dX12_join_104 (i := 0) rfl rfl ?_
              refine t_getE (pc := 105) (.ref (y + 6)) ht94 (rd_of RX_y) fX12_26 dX12_join_105 rfl ?_
              refine r_iload (pc := 108) dX12_join_108 rfl ?_
              refine t_ialdX (pc := 110) (t0 := 0) ht94 (rd_of RX_to) dX12_join_110 rfl (by decide) (by omega) (fun b98 => ?_)
              have rb98 := (show Rfx 7260 0 15 tt by assumption) (Int.toNat (60 * x1 + v58_4)) (by omega)
              refine r_iadd (pc := 111) (v := iv ((16 * x2) + (tt (Int.toNat (60 * x1 + v58_4))))) dX12_join_111 (iv_add _ _) ?_
              refine t_ialdX (pc := 112) (t0 := 0) ht94 (rd_of RX_inPart) dX12_join_112 rfl (by decide) (by omega) (fun b99 => ?_)
              have rb99 := (show Rfx 1936 0 15 qi by assumption) (Int.toNat ((16 * x2) + (tt (Int.toNat (60 * x1 + v58_4))))) (by omega)
              have hq112 := hpa x2 (by omega) (by omega) (by omega) (tt (Int.toNat (60 * x1 + v58_4))) (by omega) (by omega)
              refine r_istore (pc := 113) (lv' := [(7, .int (iv (qi (Int.toNat ((16 * x2) + (tt (Int.toNat (60 * x1 + v58_4)))))))), (6, .int (iv (qi (Int.toNat ((16 * x2) + (fr (Int.toNat (60 * x1 + v58_4)))))))), (5, .int (iv (60 * x1 + v58_4))), (0, .ref y), (1, .int (iv x1)), (2, .int (iv x2)), (4, .int (iv v58_4))]) dX12_join_113 (by decide) rfl ?_
              refine r_iload (pc := 115) dX12_join_115 rfl ?_
              refine r_iload (pc := 117) dX12_join_117 rfl ?_
              refine t_icmp_eq (pc := 119) (tgt := 144) dX12_join_119 (by decide) (by omega) (by omega) (fun c119 => ?_) (fun c119 => ?_)
              · have hrow : mlE (sh fr (60 * x1)) (sh tt (60 * x1)) (sh wt (60 * x1)) (sh co (60 * x1)) (sh qi (16 * x2)) (Int.toNat v58_4) = [] := sel_n (by rw [← sh_at fr (60 * x1) (v := v58_4) (by omega), ← sh_at tt (60 * x1) (v := v58_4) (by omega), ← sh_at qi (16 * x2) (v := fr (Int.toNat (60 * x1 + v58_4))) (by omega), ← sh_at qi (16 * x2) (v := tt (Int.toNat (60 * x1 + v58_4))) (by omega)]; omega)
                refine r_iinc (pc := 144) (v := iv (v58_4 + 1)) (lv' := [(4, .int (iv (v58_4 + 1))), (7, .int (iv (qi (Int.toNat ((16 * x2) + (tt (Int.toNat (60 * x1 + v58_4)))))))), (6, .int (iv (qi (Int.toNat ((16 * x2) + (fr (Int.toNat (60 * x1 + v58_4)))))))), (5, .int (iv (60 * x1 + v58_4))), (0, .ref y), (1, .int (iv x1)), (2, .int (iv x2))]) dX12_join_144 rfl (iv_add _ _) (by decide) rfl ?_
                refine r_goto (pc := 147) (tgt := 58) dX12_join_147 (by decide) ?_
                refine Rn.pick (lv' := [(0, .ref y), (1, .int (iv x1)), (2, .int (iv x2)), (4, .int (iv (v58_4 + 1)))]) [4, 5, 6, 0] rfl ?_
                exact ih58 (Int.toNat (60 - (v58_4 + 1))) (by omega) nm58 nf58 nt58 nw58 nc58 _ ht94 (v58_4 + 1) ⟨by omega, by omega, by omega, by omega, by omega, by omega, by assumption, by (first | assumption | exact PL_y (by assumption) (by omega) hrow | exact PL_n (by assumption) (by omega) hrow)⟩ (by omega)
              · refine r_aload_n (pc := 122) dX12_join_122 (i := 0) rfl rfl ?_
                refine r_iload (pc := 123) dX12_join_123 rfl ?_
                refine r_iload (pc := 125) dX12_join_125 rfl ?_
                refine r_aload_n (pc := 127) dX12_join_127 (i := 0) rfl rfl ?_
                refine t_getE (pc := 128) (.ref (y + 7)) ht94 (rd_of RX_y) fX12_29 dX12_join_128 rfl ?_
                refine r_iload (pc := 131) dX12_join_131 rfl ?_
                refine t_ialdX (pc := 133) (t0 := 0) ht94 (rd_of RX_weight) dX12_join_133 rfl (by decide) (by omega) (fun b100 => ?_)
                have rb100 := (show Rfx 7260 (-1000) 1000 wt by assumption) (Int.toNat (60 * x1 + v58_4)) (by omega)
                refine r_aload_n (pc := 134) dX12_join_134 (i := 0) rfl rfl ?_
                refine t_getE (pc := 135) (.ref (y + 8)) ht94 (rd_of RX_y) fX12_32 dX12_join_135 rfl ?_
                refine r_iload (pc := 138) dX12_join_138 rfl ?_
                refine t_ialdX (pc := 140) (t0 := 0) ht94 (rd_of RX_cost) dX12_join_140 rfl (by decide) (by omega) (fun b101 => ?_)
                have rb101 := (show Rfx 7260 (-1000) 1000 co by assumption) (Int.toNat (60 * x1 + v58_4)) (by omega)
                obtain ⟨fs106, hfs106⟩ := t_obj ht94 (rd_of RX_y)
                refine r_callV (pc := 141) (as := [.int (iv (qi (Int.toNat ((16 * x2) + (fr (Int.toNat (60 * x1 + v58_4))))))), .int (iv (qi (Int.toNat ((16 * x2) + (tt (Int.toNat (60 * x1 + v58_4))))))), .int (iv (wt (Int.toNat (60 * x1 + v58_4)))), .int (iv (co (Int.toNat (60 * x1 + v58_4))))]) (st := []) kX12_171 rfl dX12_join_141 hfs106 (x_X12_put (d := d - 1) (x1 := qi (Int.toNat ((16 * x2) + (fr (Int.toNat (60 * x1 + v58_4)))))) (x2 := qi (Int.toNat ((16 * x2) + (tt (Int.toNat (60 * x1 + v58_4)))))) (x3 := wt (Int.toNat (60 * x1 + v58_4))) (x4 := co (Int.toNat (60 * x1 + v58_4))) (by omega) (by omega) ht94 (by omega) (by omega) (by omega) (by omega) (by omega) (fun _ _ _ h => h)) rfl (by omega) (Nat.le_of_ble_eq_true rfl) (Nat.zero_le _) (Nat.zero_le _) rfl (fun r103 hp102 n104 hq105 => ?_)
                obtain ⟨hnn104, ht107, hrr103⟩ := hq105
                subst n104 r103
                change Rn _ _ _ 144 _ [] _ _ _ _ _
                have hrow : mlE (sh fr (60 * x1)) (sh tt (60 * x1)) (sh wt (60 * x1)) (sh co (60 * x1)) (sh qi (16 * x2)) (Int.toNat v58_4) = [(qi (Int.toNat ((16 * x2) + (fr (Int.toNat (60 * x1 + v58_4))))), qi (Int.toNat ((16 * x2) + (tt (Int.toNat (60 * x1 + v58_4))))), wt (Int.toNat (60 * x1 + v58_4)), co (Int.toNat (60 * x1 + v58_4)))] := by
                  show sel _ _ = _
                  rw [sel_y (by rw [← sh_at fr (60 * x1) (v := v58_4) (by omega), ← sh_at tt (60 * x1) (v := v58_4) (by omega), ← sh_at qi (16 * x2) (v := fr (Int.toNat (60 * x1 + v58_4))) (by omega), ← sh_at qi (16 * x2) (v := tt (Int.toNat (60 * x1 + v58_4))) (by omega)]; omega)]
                  rw [← sh_at fr (60 * x1) (v := v58_4) (by omega), ← sh_at tt (60 * x1) (v := v58_4) (by omega), ← sh_at qi (16 * x2) (v := fr (Int.toNat (60 * x1 + v58_4))) (by omega), ← sh_at qi (16 * x2) (v := tt (Int.toNat (60 * x1 + v58_4))) (by omega), ← sh_at wt (60 * x1) (v := v58_4) (by omega), ← sh_at co (60 * x1) (v := v58_4) (by omega)]
                have hapq108 : arP (fup nf58 (Int.toNat nm58) (qi (Int.toNat ((16 * x2) + (fr (Int.toNat (60 * x1 + v58_4))))))) (fup nt58 (Int.toNat nm58) (qi (Int.toNat ((16 * x2) + (tt (Int.toNat (60 * x1 + v58_4))))))) (fup nw58 (Int.toNat nm58) (wt (Int.toNat (60 * x1 + v58_4)))) (fup nc58 (Int.toNat nm58) (co (Int.toNat (60 * x1 + v58_4)))) (nm58 + 1) (qc (Int.toNat x2)) := ar_up (by assumption) (by omega) (by omega) (by omega) (by omega) (by omega)
                refine r_iinc (pc := 144) (v := iv (v58_4 + 1)) (lv' := [(4, .int (iv (v58_4 + 1))), (7, .int (iv (qi (Int.toNat ((16 * x2) + (tt (Int.toNat (60 * x1 + v58_4)))))))), (6, .int (iv (qi (Int.toNat ((16 * x2) + (fr (Int.toNat (60 * x1 + v58_4)))))))), (5, .int (iv (60 * x1 + v58_4))), (0, .ref y), (1, .int (iv x1)), (2, .int (iv x2))]) dX12_join_144 rfl (iv_add _ _) (by decide) rfl ?_
                refine r_goto (pc := 147) (tgt := 58) dX12_join_147 (by decide) ?_
                refine Rn.pick (lv' := [(0, .ref y), (1, .int (iv x1)), (2, .int (iv x2)), (4, .int (iv (v58_4 + 1)))]) [4, 5, 6, 0] rfl ?_
                exact ih58 (Int.toNat (60 - (v58_4 + 1))) (by omega) (nm58 + 1) (fup nf58 (Int.toNat nm58) (qi (Int.toNat ((16 * x2) + (fr (Int.toNat (60 * x1 + v58_4))))))) (fup nt58 (Int.toNat nm58) (qi (Int.toNat ((16 * x2) + (tt (Int.toNat (60 * x1 + v58_4))))))) (fup nw58 (Int.toNat nm58) (wt (Int.toNat (60 * x1 + v58_4)))) (fup nc58 (Int.toNat nm58) (co (Int.toNat (60 * x1 + v58_4)))) _ ht107 (v58_4 + 1) ⟨by omega, by omega, by omega, by omega, by omega, by omega, by assumption, by (first | assumption | exact PL_y (by assumption) (by omega) hrow | exact PL_n (by assumption) (by omega) hrow)⟩ (by omega)
          refine Rn.pick (lv' := [(0, .ref y), (1, .int (iv x1)), (2, .int (iv x2)), (4, .int (iv 0))]) [1, 2, 3, 0] rfl ?_
          exact B58 (Int.toNat (60 - 0)) 0 nf nt nw nc _ ht11 0 ⟨by omega, by omega, by omega, by omega, by omega, by omega, by assumption, by (first | assumption | exact PL_y (by assumption) (by omega) hrow | exact PL_n (by assumption) (by omega) hrow)⟩ (by omega)
        · refine r_aload_n (pc := 48) dX12_join_48 (i := 0) rfl rfl ?_
          refine r_bipush (pc := 49) (v := iv (-3)) dX12_join_49 (by decide) ?_
          obtain ⟨fs113, hfs113⟩ := t_obj ht11 (rd_of RX_y)
          refine r_callV (pc := 51) (as := [.int (iv (-3))]) (st := []) kX12_153 rfl dX12_join_51 hfs113 (x_X12_refuse (d := d - 1) (x1 := (-3)) (by omega) ht11 (by omega) (fun _ _ _ h => h)) rfl (by omega) (Nat.le_of_ble_eq_true rfl) (Nat.zero_le _) (Nat.zero_le _) rfl (fun r110 hp109 n111 hq112 => ?_)
          obtain ⟨hnn111, ht114, hrr110⟩ := hq112
          subst n111 r110
          change Rn _ _ _ 54 _ [.int (iv (-3))] _ _ _ _ _
          exact r_iret (pc := 54) dX12_join_54 rfl (hPo _ _ _ ⟨rfl, (-3), cn, 0, so, sz, dr, mn, fr, tt, wt, co, nf, nt, nw, nc, (-3), ht114, rfl, (by (first | assumption | exact RK_set hk (by omega) (by omega))), (by (first | assumption | exact df_r _ _ _ _ _ _ _)), (by omega), (by exact an2_b (by omega) (by (try rw [if_pos (show x3 = 0 by omega)]); (try rw [if_neg (show ¬ x3 = 0 by omega)]); omega) (by omega)), (by (intro h9; first | (exfalso; omega) | exact ⟨rfl, rfl, rfl, rfl, rfl, rfl, rfl, rfl, rfl⟩ | exact hnwB h9)), (by (intro h9; first | (exfalso; omega) | exact GNw_c (hnwC h9) (by (repeat' split) <;> omega) rfl)), (by (first | omega | exact ⟨hnwD, fun h9 => (hnwE h9).trans (by omega)⟩))⟩)
    · refine r_aload_n (pc := 19) dX12_join_19 (i := 0) rfl rfl ?_
      refine t_getE (pc := 20) (.int (iv v_7)) ht6 (rd_of RX_y) fX12_142 dX12_join_20 rfl ?_
      exact r_iret (pc := 23) dX12_join_23 rfl (hPo _ _ _ ⟨rfl, v_7, cn, nm, so, sz, dr, mn, fr, tt, wt, co, nf, nt, nw, nc, v_7, ht6, rfl, (by (first | assumption | exact RK_set hk (by omega) (by omega))), (by (first | assumption | exact df_r _ _ _ _ _ _ _)), (by omega), (by first | exact an2_m (hnwA.trans (hdQ_c (by omega))) (by (try rw [if_pos (show x3 = 0 by omega)]); (try rw [if_neg (show ¬ x3 = 0 by omega)]); omega) (by omega) | exact an2_r (by (try rw [if_pos (show x3 = 0 by omega)]); (try rw [if_neg (show ¬ x3 = 0 by omega)]); omega)), (by (intro h9; first | (exfalso; omega) | exact ⟨rfl, rfl, rfl, rfl, rfl, rfl, rfl, rfl, rfl⟩ | exact hnwB h9)), (by (intro h9; first | (exfalso; omega) | exact GNw_c (hnwC h9) (by (repeat' split) <;> omega) rfl)), (by (first | omega | exact ⟨hnwD, fun h9 => (hnwE h9).trans (by omega)⟩))⟩)
  refine t_if_eq (pc := 5) (tgt := 12) dX12_join_5 (by decide) (by omega) (fun c5 => ?_) (fun c5 => ?_)
  · refine r_iconst (pc := 12) (v := iv 1) dX12_join_12 (by decide) ?_
    refine Rn.pick (lv' := [(0, .ref y), (1, .int (iv x1)), (2, .int (iv x2)), (3, .int (iv x3))]) [0, 1, 2, 3] rfl ?_
    exact B13 _ ht 1 ⟨by omega, by omega, by omega⟩
  · refine r_iconst (pc := 8) (v := iv 4) dX12_join_8 (by decide) ?_
    refine r_goto (pc := 9) (tgt := 13) dX12_join_9 (by decide) ?_
    refine Rn.pick (lv' := [(0, .ref y), (1, .int (iv x1)), (2, .int (iv x2)), (3, .int (iv x3))]) [0, 1, 2, 3] rfl ?_
    exact B13 _ ht 4 ⟨by omega, by omega, by omega⟩
