theorem en_FT {fr tt mn sz : Nat → Int} {g : Int} (h : enP fr tt mn sz g) (hf : Rfx 7260 0 15 fr) (ht : Rfx 7260 0 15 tt) (hg : 0 ≤ g ∧ g ≤ 120) (hm : 0 ≤ mn g.toNat ∧ mn g.toNat ≤ 60) : ∀ k, k < (mn g.toNat).toNat → (0 ≤ sh fr (60 * g) k ∧ sh fr (60 * g) k < (((sz g.toNat).toNat : Nat) : Int)) ∧ 0 ≤ sh tt (60 * g) k ∧ sh tt (60 * g) k < (((sz g.toNat).toNat : Nat) : Int) := fun k hk => by
  have h1 := h (k : Int) (by omega) (by omega)
  have h2 := hf (60 * g + (k : Int)).toNat (by omega)
  have h3 := ht (60 * g + (k : Int)).toNat (by omega)
  show (0 ≤ fr (60 * g + (k : Int)).toNat ∧ fr (60 * g + (k : Int)).toNat < _) ∧ 0 ≤ tt (60 * g + (k : Int)).toNat ∧ tt (60 * g + (k : Int)).toNat < _
  omega
theorem al_rf {N D M N' D' M' : Int} {F T W C F' T' W' C' : Nat → Int} {u what x r : Int} (h : ((N' = N ∧ D' = D ∧ M' = M) ∧ ∃ im9, lxA (isP M.toNat D F T W C F' T' W' C') N im9 ∧ r = (if u = 0 then im9 x.toNat else 1)) ∨ (¬ ((N' = N ∧ D' = D ∧ M' = M) ∧ ∃ im9, vaP (isP M.toNat D F T W C F' T' W' C') N im9) ∧ r = (if u = 0 then -1 else 0))) (hu : (u = 1 ∧ what = 16) ∨ (u = 0 ∧ what = 17)) : alB N D M N' D' M' F T W C F' T' W' C' what x r := by
  rcases hu with ⟨e1, e2⟩ | ⟨e1, e2⟩
  · subst e1 e2
    exact h
  · subst e1 e2
    exact h
def qy_X12_ask (Γ : TG) (cI cJ cZ : ClassId) (y n : Nat) (rf cn nm : Int) (so sz dr mn fr tt wt co : Nat → Int) (nu : Nat → Int64) (qi qc nf nt nw nc : Nat → Int) (sa : Nat → Int) (wo : Nat → Int64) (ln : Nat → Int) (hw : Nat → Int64) (ro : Nat → Int) (x1 x2 x3 x4 : Int) : Option Value → MH → Nat → Prop := fun r hp1 n1 => n1 = n ∧ ∃ (rf' : Int) (cn' : Int) (nm' : Int) (so' : Nat → Int) (sz' : Nat → Int) (dr' : Nat → Int) (mn' : Nat → Int) (fr' : Nat → Int) (tt' : Nat → Int) (wt' : Nat → Int) (co' : Nat → Int) (nu' : Nat → Int64) (qi' : Nat → Int) (qc' : Nat → Int) (nf' : Nat → Int) (nt' : Nat → Int) (nw' : Nat → Int) (nc' : Nat → Int) (sa' : Nat → Int) (wo' : Nat → Int64) (ln' : Nat → Int) (hw' : Nat → Int64) (ro' : Nat → Int) (v' : Int64), Tw (RW Γ cI cJ cZ y rf' cn' nm' so' sz' dr' mn' fr' tt' wt' co' nu' qi' qc' nf' nt' nw' nc' sa' wo' ln' hw' ro') hp1 ∧ r = some (.long v') ∧ (RK rf' cn' nm' so' sz' dr' mn' fr' tt' wt' co' nu' qi' qc' nf' nt' nw' nc') ∧ (dfE sz dr mn fr tt wt co sz' dr' mn' fr' tt' wt' co') ∧ (rf' = hdQ (x2 = 16 ∨ x2 = 17) (dn2 cn so x1 1 x4 1 (x2 = 17 ∧ (x3 < 0 ∨ (sz (Int.toNat x1)) ≤ x3))) (dn1 cn so x1 1 (x2 < 0 ∨ 17 < x2 ∨ ((x2 = 0 ∨ x2 = 2) ∧ (x3 < 0 ∨ (sz (Int.toNat x1)) ≤ x3)) ∨ (x2 = 11 ∧ (x3 < 0 ∨ (mn (Int.toNat x1)) ≤ x3)) ∨ (12 ≤ x2 ∧ x2 ≤ 15 ∧ (x3 < 0 ∨ (sz (Int.toNat x1)) ≤ x3 ∨ x4 < 0 ∨ (sz (Int.toNat x1)) ≤ x4 ∨ x3 = x4))))) ∧ (cn' = cn ∧ so' = so ∧ sz' = sz ∧ dr' = dr ∧ mn' = mn ∧ fr' = fr ∧ tt' = tt ∧ wt' = wt ∧ co' = co ∧ nu' = nu ∧ qi' = qi ∧ qc' = qc ∧ sa' = sa ∧ wo' = wo ∧ ln' = ln ∧ hw' = hw ∧ ro' = ro) ∧ (rf' ≠ 0 → v' = 0) ∧ (rf' = 0 → akN sz dr mn fr tt wt co x1 x2 x3 x4 v'.toInt)
set_option maxHeartbeats 4000000 in
set_option maxRecDepth 100000 in
theorem zy_X12_ask {D : va_G} {cI cJ cZ cT : ClassId} {lo b L : Nat} {xs : Nat → Int32} {hp : MH} {n d : Nat} {Γ : TG} {y : Nat} {rf cn nm : Int} {so sz dr mn fr tt wt co : Nat → Int} {nu : Nat → Int64} {qi qc nf nt nw nc : Nat → Int} {sa : Nat → Int} {wo : Nat → Int64} {ln : Nat → Int} {hw : Nat → Int64} {ro : Nat → Int} {x1 x2 x3 x4 : Int} (hd0 : 5 ≤ d) (hk : RK rf cn nm so sz dr mn fr tt wt co nu qi qc nf nt nw nc) (ht : Tw (RW Γ cI cJ cZ y rf cn nm so sz dr mn fr tt wt co nu qi qc nf nt nw nc sa wo ln hw ro) hp) (hx1 : (-2147483648) ≤ x1 ∧ x1 ≤ 2147483647) (hx2 : (-2147483648) ≤ x2 ∧ x2 ≤ 2147483647) (hx3 : (-2147483648) ≤ x3 ∧ x3 ≤ 2147483647) (hx4 : (-2147483648) ≤ x4 ∧ x4 ≤ 2147483647) : Mt (gG D cI cJ cZ cT lo b L xs) mX12_ask d 0 0 [.ref y, .int (iv x1), .int (iv x2), .int (iv x3), .int (iv x4)] hp n (qy_X12_ask Γ cI cJ cZ y n rf cn nm so sz dr mn fr tt wt co nu qi qc nf nt nw nc sa wo ln hw ro x1 x2 x3 x4) := by
  refine Mt.of rfl (Nat.le_of_ble_eq_true rfl) ?_
  refine Rn.pick (lv' := [(0, .ref y), (1, .int (iv x1)), (2, .int (iv x2)), (3, .int (iv x3)), (4, .int (iv x4))]) [0, 1, 2, 3, 4] rfl ?_
  obtain ⟨hR_sorts, hR_sizes, hR_directs, hR_many, hR_from, hR_to, hR_weight, hR_cost, hR_inPart, hR_partCount, hcn, hrf, hnm, hdf, hgr, hpa, hsz⟩ := id hk
  refine r_iload_n (pc := 0) dX12_ask_0 (i := 2) rfl rfl ?_
  refine r_bipush (pc := 1) (v := iv 16) dX12_ask_1 (by decide) ?_
  have B17 : ∀ hp17 : MH, Tw (RW Γ cI cJ cZ y rf cn nm so sz dr mn fr tt wt co nu qi qc nf nt nw nc sa wo ln hw ro) hp17 → ∀  (u17_0 : Int), 0 ≤ u17_0 ∧ u17_0 ≤ 1 ∧ ((u17_0 = 1 ∧ (x2 = 16 ∨ x2 = 17)) ∨ (u17_0 = 0 ∧ ¬ (x2 = 16 ∨ x2 = 17))) → Rn (gG D cI cJ cZ cT lo b L xs) mX12_ask d 17 [(0, .ref y), (1, .int (iv x1)), (2, .int (iv x2)), (3, .int (iv x3)), (4, .int (iv x4))] [.int (iv u17_0)] hp17 n 0 0 (qy_X12_ask Γ cI cJ cZ y n rf cn nm so sz dr mn fr tt wt co nu qi qc nf nt nw nc sa wo ln hw ro x1 x2 x3 x4) := by
    intro hp17 ht17 u17_0 hf17
    refine r_istore (pc := 17) (lv' := [(5, .int (iv u17_0)), (0, .ref y), (1, .int (iv x1)), (2, .int (iv x2)), (3, .int (iv x3)), (4, .int (iv x4))]) dX12_ask_17 (by decide) rfl ?_
    refine r_iload (pc := 19) dX12_ask_19 rfl ?_
    have B50 : ∀ rf50 : Int, ∀ hp50 : MH, Tw (RW Γ cI cJ cZ y rf50 cn nm so sz dr mn fr tt wt co nu qi qc nf nt nw nc sa wo ln hw ro) hp50 → 0 ≤ x1 ∧ x1 ≤ 119 ∧ -2147483648 ≤ rf50 ∧ rf50 ≤ 2147483647 ∧ x1 < cn ∧ so (Int.toNat x1) = 1 ∧ ((x2 = 16 ∨ x2 = 17) → 0 ≤ x4 ∧ x4 < cn) ∧ ((x2 = 16 ∨ x2 = 17) → so (Int.toNat x4) = 1) ∧ rf50 = 0 → Rn (gG D cI cJ cZ cT lo b L xs) mX12_ask d 50 [(0, .ref y), (1, .int (iv x1)), (2, .int (iv x2)), (3, .int (iv x3)), (4, .int (iv x4))] [] hp50 n 0 0 (qy_X12_ask Γ cI cJ cZ y n rf cn nm so sz dr mn fr tt wt co nu qi qc nf nt nw nc sa wo ln hw ro x1 x2 x3 x4) := by
      intro rf50 hp50 ht50 hf50
      refine r_aload_n (pc := 50) dX12_ask_50 (i := 0) rfl rfl ?_
      have rsz45 := hR_sizes (Int.toNat x1) (by omega)
      have rsy45 := hsz x1 (by omega) (by omega)
      have hen := hgr x1 (by omega) (by omega) (by omega)
      have hEn : enP fr tt mn sz x1 := hen.2
      have rmn45 := hR_many (Int.toNat x1) (by omega)
      refine t_getE (pc := 51) (.ref (y + 2)) ht50 (rd_of RW_y) fX12_13 dX12_ask_51 rfl ?_
      refine r_iload_n (pc := 54) dX12_ask_54 (i := 1) rfl rfl ?_
      refine t_ialdX (pc := 55) (t0 := 0) ht50 (rd_of RW_sizes) dX12_ask_55 rfl (by decide) (by omega) (fun b1 => ?_)
      have rb1 := (show Rfx 121 0 16 sz by assumption) (Int.toNat x1) (by omega)
      refine r_istore (pc := 56) (lv' := [(6, .int (iv (sz (Int.toNat x1)))), (0, .ref y), (1, .int (iv x1)), (2, .int (iv x2)), (3, .int (iv x3)), (4, .int (iv x4))]) dX12_ask_56 (by decide) rfl ?_
      refine r_iload_n (pc := 58) dX12_ask_58 (i := 2) rfl rfl ?_
      refine r_bipush (pc := 59) (v := iv 12) dX12_ask_59 (by decide) ?_
      have B75 : ∀ hp75 : MH, Tw (RW Γ cI cJ cZ y rf50 cn nm so sz dr mn fr tt wt co nu qi qc nf nt nw nc sa wo ln hw ro) hp75 → ∀  (u75_0 : Int), 0 ≤ u75_0 ∧ u75_0 ≤ 1 ∧ ((u75_0 = 1 ∧ 12 ≤ x2 ∧ x2 ≤ 15) ∨ (u75_0 = 0 ∧ ¬ (12 ≤ x2 ∧ x2 ≤ 15))) → Rn (gG D cI cJ cZ cT lo b L xs) mX12_ask d 75 [(0, .ref y), (1, .int (iv x1)), (2, .int (iv x2)), (3, .int (iv x3)), (4, .int (iv x4)), (6, .int (iv (sz (Int.toNat x1))))] [.int (iv u75_0)] hp75 n 0 0 (qy_X12_ask Γ cI cJ cZ y n rf cn nm so sz dr mn fr tt wt co nu qi qc nf nt nw nc sa wo ln hw ro x1 x2 x3 x4) := by
        intro hp75 ht75 u75_0 hf75
        refine r_istore (pc := 75) (lv' := [(7, .int (iv u75_0)), (0, .ref y), (1, .int (iv x1)), (2, .int (iv x2)), (3, .int (iv x3)), (4, .int (iv x4)), (6, .int (iv (sz (Int.toNat x1))))]) dX12_ask_75 (by decide) rfl ?_
        refine r_iload_n (pc := 77) dX12_ask_77 (i := 2) rfl rfl ?_
        have B102 : ∀ hp102 : MH, Tw (RW Γ cI cJ cZ y rf50 cn nm so sz dr mn fr tt wt co nu qi qc nf nt nw nc sa wo ln hw ro) hp102 → ∀  (u102_0 : Int), 0 ≤ u102_0 ∧ u102_0 ≤ 1 ∧ ((u102_0 = 1 ∧ (x2 = 0 ∨ x2 = 2 ∨ (12 ≤ x2 ∧ x2 ≤ 15) ∨ x2 = 17)) ∨ (u102_0 = 0 ∧ ¬ (x2 = 0 ∨ x2 = 2 ∨ (12 ≤ x2 ∧ x2 ≤ 15) ∨ x2 = 17))) → Rn (gG D cI cJ cZ cT lo b L xs) mX12_ask d 102 [(0, .ref y), (1, .int (iv x1)), (2, .int (iv x2)), (3, .int (iv x3)), (4, .int (iv x4)), (6, .int (iv (sz (Int.toNat x1)))), (7, .int (iv u75_0))] [.int (iv u102_0)] hp102 n 0 0 (qy_X12_ask Γ cI cJ cZ y n rf cn nm so sz dr mn fr tt wt co nu qi qc nf nt nw nc sa wo ln hw ro x1 x2 x3 x4) := by
          intro hp102 ht102 u102_0 hf102
          refine r_istore (pc := 102) (lv' := [(8, .int (iv u102_0)), (0, .ref y), (1, .int (iv x1)), (2, .int (iv x2)), (3, .int (iv x3)), (4, .int (iv x4)), (6, .int (iv (sz (Int.toNat x1)))), (7, .int (iv u75_0))]) dX12_ask_102 (by decide) rfl ?_
          refine r_iload_n (pc := 104) dX12_ask_104 (i := 2) rfl rfl ?_
          have B172 : ∀ hp172 : MH, Tw (RW Γ cI cJ cZ y rf50 cn nm so sz dr mn fr tt wt co nu qi qc nf nt nw nc sa wo ln hw ro) hp172 → ((x2 < 0 ∨ 17 < x2 ∨ ((x2 = 0 ∨ x2 = 2 ∨ (12 ≤ x2 ∧ x2 ≤ 15) ∨ x2 = 17) ∧ (x3 < 0 ∨ (sz (Int.toNat x1)) ≤ x3)) ∨ (12 ≤ x2 ∧ x2 ≤ 15 ∧ (x4 < 0 ∨ (sz (Int.toNat x1)) ≤ x4 ∨ x3 = x4)) ∨ (x2 = 11 ∧ (x3 < 0 ∨ (mn (Int.toNat x1)) ≤ x3)))) → Rn (gG D cI cJ cZ cT lo b L xs) mX12_ask d 172 [(0, .ref y)] [] hp172 n 0 0 (qy_X12_ask Γ cI cJ cZ y n rf cn nm so sz dr mn fr tt wt co nu qi qc nf nt nw nc sa wo ln hw ro x1 x2 x3 x4) := by
            intro hp172 ht172 hf172
            refine r_aload_n (pc := 172) dX12_ask_172 (i := 0) rfl rfl ?_
            refine r_bipush (pc := 173) (v := iv (-3)) dX12_ask_173 (by decide) ?_
            obtain ⟨fs6, hfs6⟩ := t_obj ht172 (rd_of RW_y)
            refine r_callV (pc := 175) (as := [.int (iv (-3))]) (st := []) kX12_153 rfl dX12_ask_175 hfs6 (sw_X12_refuse (d := d - 1) (x1 := (-3)) (by omega) ht172 (by omega)) rfl (by omega) (Nat.le_of_ble_eq_true rfl) (Nat.zero_le _) (Nat.zero_le _) rfl (fun r3 hp2 n4 hq5 => ?_)
            obtain ⟨hnn4, ht7, hrr3⟩ := hq5
            subst n4 r3
            change Rn _ _ _ 178 _ [.int (iv (-3))] _ _ _ _ _
            refine r_pop (pc := 178) dX12_ask_178 rfl ?_
            refine r_lconst (pc := 179) (v := 0) dX12_ask_179 (by decide) ?_
            exact r_lret (pc := 180) dX12_ask_180 rfl ⟨rfl, (-3), cn, nm, so, sz, dr, mn, fr, tt, wt, co, nu, qi, qc, nf, nt, nw, nc, sa, wo, ln, hw, ro, (0 : Int64), ht7, rfl, (by (first | assumption | exact RK_set hk (by omega) (by omega))), (by (first | assumption | exact df_r _ _ _ _ _ _ _)), (by (by_cases h9 : x2 = 16 ∨ x2 = 17 <;> first | (rw [hdQ_y h9]; exact dn2_b (by omega) (by omega) (by omega)) | (rw [hdQ_n h9]; exact dn1_b (by omega) (by omega) (by omega)))), (by exact ⟨rfl, rfl, rfl, rfl, rfl, rfl, rfl, rfl, rfl, rfl, rfl, rfl, rfl, rfl, rfl, rfl, rfl⟩), (by (intro h9; first | rfl | (exfalso; omega))), (by (intro h9; exfalso; omega))⟩
          refine t_if_lt (pc := 105) (tgt := 172) dX12_ask_105 (by decide) (by omega) (fun c105 => ?_) (fun c105 => ?_)
          · refine Rn.pick (lv' := [(0, .ref y)]) [1] rfl ?_
            exact B172 _ ht102 (by omega)
          · refine r_iload_n (pc := 108) dX12_ask_108 (i := 2) rfl rfl ?_
            refine r_bipush (pc := 109) (v := iv 17) dX12_ask_109 (by decide) ?_
            refine t_icmp_gt (pc := 111) (tgt := 172) dX12_ask_111 (by decide) (by omega) (by omega) (fun c111 => ?_) (fun c111 => ?_)
            · refine Rn.pick (lv' := [(0, .ref y)]) [1] rfl ?_
              exact B172 _ ht102 (by omega)
            · refine r_iload (pc := 114) dX12_ask_114 rfl ?_
              have B129 : ∀ hp129 : MH, Tw (RW Γ cI cJ cZ y rf50 cn nm so sz dr mn fr tt wt co nu qi qc nf nt nw nc sa wo ln hw ro) hp129 → ((x2 = 0 ∨ x2 = 2 ∨ (12 ≤ x2 ∧ x2 ≤ 15) ∨ x2 = 17) → 0 ≤ x3 ∧ x3 < (sz (Int.toNat x1))) ∧ 0 ≤ x2 ∧ x2 ≤ 17 → Rn (gG D cI cJ cZ cT lo b L xs) mX12_ask d 129 [(0, .ref y), (1, .int (iv x1)), (2, .int (iv x2)), (3, .int (iv x3)), (4, .int (iv x4)), (6, .int (iv (sz (Int.toNat x1)))), (7, .int (iv u75_0))] [] hp129 n 0 0 (qy_X12_ask Γ cI cJ cZ y n rf cn nm so sz dr mn fr tt wt co nu qi qc nf nt nw nc sa wo ln hw ro x1 x2 x3 x4) := by
                intro hp129 ht129 hf129
                refine r_iload (pc := 129) dX12_ask_129 rfl ?_
                have B152 : ∀ hp152 : MH, Tw (RW Γ cI cJ cZ y rf50 cn nm so sz dr mn fr tt wt co nu qi qc nf nt nw nc sa wo ln hw ro) hp152 → ((x2 = 0 ∨ x2 = 2 ∨ (12 ≤ x2 ∧ x2 ≤ 15) ∨ x2 = 17) → 0 ≤ x3 ∧ x3 < (sz (Int.toNat x1))) ∧ ((12 ≤ x2 ∧ x2 ≤ 15) → 0 ≤ x4 ∧ x4 < (sz (Int.toNat x1)) ∧ x3 ≠ x4) ∧ 0 ≤ x2 ∧ x2 ≤ 17 → Rn (gG D cI cJ cZ cT lo b L xs) mX12_ask d 152 [(0, .ref y), (1, .int (iv x1)), (2, .int (iv x2)), (3, .int (iv x3)), (4, .int (iv x4)), (6, .int (iv (sz (Int.toNat x1))))] [] hp152 n 0 0 (qy_X12_ask Γ cI cJ cZ y n rf cn nm so sz dr mn fr tt wt co nu qi qc nf nt nw nc sa wo ln hw ro x1 x2 x3 x4) := by
                  intro hp152 ht152 hf152
                  refine r_iload_n (pc := 152) dX12_ask_152 (i := 2) rfl rfl ?_
                  refine r_bipush (pc := 153) (v := iv 11) dX12_ask_153 (by decide) ?_
                  have B181 : ∀ hp181 : MH, Tw (RW Γ cI cJ cZ y rf50 cn nm so sz dr mn fr tt wt co nu qi qc nf nt nw nc sa wo ln hw ro) hp181 → ((x2 = 0 ∨ x2 = 2 ∨ (12 ≤ x2 ∧ x2 ≤ 15) ∨ x2 = 17) → 0 ≤ x3 ∧ x3 < (sz (Int.toNat x1))) ∧ ((12 ≤ x2 ∧ x2 ≤ 15) → 0 ≤ x4 ∧ x4 < (sz (Int.toNat x1)) ∧ x3 ≠ x4) ∧ (x2 = 11 → 0 ≤ x3 ∧ x3 < (mn (Int.toNat x1))) ∧ 0 ≤ x2 ∧ x2 ≤ 17 → Rn (gG D cI cJ cZ cT lo b L xs) mX12_ask d 181 [(0, .ref y), (1, .int (iv x1)), (2, .int (iv x2)), (3, .int (iv x3)), (4, .int (iv x4)), (6, .int (iv (sz (Int.toNat x1))))] [] hp181 n 0 0 (qy_X12_ask Γ cI cJ cZ y n rf cn nm so sz dr mn fr tt wt co nu qi qc nf nt nw nc sa wo ln hw ro x1 x2 x3 x4) := by
                    intro hp181 ht181 hf181
                    refine r_aload_n (pc := 181) dX12_ask_181 (i := 0) rfl rfl ?_
                    refine r_iload_n (pc := 182) dX12_ask_182 (i := 1) rfl rfl ?_
                    refine r_iconst (pc := 183) (v := iv (-1)) dX12_ask_183 (by decide) ?_
                    obtain ⟨fs15, hfs15⟩ := t_obj ht181 (rd_of RW_y)
                    obtain ⟨cl, nx, ie, be, sd, bl, bs, wy, ra, rb, lb, bg, os, js, ls, sp, jw, go, de, yb, ah, im, htx, c_be, c_sd, c_bl, c_lb, c_bg, c_os, c_js, c_jw, c_go, c_de, c_yb, c_ah, c_im⟩ := RW_op ht181
                    refine r_callV (pc := 184) (as := [.int (iv x1), .int (iv (-1))]) (st := []) kX12_234 rfl dX12_ask_184 hfs15 (x_X12_joinsOf (d := d - 1) (x1 := x1) (x2 := -1) (by omega) hR_many hR_sizes hR_from hR_to c_be htx (by omega) (by omega) hEn (fun _ _ _ h => h)) rfl (by omega) (Nat.le_of_ble_eq_true rfl) (Nat.zero_le _) (Nat.zero_le _) rfl (fun r9 hp10 n11 hq12 => ?_)
                    obtain ⟨hnn11, b1, ht13, hrr9, hRb1, hjb⟩ := hq12
                    subst n11 r9
                    clear c_be
                    have hbe := jb_jo hjb
                    have hsb := jb_sy hbe
                    have ht14 := RW_cl ht13 (by assumption) (by assumption) (by assumption) (by assumption) (by assumption) (by assumption) (by assumption) (by assumption) (by assumption) (by assumption) (by assumption) (by assumption) (by assumption)
                    change Rn _ _ _ 187 _ [] _ _ _ _ _
                    refine r_iload_n (pc := 187) dX12_ask_187 (i := 2) rfl rfl ?_
                    by_cases c16 : x2 = 0
                    · refine r_tableIn (pc := 188) (off := 80) (tgt := 268) dX12_ask_188 (by rw [iv_toInt (by omega) (by omega)]; omega) (by rw [iv_toInt (by omega) (by omega)]; omega) (by rw [iv_toInt (by omega) (by omega), c16]; decide) (by decide) ?_
                      refine r_aload_n (pc := 268) dX12_ask_268 (i := 0) rfl rfl ?_
                      refine r_iload_n (pc := 269) dX12_ask_269 (i := 1) rfl rfl ?_
                      refine r_iload_n (pc := 270) dX12_ask_270 (i := 3) rfl rfl ?_
                      obtain ⟨fs23, hfs23⟩ := t_obj ht14 (rd_of RW_y)
                      refine r_callV (pc := 271) (as := [.int (iv x1), .int (iv x3)]) (st := []) kX12_310 rfl dX12_ask_271 hfs23 (x_X12_order (d := d - 1) (x1 := x1) (x2 := x3) (by omega) hR_sizes hR_many hR_from hR_to hR_directs ht13 (by omega) (by omega) hEn (by omega) (fun _ _ _ h => h)) rfl (by omega) (Nat.le_of_ble_eq_true rfl) (Nat.zero_le _) (Nat.zero_le _) rfl (fun r17 hp18 n19 hq20 => ?_)
                      obtain ⟨hnn19, q24, ht21, hrr17, hans⟩ := hq20
                      subst n19 r17
                      have ht22 := RW_cl ht21 (by assumption) (by assumption) (by assumption) (by assumption) (by assumption) (by assumption) (by assumption) (by assumption) (by assumption) (by assumption) (by assumption) (by assumption) (by assumption)
                      change Rn _ _ _ 274 _ [.long q24] _ _ _ _ _
                      exact r_lret (pc := 274) dX12_ask_274 rfl ⟨rfl, rf50, cn, nm, so, sz, dr, mn, fr, tt, wt, co, nu, qi, qc, nf, nt, nw, nc, sa, wo, ln, hw, ro, q24, ht22, rfl, (by (first | assumption | exact RK_set hk (by omega) (by omega))), (by (first | assumption | exact df_r _ _ _ _ _ _ _)), (by (by_cases h9 : x2 = 16 ∨ x2 = 17 <;> first | (rw [hdQ_y h9]; exact dn2_m (by omega) (by omega) (by omega)) | (rw [hdQ_n h9]; exact dn1_m (by omega) (by omega) (by omega)))), (by exact ⟨rfl, rfl, rfl, rfl, rfl, rfl, rfl, rfl, rfl, rfl, rfl, rfl, rfl, rfl, rfl, rfl, rfl⟩), (by (intro h9; first | rfl | (exfalso; omega))), (by (intro _; exact ⟨fun _ => akb_0 (by omega) hans, fun q9 => absurd q9 (by omega)⟩))⟩
                    by_cases c25 : x2 = 1
                    · refine r_tableIn (pc := 188) (off := 87) (tgt := 275) dX12_ask_188 (by rw [iv_toInt (by omega) (by omega)]; omega) (by rw [iv_toInt (by omega) (by omega)]; omega) (by rw [iv_toInt (by omega) (by omega), c25]; decide) (by decide) ?_
                      refine r_aload_n (pc := 275) dX12_ask_275 (i := 0) rfl rfl ?_
                      refine r_iload_n (pc := 276) dX12_ask_276 (i := 1) rfl rfl ?_
                      obtain ⟨fs32, hfs32⟩ := t_obj ht14 (rd_of RW_y)
                      refine r_callV (pc := 277) (as := [.int (iv x1)]) (st := []) kX12_314 rfl dX12_ask_277 hfs32 (x_X12_ring (d := d - 1) (x1 := x1) (by omega) hR_many hR_from hR_to hR_directs ht13 (by omega) (fun _ _ _ h => h)) rfl (by omega) (Nat.le_of_ble_eq_true rfl) (Nat.zero_le _) (Nat.zero_le _) rfl (fun r26 hp27 n28 hq29 => ?_)
                      obtain ⟨hnn28, q33, ht30, hrr26, hans⟩ := hq29
                      subst n28 r26
                      have ht31 := RW_cl ht30 (by assumption) (by assumption) (by assumption) (by assumption) (by assumption) (by assumption) (by assumption) (by assumption) (by assumption) (by assumption) (by assumption) (by assumption) (by assumption)
                      change Rn _ _ _ 280 _ [.long q33] _ _ _ _ _
                      exact r_lret (pc := 280) dX12_ask_280 rfl ⟨rfl, rf50, cn, nm, so, sz, dr, mn, fr, tt, wt, co, nu, qi, qc, nf, nt, nw, nc, sa, wo, ln, hw, ro, q33, ht31, rfl, (by (first | assumption | exact RK_set hk (by omega) (by omega))), (by (first | assumption | exact df_r _ _ _ _ _ _ _)), (by (by_cases h9 : x2 = 16 ∨ x2 = 17 <;> first | (rw [hdQ_y h9]; exact dn2_m (by omega) (by omega) (by omega)) | (rw [hdQ_n h9]; exact dn1_m (by omega) (by omega) (by omega)))), (by exact ⟨rfl, rfl, rfl, rfl, rfl, rfl, rfl, rfl, rfl, rfl, rfl, rfl, rfl, rfl, rfl, rfl, rfl⟩), (by (intro h9; first | rfl | (exfalso; omega))), (by (intro _; exact ⟨fun _ => akb_1 (by omega) hans, fun q9 => absurd q9 (by omega)⟩))⟩
                    by_cases c34 : x2 = 2
                    · refine r_tableIn (pc := 188) (off := 93) (tgt := 281) dX12_ask_188 (by rw [iv_toInt (by omega) (by omega)]; omega) (by rw [iv_toInt (by omega) (by omega)]; omega) (by rw [iv_toInt (by omega) (by omega), c34]; decide) (by decide) ?_
                      refine r_aload_n (pc := 281) dX12_ask_281 (i := 0) rfl rfl ?_
                      refine r_iload_n (pc := 282) dX12_ask_282 (i := 1) rfl rfl ?_
                      refine r_iload_n (pc := 283) dX12_ask_283 (i := 3) rfl rfl ?_
                      obtain ⟨fs41, hfs41⟩ := t_obj ht14 (rd_of RW_y)
                      refine r_callV (pc := 284) (as := [.int (iv x1), .int (iv x3)]) (st := []) kX12_318 rfl dX12_ask_284 hfs41 (x_X12_side (d := d - 1) (x1 := x1) (x2 := x3) (by omega) hR_sizes hR_many hR_from hR_to hRb1 ht13 (by omega) (by omega) hEn (by omega) hjb (fun _ _ _ h => h)) rfl (by omega) (Nat.le_of_ble_eq_true rfl) (Nat.zero_le _) (Nat.zero_le _) rfl (fun r35 hp36 n37 hq38 => ?_)
                      obtain ⟨hnn37, q42, ht39, hrr35, hans⟩ := hq38
                      subst n37 r35
                      have ht40 := RW_cl ht39 (by assumption) (by assumption) (by assumption) (by assumption) (by assumption) (by assumption) (by assumption) (by assumption) (by assumption) (by assumption) (by assumption) (by assumption) (by assumption)
                      change Rn _ _ _ 287 _ [.long q42] _ _ _ _ _
                      exact r_lret (pc := 287) dX12_ask_287 rfl ⟨rfl, rf50, cn, nm, so, sz, dr, mn, fr, tt, wt, co, nu, qi, qc, nf, nt, nw, nc, sa, wo, ln, hw, ro, q42, ht40, rfl, (by (first | assumption | exact RK_set hk (by omega) (by omega))), (by (first | assumption | exact df_r _ _ _ _ _ _ _)), (by (by_cases h9 : x2 = 16 ∨ x2 = 17 <;> first | (rw [hdQ_y h9]; exact dn2_m (by omega) (by omega) (by omega)) | (rw [hdQ_n h9]; exact dn1_m (by omega) (by omega) (by omega)))), (by exact ⟨rfl, rfl, rfl, rfl, rfl, rfl, rfl, rfl, rfl, rfl, rfl, rfl, rfl, rfl, rfl, rfl, rfl⟩), (by (intro h9; first | rfl | (exfalso; omega))), (by (intro _; exact ⟨fun _ => akb_2 (by omega) hans, fun q9 => absurd q9 (by omega)⟩))⟩
                    by_cases c43 : x2 = 3
                    · refine r_tableIn (pc := 188) (off := 100) (tgt := 288) dX12_ask_188 (by rw [iv_toInt (by omega) (by omega)]; omega) (by rw [iv_toInt (by omega) (by omega)]; omega) (by rw [iv_toInt (by omega) (by omega), c43]; decide) (by decide) ?_
                      refine r_aload_n (pc := 288) dX12_ask_288 (i := 0) rfl rfl ?_
                      refine r_iload (pc := 289) dX12_ask_289 rfl ?_
                      refine r_iconst (pc := 291) (v := iv 1) dX12_ask_291 (by decide) ?_
                      obtain ⟨fs50, hfs50⟩ := t_obj ht14 (rd_of RW_y)
                      refine r_callV (pc := 292) (as := [.int (iv (sz (Int.toNat x1))), .int (iv 1)]) (st := []) kX12_321 rfl dX12_ask_292 hfs50 (x_X12_clique (d := d - 1) (x1 := sz (Int.toNat x1)) (x2 := 1) (by omega) hRb1 ht13 (by omega) (by omega) (fun _ _ _ h => h)) rfl (by omega) (Nat.le_of_ble_eq_true rfl) (Nat.zero_le _) (Nat.zero_le _) rfl (fun r44 hp45 n46 hq47 => ?_)
                      obtain ⟨hnn46, q51, ht48, hrr44, hans⟩ := hq47
                      subst n46 r44
                      have ht49 := RW_cl ht48 (by assumption) (by assumption) (by assumption) (by assumption) (by assumption) (by assumption) (by assumption) (by assumption) (by assumption) (by assumption) (by assumption) (by assumption) (by assumption)
                      change Rn _ _ _ 295 _ [.long q51] _ _ _ _ _
                      exact r_lret (pc := 295) dX12_ask_295 rfl ⟨rfl, rf50, cn, nm, so, sz, dr, mn, fr, tt, wt, co, nu, qi, qc, nf, nt, nw, nc, sa, wo, ln, hw, ro, q51, ht49, rfl, (by (first | assumption | exact RK_set hk (by omega) (by omega))), (by (first | assumption | exact df_r _ _ _ _ _ _ _)), (by (by_cases h9 : x2 = 16 ∨ x2 = 17 <;> first | (rw [hdQ_y h9]; exact dn2_m (by omega) (by omega) (by omega)) | (rw [hdQ_n h9]; exact dn1_m (by omega) (by omega) (by omega)))), (by exact ⟨rfl, rfl, rfl, rfl, rfl, rfl, rfl, rfl, rfl, rfl, rfl, rfl, rfl, rfl, rfl, rfl, rfl⟩), (by (intro h9; first | rfl | (exfalso; omega))), (by (intro _; exact ⟨fun _ => akb_3 (by omega) (cl_ref1 (by omega) hbe hans), fun q9 => absurd q9 (by omega)⟩))⟩
                    by_cases c52 : x2 = 4
                    · refine r_tableIn (pc := 188) (off := 108) (tgt := 296) dX12_ask_188 (by rw [iv_toInt (by omega) (by omega)]; omega) (by rw [iv_toInt (by omega) (by omega)]; omega) (by rw [iv_toInt (by omega) (by omega), c52]; decide) (by decide) ?_
                      refine r_aload_n (pc := 296) dX12_ask_296 (i := 0) rfl rfl ?_
                      refine r_iload (pc := 297) dX12_ask_297 rfl ?_
                      refine r_iconst (pc := 299) (v := iv 0) dX12_ask_299 (by decide) ?_
                      obtain ⟨fs59, hfs59⟩ := t_obj ht14 (rd_of RW_y)
                      refine r_callV (pc := 300) (as := [.int (iv (sz (Int.toNat x1))), .int (iv 0)]) (st := []) kX12_321 rfl dX12_ask_300 hfs59 (x_X12_clique (d := d - 1) (x1 := sz (Int.toNat x1)) (x2 := 0) (by omega) hRb1 ht13 (by omega) (by omega) (fun _ _ _ h => h)) rfl (by omega) (Nat.le_of_ble_eq_true rfl) (Nat.zero_le _) (Nat.zero_le _) rfl (fun r53 hp54 n55 hq56 => ?_)
                      obtain ⟨hnn55, q60, ht57, hrr53, hans⟩ := hq56
                      subst n55 r53
                      have ht58 := RW_cl ht57 (by assumption) (by assumption) (by assumption) (by assumption) (by assumption) (by assumption) (by assumption) (by assumption) (by assumption) (by assumption) (by assumption) (by assumption) (by assumption)
                      change Rn _ _ _ 303 _ [.long q60] _ _ _ _ _
                      exact r_lret (pc := 303) dX12_ask_303 rfl ⟨rfl, rf50, cn, nm, so, sz, dr, mn, fr, tt, wt, co, nu, qi, qc, nf, nt, nw, nc, sa, wo, ln, hw, ro, q60, ht58, rfl, (by (first | assumption | exact RK_set hk (by omega) (by omega))), (by (first | assumption | exact df_r _ _ _ _ _ _ _)), (by (by_cases h9 : x2 = 16 ∨ x2 = 17 <;> first | (rw [hdQ_y h9]; exact dn2_m (by omega) (by omega) (by omega)) | (rw [hdQ_n h9]; exact dn1_m (by omega) (by omega) (by omega)))), (by exact ⟨rfl, rfl, rfl, rfl, rfl, rfl, rfl, rfl, rfl, rfl, rfl, rfl, rfl, rfl, rfl, rfl, rfl⟩), (by (intro h9; first | rfl | (exfalso; omega))), (by (intro _; exact ⟨fun _ => akb_4 (by omega) (cl_ref0 (by omega) hbe hans), fun q9 => absurd q9 (by omega)⟩))⟩
                    by_cases c61 : x2 = 5
                    · refine r_tableIn (pc := 188) (off := 116) (tgt := 304) dX12_ask_188 (by rw [iv_toInt (by omega) (by omega)]; omega) (by rw [iv_toInt (by omega) (by omega)]; omega) (by rw [iv_toInt (by omega) (by omega), c61]; decide) (by decide) ?_
                      refine r_aload_n (pc := 304) dX12_ask_304 (i := 0) rfl rfl ?_
                      refine r_iload (pc := 305) dX12_ask_305 rfl ?_
                      obtain ⟨fs68, hfs68⟩ := t_obj ht14 (rd_of RW_y)
                      refine r_callV (pc := 307) (as := [.int (iv (sz (Int.toNat x1)))]) (st := []) kX12_325 rfl dX12_ask_307 hfs68 (x_X12_colours (d := d - 1) (x1 := sz (Int.toNat x1)) (by omega) hRb1 c_sd ht13 (by omega) (fun _ _ _ h => h)) rfl (by omega) (Nat.le_of_ble_eq_true rfl) (Nat.zero_le _) (Nat.zero_le _) rfl (fun r62 hp63 n64 hq65 => ?_)
                      obtain ⟨hnn64, q69, w1, w2, ht66, hrr62, hans, hw1⟩ := hq65
                      subst n64 r62
                      clear c_sd
                      have ht67 := RW_cl ht66 (by assumption) (by assumption) (by assumption) (by assumption) (by assumption) (by assumption) (by assumption) (by assumption) (by assumption) (by assumption) (by assumption) (by assumption) (by assumption)
                      change Rn _ _ _ 310 _ [.long q69] _ _ _ _ _
                      exact r_lret (pc := 310) dX12_ask_310 rfl ⟨rfl, rf50, cn, nm, so, sz, dr, mn, fr, tt, wt, co, nu, qi, qc, nf, nt, nw, nc, sa, wo, ln, hw, ro, q69, ht67, rfl, (by (first | assumption | exact RK_set hk (by omega) (by omega))), (by (first | assumption | exact df_r _ _ _ _ _ _ _)), (by (by_cases h9 : x2 = 16 ∨ x2 = 17 <;> first | (rw [hdQ_y h9]; exact dn2_m (by omega) (by omega) (by omega)) | (rw [hdQ_n h9]; exact dn1_m (by omega) (by omega) (by omega)))), (by exact ⟨rfl, rfl, rfl, rfl, rfl, rfl, rfl, rfl, rfl, rfl, rfl, rfl, rfl, rfl, rfl, rfl, rfl⟩), (by (intro h9; first | rfl | (exfalso; omega))), (by (intro _; exact ⟨fun _ => akb_5 (by omega) (co_ref (by omega) hbe hans), fun q9 => absurd q9 (by omega)⟩))⟩
                    by_cases c70 : x2 = 6
                    · refine r_tableIn (pc := 188) (off := 123) (tgt := 311) dX12_ask_188 (by rw [iv_toInt (by omega) (by omega)]; omega) (by rw [iv_toInt (by omega) (by omega)]; omega) (by rw [iv_toInt (by omega) (by omega), c70]; decide) (by decide) ?_
                      refine r_aload_n (pc := 311) dX12_ask_311 (i := 0) rfl rfl ?_
                      refine r_iload (pc := 312) dX12_ask_312 rfl ?_
                      obtain ⟨fs77, hfs77⟩ := t_obj ht14 (rd_of RW_y)
                      refine r_callV (pc := 314) (as := [.int (iv (sz (Int.toNat x1)))]) (st := []) kX12_328 rfl dX12_ask_314 hfs77 (x_X12_width (d := d - 1) (x1 := sz (Int.toNat x1)) (by omega) hRb1 ht13 (by omega) (fun _ _ _ h => h)) rfl (by omega) (Nat.le_of_ble_eq_true rfl) (Nat.zero_le _) (Nat.zero_le _) rfl (fun r71 hp72 n73 hq74 => ?_)
                      obtain ⟨hnn73, q78, w1, ht75, hrr71, hans⟩ := hq74
                      subst n73 r71
                      have ht76 := RW_cl ht75 (by assumption) (by assumption) (by assumption) (by assumption) (by assumption) (by assumption) (by assumption) (by assumption) (by assumption) (by assumption) (by assumption) (by assumption) (by assumption)
                      change Rn _ _ _ 317 _ [.long q78] _ _ _ _ _
                      exact r_lret (pc := 317) dX12_ask_317 rfl ⟨rfl, rf50, cn, nm, so, sz, dr, mn, fr, tt, wt, co, nu, qi, qc, nf, nt, nw, nc, sa, wo, ln, hw, ro, q78, ht76, rfl, (by (first | assumption | exact RK_set hk (by omega) (by omega))), (by (first | assumption | exact df_r _ _ _ _ _ _ _)), (by (by_cases h9 : x2 = 16 ∨ x2 = 17 <;> first | (rw [hdQ_y h9]; exact dn2_m (by omega) (by omega) (by omega)) | (rw [hdQ_n h9]; exact dn1_m (by omega) (by omega) (by omega)))), (by exact ⟨rfl, rfl, rfl, rfl, rfl, rfl, rfl, rfl, rfl, rfl, rfl, rfl, rfl, rfl, rfl, rfl, rfl⟩), (by (intro h9; first | rfl | (exfalso; omega))), (by (intro _; exact ⟨fun _ => akb_6 (by omega) (wd_ref (by omega) hbe hans), fun q9 => absurd q9 (by omega)⟩))⟩
                    by_cases c79 : x2 = 7
                    · refine r_tableIn (pc := 188) (off := 130) (tgt := 318) dX12_ask_188 (by rw [iv_toInt (by omega) (by omega)]; omega) (by rw [iv_toInt (by omega) (by omega)]; omega) (by rw [iv_toInt (by omega) (by omega), c79]; decide) (by decide) ?_
                      refine r_aload_n (pc := 318) dX12_ask_318 (i := 0) rfl rfl ?_
                      refine r_iconst (pc := 319) (v := iv 1) dX12_ask_319 (by decide) ?_
                      refine r_iload (pc := 320) dX12_ask_320 rfl ?_
                      refine r_ishl (pc := 322) (v := iv ((2 ^ Int.toNat (sz (Int.toNat x1)) : Nat) : Int)) dX12_ask_322 (shl_e (by omega)) ?_
                      have mp322_80 : 1 ≤ 2 ^ Int.toNat (sz (Int.toNat x1)) := Nat.one_le_two_pow
                      have mq322_81 : 2 ^ Int.toNat (sz (Int.toNat x1)) ≤ 2 ^ 16 := Nat.pow_le_pow_right (by omega) (by omega)
                      have ms322 := Me_shl (Int.toNat (sz (Int.toNat x1)))
                      refine r_iconst (pc := 323) (v := iv 1) dX12_ask_323 (by decide) ?_
                      refine r_isub (pc := 324) (v := iv (((2 ^ Int.toNat (sz (Int.toNat x1)) : Nat) : Int) - 1)) dX12_ask_324 (iv_sub _ _) ?_
                      refine r_iload (pc := 325) dX12_ask_325 rfl ?_
                      obtain ⟨fs88, hfs88⟩ := t_obj ht14 (rd_of RW_y)
                      refine r_callV (pc := 327) (as := [.int (iv (((2 ^ Int.toNat (sz (Int.toNat x1)) : Nat) : Int) - 1)), .int (iv (sz (Int.toNat x1)))]) (st := []) kX12_331 rfl dX12_ask_327 hfs88 (x_X12_pairs (d := d - 1) (x1 := ((2 ^ Int.toNat (sz (Int.toNat x1)) : Nat) : Int) - 1) (x2 := sz (Int.toNat x1)) (by omega) hRb1 ht13 (by omega) (by omega) (by omega) hsb (fun _ _ _ h => h)) rfl (by omega) (Nat.le_of_ble_eq_true rfl) (Nat.zero_le _) (Nat.zero_le _) rfl (fun r82 hp83 n84 hq85 => ?_)
                      obtain ⟨hnn84, q89, w1, ht86, hrr82, hans, -⟩ := hq85
                      subst n84 r82
                      have ht87 := RW_cl ht86 (by assumption) (by assumption) (by assumption) (by assumption) (by assumption) (by assumption) (by assumption) (by assumption) (by assumption) (by assumption) (by assumption) (by assumption) (by assumption)
                      change Rn _ _ _ 330 _ [.long q89] _ _ _ _ _
                      exact r_lret (pc := 330) dX12_ask_330 rfl ⟨rfl, rf50, cn, nm, so, sz, dr, mn, fr, tt, wt, co, nu, qi, qc, nf, nt, nw, nc, sa, wo, ln, hw, ro, q89, ht87, rfl, (by (first | assumption | exact RK_set hk (by omega) (by omega))), (by (first | assumption | exact df_r _ _ _ _ _ _ _)), (by (by_cases h9 : x2 = 16 ∨ x2 = 17 <;> first | (rw [hdQ_y h9]; exact dn2_m (by omega) (by omega) (by omega)) | (rw [hdQ_n h9]; exact dn1_m (by omega) (by omega) (by omega)))), (by exact ⟨rfl, rfl, rfl, rfl, rfl, rfl, rfl, rfl, rfl, rfl, rfl, rfl, rfl, rfl, rfl, rfl, rfl⟩), (by (intro h9; first | rfl | (exfalso; omega))), (by (intro _; exact ⟨fun _ => akb_7 (by omega) (ma_ref (by omega) hbe hans), fun q9 => absurd q9 (by omega)⟩))⟩
                    by_cases c90 : x2 = 8
                    · refine r_tableIn (pc := 188) (off := 143) (tgt := 331) dX12_ask_188 (by rw [iv_toInt (by omega) (by omega)]; omega) (by rw [iv_toInt (by omega) (by omega)]; omega) (by rw [iv_toInt (by omega) (by omega), c90]; decide) (by decide) ?_
                      refine r_aload_n (pc := 331) dX12_ask_331 (i := 0) rfl rfl ?_
                      refine r_iload (pc := 332) dX12_ask_332 rfl ?_
                      obtain ⟨fs97, hfs97⟩ := t_obj ht14 (rd_of RW_y)
                      refine r_callV (pc := 334) (as := [.int (iv (sz (Int.toNat x1)))]) (st := []) kX12_334 rfl dX12_ask_334 hfs97 (x_X12_missed (d := d - 1) (x1 := sz (Int.toNat x1)) (by omega) hRb1 ht13 (by omega) hsb (fun _ _ _ h => h)) rfl (by omega) (Nat.le_of_ble_eq_true rfl) (Nat.zero_le _) (Nat.zero_le _) rfl (fun r91 hp92 n93 hq94 => ?_)
                      obtain ⟨hnn93, q98, w1, ht95, hrr91, hans, hms⟩ := hq94
                      subst n93 r91
                      have ht96 := RW_cl ht95 (by assumption) (by assumption) (by assumption) (by assumption) (by assumption) (by assumption) (by assumption) (by assumption) (by assumption) (by assumption) (by assumption) (by assumption) (by assumption)
                      change Rn _ _ _ 337 _ [.long q98] _ _ _ _ _
                      exact r_lret (pc := 337) dX12_ask_337 rfl ⟨rfl, rf50, cn, nm, so, sz, dr, mn, fr, tt, wt, co, nu, qi, qc, nf, nt, nw, nc, sa, wo, ln, hw, ro, q98, ht96, rfl, (by (first | assumption | exact RK_set hk (by omega) (by omega))), (by (first | assumption | exact df_r _ _ _ _ _ _ _)), (by (by_cases h9 : x2 = 16 ∨ x2 = 17 <;> first | (rw [hdQ_y h9]; exact dn2_m (by omega) (by omega) (by omega)) | (rw [hdQ_n h9]; exact dn1_m (by omega) (by omega) (by omega)))), (by exact ⟨rfl, rfl, rfl, rfl, rfl, rfl, rfl, rfl, rfl, rfl, rfl, rfl, rfl, rfl, rfl, rfl, rfl⟩), (by (intro h9; first | rfl | (exfalso; omega))), (by (intro _; exact ⟨fun _ => akb_8 (by omega) ⟨ms_ref (by omega) hbe hans, hms⟩, fun q9 => absurd q9 (by omega)⟩))⟩
                    by_cases c99 : x2 = 9
                    · refine r_tableIn (pc := 188) (off := 150) (tgt := 338) dX12_ask_188 (by rw [iv_toInt (by omega) (by omega)]; omega) (by rw [iv_toInt (by omega) (by omega)]; omega) (by rw [iv_toInt (by omega) (by omega), c99]; decide) (by decide) ?_
                      refine r_aload_n (pc := 338) dX12_ask_338 (i := 0) rfl rfl ?_
                      refine r_iload_n (pc := 339) dX12_ask_339 (i := 1) rfl rfl ?_
                      obtain ⟨fs106, hfs106⟩ := t_obj ht14 (rd_of RW_y)
                      refine r_callV (pc := 340) (as := [.int (iv x1)]) (st := []) kX12_337 rfl dX12_ask_340 hfs106 (x_X12_trees (d := d - 1) (x1 := x1) (by omega) hR_sizes hR_many hR_from hR_to ht13 (by omega) hEn (fun _ _ _ h => h)) rfl (by omega) (Nat.le_of_ble_eq_true rfl) (Nat.zero_le _) (Nat.zero_le _) rfl (fun r100 hp101 n102 hq103 => ?_)
                      obtain ⟨hnn102, q107, w1, ht104, hrr100, hans⟩ := hq103
                      subst n102 r100
                      have ht105 := RW_cl ht104 (by assumption) (by assumption) (by assumption) (by assumption) (by assumption) (by assumption) (by assumption) (by assumption) (by assumption) (by assumption) (by assumption) (by assumption) (by assumption)
                      change Rn _ _ _ 343 _ [.long q107] _ _ _ _ _
                      exact r_lret (pc := 343) dX12_ask_343 rfl ⟨rfl, rf50, cn, nm, so, sz, dr, mn, fr, tt, wt, co, nu, qi, qc, nf, nt, nw, nc, sa, wo, ln, hw, ro, q107, ht105, rfl, (by (first | assumption | exact RK_set hk (by omega) (by omega))), (by (first | assumption | exact df_r _ _ _ _ _ _ _)), (by (by_cases h9 : x2 = 16 ∨ x2 = 17 <;> first | (rw [hdQ_y h9]; exact dn2_m (by omega) (by omega) (by omega)) | (rw [hdQ_n h9]; exact dn1_m (by omega) (by omega) (by omega)))), (by exact ⟨rfl, rfl, rfl, rfl, rfl, rfl, rfl, rfl, rfl, rfl, rfl, rfl, rfl, rfl, rfl, rfl, rfl⟩), (by (intro h9; first | rfl | (exfalso; omega))), (by (intro _; exact ⟨fun _ => akb_9 (by omega) (st_u (by omega) (en_FT hEn hR_from hR_to (by omega) (by omega)) hans), fun q9 => absurd q9 (by omega)⟩))⟩
                    by_cases c108 : x2 = 10
                    · refine r_tableIn (pc := 188) (off := 156) (tgt := 344) dX12_ask_188 (by rw [iv_toInt (by omega) (by omega)]; omega) (by rw [iv_toInt (by omega) (by omega)]; omega) (by rw [iv_toInt (by omega) (by omega), c108]; decide) (by decide) ?_
                      refine r_aload_n (pc := 344) dX12_ask_344 (i := 0) rfl rfl ?_
                      refine r_iload_n (pc := 345) dX12_ask_345 (i := 1) rfl rfl ?_
                      refine r_iconst (pc := 346) (v := iv (-1)) dX12_ask_346 (by decide) ?_
                      obtain ⟨fs115, hfs115⟩ := t_obj ht14 (rd_of RW_y)
                      refine r_callV (pc := 347) (as := [.int (iv x1), .int (iv (-1))]) (st := []) kX12_340 rfl dX12_ask_347 hfs115 (x_X12_light (d := d - 1) (x1 := x1) (x2 := -1) (by omega) hR_sizes hR_many hR_from hR_to hR_weight c_jw ht13 (by omega) (by omega) hEn (fun _ _ _ h => h)) rfl (by omega) (Nat.le_of_ble_eq_true rfl) (Nat.zero_le _) (Nat.zero_le _) rfl (fun r109 hp110 n111 hq112 => ?_)
                      obtain ⟨hnn111, q116, w1, ht113, hrr109, hans, hw1⟩ := hq112
                      subst n111 r109
                      clear c_jw
                      have ht114 := RW_cl ht113 (by assumption) (by assumption) (by assumption) (by assumption) (by assumption) (by assumption) (by assumption) (by assumption) (by assumption) (by assumption) (by assumption) (by assumption) (by assumption)
                      change Rn _ _ _ 350 _ [.long q116] _ _ _ _ _
                      exact r_lret (pc := 350) dX12_ask_350 rfl ⟨rfl, rf50, cn, nm, so, sz, dr, mn, fr, tt, wt, co, nu, qi, qc, nf, nt, nw, nc, sa, wo, ln, hw, ro, q116, ht114, rfl, (by (first | assumption | exact RK_set hk (by omega) (by omega))), (by (first | assumption | exact df_r _ _ _ _ _ _ _)), (by (by_cases h9 : x2 = 16 ∨ x2 = 17 <;> first | (rw [hdQ_y h9]; exact dn2_m (by omega) (by omega) (by omega)) | (rw [hdQ_n h9]; exact dn1_m (by omega) (by omega) (by omega)))), (by exact ⟨rfl, rfl, rfl, rfl, rfl, rfl, rfl, rfl, rfl, rfl, rfl, rfl, rfl, rfl, rfl, rfl, rfl⟩), (by (intro h9; first | rfl | (exfalso; omega))), (by (intro _; exact ⟨fun _ => akb_10 (by omega) hans, fun q9 => absurd q9 (by omega)⟩))⟩
                    by_cases c117 : x2 = 11
                    · refine r_tableIn (pc := 188) (off := 163) (tgt := 351) dX12_ask_188 (by rw [iv_toInt (by omega) (by omega)]; omega) (by rw [iv_toInt (by omega) (by omega)]; omega) (by rw [iv_toInt (by omega) (by omega), c117]; decide) (by decide) ?_
                      refine r_aload_n (pc := 351) dX12_ask_351 (i := 0) rfl rfl ?_
                      refine r_iload_n (pc := 352) dX12_ask_352 (i := 1) rfl rfl ?_
                      refine r_iload_n (pc := 353) dX12_ask_353 (i := 3) rfl rfl ?_
                      obtain ⟨fs124, hfs124⟩ := t_obj ht14 (rd_of RW_y)
                      refine r_callV (pc := 354) (as := [.int (iv x1), .int (iv x3)]) (st := []) kX12_340 rfl dX12_ask_354 hfs124 (x_X12_light (d := d - 1) (x1 := x1) (x2 := x3) (by omega) hR_sizes hR_many hR_from hR_to hR_weight c_jw ht13 (by omega) (by omega) hEn (fun _ _ _ h => h)) rfl (by omega) (Nat.le_of_ble_eq_true rfl) (Nat.zero_le _) (Nat.zero_le _) rfl (fun r118 hp119 n120 hq121 => ?_)
                      obtain ⟨hnn120, q125, w1, ht122, hrr118, hans, hw1⟩ := hq121
                      subst n120 r118
                      clear c_jw
                      have ht123 := RW_cl ht122 (by assumption) (by assumption) (by assumption) (by assumption) (by assumption) (by assumption) (by assumption) (by assumption) (by assumption) (by assumption) (by assumption) (by assumption) (by assumption)
                      change Rn _ _ _ 357 _ [.long q125] _ _ _ _ _
                      exact r_lret (pc := 357) dX12_ask_357 rfl ⟨rfl, rf50, cn, nm, so, sz, dr, mn, fr, tt, wt, co, nu, qi, qc, nf, nt, nw, nc, sa, wo, ln, hw, ro, q125, ht123, rfl, (by (first | assumption | exact RK_set hk (by omega) (by omega))), (by (first | assumption | exact df_r _ _ _ _ _ _ _)), (by (by_cases h9 : x2 = 16 ∨ x2 = 17 <;> first | (rw [hdQ_y h9]; exact dn2_m (by omega) (by omega) (by omega)) | (rw [hdQ_n h9]; exact dn1_m (by omega) (by omega) (by omega)))), (by exact ⟨rfl, rfl, rfl, rfl, rfl, rfl, rfl, rfl, rfl, rfl, rfl, rfl, rfl, rfl, rfl, rfl, rfl⟩), (by (intro h9; first | rfl | (exfalso; omega))), (by (intro _; exact ⟨fun _ => akb_11 (by omega) hans, fun q9 => absurd q9 (by omega)⟩))⟩
                    by_cases c126 : x2 = 12
                    · refine r_tableIn (pc := 188) (off := 170) (tgt := 358) dX12_ask_188 (by rw [iv_toInt (by omega) (by omega)]; omega) (by rw [iv_toInt (by omega) (by omega)]; omega) (by rw [iv_toInt (by omega) (by omega), c126]; decide) (by decide) ?_
                      refine r_aload_n (pc := 358) dX12_ask_358 (i := 0) rfl rfl ?_
                      refine r_iload_n (pc := 359) dX12_ask_359 (i := 1) rfl rfl ?_
                      refine r_iload_n (pc := 360) dX12_ask_360 (i := 3) rfl rfl ?_
                      refine r_iload (pc := 361) dX12_ask_361 rfl ?_
                      refine r_iconst (pc := 363) (v := iv 0) dX12_ask_363 (by decide) ?_
                      obtain ⟨fs133, hfs133⟩ := t_obj ht14 (rd_of RW_y)
                      refine r_callV (pc := 364) (as := [.int (iv x1), .int (iv x3), .int (iv x4), .int (iv 0)]) (st := []) kX12_343 rfl dX12_ask_364 hfs133 (x_X12_cut (d := d - 1) (x1 := x1) (x2 := x3) (x3 := x4) (x4 := 0) (by omega) hR_sizes hR_many hR_from hR_to hR_weight hR_directs ht13 (by omega) (by omega) (by omega) (by omega) (by omega) (fun _ _ _ h => h)) rfl (by omega) (Nat.le_of_ble_eq_true rfl) (Nat.zero_le _) (Nat.zero_le _) rfl (fun r127 hp128 n129 hq130 => ?_)
                      obtain ⟨hnn129, q134, ht131, hrr127, hans⟩ := hq130
                      subst n129 r127
                      have ht132 := RW_cl ht131 (by assumption) (by assumption) (by assumption) (by assumption) (by assumption) (by assumption) (by assumption) (by assumption) (by assumption) (by assumption) (by assumption) (by assumption) (by assumption)
                      change Rn _ _ _ 367 _ [.long q134] _ _ _ _ _
                      exact r_lret (pc := 367) dX12_ask_367 rfl ⟨rfl, rf50, cn, nm, so, sz, dr, mn, fr, tt, wt, co, nu, qi, qc, nf, nt, nw, nc, sa, wo, ln, hw, ro, q134, ht132, rfl, (by (first | assumption | exact RK_set hk (by omega) (by omega))), (by (first | assumption | exact df_r _ _ _ _ _ _ _)), (by (by_cases h9 : x2 = 16 ∨ x2 = 17 <;> first | (rw [hdQ_y h9]; exact dn2_m (by omega) (by omega) (by omega)) | (rw [hdQ_n h9]; exact dn1_m (by omega) (by omega) (by omega)))), (by exact ⟨rfl, rfl, rfl, rfl, rfl, rfl, rfl, rfl, rfl, rfl, rfl, rfl, rfl, rfl, rfl, rfl, rfl⟩), (by (intro h9; first | rfl | (exfalso; omega))), (by (intro _; exact ⟨fun _ => akb_12 (by omega) hans, fun q9 => absurd q9 (by omega)⟩))⟩
                    by_cases c135 : x2 = 13
                    · refine r_tableIn (pc := 188) (off := 180) (tgt := 368) dX12_ask_188 (by rw [iv_toInt (by omega) (by omega)]; omega) (by rw [iv_toInt (by omega) (by omega)]; omega) (by rw [iv_toInt (by omega) (by omega), c135]; decide) (by decide) ?_
                      refine r_aload_n (pc := 368) dX12_ask_368 (i := 0) rfl rfl ?_
                      refine r_iload_n (pc := 369) dX12_ask_369 (i := 1) rfl rfl ?_
                      refine r_iload_n (pc := 370) dX12_ask_370 (i := 3) rfl rfl ?_
                      refine r_iload (pc := 371) dX12_ask_371 rfl ?_
                      obtain ⟨fs142, hfs142⟩ := t_obj ht14 (rd_of RW_y)
                      refine r_callV (pc := 373) (as := [.int (iv x1), .int (iv x3), .int (iv x4)]) (st := []) kX12_347 rfl dX12_ask_373 hfs142 (x_X12_cutSet (d := d - 1) (x1 := x1) (x2 := x3) (x3 := x4) (by omega) hR_sizes hR_many hR_from hR_to hR_weight hR_directs ht13 (by omega) (by omega) (by omega) (by omega) (fun _ _ _ h => h)) rfl (by omega) (Nat.le_of_ble_eq_true rfl) (Nat.zero_le _) (Nat.zero_le _) rfl (fun r136 hp137 n138 hq139 => ?_)
                      obtain ⟨hnn138, q143, ht140, hrr136, hans⟩ := hq139
                      subst n138 r136
                      have ht141 := RW_cl ht140 (by assumption) (by assumption) (by assumption) (by assumption) (by assumption) (by assumption) (by assumption) (by assumption) (by assumption) (by assumption) (by assumption) (by assumption) (by assumption)
                      change Rn _ _ _ 376 _ [.long q143] _ _ _ _ _
                      exact r_lret (pc := 376) dX12_ask_376 rfl ⟨rfl, rf50, cn, nm, so, sz, dr, mn, fr, tt, wt, co, nu, qi, qc, nf, nt, nw, nc, sa, wo, ln, hw, ro, q143, ht141, rfl, (by (first | assumption | exact RK_set hk (by omega) (by omega))), (by (first | assumption | exact df_r _ _ _ _ _ _ _)), (by (by_cases h9 : x2 = 16 ∨ x2 = 17 <;> first | (rw [hdQ_y h9]; exact dn2_m (by omega) (by omega) (by omega)) | (rw [hdQ_n h9]; exact dn1_m (by omega) (by omega) (by omega)))), (by exact ⟨rfl, rfl, rfl, rfl, rfl, rfl, rfl, rfl, rfl, rfl, rfl, rfl, rfl, rfl, rfl, rfl, rfl⟩), (by (intro h9; first | rfl | (exfalso; omega))), (by (intro _; exact ⟨fun _ => akb_13 (by omega) hans, fun q9 => absurd q9 (by omega)⟩))⟩
                    by_cases c144 : x2 = 14
                    · refine r_tableIn (pc := 188) (off := 189) (tgt := 377) dX12_ask_188 (by rw [iv_toInt (by omega) (by omega)]; omega) (by rw [iv_toInt (by omega) (by omega)]; omega) (by rw [iv_toInt (by omega) (by omega), c144]; decide) (by decide) ?_
                      refine r_aload_n (pc := 377) dX12_ask_377 (i := 0) rfl rfl ?_
                      refine r_iload_n (pc := 378) dX12_ask_378 (i := 1) rfl rfl ?_
                      refine r_iload_n (pc := 379) dX12_ask_379 (i := 3) rfl rfl ?_
                      refine r_iload (pc := 380) dX12_ask_380 rfl ?_
                      refine t_callVJ (pc := 382) (as := [.int (iv x1), .int (iv x3), .int (iv x4)]) (st := []) ht14 (rd_of RW_y) kX12_350 rfl dX12_ask_382 (t_X12_pricey (d := d - 1) (x1 := x1) (x2 := x3) (x3 := x4) (by omega) (rd_of RW_y) (rd_of RW_from) hR_from (rd_of RW_to) hR_to (rd_of RW_weight) hR_weight (rd_of RW_cost) hR_cost (rd_of RW_directs) hR_directs (rd_of RW_many) hR_many (rd_of RW_sizes) hR_sizes RW_gone RW_dear RW_by RW_ahead ht14 (by omega) (by omega) (by omega) hEn (by omega) (by omega) (by omega)) rfl (by omega) (Nat.le_of_ble_eq_true rfl) rfl (fun hp146 q145 ht147 hans => ?_)
                      exact r_lret (pc := 385) dX12_ask_385 rfl ⟨rfl, rf50, cn, nm, so, sz, dr, mn, fr, tt, wt, co, nu, qi, qc, nf, nt, nw, nc, sa, wo, ln, hw, ro, q145, ht147, rfl, (by (first | assumption | exact RK_set hk (by omega) (by omega))), (by (first | assumption | exact df_r _ _ _ _ _ _ _)), (by (by_cases h9 : x2 = 16 ∨ x2 = 17 <;> first | (rw [hdQ_y h9]; exact dn2_m (by omega) (by omega) (by omega)) | (rw [hdQ_n h9]; exact dn1_m (by omega) (by omega) (by omega)))), (by exact ⟨rfl, rfl, rfl, rfl, rfl, rfl, rfl, rfl, rfl, rfl, rfl, rfl, rfl, rfl, rfl, rfl, rfl⟩), (by (intro h9; first | rfl | (exfalso; omega))), (by (intro _; exact ⟨fun _ => akb_14 (by omega) hans, fun q9 => absurd q9 (by omega)⟩))⟩
                    by_cases c148 : x2 = 15
                    · refine r_tableIn (pc := 188) (off := 198) (tgt := 386) dX12_ask_188 (by rw [iv_toInt (by omega) (by omega)]; omega) (by rw [iv_toInt (by omega) (by omega)]; omega) (by rw [iv_toInt (by omega) (by omega), c148]; decide) (by decide) ?_
                      refine r_aload_n (pc := 386) dX12_ask_386 (i := 0) rfl rfl ?_
                      refine r_iload_n (pc := 387) dX12_ask_387 (i := 1) rfl rfl ?_
                      refine r_iload_n (pc := 388) dX12_ask_388 (i := 3) rfl rfl ?_
                      refine r_iload (pc := 389) dX12_ask_389 rfl ?_
                      refine r_iconst (pc := 391) (v := iv 1) dX12_ask_391 (by decide) ?_
                      obtain ⟨fs155, hfs155⟩ := t_obj ht14 (rd_of RW_y)
                      refine r_callV (pc := 392) (as := [.int (iv x1), .int (iv x3), .int (iv x4), .int (iv 1)]) (st := []) kX12_343 rfl dX12_ask_392 hfs155 (x_X12_cut (d := d - 1) (x1 := x1) (x2 := x3) (x3 := x4) (x4 := 1) (by omega) hR_sizes hR_many hR_from hR_to hR_weight hR_directs ht13 (by omega) (by omega) (by omega) (by omega) (by omega) (fun _ _ _ h => h)) rfl (by omega) (Nat.le_of_ble_eq_true rfl) (Nat.zero_le _) (Nat.zero_le _) rfl (fun r149 hp150 n151 hq152 => ?_)
                      obtain ⟨hnn151, q156, ht153, hrr149, hans⟩ := hq152
                      subst n151 r149
                      have ht154 := RW_cl ht153 (by assumption) (by assumption) (by assumption) (by assumption) (by assumption) (by assumption) (by assumption) (by assumption) (by assumption) (by assumption) (by assumption) (by assumption) (by assumption)
                      change Rn _ _ _ 395 _ [.long q156] _ _ _ _ _
                      exact r_lret (pc := 395) dX12_ask_395 rfl ⟨rfl, rf50, cn, nm, so, sz, dr, mn, fr, tt, wt, co, nu, qi, qc, nf, nt, nw, nc, sa, wo, ln, hw, ro, q156, ht154, rfl, (by (first | assumption | exact RK_set hk (by omega) (by omega))), (by (first | assumption | exact df_r _ _ _ _ _ _ _)), (by (by_cases h9 : x2 = 16 ∨ x2 = 17 <;> first | (rw [hdQ_y h9]; exact dn2_m (by omega) (by omega) (by omega)) | (rw [hdQ_n h9]; exact dn1_m (by omega) (by omega) (by omega)))), (by exact ⟨rfl, rfl, rfl, rfl, rfl, rfl, rfl, rfl, rfl, rfl, rfl, rfl, rfl, rfl, rfl, rfl, rfl⟩), (by (intro h9; first | rfl | (exfalso; omega))), (by (intro _; exact ⟨fun _ => akb_15 (by omega) hans, fun q9 => absurd q9 (by omega)⟩))⟩
                    refine r_tableOut (pc := 188) (tgt := 396) dX12_ask_188 (by rw [iv_toInt (by omega) (by omega)]; omega) (by decide) ?_
                    refine r_aload_n (pc := 396) dX12_ask_396 (i := 0) rfl rfl ?_
                    refine r_iload_n (pc := 397) dX12_ask_397 (i := 1) rfl rfl ?_
                    refine r_iload (pc := 398) dX12_ask_398 rfl ?_
                    refine r_iload_n (pc := 400) dX12_ask_400 (i := 2) rfl rfl ?_
                    refine r_bipush (pc := 401) (v := iv 16) dX12_ask_401 (by decide) ?_
                    refine t_icmp_ne (pc := 403) (tgt := 410) dX12_ask_403 (by decide) (by omega) (by omega) (fun c403 => ?_) (fun c403 => ?_)
                    · refine r_iconst (pc := 410) (v := iv 0) dX12_ask_410 (by decide) ?_
                      refine r_iload_n (pc := 411) dX12_ask_411 (i := 3) rfl rfl ?_
                      obtain ⟨fs163, hfs163⟩ := t_obj ht14 (rd_of RW_y)
                      refine r_callV (pc := 412) (as := [.int (iv x1), .int (iv x4), .int (iv 0), .int (iv x3)]) (st := []) kX12_353 rfl dX12_ask_412 hfs163 (x_X12_alike (d := d - 1) (x1 := x1) (x2 := x4) (x3 := 0) (x4 := x3) (by omega) hR_sizes hR_many hR_from hR_to hR_weight hR_cost hR_directs c_im ht13 (by omega) (by omega) (by omega) (by omega) (by omega) (by omega) (fun _ _ _ h => h)) rfl (by omega) (Nat.le_of_ble_eq_true rfl) (Nat.zero_le _) (Nat.zero_le _) rfl (fun r157 hp158 n159 hq160 => ?_)
                      obtain ⟨hnn159, q164, w1, ht161, hrr157, hans, hw1⟩ := hq160
                      subst n159 r157
                      clear c_im
                      have ht162 := RW_cl ht161 (by assumption) (by assumption) (by assumption) (by assumption) (by assumption) (by assumption) (by assumption) (by assumption) (by assumption) (by assumption) (by assumption) (by assumption) (by assumption)
                      change Rn _ _ _ 415 _ [.long q164] _ _ _ _ _
                      have hanh := hid_i hans
                      clear hans
                      exact r_lret (pc := 415) dX12_ask_415 rfl ⟨rfl, rf50, cn, nm, so, sz, dr, mn, fr, tt, wt, co, nu, qi, qc, nf, nt, nw, nc, sa, wo, ln, hw, ro, q164, ht162, rfl, (by (first | assumption | exact RK_set hk (by omega) (by omega))), (by (first | assumption | exact df_r _ _ _ _ _ _ _)), (by (by_cases h9 : x2 = 16 ∨ x2 = 17 <;> first | (rw [hdQ_y h9]; exact dn2_m (by omega) (by omega) (by omega)) | (rw [hdQ_n h9]; exact dn1_m (by omega) (by omega) (by omega)))), (by exact ⟨rfl, rfl, rfl, rfl, rfl, rfl, rfl, rfl, rfl, rfl, rfl, rfl, rfl, rfl, rfl, rfl, rfl⟩), (by (intro h9; first | rfl | (exfalso; omega))), (by (intro _; exact ⟨fun q9 => absurd q9 (by omega), fun _ => al_rf (hid_o hanh) (by omega)⟩))⟩
                    · refine r_iconst (pc := 406) (v := iv 1) dX12_ask_406 (by decide) ?_
                      refine r_goto (pc := 407) (tgt := 411) dX12_ask_407 (by decide) ?_
                      refine r_iload_n (pc := 411) dX12_ask_411 (i := 3) rfl rfl ?_
                      obtain ⟨fs171, hfs171⟩ := t_obj ht14 (rd_of RW_y)
                      refine r_callV (pc := 412) (as := [.int (iv x1), .int (iv x4), .int (iv 1), .int (iv x3)]) (st := []) kX12_353 rfl dX12_ask_412 hfs171 (x_X12_alike (d := d - 1) (x1 := x1) (x2 := x4) (x3 := 1) (x4 := x3) (by omega) hR_sizes hR_many hR_from hR_to hR_weight hR_cost hR_directs c_im ht13 (by omega) (by omega) (by omega) (by omega) (by omega) (by omega) (fun _ _ _ h => h)) rfl (by omega) (Nat.le_of_ble_eq_true rfl) (Nat.zero_le _) (Nat.zero_le _) rfl (fun r165 hp166 n167 hq168 => ?_)
                      obtain ⟨hnn167, q172, w1, ht169, hrr165, hans, hw1⟩ := hq168
                      subst n167 r165
                      clear c_im
                      have ht170 := RW_cl ht169 (by assumption) (by assumption) (by assumption) (by assumption) (by assumption) (by assumption) (by assumption) (by assumption) (by assumption) (by assumption) (by assumption) (by assumption) (by assumption)
                      change Rn _ _ _ 415 _ [.long q172] _ _ _ _ _
                      have hanh := hid_i hans
                      clear hans
                      exact r_lret (pc := 415) dX12_ask_415 rfl ⟨rfl, rf50, cn, nm, so, sz, dr, mn, fr, tt, wt, co, nu, qi, qc, nf, nt, nw, nc, sa, wo, ln, hw, ro, q172, ht170, rfl, (by (first | assumption | exact RK_set hk (by omega) (by omega))), (by (first | assumption | exact df_r _ _ _ _ _ _ _)), (by (by_cases h9 : x2 = 16 ∨ x2 = 17 <;> first | (rw [hdQ_y h9]; exact dn2_m (by omega) (by omega) (by omega)) | (rw [hdQ_n h9]; exact dn1_m (by omega) (by omega) (by omega)))), (by exact ⟨rfl, rfl, rfl, rfl, rfl, rfl, rfl, rfl, rfl, rfl, rfl, rfl, rfl, rfl, rfl, rfl, rfl⟩), (by (intro h9; first | rfl | (exfalso; omega))), (by (intro _; exact ⟨fun q9 => absurd q9 (by omega), fun _ => al_rf (hid_o hanh) (by omega)⟩))⟩
                  refine t_icmp_ne (pc := 155) (tgt := 181) dX12_ask_155 (by decide) (by omega) (by omega) (fun c155 => ?_) (fun c155 => ?_)
                  · refine Rn.pick (lv' := [(0, .ref y), (1, .int (iv x1)), (2, .int (iv x2)), (3, .int (iv x3)), (4, .int (iv x4)), (6, .int (iv (sz (Int.toNat x1))))]) [0, 1, 2, 3, 4, 5] rfl ?_
                    exact B181 _ ht152 ⟨by omega, by omega, by omega, by omega, by omega⟩
                  · refine r_iload_n (pc := 158) dX12_ask_158 (i := 3) rfl rfl ?_
                    refine t_if_lt (pc := 159) (tgt := 172) dX12_ask_159 (by decide) (by omega) (fun c159 => ?_) (fun c159 => ?_)
                    · refine Rn.pick (lv' := [(0, .ref y)]) [0] rfl ?_
                      exact B172 _ ht152 (by omega)
                    · refine r_iload_n (pc := 162) dX12_ask_162 (i := 3) rfl rfl ?_
                      refine r_aload_n (pc := 163) dX12_ask_163 (i := 0) rfl rfl ?_
                      refine t_getE (pc := 164) (.ref (y + 4)) ht152 (rd_of RW_y) fX12_20 dX12_ask_164 rfl ?_
                      refine r_iload_n (pc := 167) dX12_ask_167 (i := 1) rfl rfl ?_
                      refine t_ialdX (pc := 168) (t0 := 0) ht152 (rd_of RW_many) dX12_ask_168 rfl (by decide) (by omega) (fun b173 => ?_)
                      have rb173 := (show Rfx 121 0 60 mn by assumption) (Int.toNat x1) (by omega)
                      refine t_icmp_lt (pc := 169) (tgt := 181) dX12_ask_169 (by decide) (by omega) (by omega) (fun c169 => ?_) (fun c169 => ?_)
                      · refine Rn.pick (lv' := [(0, .ref y), (1, .int (iv x1)), (2, .int (iv x2)), (3, .int (iv x3)), (4, .int (iv x4)), (6, .int (iv (sz (Int.toNat x1))))]) [0, 1, 2, 3, 4, 5] rfl ?_
                        exact B181 _ ht152 ⟨by omega, by omega, by omega, by omega, by omega⟩
                      · refine Rn.pick (lv' := [(0, .ref y)]) [0] rfl ?_
                        exact B172 _ ht152 (by omega)
                refine t_if_eq (pc := 131) (tgt := 152) dX12_ask_131 (by decide) (by omega) (fun c131 => ?_) (fun c131 => ?_)
                · refine Rn.pick (lv' := [(0, .ref y), (1, .int (iv x1)), (2, .int (iv x2)), (3, .int (iv x3)), (4, .int (iv x4)), (6, .int (iv (sz (Int.toNat x1))))]) [0, 1, 2, 3, 4, 5] rfl ?_
                  exact B152 _ ht129 ⟨by omega, by omega, by omega, by omega⟩
                · refine r_iload (pc := 134) dX12_ask_134 rfl ?_
                  refine t_if_lt (pc := 136) (tgt := 172) dX12_ask_136 (by decide) (by omega) (fun c136 => ?_) (fun c136 => ?_)
                  · refine Rn.pick (lv' := [(0, .ref y)]) [0] rfl ?_
                    exact B172 _ ht129 (by omega)
                  · refine r_iload (pc := 139) dX12_ask_139 rfl ?_
                    refine r_iload (pc := 141) dX12_ask_141 rfl ?_
                    refine t_icmp_ge (pc := 143) (tgt := 172) dX12_ask_143 (by decide) (by omega) (by omega) (fun c143 => ?_) (fun c143 => ?_)
                    · refine Rn.pick (lv' := [(0, .ref y)]) [0] rfl ?_
                      exact B172 _ ht129 (by omega)
                    · refine r_iload_n (pc := 146) dX12_ask_146 (i := 3) rfl rfl ?_
                      refine r_iload (pc := 147) dX12_ask_147 rfl ?_
                      refine t_icmp_eq (pc := 149) (tgt := 172) dX12_ask_149 (by decide) (by omega) (by omega) (fun c149 => ?_) (fun c149 => ?_)
                      · refine Rn.pick (lv' := [(0, .ref y)]) [0] rfl ?_
                        exact B172 _ ht129 (by omega)
                      · refine Rn.pick (lv' := [(0, .ref y), (1, .int (iv x1)), (2, .int (iv x2)), (3, .int (iv x3)), (4, .int (iv x4)), (6, .int (iv (sz (Int.toNat x1))))]) [0, 1, 2, 3, 4, 5] rfl ?_
                        exact B152 _ ht129 ⟨by omega, by omega, by omega, by omega⟩
              refine t_if_eq (pc := 116) (tgt := 129) dX12_ask_116 (by decide) (by omega) (fun c116 => ?_) (fun c116 => ?_)
              · refine Rn.pick (lv' := [(0, .ref y), (1, .int (iv x1)), (2, .int (iv x2)), (3, .int (iv x3)), (4, .int (iv x4)), (6, .int (iv (sz (Int.toNat x1)))), (7, .int (iv u75_0))]) [1, 2, 3, 4, 5, 6, 7] rfl ?_
                exact B129 _ ht102 ⟨by omega, by omega, by omega⟩
              · refine r_iload_n (pc := 119) dX12_ask_119 (i := 3) rfl rfl ?_
                refine t_if_lt (pc := 120) (tgt := 172) dX12_ask_120 (by decide) (by omega) (fun c120 => ?_) (fun c120 => ?_)
                · refine Rn.pick (lv' := [(0, .ref y)]) [1] rfl ?_
                  exact B172 _ ht102 (by omega)
                · refine r_iload_n (pc := 123) dX12_ask_123 (i := 3) rfl rfl ?_
                  refine r_iload (pc := 124) dX12_ask_124 rfl ?_
                  refine t_icmp_ge (pc := 126) (tgt := 172) dX12_ask_126 (by decide) (by omega) (by omega) (fun c126 => ?_) (fun c126 => ?_)
                  · refine Rn.pick (lv' := [(0, .ref y)]) [1] rfl ?_
                    exact B172 _ ht102 (by omega)
                  · refine Rn.pick (lv' := [(0, .ref y), (1, .int (iv x1)), (2, .int (iv x2)), (3, .int (iv x3)), (4, .int (iv x4)), (6, .int (iv (sz (Int.toNat x1)))), (7, .int (iv u75_0))]) [1, 2, 3, 4, 5, 6, 7] rfl ?_
                    exact B129 _ ht102 ⟨by omega, by omega, by omega⟩
        have B97 : ∀ hp97 : MH, Tw (RW Γ cI cJ cZ y rf50 cn nm so sz dr mn fr tt wt co nu qi qc nf nt nw nc sa wo ln hw ro) hp97 → (x2 = 0 ∨ x2 = 2 ∨ (12 ≤ x2 ∧ x2 ≤ 15) ∨ x2 = 17) → Rn (gG D cI cJ cZ cT lo b L xs) mX12_ask d 97 [(0, .ref y), (1, .int (iv x1)), (2, .int (iv x2)), (3, .int (iv x3)), (4, .int (iv x4)), (6, .int (iv (sz (Int.toNat x1)))), (7, .int (iv u75_0))] [] hp97 n 0 0 (qy_X12_ask Γ cI cJ cZ y n rf cn nm so sz dr mn fr tt wt co nu qi qc nf nt nw nc sa wo ln hw ro x1 x2 x3 x4) := by
          intro hp97 ht97 hf97
          refine r_iconst (pc := 97) (v := iv 1) dX12_ask_97 (by decide) ?_
          refine r_goto (pc := 98) (tgt := 102) dX12_ask_98 (by decide) ?_
          refine Rn.pick (lv' := [(0, .ref y), (1, .int (iv x1)), (2, .int (iv x2)), (3, .int (iv x3)), (4, .int (iv x4)), (6, .int (iv (sz (Int.toNat x1)))), (7, .int (iv u75_0))]) [0, 1, 2, 3, 4, 5, 6] rfl ?_
          exact B102 _ ht97 1 ⟨by omega, by omega, by omega⟩
        refine t_if_eq (pc := 78) (tgt := 97) dX12_ask_78 (by decide) (by omega) (fun c78 => ?_) (fun c78 => ?_)
        · refine Rn.pick (lv' := [(0, .ref y), (1, .int (iv x1)), (2, .int (iv x2)), (3, .int (iv x3)), (4, .int (iv x4)), (6, .int (iv (sz (Int.toNat x1)))), (7, .int (iv u75_0))]) [1, 2, 3, 4, 5, 6, 0] rfl ?_
          exact B97 _ ht75 (by omega)
        · refine r_iload_n (pc := 81) dX12_ask_81 (i := 2) rfl rfl ?_
          refine r_iconst (pc := 82) (v := iv 2) dX12_ask_82 (by decide) ?_
          refine t_icmp_eq (pc := 83) (tgt := 97) dX12_ask_83 (by decide) (by omega) (by omega) (fun c83 => ?_) (fun c83 => ?_)
          · refine Rn.pick (lv' := [(0, .ref y), (1, .int (iv x1)), (2, .int (iv x2)), (3, .int (iv x3)), (4, .int (iv x4)), (6, .int (iv (sz (Int.toNat x1)))), (7, .int (iv u75_0))]) [1, 2, 3, 4, 5, 6, 0] rfl ?_
            exact B97 _ ht75 (by omega)
          · refine r_iload (pc := 86) dX12_ask_86 rfl ?_
            refine t_if_ne (pc := 88) (tgt := 97) dX12_ask_88 (by decide) (by omega) (fun c88 => ?_) (fun c88 => ?_)
            · refine Rn.pick (lv' := [(0, .ref y), (1, .int (iv x1)), (2, .int (iv x2)), (3, .int (iv x3)), (4, .int (iv x4)), (6, .int (iv (sz (Int.toNat x1)))), (7, .int (iv u75_0))]) [1, 2, 3, 4, 5, 6, 0] rfl ?_
              exact B97 _ ht75 (by omega)
            · refine r_iload_n (pc := 91) dX12_ask_91 (i := 2) rfl rfl ?_
              refine r_bipush (pc := 92) (v := iv 17) dX12_ask_92 (by decide) ?_
              refine t_icmp_ne (pc := 94) (tgt := 101) dX12_ask_94 (by decide) (by omega) (by omega) (fun c94 => ?_) (fun c94 => ?_)
              · refine r_iconst (pc := 101) (v := iv 0) dX12_ask_101 (by decide) ?_
                refine Rn.pick (lv' := [(0, .ref y), (1, .int (iv x1)), (2, .int (iv x2)), (3, .int (iv x3)), (4, .int (iv x4)), (6, .int (iv (sz (Int.toNat x1)))), (7, .int (iv u75_0))]) [1, 2, 3, 4, 5, 6, 0] rfl ?_
                exact B102 _ ht75 0 ⟨by omega, by omega, by omega⟩
              · refine Rn.pick (lv' := [(0, .ref y), (1, .int (iv x1)), (2, .int (iv x2)), (3, .int (iv x3)), (4, .int (iv x4)), (6, .int (iv (sz (Int.toNat x1)))), (7, .int (iv u75_0))]) [1, 2, 3, 4, 5, 6, 0] rfl ?_
                exact B97 _ ht75 (by omega)
      have B74 : ∀ hp74 : MH, Tw (RW Γ cI cJ cZ y rf50 cn nm so sz dr mn fr tt wt co nu qi qc nf nt nw nc sa wo ln hw ro) hp74 → ¬ (12 ≤ x2 ∧ x2 ≤ 15) → Rn (gG D cI cJ cZ cT lo b L xs) mX12_ask d 74 [(0, .ref y), (1, .int (iv x1)), (2, .int (iv x2)), (3, .int (iv x3)), (4, .int (iv x4)), (6, .int (iv (sz (Int.toNat x1))))] [] hp74 n 0 0 (qy_X12_ask Γ cI cJ cZ y n rf cn nm so sz dr mn fr tt wt co nu qi qc nf nt nw nc sa wo ln hw ro x1 x2 x3 x4) := by
        intro hp74 ht74 hf74
        refine r_iconst (pc := 74) (v := iv 0) dX12_ask_74 (by decide) ?_
        refine Rn.pick (lv' := [(0, .ref y), (1, .int (iv x1)), (2, .int (iv x2)), (3, .int (iv x3)), (4, .int (iv x4)), (6, .int (iv (sz (Int.toNat x1))))]) [0, 1, 2, 3, 4, 5] rfl ?_
        exact B75 _ ht74 0 ⟨by omega, by omega, by omega⟩
      refine t_icmp_lt (pc := 61) (tgt := 74) dX12_ask_61 (by decide) (by omega) (by omega) (fun c61 => ?_) (fun c61 => ?_)
      · refine Rn.pick (lv' := [(0, .ref y), (1, .int (iv x1)), (2, .int (iv x2)), (3, .int (iv x3)), (4, .int (iv x4)), (6, .int (iv (sz (Int.toNat x1))))]) [1, 2, 3, 4, 5, 0] rfl ?_
        exact B74 _ ht50 (by omega)
      · refine r_iload_n (pc := 64) dX12_ask_64 (i := 2) rfl rfl ?_
        refine r_bipush (pc := 65) (v := iv 15) dX12_ask_65 (by decide) ?_
        refine t_icmp_gt (pc := 67) (tgt := 74) dX12_ask_67 (by decide) (by omega) (by omega) (fun c67 => ?_) (fun c67 => ?_)
        · refine Rn.pick (lv' := [(0, .ref y), (1, .int (iv x1)), (2, .int (iv x2)), (3, .int (iv x3)), (4, .int (iv x4)), (6, .int (iv (sz (Int.toNat x1))))]) [1, 2, 3, 4, 5, 0] rfl ?_
          exact B74 _ ht50 (by omega)
        · refine r_iconst (pc := 70) (v := iv 1) dX12_ask_70 (by decide) ?_
          refine r_goto (pc := 71) (tgt := 75) dX12_ask_71 (by decide) ?_
          refine Rn.pick (lv' := [(0, .ref y), (1, .int (iv x1)), (2, .int (iv x2)), (3, .int (iv x3)), (4, .int (iv x4)), (6, .int (iv (sz (Int.toNat x1))))]) [1, 2, 3, 4, 5, 0] rfl ?_
          exact B75 _ ht50 1 ⟨by omega, by omega, by omega⟩
    have B48 : ∀ rf48 : Int, ∀ hp48 : MH, Tw (RW Γ cI cJ cZ y rf48 cn nm so sz dr mn fr tt wt co nu qi qc nf nt nw nc sa wo ln hw ro) hp48 → -2147483648 ≤ rf48 ∧ rf48 ≤ 2147483647 ∧ (rf48 = hdQ (x2 = 16 ∨ x2 = 17) (dn2 cn so x1 1 x4 1 (x2 = 17 ∧ (x3 < 0 ∨ (sz (Int.toNat x1)) ≤ x3))) (dn1 cn so x1 1 (x2 < 0 ∨ 17 < x2 ∨ ((x2 = 0 ∨ x2 = 2) ∧ (x3 < 0 ∨ (sz (Int.toNat x1)) ≤ x3)) ∨ (x2 = 11 ∧ (x3 < 0 ∨ (mn (Int.toNat x1)) ≤ x3)) ∨ (12 ≤ x2 ∧ x2 ≤ 15 ∧ (x3 < 0 ∨ (sz (Int.toNat x1)) ≤ x3 ∨ x4 < 0 ∨ (sz (Int.toNat x1)) ≤ x4 ∨ x3 = x4))))) ∧ rf48 ≠ 0 → Rn (gG D cI cJ cZ cT lo b L xs) mX12_ask d 48 [] [] hp48 n 0 0 (qy_X12_ask Γ cI cJ cZ y n rf cn nm so sz dr mn fr tt wt co nu qi qc nf nt nw nc sa wo ln hw ro x1 x2 x3 x4) := by
      intro rf48 hp48 ht48 hf48
      obtain ⟨hf48_0, hf48_1, ha48_2, hf48_3⟩ := hf48
      refine r_lconst (pc := 48) (v := 0) dX12_ask_48 (by decide) ?_
      exact r_lret (pc := 49) dX12_ask_49 rfl ⟨rfl, rf48, cn, nm, so, sz, dr, mn, fr, tt, wt, co, nu, qi, qc, nf, nt, nw, nc, sa, wo, ln, hw, ro, (0 : Int64), ht48, rfl, (by (first | assumption | exact RK_set hk (by omega) (by omega))), (by (first | assumption | exact df_r _ _ _ _ _ _ _)), (by assumption), (by exact ⟨rfl, rfl, rfl, rfl, rfl, rfl, rfl, rfl, rfl, rfl, rfl, rfl, rfl, rfl, rfl, rfl, rfl⟩), (by (intro h9; first | rfl | (exfalso; omega))), (by (intro h9; exfalso; omega))⟩
    refine t_if_eq (pc := 21) (tgt := 39) dX12_ask_21 (by decide) (by omega) (fun c21 => ?_) (fun c21 => ?_)
    · refine r_aload_n (pc := 39) dX12_ask_39 (i := 0) rfl rfl ?_
      refine r_iload_n (pc := 40) dX12_ask_40 (i := 1) rfl rfl ?_
      refine r_iconst (pc := 41) (v := iv 1) dX12_ask_41 (by decide) ?_
      obtain ⟨fs178, hfs178⟩ := t_obj ht17 (rd_of RW_y)
      refine r_callV (pc := 42) (as := [.int (iv x1), .int (iv 1)]) (st := []) kX12_183 rfl dX12_ask_42 hfs178 (sw_X12_has (d := d - 1) (x1 := x1) (x2 := 1) (by omega) (by omega) (by assumption) ht17 (by omega) (by omega)) rfl (by omega) (Nat.le_of_ble_eq_true rfl) (Nat.zero_le _) (Nat.zero_le _) rfl (fun r175 hp174 n176 hq177 => ?_)
      obtain ⟨hnn176, v_181, b_182, ht179, hrr175, hhq1770, hhq1771⟩ := hq177
      subst n176 r175
      have hhq1770 : -2 ≤ v_181 ∧ v_181 ≤ 0 ∧ (b_182 = 0 ∨ b_182 = 1) := hhq1770
      have hhq1771 : (b_182 = 1 ∧ v_181 = 0 ∧ 0 ≤ x1 ∧ x1 < cn ∧ so (Int.toNat x1) = 1) ∨ (b_182 = 0 ∧ v_181 = -1 ∧ ¬ (0 ≤ x1 ∧ x1 < cn)) ∨ (b_182 = 0 ∧ v_181 = -2 ∧ 0 ≤ x1 ∧ x1 < cn ∧ so (Int.toNat x1) ≠ 1) := hhq1771
      change Rn _ _ _ 45 _ [.int (iv b_182)] _ _ _ _ _
      refine t_if_ne (pc := 45) (tgt := 50) dX12_ask_45 (by decide) (by omega) (fun c45 => ?_) (fun c45 => ?_)
      · have rsz45 := hR_sizes (Int.toNat x1) (by omega)
        have rsy45 := hsz x1 (by omega) (by omega)
        have hen := hgr x1 (by omega) (by omega) (by omega)
        have rmn45 := hR_many (Int.toNat x1) (by omega)
        refine Rn.pick (lv' := [(0, .ref y), (1, .int (iv x1)), (2, .int (iv x2)), (3, .int (iv x3)), (4, .int (iv x4))]) [1, 2, 3, 4, 5] rfl ?_
        exact B50 v_181 _ ht179 ⟨by omega, by omega, by omega, by omega, by omega, by omega, by omega, by omega, by omega⟩
      · refine Rn.pick (lv' := []) [] rfl ?_
        exact B48 v_181 _ ht179 ⟨by omega, by omega, by (first | (rw [hdQ_y (by omega)]; exact dn2_r (by omega)) | (rw [hdQ_n (by omega)]; exact dn1_r (by omega))), by omega⟩
    · refine r_aload_n (pc := 24) dX12_ask_24 (i := 0) rfl rfl ?_
      refine r_iload_n (pc := 25) dX12_ask_25 (i := 1) rfl rfl ?_
      refine r_iconst (pc := 26) (v := iv 1) dX12_ask_26 (by decide) ?_
      refine r_iload (pc := 27) dX12_ask_27 rfl ?_
      refine r_iconst (pc := 29) (v := iv 1) dX12_ask_29 (by decide) ?_
      obtain ⟨fs187, hfs187⟩ := t_obj ht17 (rd_of RW_y)
      refine r_callV (pc := 30) (as := [.int (iv x1), .int (iv 1), .int (iv x4), .int (iv 1)]) (st := []) kX12_209 rfl dX12_ask_30 hfs187 (sw_X12_haveTwo (d := d - 1) (x1 := x1) (x2 := 1) (x3 := x4) (x4 := 1) (by omega) (by omega) (by assumption) ht17 (by omega) (by omega) (by omega) (by omega)) rfl (by omega) (Nat.le_of_ble_eq_true rfl) (Nat.zero_le _) (Nat.zero_le _) rfl (fun r184 hp183 n185 hq186 => ?_)
      obtain ⟨hnn185, v_190, b_191, ht188, hrr184, hhq1860, hhq1861⟩ := hq186
      subst n185 r184
      have hhq1860 : -2 ≤ v_190 ∧ v_190 ≤ 0 ∧ (b_191 = 0 ∨ b_191 = 1) := hhq1860
      have hhq1861 : (b_191 = 1 ∧ v_190 = 0 ∧ 0 ≤ x1 ∧ x1 < cn ∧ 0 ≤ x4 ∧ x4 < cn ∧ so (Int.toNat x1) = 1 ∧ so (Int.toNat x4) = 1) ∨ (b_191 = 0 ∧ v_190 = -1 ∧ ¬ (0 ≤ x1 ∧ x1 < cn ∧ 0 ≤ x4 ∧ x4 < cn)) ∨ (b_191 = 0 ∧ v_190 = -2 ∧ 0 ≤ x1 ∧ x1 < cn ∧ 0 ≤ x4 ∧ x4 < cn ∧ ¬ (so (Int.toNat x1) = 1 ∧ so (Int.toNat x4) = 1)) := hhq1861
      change Rn _ _ _ 33 _ [.int (iv b_191)] _ _ _ _ _
      refine t_if_ne (pc := 33) (tgt := 50) dX12_ask_33 (by decide) (by omega) (fun c33 => ?_) (fun c33 => ?_)
      · have rsz33 := hR_sizes (Int.toNat x1) (by omega)
        have rsy33 := hsz x1 (by omega) (by omega)
        have hen := hgr x1 (by omega) (by omega) (by omega)
        have rmn33 := hR_many (Int.toNat x1) (by omega)
        have rsw33 := hR_sizes (Int.toNat x4) (by omega)
        have rsx33 := hsz x4 (by omega) (by omega)
        refine Rn.pick (lv' := [(0, .ref y), (1, .int (iv x1)), (2, .int (iv x2)), (3, .int (iv x3)), (4, .int (iv x4))]) [1, 2, 3, 4, 5] rfl ?_
        exact B50 v_190 _ ht188 ⟨by omega, by omega, by omega, by omega, by omega, by omega, by omega, by omega, by omega⟩
      · refine r_goto (pc := 36) (tgt := 48) dX12_ask_36 (by decide) ?_
        refine Rn.pick (lv' := []) [] rfl ?_
        exact B48 v_190 _ ht188 ⟨by omega, by omega, by (first | (rw [hdQ_y (by omega)]; exact dn2_r (by omega)) | (rw [hdQ_n (by omega)]; exact dn1_r (by omega))), by omega⟩
  have B12 : ∀ hp12 : MH, Tw (RW Γ cI cJ cZ y rf cn nm so sz dr mn fr tt wt co nu qi qc nf nt nw nc sa wo ln hw ro) hp12 → 16 ≤ x2 ∧ x2 ≤ 17 → Rn (gG D cI cJ cZ cT lo b L xs) mX12_ask d 12 [(0, .ref y), (1, .int (iv x1)), (2, .int (iv x2)), (3, .int (iv x3)), (4, .int (iv x4))] [] hp12 n 0 0 (qy_X12_ask Γ cI cJ cZ y n rf cn nm so sz dr mn fr tt wt co nu qi qc nf nt nw nc sa wo ln hw ro x1 x2 x3 x4) := by
    intro hp12 ht12 hf12
    refine r_iconst (pc := 12) (v := iv 1) dX12_ask_12 (by decide) ?_
    refine r_goto (pc := 13) (tgt := 17) dX12_ask_13 (by decide) ?_
    refine Rn.pick (lv' := [(0, .ref y), (1, .int (iv x1)), (2, .int (iv x2)), (3, .int (iv x3)), (4, .int (iv x4))]) [0, 1, 2, 3, 4] rfl ?_
    exact B17 _ ht12 1 ⟨by omega, by omega, by omega⟩
  refine t_icmp_eq (pc := 3) (tgt := 12) dX12_ask_3 (by decide) (by omega) (by omega) (fun c3 => ?_) (fun c3 => ?_)
  · refine Rn.pick (lv' := [(0, .ref y), (1, .int (iv x1)), (2, .int (iv x2)), (3, .int (iv x3)), (4, .int (iv x4))]) [0, 1, 2, 3, 4] rfl ?_
    exact B12 _ ht ⟨by omega, by omega⟩
  · refine r_iload_n (pc := 6) dX12_ask_6 (i := 2) rfl rfl ?_
    refine r_bipush (pc := 7) (v := iv 17) dX12_ask_7 (by decide) ?_
    refine t_icmp_ne (pc := 9) (tgt := 16) dX12_ask_9 (by decide) (by omega) (by omega) (fun c9 => ?_) (fun c9 => ?_)
    · refine r_iconst (pc := 16) (v := iv 0) dX12_ask_16 (by decide) ?_
      refine Rn.pick (lv' := [(0, .ref y), (1, .int (iv x1)), (2, .int (iv x2)), (3, .int (iv x3)), (4, .int (iv x4))]) [0, 1, 2, 3, 4] rfl ?_
      exact B17 _ ht 0 ⟨by omega, by omega, by omega⟩
    · refine Rn.pick (lv' := [(0, .ref y), (1, .int (iv x1)), (2, .int (iv x2)), (3, .int (iv x3)), (4, .int (iv x4))]) [0, 1, 2, 3, 4] rfl ?_
      exact B12 _ ht ⟨by omega, by omega⟩
