/-- the arcs below k that are between u and v -/
def prK (m : Nat) (d : Int) (F T W C F' T' W' C' im : Nat → Int) (u v k : Int) : Prop := ∀ j : Nat, (j : Int) < k → ((F j = u ∧ T j = v) ∨ (F j = v ∧ T j = u)) → tmA m d F T W C (F j) (T j) (W j) (C j) = tmA m d F' T' W' C' (im (F j).toNat) (im (T j).toNat) (W j) (C j)
theorem prk_0 {m : Nat} {d : Int} {F T W C F' T' W' C' im : Nat → Int} {u v : Int} : prK m d F T W C F' T' W' C' im u v 0 := fun j h => by omega
theorem prk_st {m : Nat} {d : Int} {F T W C F' T' W' C' im : Nat → Int} {u v k : Int} (h : prK m d F T W C F' T' W' C' im u v k) (hk : 0 ≤ k) (hn : ((F (Int.toNat k) = u ∧ T (Int.toNat k) = v) ∨ (F (Int.toNat k) = v ∧ T (Int.toNat k) = u)) → tmA m d F T W C (F (Int.toNat k)) (T (Int.toNat k)) (W (Int.toNat k)) (C (Int.toNat k)) = tmA m d F' T' W' C' (im (F (Int.toNat k)).toNat) (im (T (Int.toNat k)).toNat) (W (Int.toNat k)) (C (Int.toNat k))) : prK m d F T W C F' T' W' C' im u v (k + 1) := fun j hj => by
  by_cases e : (j : Int) < k
  · exact h j e
  · rw [show j = Int.toNat k by omega]; exact hn
theorem pr_of {m : Nat} {d : Int} {F T W C F' T' W' C' im : Nat → Int} {u v k : Int} (h : prK m d F T W C F' T' W' C' im u v k) (hk : (m : Int) ≤ k) (hb : bwA m F T u v = bwA m F' T' (im u.toNat) (im v.toNat)) : prP m d F T W C F' T' W' C' im u v := ⟨fun j hj => h j (by omega), hb⟩
/-- the nodes below w have been held against v -/
def prU (m : Nat) (d : Int) (F T W C F' T' W' C' im : Nat → Int) (v w : Int) : Prop := ∀ u : Nat, (u : Int) < w → prP m d F T W C F' T' W' C' im (u : Int) v
theorem pru_0 {m : Nat} {d : Int} {F T W C F' T' W' C' im : Nat → Int} {v : Int} : prU m d F T W C F' T' W' C' im v 0 := fun u h => by omega
theorem pru_st {m : Nat} {d : Int} {F T W C F' T' W' C' im : Nat → Int} {v w : Int} (h : prU m d F T W C F' T' W' C' im v w) (hw : 0 ≤ w) (hp : prP m d F T W C F' T' W' C' im w v) : prU m d F T W C F' T' W' C' im v (w + 1) := fun u hu => by
  by_cases e : (u : Int) < w
  · exact h u e
  · rw [show (u : Int) = w by omega]; exact hp
theorem ft_y {m : Nat} {d : Int} {F T W C F' T' W' C' im : Nat → Int} {v w : Int} (he : edA m d F T v = edA m d F' T' (im v.toNat)) (h : prU m d F T W C F' T' W' C' im v w) (hw : v < w) : ftP m d F T W C F' T' W' C' im v := ⟨he, fun u hu => h u (by omega)⟩
theorem ft_k {m : Nat} {d : Int} {F T W C F' T' W' C' im : Nat → Int} {v u : Int} {k : Nat} (hu : 0 ≤ u ∧ u ≤ v) (hk : k < m) (hb : (F k = u ∧ T k = v) ∨ (F k = v ∧ T k = u)) (hn : tmA m d F T W C (F k) (T k) (W k) (C k) ≠ tmA m d F' T' W' C' (im (F k).toNat) (im (T k).toNat) (W k) (C k)) : ¬ ftP m d F T W C F' T' W' C' im v := fun h => by
  have h1 := (h.2 u.toNat (by omega)).1 k hk
  rw [show ((u.toNat : Nat) : Int) = u by omega] at h1
  exact hn (h1 hb)
theorem ft_b {m : Nat} {d : Int} {F T W C F' T' W' C' im : Nat → Int} {v u : Int} (hu : 0 ≤ u ∧ u ≤ v) (hn : bwA m F T u v ≠ bwA m F' T' (im u.toNat) (im v.toNat)) : ¬ ftP m d F T W C F' T' W' C' im v := fun h => by
  have h1 := (h.2 u.toNat (by omega)).2
  rw [show ((u.toNat : Nat) : Int) = u by omega] at h1
  exact hn h1
set_option maxHeartbeats 4000000 in
set_option maxRecDepth 100000 in
theorem x_X12_fits {D : va_G} {cI cJ cZ cT : ClassId} {lo b L : Nat} {xs : Nat → Int32} {hp : MH} {n d : Nat} {Γ : TG} {y : Nat} {rf cn nm : Int} {so sz dr mn fr tt wt co : Nat → Int} {nu : Nat → Int64} {sa : Nat → Int} {wo : Nat → Int64} {ln : Nat → Int} {hw : Nat → Int64} {ro qi qc nf nt nw nc : Nat → Int} {cl nx : Nat → Int64} {ie be sd bl : Nat → Int} {bs wy ra rb : Nat → Int64} {lb bg os js ls : Nat → Int} {sp : Nat → Int64} {jw go : Nat → Int} {de : Nat → Int64} {yb ah im : Nat → Int} {x1 x2 x3 : Int} {Po9 : Option Value → MH → Nat → Prop} (hd0 : 2 ≤ d) (hR_many : Rfx 121 0 60 mn) (hR_from : Rfx 7260 0 15 fr) (hR_to : Rfx 7260 0 15 tt) (hR_weight : Rfx 7260 (-1000) 1000 wt) (hR_cost : Rfx 7260 (-1000) 1000 co) (hR_directs : Rfx 121 0 1 dr) (hR_image : Rfx 16 (-1) 15 im) (ht : Tw (RX Γ cI cJ cZ y rf cn nm so sz dr mn fr tt wt co nu sa wo ln hw ro qi qc nf nt nw nc cl nx ie be sd bl bs wy ra rb lb bg os js ls sp jw go de yb ah im) hp) (hx1 : 0 ≤ x1 ∧ x1 ≤ 120) (hx2 : 0 ≤ x2 ∧ x2 ≤ 120) (hx3 : 0 ≤ x3 ∧ x3 ≤ 15) (hmn : mn (Int.toNat x2) = mn (Int.toNat x1)) (hdr : dr (Int.toNat x2) = dr (Int.toNat x1)) (hpf : ∀ i : Nat, (i : Int) ≤ x3 → 0 ≤ im i) (hPo : ∀ r hp1 n1, (n1 = n ∧ ∃ (r9 : Int), Tw (RX Γ cI cJ cZ y rf cn nm so sz dr mn fr tt wt co nu sa wo ln hw ro qi qc nf nt nw nc cl nx ie be sd bl bs wy ra rb lb bg os js ls sp jw go de yb ah im) hp1 ∧ r = some (.int (iv r9)) ∧ (0 ≤ r9 ∧ r9 ≤ 1) ∧ ((r9 = 1 ∧ ftP (Int.toNat (mn (Int.toNat x1))) (dr (Int.toNat x1)) (sh fr (60 * x1)) (sh tt (60 * x1)) (sh wt (60 * x1)) (sh co (60 * x1)) (sh fr (60 * x2)) (sh tt (60 * x2)) (sh wt (60 * x2)) (sh co (60 * x2)) im x3) ∨ (r9 = 0 ∧ ¬ ftP (Int.toNat (mn (Int.toNat x1))) (dr (Int.toNat x1)) (sh fr (60 * x1)) (sh tt (60 * x1)) (sh wt (60 * x1)) (sh co (60 * x1)) (sh fr (60 * x2)) (sh tt (60 * x2)) (sh wt (60 * x2)) (sh co (60 * x2)) im x3))) → Po9 r hp1 n1) : Mt (gG D cI cJ cZ cT lo b L xs) mX12_fits d 0 0 [.ref y, .int (iv x1), .int (iv x2), .int (iv x3)] hp n Po9 := by
  refine Mt.of rfl (Nat.le_of_ble_eq_true rfl) ?_
  refine Rn.pick (lv' := [(0, .ref y), (1, .int (iv x1)), (2, .int (iv x2)), (3, .int (iv x3))]) [0, 1, 2, 3] rfl ?_
  have rmn := hR_many (Int.toNat x1) (by omega)
  have rdr := hR_directs (Int.toNat x1) (by omega)
  refine r_aload_n (pc := 0) dX12_fits_0 (i := 0) rfl rfl ?_
  refine r_iload_n (pc := 1) dX12_fits_1 (i := 1) rfl rfl ?_
  refine r_iload_n (pc := 2) dX12_fits_2 (i := 3) rfl rfl ?_
  obtain ⟨fs5, hfs5⟩ := t_obj ht (rd_of RX_y)
  refine r_callV (pc := 3) (as := [.int (iv x1), .int (iv x3)]) (st := []) kX12_394 rfl dX12_fits_3 hfs5 (x_X12_ends (d := d - 1) (x1 := x1) (x2 := x3) (by omega) (by assumption) (by assumption) (by assumption) (by assumption) ht (by omega) (by omega) (fun _ _ _ h => h)) rfl (by omega) (Nat.le_of_ble_eq_true rfl) (Nat.zero_le _) (Nat.zero_le _) rfl (fun r2 hp1 n3 hq4 => ?_)
  obtain ⟨hnn3, r9_7, ht6, hrr2, hhq40, hhq41⟩ := hq4
  subst n3 r2
  have hhq40 : 0 ≤ r9_7 ∧ r9_7 ≤ 60060 := hhq40
  have hhq41 : r9_7 = edA (Int.toNat (mn (Int.toNat x1))) (dr (Int.toNat x1)) (sh fr (60 * x1)) (sh tt (60 * x1)) x3 := hhq41
  change Rn _ _ _ 6 _ [.int (iv r9_7)] _ _ _ _ _
  have hed3 := hhq41
  refine r_aload_n (pc := 6) dX12_fits_6 (i := 0) rfl rfl ?_
  refine r_iload_n (pc := 7) dX12_fits_7 (i := 2) rfl rfl ?_
  refine r_aload_n (pc := 8) dX12_fits_8 (i := 0) rfl rfl ?_
  refine t_getE (pc := 9) (.ref (y + 42)) ht6 (rd_of RX_y) fX12_136 dX12_fits_9 rfl ?_
  refine r_iload_n (pc := 12) dX12_fits_12 (i := 3) rfl rfl ?_
  refine t_ialdX (pc := 13) (t0 := 0) ht6 (rd_of RX_image) dX12_fits_13 rfl (by decide) (by omega) (fun b8 => ?_)
  have rb8 := (show Rfx 16 (-1) 15 im by assumption) (Int.toNat x3) (by omega)
  have hi13 := hpf (Int.toNat x3) (by omega)
  obtain ⟨fs13, hfs13⟩ := t_obj ht6 (rd_of RX_y)
  refine r_callV (pc := 14) (as := [.int (iv x2), .int (iv (im (Int.toNat x3)))]) (st := [.int (iv r9_7)]) kX12_394 rfl dX12_fits_14 hfs13 (x_X12_ends (d := d - 1) (x1 := x2) (x2 := im (Int.toNat x3)) (by omega) (by assumption) (by assumption) (by assumption) (by assumption) ht6 (by omega) (by omega) (fun _ _ _ h => h)) rfl (by omega) (Nat.le_of_ble_eq_true rfl) (Nat.zero_le _) (Nat.zero_le _) rfl (fun r10 hp9 n11 hq12 => ?_)
  obtain ⟨hnn11, r9_15, ht14, hrr10, hhq120, hhq121⟩ := hq12
  subst n11 r10
  have hhq120 : 0 ≤ r9_15 ∧ r9_15 ≤ 60060 := hhq120
  have hhq121 : r9_15 = edA (Int.toNat (mn (Int.toNat x2))) (dr (Int.toNat x2)) (sh fr (60 * x2)) (sh tt (60 * x2)) (im (Int.toNat x3)) := hhq121
  change Rn _ _ _ 17 _ [.int (iv r9_15), .int (iv r9_7)] _ _ _ _ _
  have hed14 := hhq121
  rw [hmn, hdr] at hed14
  refine t_icmp_eq (pc := 17) (tgt := 22) dX12_fits_17 (by decide) (by omega) (by omega) (fun c17 => ?_) (fun c17 => ?_)
  · have hede : edA (Int.toNat (mn (Int.toNat x1))) (dr (Int.toNat x1)) (sh fr (60 * x1)) (sh tt (60 * x1)) x3 = edA (Int.toNat (mn (Int.toNat x1))) (dr (Int.toNat x1)) (sh fr (60 * x2)) (sh tt (60 * x2)) (im x3.toNat) := by rw [← hed3, ← hed14]; omega
    refine r_iconst (pc := 22) (v := iv 0) dX12_fits_22 (by decide) ?_
    refine r_istore (pc := 23) (lv' := [(4, .int (iv 0)), (0, .ref y), (1, .int (iv x1)), (2, .int (iv x2)), (3, .int (iv x3))]) dX12_fits_23 (by decide) rfl ?_
    have B25 : ∀ k : Nat, ∀ hp25 : MH, Tw (RX Γ cI cJ cZ y rf cn nm so sz dr mn fr tt wt co nu sa wo ln hw ro qi qc nf nt nw nc cl nx ie be sd bl bs wy ra rb lb bg os js ls sp jw go de yb ah im) hp25 → ∀  (v25_4 : Int), 0 ≤ v25_4 ∧ v25_4 ≤ 16 ∧ (v25_4 ≤ x3 + 1) ∧ (prU (Int.toNat (mn (Int.toNat x1))) (dr (Int.toNat x1)) (sh fr (60 * x1)) (sh tt (60 * x1)) (sh wt (60 * x1)) (sh co (60 * x1)) (sh fr (60 * x2)) (sh tt (60 * x2)) (sh wt (60 * x2)) (sh co (60 * x2)) im x3 v25_4) → 16 - v25_4 ≤ (k : Int) → Rn (gG D cI cJ cZ cT lo b L xs) mX12_fits d 25 [(0, .ref y), (1, .int (iv x1)), (2, .int (iv x2)), (3, .int (iv x3)), (4, .int (iv v25_4))] [] hp25 n 0 0 Po9 := by
      refine lpS _ ?_
      intro k25 ih25 hp25 ht25 v25_4 hf25 hm25
      obtain ⟨hf25_0, hf25_1, hf25_2, ha25_3⟩ := hf25
      refine r_iload (pc := 25) dX12_fits_25 rfl ?_
      refine r_iload_n (pc := 27) dX12_fits_27 (i := 3) rfl rfl ?_
      refine t_icmp_gt (pc := 28) (tgt := 387) dX12_fits_28 (by decide) (by omega) (by omega) (fun c28 => ?_) (fun c28 => ?_)
      · refine r_iconst (pc := 387) (v := iv 1) dX12_fits_387 (by decide) ?_
        exact r_zret (pc := 388) dX12_fits_388 rfl (iv_nar (by omega)) (hPo _ _ _ ⟨rfl, 1, ht25, rfl, (by omega), (by exact Or.inl ⟨rfl, ft_y hede (by assumption : prU (Int.toNat (mn (Int.toNat x1))) (dr (Int.toNat x1)) (sh fr (60 * x1)) (sh tt (60 * x1)) (sh wt (60 * x1)) (sh co (60 * x1)) (sh fr (60 * x2)) (sh tt (60 * x2)) (sh wt (60 * x2)) (sh co (60 * x2)) im x3 v25_4) (by omega)⟩)⟩)
      · refine r_iconst (pc := 31) (v := iv 0) dX12_fits_31 (by decide) ?_
        refine r_istore (pc := 32) (lv' := [(5, .int (iv 0)), (0, .ref y), (1, .int (iv x1)), (2, .int (iv x2)), (3, .int (iv x3)), (4, .int (iv v25_4))]) dX12_fits_32 (by decide) rfl ?_
        have B34 : ∀ k : Nat, ∀ hp34 : MH, Tw (RX Γ cI cJ cZ y rf cn nm so sz dr mn fr tt wt co nu sa wo ln hw ro qi qc nf nt nw nc cl nx ie be sd bl bs wy ra rb lb bg os js ls sp jw go de yb ah im) hp34 → ∀  (v34_5 : Int), 0 ≤ v34_5 ∧ v34_5 ≤ 60 ∧ (v34_5 ≤ (mn (Int.toNat x1))) ∧ (prK (Int.toNat (mn (Int.toNat x1))) (dr (Int.toNat x1)) (sh fr (60 * x1)) (sh tt (60 * x1)) (sh wt (60 * x1)) (sh co (60 * x1)) (sh fr (60 * x2)) (sh tt (60 * x2)) (sh wt (60 * x2)) (sh co (60 * x2)) im v25_4 x3 v34_5) → 60 - v34_5 ≤ (k : Int) → Rn (gG D cI cJ cZ cT lo b L xs) mX12_fits d 34 [(0, .ref y), (1, .int (iv x1)), (2, .int (iv x2)), (3, .int (iv x3)), (4, .int (iv v25_4)), (5, .int (iv v34_5))] [] hp34 n 0 0 Po9 := by
          refine lpS _ ?_
          intro k34 ih34 hp34 ht34 v34_5 hf34 hm34
          obtain ⟨hf34_0, hf34_1, hf34_2, ha34_3⟩ := hf34
          refine r_iload (pc := 34) dX12_fits_34 rfl ?_
          refine r_aload_n (pc := 36) dX12_fits_36 (i := 0) rfl rfl ?_
          refine t_getE (pc := 37) (.ref (y + 4)) ht34 (rd_of RX_y) fX12_20 dX12_fits_37 rfl ?_
          refine r_iload_n (pc := 40) dX12_fits_40 (i := 1) rfl rfl ?_
          refine t_ialdX (pc := 41) (t0 := 0) ht34 (rd_of RX_many) dX12_fits_41 rfl (by decide) (by omega) (fun b16 => ?_)
          have rb16 := (show Rfx 121 0 60 mn by assumption) (Int.toNat x1) (by omega)
          refine t_icmp_ge (pc := 42) (tgt := 198) dX12_fits_42 (by decide) (by omega) (by omega) (fun c42 => ?_) (fun c42 => ?_)
          · refine r_iconst (pc := 198) (v := iv 0) dX12_fits_198 (by decide) ?_
            refine r_istore (pc := 199) (lv' := [(5, .int (iv 0)), (0, .ref y), (1, .int (iv x1)), (2, .int (iv x2)), (3, .int (iv x3)), (4, .int (iv v25_4))]) dX12_fits_199 (by decide) rfl ?_
            refine r_iconst (pc := 201) (v := iv 0) dX12_fits_201 (by decide) ?_
            refine r_istore (pc := 202) (lv' := [(6, .int (iv 0)), (5, .int (iv 0)), (0, .ref y), (1, .int (iv x1)), (2, .int (iv x2)), (3, .int (iv x3)), (4, .int (iv v25_4))]) dX12_fits_202 (by decide) rfl ?_
            refine r_iconst (pc := 204) (v := iv 0) dX12_fits_204 (by decide) ?_
            refine r_istore (pc := 205) (lv' := [(7, .int (iv 0)), (6, .int (iv 0)), (5, .int (iv 0)), (0, .ref y), (1, .int (iv x1)), (2, .int (iv x2)), (3, .int (iv x3)), (4, .int (iv v25_4))]) dX12_fits_205 (by decide) rfl ?_
            have B207 : ∀ k : Nat, ∀ hp207 : MH, Tw (RX Γ cI cJ cZ y rf cn nm so sz dr mn fr tt wt co nu sa wo ln hw ro qi qc nf nt nw nc cl nx ie be sd bl bs wy ra rb lb bg os js ls sp jw go de yb ah im) hp207 → ∀  (v207_5 : Int) (v207_6 : Int) (v207_7 : Int), 0 ≤ v207_5 ∧ v207_5 ≤ 60 ∧ 0 ≤ v207_6 ∧ v207_6 ≤ 60 ∧ 0 ≤ v207_7 ∧ v207_7 ≤ 60 ∧ (v207_7 ≤ (mn (Int.toNat x1))) ∧ (v207_5 ≤ v207_7) ∧ (v207_6 ≤ v207_7) ∧ (v207_5 = sgm (bwF (sh fr (60 * x1)) (sh tt (60 * x1)) v25_4 x3) (Int.toNat v207_7)) ∧ (v207_6 = sgm (bwF (sh fr (60 * x2)) (sh tt (60 * x2)) (im (Int.toNat v25_4)) (im (Int.toNat x3))) (Int.toNat v207_7)) → 60 - v207_7 ≤ (k : Int) → Rn (gG D cI cJ cZ cT lo b L xs) mX12_fits d 207 [(0, .ref y), (1, .int (iv x1)), (2, .int (iv x2)), (3, .int (iv x3)), (4, .int (iv v25_4)), (5, .int (iv v207_5)), (6, .int (iv v207_6)), (7, .int (iv v207_7))] [] hp207 n 0 0 Po9 := by
              refine lpS _ ?_
              intro k207 ih207 hp207 ht207 v207_5 v207_6 v207_7 hf207 hm207
              obtain ⟨hf207_0, hf207_1, hf207_2, hf207_3, hf207_4, hf207_5, hf207_6, hf207_7, hf207_8, ha207_9, ha207_10⟩ := hf207
              refine r_iload (pc := 207) dX12_fits_207 rfl ?_
              refine r_aload_n (pc := 209) dX12_fits_209 (i := 0) rfl rfl ?_
              refine t_getE (pc := 210) (.ref (y + 4)) ht207 (rd_of RX_y) fX12_20 dX12_fits_210 rfl ?_
              refine r_iload_n (pc := 213) dX12_fits_213 (i := 1) rfl rfl ?_
              refine t_ialdX (pc := 214) (t0 := 0) ht207 (rd_of RX_many) dX12_fits_214 rfl (by decide) (by omega) (fun b17 => ?_)
              have rb17 := (show Rfx 121 0 60 mn by assumption) (Int.toNat x1) (by omega)
              refine t_icmp_ge (pc := 215) (tgt := 372) dX12_fits_215 (by decide) (by omega) (by omega) (fun c215 => ?_) (fun c215 => ?_)
              · have hbe1 : v207_5 = bwA (Int.toNat (mn (Int.toNat x1))) (sh fr (60 * x1)) (sh tt (60 * x1)) v25_4 x3 := by rw [(by assumption : v207_5 = sgm (bwF (sh fr (60 * x1)) (sh tt (60 * x1)) v25_4 x3) (Int.toNat v207_7)), show Int.toNat v207_7 = (Int.toNat (mn (Int.toNat x1))) by omega]; rfl
                have hbe2 : v207_6 = bwA (Int.toNat (mn (Int.toNat x1))) (sh fr (60 * x2)) (sh tt (60 * x2)) (im v25_4.toNat) (im x3.toNat) := by rw [(by assumption : v207_6 = sgm (bwF (sh fr (60 * x2)) (sh tt (60 * x2)) (im (Int.toNat v25_4)) (im (Int.toNat x3))) (Int.toNat v207_7)), show Int.toNat v207_7 = (Int.toNat (mn (Int.toNat x1))) by omega]; rfl
                refine r_iload (pc := 372) dX12_fits_372 rfl ?_
                refine r_iload (pc := 374) dX12_fits_374 rfl ?_
                refine t_icmp_eq (pc := 376) (tgt := 381) dX12_fits_376 (by decide) (by omega) (by omega) (fun c376 => ?_) (fun c376 => ?_)
                · have hpu := pru_st (by assumption : prU (Int.toNat (mn (Int.toNat x1))) (dr (Int.toNat x1)) (sh fr (60 * x1)) (sh tt (60 * x1)) (sh wt (60 * x1)) (sh co (60 * x1)) (sh fr (60 * x2)) (sh tt (60 * x2)) (sh wt (60 * x2)) (sh co (60 * x2)) im x3 v25_4) (by omega) (pr_of (by assumption : prK (Int.toNat (mn (Int.toNat x1))) (dr (Int.toNat x1)) (sh fr (60 * x1)) (sh tt (60 * x1)) (sh wt (60 * x1)) (sh co (60 * x1)) (sh fr (60 * x2)) (sh tt (60 * x2)) (sh wt (60 * x2)) (sh co (60 * x2)) im v25_4 x3 v34_5) (by omega) (by rw [← hbe1, ← hbe2]; omega))
                  refine r_iinc (pc := 381) (v := iv (v25_4 + 1)) (lv' := [(4, .int (iv (v25_4 + 1))), (0, .ref y), (1, .int (iv x1)), (2, .int (iv x2)), (3, .int (iv x3)), (5, .int (iv v207_5)), (6, .int (iv v207_6)), (7, .int (iv v207_7))]) dX12_fits_381 rfl (iv_add _ _) (by decide) rfl ?_
                  refine r_goto (pc := 384) (tgt := 25) dX12_fits_384 (by decide) ?_
                  refine Rn.pick (lv' := [(0, .ref y), (1, .int (iv x1)), (2, .int (iv x2)), (3, .int (iv x3)), (4, .int (iv (v25_4 + 1)))]) [1, 2, 3, 4, 0] rfl ?_
                  exact ih25 (Int.toNat (16 - (v25_4 + 1))) (by omega) _ ht207 (v25_4 + 1) ⟨by omega, by omega, by omega, by (first | exact hpu | exact pru_0)⟩ (by omega)
                · have hnf : ¬ ftP (Int.toNat (mn (Int.toNat x1))) (dr (Int.toNat x1)) (sh fr (60 * x1)) (sh tt (60 * x1)) (sh wt (60 * x1)) (sh co (60 * x1)) (sh fr (60 * x2)) (sh tt (60 * x2)) (sh wt (60 * x2)) (sh co (60 * x2)) im x3 := ft_b (u := v25_4) (by omega) (by rw [← hbe1, ← hbe2]; omega)
                  refine r_iconst (pc := 379) (v := iv 0) dX12_fits_379 (by decide) ?_
                  exact r_zret (pc := 380) dX12_fits_380 rfl (iv_nar (by omega)) (hPo _ _ _ ⟨rfl, 0, ht207, rfl, (by omega), (by exact Or.inr ⟨rfl, hnf⟩)⟩)
              · refine r_iload_n (pc := 218) dX12_fits_218 (i := 1) rfl rfl ?_
                refine r_iload (pc := 219) dX12_fits_219 rfl ?_
                refine t_callSI (pc := 221) (as := [.int (iv x1), .int (iv v207_7)]) (st := []) kX12_157 dX12_fits_221 (t_X12_at1x (d := d - 1) (x1 := x1) (x2 := v207_7) (by omega)  ht207 (by omega) (by omega)) rfl (by omega) (Nat.le_of_ble_eq_true rfl) rfl (fun hp18 y20 ht19 by20 => ?_)
                have ey20 : y20 = 60 * x1 + v207_7 := by20
                subst ey20
                have eF := sh_at fr (60 * x1) (v := v207_7) (by omega)
                have eT := sh_at tt (60 * x1) (v := v207_7) (by omega)
                refine r_istore (pc := 224) (lv' := [(8, .int (iv (60 * x1 + v207_7))), (0, .ref y), (1, .int (iv x1)), (2, .int (iv x2)), (3, .int (iv x3)), (4, .int (iv v25_4)), (5, .int (iv v207_5)), (6, .int (iv v207_6)), (7, .int (iv v207_7))]) dX12_fits_224 (by decide) rfl ?_
                refine r_iload (pc := 226) dX12_fits_226 rfl ?_
                refine r_aload_n (pc := 228) dX12_fits_228 (i := 0) rfl rfl ?_
                refine t_getE (pc := 229) (.ref (y + 5)) ht19 (rd_of RX_y) fX12_23 dX12_fits_229 rfl ?_
                refine r_iload (pc := 232) dX12_fits_232 rfl ?_
                refine t_ialdX (pc := 234) (t0 := 0) ht19 (rd_of RX_from) dX12_fits_234 rfl (by decide) (by omega) (fun b21 => ?_)
                have rb21 := (show Rfx 7260 0 15 fr by assumption) (Int.toNat (60 * x1 + v207_7)) (by omega)
                refine r_iload (pc := 235) dX12_fits_235 rfl ?_
                have B279 : ∀ hp279 : MH, Tw (RX Γ cI cJ cZ y rf cn nm so sz dr mn fr tt wt co nu sa wo ln hw ro qi qc nf nt nw nc cl nx ie be sd bl bs wy ra rb lb bg os js ls sp jw go de yb ah im) hp279 → ∀  (u279_1 : Int), 0 ≤ u279_1 ∧ u279_1 ≤ 1 ∧ ((u279_1 = 1 ∧ ((((sh fr (60 * x1)) (Int.toNat v207_7)) = v25_4 ∧ ((sh tt (60 * x1)) (Int.toNat v207_7)) = x3) ∨ (((sh fr (60 * x1)) (Int.toNat v207_7)) = x3 ∧ ((sh tt (60 * x1)) (Int.toNat v207_7)) = v25_4))) ∨ (u279_1 = 0 ∧ ¬ ((((sh fr (60 * x1)) (Int.toNat v207_7)) = v25_4 ∧ ((sh tt (60 * x1)) (Int.toNat v207_7)) = x3) ∨ (((sh fr (60 * x1)) (Int.toNat v207_7)) = x3 ∧ ((sh tt (60 * x1)) (Int.toNat v207_7)) = v25_4)))) → Rn (gG D cI cJ cZ cT lo b L xs) mX12_fits d 279 [(0, .ref y), (1, .int (iv x1)), (2, .int (iv x2)), (3, .int (iv x3)), (4, .int (iv v25_4)), (6, .int (iv v207_6)), (7, .int (iv v207_7))] [.int (iv u279_1), .int (iv v207_5)] hp279 n 0 0 Po9 := by
                  intro hp279 ht279 u279_1 hf279
                  refine r_iadd (pc := 279) (v := iv (v207_5 + u279_1)) dX12_fits_279 (iv_add _ _) ?_
                  have hbw1 := cnt_up (by omega) (by assumption : v207_5 = sgm (bwF (sh fr (60 * x1)) (sh tt (60 * x1)) v25_4 x3) (Int.toNat v207_7)) (bwf_b hf279.2.2)
                  refine r_istore (pc := 280) (lv' := [(5, .int (iv (v207_5 + u279_1))), (0, .ref y), (1, .int (iv x1)), (2, .int (iv x2)), (3, .int (iv x3)), (4, .int (iv v25_4)), (6, .int (iv v207_6)), (7, .int (iv v207_7))]) dX12_fits_280 (by decide) rfl ?_
                  refine r_iload_n (pc := 282) dX12_fits_282 (i := 2) rfl rfl ?_
                  refine r_iload (pc := 283) dX12_fits_283 rfl ?_
                  refine t_callSI (pc := 285) (as := [.int (iv x2), .int (iv v207_7)]) (st := []) kX12_157 dX12_fits_285 (t_X12_at1x (d := d - 1) (x1 := x2) (x2 := v207_7) (by omega)  ht279 (by omega) (by omega)) rfl (by omega) (Nat.le_of_ble_eq_true rfl) rfl (fun hp22 y24 ht23 by24 => ?_)
                  have ey24 : y24 = 60 * x2 + v207_7 := by24
                  subst ey24
                  have eF2 := sh_at fr (60 * x2) (v := v207_7) (by omega)
                  have eT2 := sh_at tt (60 * x2) (v := v207_7) (by omega)
                  refine r_istore (pc := 288) (lv' := [(9, .int (iv (60 * x2 + v207_7))), (5, .int (iv (v207_5 + u279_1))), (0, .ref y), (1, .int (iv x1)), (2, .int (iv x2)), (3, .int (iv x3)), (4, .int (iv v25_4)), (6, .int (iv v207_6)), (7, .int (iv v207_7))]) dX12_fits_288 (by decide) rfl ?_
                  refine r_iload (pc := 290) dX12_fits_290 rfl ?_
                  refine r_aload_n (pc := 292) dX12_fits_292 (i := 0) rfl rfl ?_
                  refine t_getE (pc := 293) (.ref (y + 5)) ht23 (rd_of RX_y) fX12_23 dX12_fits_293 rfl ?_
                  refine r_iload (pc := 296) dX12_fits_296 rfl ?_
                  refine t_ialdX (pc := 298) (t0 := 0) ht23 (rd_of RX_from) dX12_fits_298 rfl (by decide) (by omega) (fun b25 => ?_)
                  have rb25 := (show Rfx 7260 0 15 fr by assumption) (Int.toNat (60 * x2 + v207_7)) (by omega)
                  refine r_aload_n (pc := 299) dX12_fits_299 (i := 0) rfl rfl ?_
                  refine t_getE (pc := 300) (.ref (y + 42)) ht23 (rd_of RX_y) fX12_136 dX12_fits_300 rfl ?_
                  refine r_iload (pc := 303) dX12_fits_303 rfl ?_
                  refine t_ialdX (pc := 305) (t0 := 0) ht23 (rd_of RX_image) dX12_fits_305 rfl (by decide) (by omega) (fun b26 => ?_)
                  have rb26 := (show Rfx 16 (-1) 15 im by assumption) (Int.toNat v25_4) (by omega)
                  have B363 : ∀ hp363 : MH, Tw (RX Γ cI cJ cZ y rf cn nm so sz dr mn fr tt wt co nu sa wo ln hw ro qi qc nf nt nw nc cl nx ie be sd bl bs wy ra rb lb bg os js ls sp jw go de yb ah im) hp363 → ∀  (u363_1 : Int), 0 ≤ u363_1 ∧ u363_1 ≤ 1 ∧ ((u363_1 = 1 ∧ ((((sh fr (60 * x2)) (Int.toNat v207_7)) = (im (Int.toNat v25_4)) ∧ ((sh tt (60 * x2)) (Int.toNat v207_7)) = (im (Int.toNat x3))) ∨ (((sh fr (60 * x2)) (Int.toNat v207_7)) = (im (Int.toNat x3)) ∧ ((sh tt (60 * x2)) (Int.toNat v207_7)) = (im (Int.toNat v25_4))))) ∨ (u363_1 = 0 ∧ ¬ ((((sh fr (60 * x2)) (Int.toNat v207_7)) = (im (Int.toNat v25_4)) ∧ ((sh tt (60 * x2)) (Int.toNat v207_7)) = (im (Int.toNat x3))) ∨ (((sh fr (60 * x2)) (Int.toNat v207_7)) = (im (Int.toNat x3)) ∧ ((sh tt (60 * x2)) (Int.toNat v207_7)) = (im (Int.toNat v25_4)))))) → Rn (gG D cI cJ cZ cT lo b L xs) mX12_fits d 363 [(0, .ref y), (1, .int (iv x1)), (2, .int (iv x2)), (3, .int (iv x3)), (4, .int (iv v25_4)), (5, .int (iv (v207_5 + u279_1))), (7, .int (iv v207_7))] [.int (iv u363_1), .int (iv v207_6)] hp363 n 0 0 Po9 := by
                    intro hp363 ht363 u363_1 hf363
                    refine r_iadd (pc := 363) (v := iv (v207_6 + u363_1)) dX12_fits_363 (iv_add _ _) ?_
                    have hbw2 := cnt_up (by omega) (by assumption : v207_6 = sgm (bwF (sh fr (60 * x2)) (sh tt (60 * x2)) (im (Int.toNat v25_4)) (im (Int.toNat x3))) (Int.toNat v207_7)) (bwf_b hf363.2.2)
                    refine r_istore (pc := 364) (lv' := [(6, .int (iv (v207_6 + u363_1))), (0, .ref y), (1, .int (iv x1)), (2, .int (iv x2)), (3, .int (iv x3)), (4, .int (iv v25_4)), (5, .int (iv (v207_5 + u279_1))), (7, .int (iv v207_7))]) dX12_fits_364 (by decide) rfl ?_
                    refine r_iinc (pc := 366) (v := iv (v207_7 + 1)) (lv' := [(7, .int (iv (v207_7 + 1))), (6, .int (iv (v207_6 + u363_1))), (0, .ref y), (1, .int (iv x1)), (2, .int (iv x2)), (3, .int (iv x3)), (4, .int (iv v25_4)), (5, .int (iv (v207_5 + u279_1)))]) dX12_fits_366 rfl (iv_add _ _) (by decide) rfl ?_
                    refine r_goto (pc := 369) (tgt := 207) dX12_fits_369 (by decide) ?_
                    refine Rn.pick (lv' := [(0, .ref y), (1, .int (iv x1)), (2, .int (iv x2)), (3, .int (iv x3)), (4, .int (iv v25_4)), (5, .int (iv (v207_5 + u279_1))), (6, .int (iv (v207_6 + u363_1))), (7, .int (iv (v207_7 + 1)))]) [2, 3, 4, 5, 6, 7, 1, 0] rfl ?_
                    exact ih207 (Int.toNat (60 - (v207_7 + 1))) (by omega) _ ht363 (v207_5 + u279_1) (v207_6 + u363_1) (v207_7 + 1) ⟨by omega, by omega, by omega, by omega, by omega, by omega, by omega, by omega, by omega, by (first | exact hbw1 | rfl), by (first | exact hbw2 | rfl)⟩ (by omega)
                  refine t_icmp_ne (pc := 306) (tgt := 325) dX12_fits_306 (by decide) (by omega) (by omega) (fun c306 => ?_) (fun c306 => ?_)
                  · refine r_aload_n (pc := 325) dX12_fits_325 (i := 0) rfl rfl ?_
                    refine t_getE (pc := 326) (.ref (y + 5)) ht23 (rd_of RX_y) fX12_23 dX12_fits_326 rfl ?_
                    refine r_iload (pc := 329) dX12_fits_329 rfl ?_
                    refine t_ialdX (pc := 331) (t0 := 0) ht23 (rd_of RX_from) dX12_fits_331 rfl (by decide) (by omega) (fun b27 => ?_)
                    have rb27 := (show Rfx 7260 0 15 fr by assumption) (Int.toNat (60 * x2 + v207_7)) (by omega)
                    refine r_aload_n (pc := 332) dX12_fits_332 (i := 0) rfl rfl ?_
                    refine t_getE (pc := 333) (.ref (y + 42)) ht23 (rd_of RX_y) fX12_136 dX12_fits_333 rfl ?_
                    refine r_iload_n (pc := 336) dX12_fits_336 (i := 3) rfl rfl ?_
                    refine t_ialdX (pc := 337) (t0 := 0) ht23 (rd_of RX_image) dX12_fits_337 rfl (by decide) (by omega) (fun b28 => ?_)
                    have rb28 := (show Rfx 16 (-1) 15 im by assumption) (Int.toNat x3) (by omega)
                    refine t_icmp_ne (pc := 338) (tgt := 362) dX12_fits_338 (by decide) (by omega) (by omega) (fun c338 => ?_) (fun c338 => ?_)
                    · refine r_iconst (pc := 362) (v := iv 0) dX12_fits_362 (by decide) ?_
                      refine Rn.pick (lv' := [(0, .ref y), (1, .int (iv x1)), (2, .int (iv x2)), (3, .int (iv x3)), (4, .int (iv v25_4)), (5, .int (iv (v207_5 + u279_1))), (7, .int (iv v207_7))]) [2, 3, 4, 5, 6, 1, 8] rfl ?_
                      exact B363 _ ht23 0 ⟨by omega, by omega, by omega⟩
                    · refine r_aload_n (pc := 341) dX12_fits_341 (i := 0) rfl rfl ?_
                      refine t_getE (pc := 342) (.ref (y + 6)) ht23 (rd_of RX_y) fX12_26 dX12_fits_342 rfl ?_
                      refine r_iload (pc := 345) dX12_fits_345 rfl ?_
                      refine t_ialdX (pc := 347) (t0 := 0) ht23 (rd_of RX_to) dX12_fits_347 rfl (by decide) (by omega) (fun b29 => ?_)
                      have rb29 := (show Rfx 7260 0 15 tt by assumption) (Int.toNat (60 * x2 + v207_7)) (by omega)
                      refine r_aload_n (pc := 348) dX12_fits_348 (i := 0) rfl rfl ?_
                      refine t_getE (pc := 349) (.ref (y + 42)) ht23 (rd_of RX_y) fX12_136 dX12_fits_349 rfl ?_
                      refine r_iload (pc := 352) dX12_fits_352 rfl ?_
                      refine t_ialdX (pc := 354) (t0 := 0) ht23 (rd_of RX_image) dX12_fits_354 rfl (by decide) (by omega) (fun b30 => ?_)
                      have rb30 := (show Rfx 16 (-1) 15 im by assumption) (Int.toNat v25_4) (by omega)
                      refine t_icmp_ne (pc := 355) (tgt := 362) dX12_fits_355 (by decide) (by omega) (by omega) (fun c355 => ?_) (fun c355 => ?_)
                      · refine r_iconst (pc := 362) (v := iv 0) dX12_fits_362 (by decide) ?_
                        refine Rn.pick (lv' := [(0, .ref y), (1, .int (iv x1)), (2, .int (iv x2)), (3, .int (iv x3)), (4, .int (iv v25_4)), (5, .int (iv (v207_5 + u279_1))), (7, .int (iv v207_7))]) [2, 3, 4, 5, 6, 1, 8] rfl ?_
                        exact B363 _ ht23 0 ⟨by omega, by omega, by omega⟩
                      · refine r_iconst (pc := 358) (v := iv 1) dX12_fits_358 (by decide) ?_
                        refine r_goto (pc := 359) (tgt := 363) dX12_fits_359 (by decide) ?_
                        refine Rn.pick (lv' := [(0, .ref y), (1, .int (iv x1)), (2, .int (iv x2)), (3, .int (iv x3)), (4, .int (iv v25_4)), (5, .int (iv (v207_5 + u279_1))), (7, .int (iv v207_7))]) [2, 3, 4, 5, 6, 1, 8] rfl ?_
                        exact B363 _ ht23 1 ⟨by omega, by omega, by omega⟩
                  · refine r_aload_n (pc := 309) dX12_fits_309 (i := 0) rfl rfl ?_
                    refine t_getE (pc := 310) (.ref (y + 6)) ht23 (rd_of RX_y) fX12_26 dX12_fits_310 rfl ?_
                    refine r_iload (pc := 313) dX12_fits_313 rfl ?_
                    refine t_ialdX (pc := 315) (t0 := 0) ht23 (rd_of RX_to) dX12_fits_315 rfl (by decide) (by omega) (fun b31 => ?_)
                    have rb31 := (show Rfx 7260 0 15 tt by assumption) (Int.toNat (60 * x2 + v207_7)) (by omega)
                    refine r_aload_n (pc := 316) dX12_fits_316 (i := 0) rfl rfl ?_
                    refine t_getE (pc := 317) (.ref (y + 42)) ht23 (rd_of RX_y) fX12_136 dX12_fits_317 rfl ?_
                    refine r_iload_n (pc := 320) dX12_fits_320 (i := 3) rfl rfl ?_
                    refine t_ialdX (pc := 321) (t0 := 0) ht23 (rd_of RX_image) dX12_fits_321 rfl (by decide) (by omega) (fun b32 => ?_)
                    have rb32 := (show Rfx 16 (-1) 15 im by assumption) (Int.toNat x3) (by omega)
                    refine t_icmp_eq (pc := 322) (tgt := 358) dX12_fits_322 (by decide) (by omega) (by omega) (fun c322 => ?_) (fun c322 => ?_)
                    · refine r_iconst (pc := 358) (v := iv 1) dX12_fits_358 (by decide) ?_
                      refine r_goto (pc := 359) (tgt := 363) dX12_fits_359 (by decide) ?_
                      refine Rn.pick (lv' := [(0, .ref y), (1, .int (iv x1)), (2, .int (iv x2)), (3, .int (iv x3)), (4, .int (iv v25_4)), (5, .int (iv (v207_5 + u279_1))), (7, .int (iv v207_7))]) [2, 3, 4, 5, 6, 1, 8] rfl ?_
                      exact B363 _ ht23 1 ⟨by omega, by omega, by omega⟩
                    · refine r_aload_n (pc := 325) dX12_fits_325 (i := 0) rfl rfl ?_
                      refine t_getE (pc := 326) (.ref (y + 5)) ht23 (rd_of RX_y) fX12_23 dX12_fits_326 rfl ?_
                      refine r_iload (pc := 329) dX12_fits_329 rfl ?_
                      refine t_ialdX (pc := 331) (t0 := 0) ht23 (rd_of RX_from) dX12_fits_331 rfl (by decide) (by omega) (fun b33 => ?_)
                      have rb33 := (show Rfx 7260 0 15 fr by assumption) (Int.toNat (60 * x2 + v207_7)) (by omega)
                      refine r_aload_n (pc := 332) dX12_fits_332 (i := 0) rfl rfl ?_
                      refine t_getE (pc := 333) (.ref (y + 42)) ht23 (rd_of RX_y) fX12_136 dX12_fits_333 rfl ?_
                      refine r_iload_n (pc := 336) dX12_fits_336 (i := 3) rfl rfl ?_
                      refine t_ialdX (pc := 337) (t0 := 0) ht23 (rd_of RX_image) dX12_fits_337 rfl (by decide) (by omega) (fun b34 => ?_)
                      have rb34 := (show Rfx 16 (-1) 15 im by assumption) (Int.toNat x3) (by omega)
                      refine t_icmp_ne (pc := 338) (tgt := 362) dX12_fits_338 (by decide) (by omega) (by omega) (fun c338 => ?_) (fun c338 => ?_)
                      · refine r_iconst (pc := 362) (v := iv 0) dX12_fits_362 (by decide) ?_
                        refine Rn.pick (lv' := [(0, .ref y), (1, .int (iv x1)), (2, .int (iv x2)), (3, .int (iv x3)), (4, .int (iv v25_4)), (5, .int (iv (v207_5 + u279_1))), (7, .int (iv v207_7))]) [2, 3, 4, 5, 6, 1, 8] rfl ?_
                        exact B363 _ ht23 0 ⟨by omega, by omega, by omega⟩
                      · refine r_aload_n (pc := 341) dX12_fits_341 (i := 0) rfl rfl ?_
                        refine t_getE (pc := 342) (.ref (y + 6)) ht23 (rd_of RX_y) fX12_26 dX12_fits_342 rfl ?_
                        refine r_iload (pc := 345) dX12_fits_345 rfl ?_
                        refine t_ialdX (pc := 347) (t0 := 0) ht23 (rd_of RX_to) dX12_fits_347 rfl (by decide) (by omega) (fun b35 => ?_)
                        have rb35 := (show Rfx 7260 0 15 tt by assumption) (Int.toNat (60 * x2 + v207_7)) (by omega)
                        refine r_aload_n (pc := 348) dX12_fits_348 (i := 0) rfl rfl ?_
                        refine t_getE (pc := 349) (.ref (y + 42)) ht23 (rd_of RX_y) fX12_136 dX12_fits_349 rfl ?_
                        refine r_iload (pc := 352) dX12_fits_352 rfl ?_
                        refine t_ialdX (pc := 354) (t0 := 0) ht23 (rd_of RX_image) dX12_fits_354 rfl (by decide) (by omega) (fun b36 => ?_)
                        have rb36 := (show Rfx 16 (-1) 15 im by assumption) (Int.toNat v25_4) (by omega)
                        refine t_icmp_ne (pc := 355) (tgt := 362) dX12_fits_355 (by decide) (by omega) (by omega) (fun c355 => ?_) (fun c355 => ?_)
                        · refine r_iconst (pc := 362) (v := iv 0) dX12_fits_362 (by decide) ?_
                          refine Rn.pick (lv' := [(0, .ref y), (1, .int (iv x1)), (2, .int (iv x2)), (3, .int (iv x3)), (4, .int (iv v25_4)), (5, .int (iv (v207_5 + u279_1))), (7, .int (iv v207_7))]) [2, 3, 4, 5, 6, 1, 8] rfl ?_
                          exact B363 _ ht23 0 ⟨by omega, by omega, by omega⟩
                        · refine r_iconst (pc := 358) (v := iv 1) dX12_fits_358 (by decide) ?_
                          refine r_goto (pc := 359) (tgt := 363) dX12_fits_359 (by decide) ?_
                          refine Rn.pick (lv' := [(0, .ref y), (1, .int (iv x1)), (2, .int (iv x2)), (3, .int (iv x3)), (4, .int (iv v25_4)), (5, .int (iv (v207_5 + u279_1))), (7, .int (iv v207_7))]) [2, 3, 4, 5, 6, 1, 8] rfl ?_
                          exact B363 _ ht23 1 ⟨by omega, by omega, by omega⟩
                refine t_icmp_ne (pc := 237) (tgt := 251) dX12_fits_237 (by decide) (by omega) (by omega) (fun c237 => ?_) (fun c237 => ?_)
                · refine r_aload_n (pc := 251) dX12_fits_251 (i := 0) rfl rfl ?_
                  refine t_getE (pc := 252) (.ref (y + 5)) ht19 (rd_of RX_y) fX12_23 dX12_fits_252 rfl ?_
                  refine r_iload (pc := 255) dX12_fits_255 rfl ?_
                  refine t_ialdX (pc := 257) (t0 := 0) ht19 (rd_of RX_from) dX12_fits_257 rfl (by decide) (by omega) (fun b37 => ?_)
                  have rb37 := (show Rfx 7260 0 15 fr by assumption) (Int.toNat (60 * x1 + v207_7)) (by omega)
                  refine r_iload_n (pc := 258) dX12_fits_258 (i := 3) rfl rfl ?_
                  refine t_icmp_ne (pc := 259) (tgt := 278) dX12_fits_259 (by decide) (by omega) (by omega) (fun c259 => ?_) (fun c259 => ?_)
                  · refine r_iconst (pc := 278) (v := iv 0) dX12_fits_278 (by decide) ?_
                    refine Rn.pick (lv' := [(0, .ref y), (1, .int (iv x1)), (2, .int (iv x2)), (3, .int (iv x3)), (4, .int (iv v25_4)), (6, .int (iv v207_6)), (7, .int (iv v207_7))]) [1, 2, 3, 4, 5, 7, 8] rfl ?_
                    exact B279 _ ht19 0 ⟨by omega, by omega, by omega⟩
                  · refine r_aload_n (pc := 262) dX12_fits_262 (i := 0) rfl rfl ?_
                    refine t_getE (pc := 263) (.ref (y + 6)) ht19 (rd_of RX_y) fX12_26 dX12_fits_263 rfl ?_
                    refine r_iload (pc := 266) dX12_fits_266 rfl ?_
                    refine t_ialdX (pc := 268) (t0 := 0) ht19 (rd_of RX_to) dX12_fits_268 rfl (by decide) (by omega) (fun b38 => ?_)
                    have rb38 := (show Rfx 7260 0 15 tt by assumption) (Int.toNat (60 * x1 + v207_7)) (by omega)
                    refine r_iload (pc := 269) dX12_fits_269 rfl ?_
                    refine t_icmp_ne (pc := 271) (tgt := 278) dX12_fits_271 (by decide) (by omega) (by omega) (fun c271 => ?_) (fun c271 => ?_)
                    · refine r_iconst (pc := 278) (v := iv 0) dX12_fits_278 (by decide) ?_
                      refine Rn.pick (lv' := [(0, .ref y), (1, .int (iv x1)), (2, .int (iv x2)), (3, .int (iv x3)), (4, .int (iv v25_4)), (6, .int (iv v207_6)), (7, .int (iv v207_7))]) [1, 2, 3, 4, 5, 7, 8] rfl ?_
                      exact B279 _ ht19 0 ⟨by omega, by omega, by omega⟩
                    · refine r_iconst (pc := 274) (v := iv 1) dX12_fits_274 (by decide) ?_
                      refine r_goto (pc := 275) (tgt := 279) dX12_fits_275 (by decide) ?_
                      refine Rn.pick (lv' := [(0, .ref y), (1, .int (iv x1)), (2, .int (iv x2)), (3, .int (iv x3)), (4, .int (iv v25_4)), (6, .int (iv v207_6)), (7, .int (iv v207_7))]) [1, 2, 3, 4, 5, 7, 8] rfl ?_
                      exact B279 _ ht19 1 ⟨by omega, by omega, by omega⟩
                · refine r_aload_n (pc := 240) dX12_fits_240 (i := 0) rfl rfl ?_
                  refine t_getE (pc := 241) (.ref (y + 6)) ht19 (rd_of RX_y) fX12_26 dX12_fits_241 rfl ?_
                  refine r_iload (pc := 244) dX12_fits_244 rfl ?_
                  refine t_ialdX (pc := 246) (t0 := 0) ht19 (rd_of RX_to) dX12_fits_246 rfl (by decide) (by omega) (fun b39 => ?_)
                  have rb39 := (show Rfx 7260 0 15 tt by assumption) (Int.toNat (60 * x1 + v207_7)) (by omega)
                  refine r_iload_n (pc := 247) dX12_fits_247 (i := 3) rfl rfl ?_
                  refine t_icmp_eq (pc := 248) (tgt := 274) dX12_fits_248 (by decide) (by omega) (by omega) (fun c248 => ?_) (fun c248 => ?_)
                  · refine r_iconst (pc := 274) (v := iv 1) dX12_fits_274 (by decide) ?_
                    refine r_goto (pc := 275) (tgt := 279) dX12_fits_275 (by decide) ?_
                    refine Rn.pick (lv' := [(0, .ref y), (1, .int (iv x1)), (2, .int (iv x2)), (3, .int (iv x3)), (4, .int (iv v25_4)), (6, .int (iv v207_6)), (7, .int (iv v207_7))]) [1, 2, 3, 4, 5, 7, 8] rfl ?_
                    exact B279 _ ht19 1 ⟨by omega, by omega, by omega⟩
                  · refine r_aload_n (pc := 251) dX12_fits_251 (i := 0) rfl rfl ?_
                    refine t_getE (pc := 252) (.ref (y + 5)) ht19 (rd_of RX_y) fX12_23 dX12_fits_252 rfl ?_
                    refine r_iload (pc := 255) dX12_fits_255 rfl ?_
                    refine t_ialdX (pc := 257) (t0 := 0) ht19 (rd_of RX_from) dX12_fits_257 rfl (by decide) (by omega) (fun b40 => ?_)
                    have rb40 := (show Rfx 7260 0 15 fr by assumption) (Int.toNat (60 * x1 + v207_7)) (by omega)
                    refine r_iload_n (pc := 258) dX12_fits_258 (i := 3) rfl rfl ?_
                    refine t_icmp_ne (pc := 259) (tgt := 278) dX12_fits_259 (by decide) (by omega) (by omega) (fun c259 => ?_) (fun c259 => ?_)
                    · refine r_iconst (pc := 278) (v := iv 0) dX12_fits_278 (by decide) ?_
                      refine Rn.pick (lv' := [(0, .ref y), (1, .int (iv x1)), (2, .int (iv x2)), (3, .int (iv x3)), (4, .int (iv v25_4)), (6, .int (iv v207_6)), (7, .int (iv v207_7))]) [1, 2, 3, 4, 5, 7, 8] rfl ?_
                      exact B279 _ ht19 0 ⟨by omega, by omega, by omega⟩
                    · refine r_aload_n (pc := 262) dX12_fits_262 (i := 0) rfl rfl ?_
                      refine t_getE (pc := 263) (.ref (y + 6)) ht19 (rd_of RX_y) fX12_26 dX12_fits_263 rfl ?_
                      refine r_iload (pc := 266) dX12_fits_266 rfl ?_
                      refine t_ialdX (pc := 268) (t0 := 0) ht19 (rd_of RX_to) dX12_fits_268 rfl (by decide) (by omega) (fun b41 => ?_)
                      have rb41 := (show Rfx 7260 0 15 tt by assumption) (Int.toNat (60 * x1 + v207_7)) (by omega)
                      refine r_iload (pc := 269) dX12_fits_269 rfl ?_
                      refine t_icmp_ne (pc := 271) (tgt := 278) dX12_fits_271 (by decide) (by omega) (by omega) (fun c271 => ?_) (fun c271 => ?_)
                      · refine r_iconst (pc := 278) (v := iv 0) dX12_fits_278 (by decide) ?_
                        refine Rn.pick (lv' := [(0, .ref y), (1, .int (iv x1)), (2, .int (iv x2)), (3, .int (iv x3)), (4, .int (iv v25_4)), (6, .int (iv v207_6)), (7, .int (iv v207_7))]) [1, 2, 3, 4, 5, 7, 8] rfl ?_
                        exact B279 _ ht19 0 ⟨by omega, by omega, by omega⟩
                      · refine r_iconst (pc := 274) (v := iv 1) dX12_fits_274 (by decide) ?_
                        refine r_goto (pc := 275) (tgt := 279) dX12_fits_275 (by decide) ?_
                        refine Rn.pick (lv' := [(0, .ref y), (1, .int (iv x1)), (2, .int (iv x2)), (3, .int (iv x3)), (4, .int (iv v25_4)), (6, .int (iv v207_6)), (7, .int (iv v207_7))]) [1, 2, 3, 4, 5, 7, 8] rfl ?_
                        exact B279 _ ht19 1 ⟨by omega, by omega, by omega⟩
            refine Rn.pick (lv' := [(0, .ref y), (1, .int (iv x1)), (2, .int (iv x2)), (3, .int (iv x3)), (4, .int (iv v25_4)), (5, .int (iv 0)), (6, .int (iv 0)), (7, .int (iv 0))]) [3, 4, 5, 6, 7, 2, 1, 0] rfl ?_
            exact B207 (Int.toNat (60 - 0)) _ ht34 0 0 0 ⟨by omega, by omega, by omega, by omega, by omega, by omega, by omega, by omega, by omega, by (first | exact hbw1 | rfl), by (first | exact hbw2 | rfl)⟩ (by omega)
          · refine r_iload_n (pc := 45) dX12_fits_45 (i := 1) rfl rfl ?_
            refine r_iload (pc := 46) dX12_fits_46 rfl ?_
            refine t_callSI (pc := 48) (as := [.int (iv x1), .int (iv v34_5)]) (st := []) kX12_157 dX12_fits_48 (t_X12_at1x (d := d - 1) (x1 := x1) (x2 := v34_5) (by omega)  ht34 (by omega) (by omega)) rfl (by omega) (Nat.le_of_ble_eq_true rfl) rfl (fun hp42 y44 ht43 by44 => ?_)
            have ey44 : y44 = 60 * x1 + v34_5 := by44
            subst ey44
            have eF := sh_at fr (60 * x1) (v := v34_5) (by omega)
            have eT := sh_at tt (60 * x1) (v := v34_5) (by omega)
            have eW := sh_at wt (60 * x1) (v := v34_5) (by omega)
            have eC := sh_at co (60 * x1) (v := v34_5) (by omega)
            refine r_istore (pc := 51) (lv' := [(6, .int (iv (60 * x1 + v34_5))), (0, .ref y), (1, .int (iv x1)), (2, .int (iv x2)), (3, .int (iv x3)), (4, .int (iv v25_4)), (5, .int (iv v34_5))]) dX12_fits_51 (by decide) rfl ?_
            refine r_aload_n (pc := 53) dX12_fits_53 (i := 0) rfl rfl ?_
            refine t_getE (pc := 54) (.ref (y + 5)) ht43 (rd_of RX_y) fX12_23 dX12_fits_54 rfl ?_
            refine r_iload (pc := 57) dX12_fits_57 rfl ?_
            refine t_ialdX (pc := 59) (t0 := 0) ht43 (rd_of RX_from) dX12_fits_59 rfl (by decide) (by omega) (fun b45 => ?_)
            have rb45 := (show Rfx 7260 0 15 fr by assumption) (Int.toNat (60 * x1 + v34_5)) (by omega)
            refine r_iload (pc := 60) dX12_fits_60 rfl ?_
            have B104 : ∀ hp104 : MH, Tw (RX Γ cI cJ cZ y rf cn nm so sz dr mn fr tt wt co nu sa wo ln hw ro qi qc nf nt nw nc cl nx ie be sd bl bs wy ra rb lb bg os js ls sp jw go de yb ah im) hp104 → ∀  (u104_0 : Int), 0 ≤ u104_0 ∧ u104_0 ≤ 1 ∧ ((u104_0 = 1 ∧ ((((sh fr (60 * x1)) (Int.toNat v34_5)) = v25_4 ∧ ((sh tt (60 * x1)) (Int.toNat v34_5)) = x3) ∨ (((sh fr (60 * x1)) (Int.toNat v34_5)) = x3 ∧ ((sh tt (60 * x1)) (Int.toNat v34_5)) = v25_4))) ∨ (u104_0 = 0 ∧ ¬ ((((sh fr (60 * x1)) (Int.toNat v34_5)) = v25_4 ∧ ((sh tt (60 * x1)) (Int.toNat v34_5)) = x3) ∨ (((sh fr (60 * x1)) (Int.toNat v34_5)) = x3 ∧ ((sh tt (60 * x1)) (Int.toNat v34_5)) = v25_4)))) → Rn (gG D cI cJ cZ cT lo b L xs) mX12_fits d 104 [(0, .ref y), (1, .int (iv x1)), (2, .int (iv x2)), (3, .int (iv x3)), (4, .int (iv v25_4)), (5, .int (iv v34_5)), (6, .int (iv (60 * x1 + v34_5)))] [.int (iv u104_0)] hp104 n 0 0 Po9 := by
              intro hp104 ht104 u104_0 hf104
              refine r_istore (pc := 104) (lv' := [(7, .int (iv u104_0)), (0, .ref y), (1, .int (iv x1)), (2, .int (iv x2)), (3, .int (iv x3)), (4, .int (iv v25_4)), (5, .int (iv v34_5)), (6, .int (iv (60 * x1 + v34_5)))]) dX12_fits_104 (by decide) rfl ?_
              refine r_iload (pc := 106) dX12_fits_106 rfl ?_
              refine t_if_eq (pc := 108) (tgt := 192) dX12_fits_108 (by decide) (by omega) (fun c108 => ?_) (fun c108 => ?_)
              · have hpk := prk_st (by assumption : prK (Int.toNat (mn (Int.toNat x1))) (dr (Int.toNat x1)) (sh fr (60 * x1)) (sh tt (60 * x1)) (sh wt (60 * x1)) (sh co (60 * x1)) (sh fr (60 * x2)) (sh tt (60 * x2)) (sh wt (60 * x2)) (sh co (60 * x2)) im v25_4 x3 v34_5) (by omega) (fun h9 => absurd h9 (by omega))
                refine r_iinc (pc := 192) (v := iv (v34_5 + 1)) (lv' := [(5, .int (iv (v34_5 + 1))), (7, .int (iv u104_0)), (0, .ref y), (1, .int (iv x1)), (2, .int (iv x2)), (3, .int (iv x3)), (4, .int (iv v25_4)), (6, .int (iv (60 * x1 + v34_5)))]) dX12_fits_192 rfl (iv_add _ _) (by decide) rfl ?_
                refine r_goto (pc := 195) (tgt := 34) dX12_fits_195 (by decide) ?_
                refine Rn.pick (lv' := [(0, .ref y), (1, .int (iv x1)), (2, .int (iv x2)), (3, .int (iv x3)), (4, .int (iv v25_4)), (5, .int (iv (v34_5 + 1)))]) [2, 3, 4, 5, 6, 0] rfl ?_
                exact ih34 (Int.toNat (60 - (v34_5 + 1))) (by omega) _ ht104 (v34_5 + 1) ⟨by omega, by omega, by omega, by (first | exact hpk | exact prk_0)⟩ (by omega)
              · have hbt : ((((sh fr (60 * x1)) (Int.toNat v34_5)) = v25_4 ∧ ((sh tt (60 * x1)) (Int.toNat v34_5)) = x3) ∨ (((sh fr (60 * x1)) (Int.toNat v34_5)) = x3 ∧ ((sh tt (60 * x1)) (Int.toNat v34_5)) = v25_4)) := by omega
                refine r_aload_n (pc := 111) dX12_fits_111 (i := 0) rfl rfl ?_
                refine r_iload_n (pc := 112) dX12_fits_112 (i := 1) rfl rfl ?_
                refine r_aload_n (pc := 113) dX12_fits_113 (i := 0) rfl rfl ?_
                refine t_getE (pc := 114) (.ref (y + 5)) ht104 (rd_of RX_y) fX12_23 dX12_fits_114 rfl ?_
                refine r_iload (pc := 117) dX12_fits_117 rfl ?_
                refine t_ialdX (pc := 119) (t0 := 0) ht104 (rd_of RX_from) dX12_fits_119 rfl (by decide) (by omega) (fun b46 => ?_)
                have rb46 := (show Rfx 7260 0 15 fr by assumption) (Int.toNat (60 * x1 + v34_5)) (by omega)
                refine r_aload_n (pc := 120) dX12_fits_120 (i := 0) rfl rfl ?_
                refine t_getE (pc := 121) (.ref (y + 6)) ht104 (rd_of RX_y) fX12_26 dX12_fits_121 rfl ?_
                refine r_iload (pc := 124) dX12_fits_124 rfl ?_
                refine t_ialdX (pc := 126) (t0 := 0) ht104 (rd_of RX_to) dX12_fits_126 rfl (by decide) (by omega) (fun b47 => ?_)
                have rb47 := (show Rfx 7260 0 15 tt by assumption) (Int.toNat (60 * x1 + v34_5)) (by omega)
                refine r_aload_n (pc := 127) dX12_fits_127 (i := 0) rfl rfl ?_
                refine t_getE (pc := 128) (.ref (y + 7)) ht104 (rd_of RX_y) fX12_29 dX12_fits_128 rfl ?_
                refine r_iload (pc := 131) dX12_fits_131 rfl ?_
                refine t_ialdX (pc := 133) (t0 := 0) ht104 (rd_of RX_weight) dX12_fits_133 rfl (by decide) (by omega) (fun b48 => ?_)
                have rb48 := (show Rfx 7260 (-1000) 1000 wt by assumption) (Int.toNat (60 * x1 + v34_5)) (by omega)
                refine r_aload_n (pc := 134) dX12_fits_134 (i := 0) rfl rfl ?_
                refine t_getE (pc := 135) (.ref (y + 8)) ht104 (rd_of RX_y) fX12_32 dX12_fits_135 rfl ?_
                refine r_iload (pc := 138) dX12_fits_138 rfl ?_
                refine t_ialdX (pc := 140) (t0 := 0) ht104 (rd_of RX_cost) dX12_fits_140 rfl (by decide) (by omega) (fun b49 => ?_)
                have rb49 := (show Rfx 7260 (-1000) 1000 co by assumption) (Int.toNat (60 * x1 + v34_5)) (by omega)
                obtain ⟨fs54, hfs54⟩ := t_obj ht104 (rd_of RX_y)
                refine r_callV (pc := 141) (as := [.int (iv x1), .int (iv (fr (Int.toNat (60 * x1 + v34_5)))), .int (iv (tt (Int.toNat (60 * x1 + v34_5)))), .int (iv (wt (Int.toNat (60 * x1 + v34_5)))), .int (iv (co (Int.toNat (60 * x1 + v34_5))))]) (st := []) kX12_397 rfl dX12_fits_141 hfs54 (x_X12_times (d := d - 1) (x1 := x1) (x2 := fr (Int.toNat (60 * x1 + v34_5))) (x3 := tt (Int.toNat (60 * x1 + v34_5))) (x4 := wt (Int.toNat (60 * x1 + v34_5))) (x5 := co (Int.toNat (60 * x1 + v34_5))) (by omega) (by assumption) (by assumption) (by assumption) (by assumption) (by assumption) (by assumption) ht104 (by omega) (by omega) (by omega) (by omega) (by omega) (fun _ _ _ h => h)) rfl (by omega) (Nat.le_of_ble_eq_true rfl) (Nat.zero_le _) (Nat.zero_le _) rfl (fun r51 hp50 n52 hq53 => ?_)
                obtain ⟨hnn52, r9_56, ht55, hrr51, hhq530, hhq531⟩ := hq53
                subst n52 r51
                have hhq530 : 0 ≤ r9_56 ∧ r9_56 ≤ 60 := hhq530
                have hhq531 : r9_56 = tmA (Int.toNat (mn (Int.toNat x1))) (dr (Int.toNat x1)) (sh fr (60 * x1)) (sh tt (60 * x1)) (sh wt (60 * x1)) (sh co (60 * x1)) (fr (Int.toNat (60 * x1 + v34_5))) (tt (Int.toNat (60 * x1 + v34_5))) (wt (Int.toNat (60 * x1 + v34_5))) (co (Int.toNat (60 * x1 + v34_5))) := hhq531
                change Rn _ _ _ 144 _ [.int (iv r9_56)] _ _ _ _ _
                have ht141 := hhq531
                have ht1 : r9_56 = tmA (Int.toNat (mn (Int.toNat x1))) (dr (Int.toNat x1)) (sh fr (60 * x1)) (sh tt (60 * x1)) (sh wt (60 * x1)) (sh co (60 * x1)) ((sh fr (60 * x1)) (Int.toNat v34_5)) ((sh tt (60 * x1)) (Int.toNat v34_5)) ((sh wt (60 * x1)) (Int.toNat v34_5)) ((sh co (60 * x1)) (Int.toNat v34_5)) := by rw [← eF, ← eT, ← eW, ← eC]; exact ht141
                refine r_aload_n (pc := 144) dX12_fits_144 (i := 0) rfl rfl ?_
                refine r_iload_n (pc := 145) dX12_fits_145 (i := 2) rfl rfl ?_
                refine r_aload_n (pc := 146) dX12_fits_146 (i := 0) rfl rfl ?_
                refine t_getE (pc := 147) (.ref (y + 42)) ht55 (rd_of RX_y) fX12_136 dX12_fits_147 rfl ?_
                refine r_aload_n (pc := 150) dX12_fits_150 (i := 0) rfl rfl ?_
                refine t_getE (pc := 151) (.ref (y + 5)) ht55 (rd_of RX_y) fX12_23 dX12_fits_151 rfl ?_
                refine r_iload (pc := 154) dX12_fits_154 rfl ?_
                refine t_ialdX (pc := 156) (t0 := 0) ht55 (rd_of RX_from) dX12_fits_156 rfl (by decide) (by omega) (fun b57 => ?_)
                have rb57 := (show Rfx 7260 0 15 fr by assumption) (Int.toNat (60 * x1 + v34_5)) (by omega)
                refine t_ialdX (pc := 157) (t0 := 0) ht55 (rd_of RX_image) dX12_fits_157 rfl (by decide) (by omega) (fun b58 => ?_)
                have rb58 := (show Rfx 16 (-1) 15 im by assumption) (Int.toNat (fr (Int.toNat (60 * x1 + v34_5)))) (by omega)
                have hi157 := hpf (Int.toNat (fr (60 * x1 + v34_5).toNat)) (by omega)
                refine r_aload_n (pc := 158) dX12_fits_158 (i := 0) rfl rfl ?_
                refine t_getE (pc := 159) (.ref (y + 42)) ht55 (rd_of RX_y) fX12_136 dX12_fits_159 rfl ?_
                refine r_aload_n (pc := 162) dX12_fits_162 (i := 0) rfl rfl ?_
                refine t_getE (pc := 163) (.ref (y + 6)) ht55 (rd_of RX_y) fX12_26 dX12_fits_163 rfl ?_
                refine r_iload (pc := 166) dX12_fits_166 rfl ?_
                refine t_ialdX (pc := 168) (t0 := 0) ht55 (rd_of RX_to) dX12_fits_168 rfl (by decide) (by omega) (fun b59 => ?_)
                have rb59 := (show Rfx 7260 0 15 tt by assumption) (Int.toNat (60 * x1 + v34_5)) (by omega)
                refine t_ialdX (pc := 169) (t0 := 0) ht55 (rd_of RX_image) dX12_fits_169 rfl (by decide) (by omega) (fun b60 => ?_)
                have rb60 := (show Rfx 16 (-1) 15 im by assumption) (Int.toNat (tt (Int.toNat (60 * x1 + v34_5)))) (by omega)
                have hi169 := hpf (Int.toNat (tt (60 * x1 + v34_5).toNat)) (by omega)
                refine r_aload_n (pc := 170) dX12_fits_170 (i := 0) rfl rfl ?_
                refine t_getE (pc := 171) (.ref (y + 7)) ht55 (rd_of RX_y) fX12_29 dX12_fits_171 rfl ?_
                refine r_iload (pc := 174) dX12_fits_174 rfl ?_
                refine t_ialdX (pc := 176) (t0 := 0) ht55 (rd_of RX_weight) dX12_fits_176 rfl (by decide) (by omega) (fun b61 => ?_)
                have rb61 := (show Rfx 7260 (-1000) 1000 wt by assumption) (Int.toNat (60 * x1 + v34_5)) (by omega)
                refine r_aload_n (pc := 177) dX12_fits_177 (i := 0) rfl rfl ?_
                refine t_getE (pc := 178) (.ref (y + 8)) ht55 (rd_of RX_y) fX12_32 dX12_fits_178 rfl ?_
                refine r_iload (pc := 181) dX12_fits_181 rfl ?_
                refine t_ialdX (pc := 183) (t0 := 0) ht55 (rd_of RX_cost) dX12_fits_183 rfl (by decide) (by omega) (fun b62 => ?_)
                have rb62 := (show Rfx 7260 (-1000) 1000 co by assumption) (Int.toNat (60 * x1 + v34_5)) (by omega)
                obtain ⟨fs67, hfs67⟩ := t_obj ht55 (rd_of RX_y)
                refine r_callV (pc := 184) (as := [.int (iv x2), .int (iv (im (Int.toNat (fr (Int.toNat (60 * x1 + v34_5)))))), .int (iv (im (Int.toNat (tt (Int.toNat (60 * x1 + v34_5)))))), .int (iv (wt (Int.toNat (60 * x1 + v34_5)))), .int (iv (co (Int.toNat (60 * x1 + v34_5))))]) (st := [.int (iv r9_56)]) kX12_397 rfl dX12_fits_184 hfs67 (x_X12_times (d := d - 1) (x1 := x2) (x2 := im (Int.toNat (fr (Int.toNat (60 * x1 + v34_5))))) (x3 := im (Int.toNat (tt (Int.toNat (60 * x1 + v34_5))))) (x4 := wt (Int.toNat (60 * x1 + v34_5))) (x5 := co (Int.toNat (60 * x1 + v34_5))) (by omega) (by assumption) (by assumption) (by assumption) (by assumption) (by assumption) (by assumption) ht55 (by omega) (by omega) (by omega) (by omega) (by omega) (fun _ _ _ h => h)) rfl (by omega) (Nat.le_of_ble_eq_true rfl) (Nat.zero_le _) (Nat.zero_le _) rfl (fun r64 hp63 n65 hq66 => ?_)
                obtain ⟨hnn65, r9_69, ht68, hrr64, hhq660, hhq661⟩ := hq66
                subst n65 r64
                have hhq660 : 0 ≤ r9_69 ∧ r9_69 ≤ 60 := hhq660
                have hhq661 : r9_69 = tmA (Int.toNat (mn (Int.toNat x2))) (dr (Int.toNat x2)) (sh fr (60 * x2)) (sh tt (60 * x2)) (sh wt (60 * x2)) (sh co (60 * x2)) (im (Int.toNat (fr (Int.toNat (60 * x1 + v34_5))))) (im (Int.toNat (tt (Int.toNat (60 * x1 + v34_5))))) (wt (Int.toNat (60 * x1 + v34_5))) (co (Int.toNat (60 * x1 + v34_5))) := hhq661
                change Rn _ _ _ 187 _ [.int (iv r9_69), .int (iv r9_56)] _ _ _ _ _
                have ht184 := hhq661
                rw [hmn, hdr] at ht184
                have ht2 : r9_69 = tmA (Int.toNat (mn (Int.toNat x1))) (dr (Int.toNat x1)) (sh fr (60 * x2)) (sh tt (60 * x2)) (sh wt (60 * x2)) (sh co (60 * x2)) (im ((sh fr (60 * x1)) (Int.toNat v34_5)).toNat) (im ((sh tt (60 * x1)) (Int.toNat v34_5)).toNat) ((sh wt (60 * x1)) (Int.toNat v34_5)) ((sh co (60 * x1)) (Int.toNat v34_5)) := by rw [← eF, ← eT, ← eW, ← eC]; exact ht184
                refine t_icmp_eq (pc := 187) (tgt := 192) dX12_fits_187 (by decide) (by omega) (by omega) (fun c187 => ?_) (fun c187 => ?_)
                · have hpk := prk_st (by assumption : prK (Int.toNat (mn (Int.toNat x1))) (dr (Int.toNat x1)) (sh fr (60 * x1)) (sh tt (60 * x1)) (sh wt (60 * x1)) (sh co (60 * x1)) (sh fr (60 * x2)) (sh tt (60 * x2)) (sh wt (60 * x2)) (sh co (60 * x2)) im v25_4 x3 v34_5) (by omega) (fun _ => by rw [← ht1, ← ht2]; omega)
                  refine r_iinc (pc := 192) (v := iv (v34_5 + 1)) (lv' := [(5, .int (iv (v34_5 + 1))), (7, .int (iv u104_0)), (0, .ref y), (1, .int (iv x1)), (2, .int (iv x2)), (3, .int (iv x3)), (4, .int (iv v25_4)), (6, .int (iv (60 * x1 + v34_5)))]) dX12_fits_192 rfl (iv_add _ _) (by decide) rfl ?_
                  refine r_goto (pc := 195) (tgt := 34) dX12_fits_195 (by decide) ?_
                  refine Rn.pick (lv' := [(0, .ref y), (1, .int (iv x1)), (2, .int (iv x2)), (3, .int (iv x3)), (4, .int (iv v25_4)), (5, .int (iv (v34_5 + 1)))]) [2, 3, 4, 5, 6, 0] rfl ?_
                  exact ih34 (Int.toNat (60 - (v34_5 + 1))) (by omega) _ ht68 (v34_5 + 1) ⟨by omega, by omega, by omega, by (first | exact hpk | exact prk_0)⟩ (by omega)
                · have hnf : ¬ ftP (Int.toNat (mn (Int.toNat x1))) (dr (Int.toNat x1)) (sh fr (60 * x1)) (sh tt (60 * x1)) (sh wt (60 * x1)) (sh co (60 * x1)) (sh fr (60 * x2)) (sh tt (60 * x2)) (sh wt (60 * x2)) (sh co (60 * x2)) im x3 := ft_k (u := v25_4) (by omega) (show (Int.toNat v34_5) < (Int.toNat (mn (Int.toNat x1))) by omega) hbt (by rw [← ht1, ← ht2]; omega)
                  refine r_iconst (pc := 190) (v := iv 0) dX12_fits_190 (by decide) ?_
                  exact r_zret (pc := 191) dX12_fits_191 rfl (iv_nar (by omega)) (hPo _ _ _ ⟨rfl, 0, ht68, rfl, (by omega), (by exact Or.inr ⟨rfl, hnf⟩)⟩)
            refine t_icmp_ne (pc := 62) (tgt := 76) dX12_fits_62 (by decide) (by omega) (by omega) (fun c62 => ?_) (fun c62 => ?_)
            · refine r_aload_n (pc := 76) dX12_fits_76 (i := 0) rfl rfl ?_
              refine t_getE (pc := 77) (.ref (y + 5)) ht43 (rd_of RX_y) fX12_23 dX12_fits_77 rfl ?_
              refine r_iload (pc := 80) dX12_fits_80 rfl ?_
              refine t_ialdX (pc := 82) (t0 := 0) ht43 (rd_of RX_from) dX12_fits_82 rfl (by decide) (by omega) (fun b70 => ?_)
              have rb70 := (show Rfx 7260 0 15 fr by assumption) (Int.toNat (60 * x1 + v34_5)) (by omega)
              refine r_iload_n (pc := 83) dX12_fits_83 (i := 3) rfl rfl ?_
              refine t_icmp_ne (pc := 84) (tgt := 103) dX12_fits_84 (by decide) (by omega) (by omega) (fun c84 => ?_) (fun c84 => ?_)
              · refine r_iconst (pc := 103) (v := iv 0) dX12_fits_103 (by decide) ?_
                refine Rn.pick (lv' := [(0, .ref y), (1, .int (iv x1)), (2, .int (iv x2)), (3, .int (iv x3)), (4, .int (iv v25_4)), (5, .int (iv v34_5)), (6, .int (iv (60 * x1 + v34_5)))]) [1, 2, 3, 4, 5, 6, 0] rfl ?_
                exact B104 _ ht43 0 ⟨by omega, by omega, by omega⟩
              · refine r_aload_n (pc := 87) dX12_fits_87 (i := 0) rfl rfl ?_
                refine t_getE (pc := 88) (.ref (y + 6)) ht43 (rd_of RX_y) fX12_26 dX12_fits_88 rfl ?_
                refine r_iload (pc := 91) dX12_fits_91 rfl ?_
                refine t_ialdX (pc := 93) (t0 := 0) ht43 (rd_of RX_to) dX12_fits_93 rfl (by decide) (by omega) (fun b71 => ?_)
                have rb71 := (show Rfx 7260 0 15 tt by assumption) (Int.toNat (60 * x1 + v34_5)) (by omega)
                refine r_iload (pc := 94) dX12_fits_94 rfl ?_
                refine t_icmp_ne (pc := 96) (tgt := 103) dX12_fits_96 (by decide) (by omega) (by omega) (fun c96 => ?_) (fun c96 => ?_)
                · refine r_iconst (pc := 103) (v := iv 0) dX12_fits_103 (by decide) ?_
                  refine Rn.pick (lv' := [(0, .ref y), (1, .int (iv x1)), (2, .int (iv x2)), (3, .int (iv x3)), (4, .int (iv v25_4)), (5, .int (iv v34_5)), (6, .int (iv (60 * x1 + v34_5)))]) [1, 2, 3, 4, 5, 6, 0] rfl ?_
                  exact B104 _ ht43 0 ⟨by omega, by omega, by omega⟩
                · refine r_iconst (pc := 99) (v := iv 1) dX12_fits_99 (by decide) ?_
                  refine r_goto (pc := 100) (tgt := 104) dX12_fits_100 (by decide) ?_
                  refine Rn.pick (lv' := [(0, .ref y), (1, .int (iv x1)), (2, .int (iv x2)), (3, .int (iv x3)), (4, .int (iv v25_4)), (5, .int (iv v34_5)), (6, .int (iv (60 * x1 + v34_5)))]) [1, 2, 3, 4, 5, 6, 0] rfl ?_
                  exact B104 _ ht43 1 ⟨by omega, by omega, by omega⟩
            · refine r_aload_n (pc := 65) dX12_fits_65 (i := 0) rfl rfl ?_
              refine t_getE (pc := 66) (.ref (y + 6)) ht43 (rd_of RX_y) fX12_26 dX12_fits_66 rfl ?_
              refine r_iload (pc := 69) dX12_fits_69 rfl ?_
              refine t_ialdX (pc := 71) (t0 := 0) ht43 (rd_of RX_to) dX12_fits_71 rfl (by decide) (by omega) (fun b72 => ?_)
              have rb72 := (show Rfx 7260 0 15 tt by assumption) (Int.toNat (60 * x1 + v34_5)) (by omega)
              refine r_iload_n (pc := 72) dX12_fits_72 (i := 3) rfl rfl ?_
              refine t_icmp_eq (pc := 73) (tgt := 99) dX12_fits_73 (by decide) (by omega) (by omega) (fun c73 => ?_) (fun c73 => ?_)
              · refine r_iconst (pc := 99) (v := iv 1) dX12_fits_99 (by decide) ?_
                refine r_goto (pc := 100) (tgt := 104) dX12_fits_100 (by decide) ?_
                refine Rn.pick (lv' := [(0, .ref y), (1, .int (iv x1)), (2, .int (iv x2)), (3, .int (iv x3)), (4, .int (iv v25_4)), (5, .int (iv v34_5)), (6, .int (iv (60 * x1 + v34_5)))]) [1, 2, 3, 4, 5, 6, 0] rfl ?_
                exact B104 _ ht43 1 ⟨by omega, by omega, by omega⟩
              · refine r_aload_n (pc := 76) dX12_fits_76 (i := 0) rfl rfl ?_
                refine t_getE (pc := 77) (.ref (y + 5)) ht43 (rd_of RX_y) fX12_23 dX12_fits_77 rfl ?_
                refine r_iload (pc := 80) dX12_fits_80 rfl ?_
                refine t_ialdX (pc := 82) (t0 := 0) ht43 (rd_of RX_from) dX12_fits_82 rfl (by decide) (by omega) (fun b73 => ?_)
                have rb73 := (show Rfx 7260 0 15 fr by assumption) (Int.toNat (60 * x1 + v34_5)) (by omega)
                refine r_iload_n (pc := 83) dX12_fits_83 (i := 3) rfl rfl ?_
                refine t_icmp_ne (pc := 84) (tgt := 103) dX12_fits_84 (by decide) (by omega) (by omega) (fun c84 => ?_) (fun c84 => ?_)
                · refine r_iconst (pc := 103) (v := iv 0) dX12_fits_103 (by decide) ?_
                  refine Rn.pick (lv' := [(0, .ref y), (1, .int (iv x1)), (2, .int (iv x2)), (3, .int (iv x3)), (4, .int (iv v25_4)), (5, .int (iv v34_5)), (6, .int (iv (60 * x1 + v34_5)))]) [1, 2, 3, 4, 5, 6, 0] rfl ?_
                  exact B104 _ ht43 0 ⟨by omega, by omega, by omega⟩
                · refine r_aload_n (pc := 87) dX12_fits_87 (i := 0) rfl rfl ?_
                  refine t_getE (pc := 88) (.ref (y + 6)) ht43 (rd_of RX_y) fX12_26 dX12_fits_88 rfl ?_
                  refine r_iload (pc := 91) dX12_fits_91 rfl ?_
                  refine t_ialdX (pc := 93) (t0 := 0) ht43 (rd_of RX_to) dX12_fits_93 rfl (by decide) (by omega) (fun b74 => ?_)
                  have rb74 := (show Rfx 7260 0 15 tt by assumption) (Int.toNat (60 * x1 + v34_5)) (by omega)
                  refine r_iload (pc := 94) dX12_fits_94 rfl ?_
                  refine t_icmp_ne (pc := 96) (tgt := 103) dX12_fits_96 (by decide) (by omega) (by omega) (fun c96 => ?_) (fun c96 => ?_)
                  · refine r_iconst (pc := 103) (v := iv 0) dX12_fits_103 (by decide) ?_
                    refine Rn.pick (lv' := [(0, .ref y), (1, .int (iv x1)), (2, .int (iv x2)), (3, .int (iv x3)), (4, .int (iv v25_4)), (5, .int (iv v34_5)), (6, .int (iv (60 * x1 + v34_5)))]) [1, 2, 3, 4, 5, 6, 0] rfl ?_
                    exact B104 _ ht43 0 ⟨by omega, by omega, by omega⟩
                  · refine r_iconst (pc := 99) (v := iv 1) dX12_fits_99 (by decide) ?_
                    refine r_goto (pc := 100) (tgt := 104) dX12_fits_100 (by decide) ?_
                    refine Rn.pick (lv' := [(0, .ref y), (1, .int (iv x1)), (2, .int (iv x2)), (3, .int (iv x3)), (4, .int (iv v25_4)), (5, .int (iv v34_5)), (6, .int (iv (60 * x1 + v34_5)))]) [1, 2, 3, 4, 5, 6, 0] rfl ?_
                    exact B104 _ ht43 1 ⟨by omega, by omega, by omega⟩
        refine Rn.pick (lv' := [(0, .ref y), (1, .int (iv x1)), (2, .int (iv x2)), (3, .int (iv x3)), (4, .int (iv v25_4)), (5, .int (iv 0))]) [1, 2, 3, 4, 5, 0] rfl ?_
        exact B34 (Int.toNat (60 - 0)) _ ht25 0 ⟨by omega, by omega, by omega, by (first | exact hpk | exact prk_0)⟩ (by omega)
    refine Rn.pick (lv' := [(0, .ref y), (1, .int (iv x1)), (2, .int (iv x2)), (3, .int (iv x3)), (4, .int (iv 0))]) [1, 2, 3, 4, 0] rfl ?_
    exact B25 (Int.toNat (16 - 0)) _ ht14 0 ⟨by omega, by omega, by omega, by (first | exact hpu | exact pru_0)⟩ (by omega)
  · have hnf : ¬ ftP (Int.toNat (mn (Int.toNat x1))) (dr (Int.toNat x1)) (sh fr (60 * x1)) (sh tt (60 * x1)) (sh wt (60 * x1)) (sh co (60 * x1)) (sh fr (60 * x2)) (sh tt (60 * x2)) (sh wt (60 * x2)) (sh co (60 * x2)) im x3 := fun h9 => c17 (by have h8 := h9.1; rw [← hed3, ← hed14] at h8; omega)
    refine r_iconst (pc := 20) (v := iv 0) dX12_fits_20 (by decide) ?_
    exact r_zret (pc := 21) dX12_fits_21 rfl (iv_nar (by omega)) (hPo _ _ _ ⟨rfl, 0, ht14, rfl, (by omega), (by exact Or.inr ⟨rfl, hnf⟩)⟩)
