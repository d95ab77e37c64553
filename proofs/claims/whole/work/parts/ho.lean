theorem and_m1 (x : Int) : iv x &&& iv (-1) = iv x := by
  have e : iv (-1) = -1 := by decide
  rw [e]; exact Int32.and_neg_one
set_option maxHeartbeats 4000000 in
set_option maxRecDepth 100000 in
theorem x_X12_place {D : va_G} {cI cJ cZ cT : ClassId} {lo b L : Nat} {xs : Nat → Int32} {hp : MH} {n d : Nat} {Γ : TG} {y : Nat} {rf cn nm : Int} {so sz dr mn fr tt wt co : Nat → Int} {nu : Nat → Int64} {sa : Nat → Int} {wo : Nat → Int64} {ln : Nat → Int} {hw : Nat → Int64} {ro qi qc nf nt nw nc : Nat → Int} {cl nx : Nat → Int64} {ie be sd bl : Nat → Int} {bs wy ra rb : Nat → Int64} {lb bg os js ls : Nat → Int} {sp : Nat → Int64} {jw go : Nat → Int} {de : Nat → Int64} {yb ah im : Nat → Int} {x1 x2 : Int} {Po9 : Option Value → MH → Nat → Prop} (hd0 : 3 ≤ d) (hR_sizes : Rfx 121 0 16 sz) (hR_many : Rfx 121 0 60 mn) (hR_from : Rfx 7260 0 15 fr) (hR_to : Rfx 7260 0 15 tt) (hR_weight : Rfx 7260 (-1000) 1000 wt) (hR_cost : Rfx 7260 (-1000) 1000 co) (hR_directs : Rfx 121 0 1 dr) (hR_image : Rfx 16 (-1) 15 im) (ht : Tw (RX Γ cI cJ cZ y rf cn nm so sz dr mn fr tt wt co nu sa wo ln hw ro qi qc nf nt nw nc cl nx ie be sd bl bs wy ra rb lb bg os js ls sp jw go de yb ah im) hp) (hx1 : 0 ≤ x1 ∧ x1 ≤ 120) (hx2 : 0 ≤ x2 ∧ x2 ≤ 120) (hmn : mn (Int.toNat x2) = mn (Int.toNat x1)) (hdr : dr (Int.toNat x2) = dr (Int.toNat x1)) (hn1 : 0 < (sz (Int.toNat x1))) (hPo : ∀ r hp1 n1, (n1 = n ∧ ∃ (r9 : Int) (w1 : Nat → Int), Tw (RX Γ cI cJ cZ y rf cn nm so sz dr mn fr tt wt co nu sa wo ln hw ro qi qc nf nt nw nc cl nx ie be sd bl bs wy ra rb lb bg os js ls sp jw go de yb ah w1) hp1 ∧ r = some (.int (iv r9)) ∧ (0 ≤ r9 ∧ r9 ≤ 1) ∧ ((r9 = 1 ∧ lxA (isP (Int.toNat (mn (Int.toNat x1))) (dr (Int.toNat x1)) (sh fr (60 * x1)) (sh tt (60 * x1)) (sh wt (60 * x1)) (sh co (60 * x1)) (sh fr (60 * x2)) (sh tt (60 * x2)) (sh wt (60 * x2)) (sh co (60 * x2))) (sz (Int.toNat x1)) w1) ∨ (r9 = 0 ∧ ∀ im9, ¬ vaP (isP (Int.toNat (mn (Int.toNat x1))) (dr (Int.toNat x1)) (sh fr (60 * x1)) (sh tt (60 * x1)) (sh wt (60 * x1)) (sh co (60 * x1)) (sh fr (60 * x2)) (sh tt (60 * x2)) (sh wt (60 * x2)) (sh co (60 * x2))) (sz (Int.toNat x1)) im9)) ∧ (Rfx 16 (-1) 15 w1)) → Po9 r hp1 n1) : Mt (gG D cI cJ cZ cT lo b L xs) mX12_place d 0 0 [.ref y, .int (iv x1), .int (iv x2)] hp n Po9 := by
  refine Mt.of rfl (Nat.le_of_ble_eq_true rfl) ?_
  refine Rn.pick (lv' := [(0, .ref y), (1, .int (iv x1)), (2, .int (iv x2))]) [0, 1, 2] rfl ?_
  have rsz := hR_sizes (Int.toNat x1) (by omega)
  have rmn := hR_many (Int.toNat x1) (by omega)
  have rdr := hR_directs (Int.toNat x1) (by omega)
  refine r_aload_n (pc := 0) dX12_place_0 (i := 0) rfl rfl ?_
  refine t_getE (pc := 1) (.ref (y + 2)) ht (rd_of RX_y) fX12_13 dX12_place_1 rfl ?_
  refine r_iload_n (pc := 4) dX12_place_4 (i := 1) rfl rfl ?_
  refine t_ialdX (pc := 5) (t0 := 0) ht (rd_of RX_sizes) dX12_place_5 rfl (by decide) (by omega) (fun b1 => ?_)
  have rb1 := (show Rfx 121 0 16 sz by assumption) (Int.toNat x1) (by omega)
  refine r_istore_n (pc := 6) (lv' := [(3, .int (iv (sz (Int.toNat x1)))), (0, .ref y), (1, .int (iv x1)), (2, .int (iv x2))]) dX12_place_6 (i := 3) rfl (by decide) rfl ?_
  refine r_iconst (pc := 7) (v := iv 0) dX12_place_7 (by decide) ?_
  refine r_istore (pc := 8) (lv' := [(4, .int (iv 0)), (3, .int (iv (sz (Int.toNat x1)))), (0, .ref y), (1, .int (iv x1)), (2, .int (iv x2))]) dX12_place_8 (by decide) rfl ?_
  refine r_iconst (pc := 10) (v := iv 0) dX12_place_10 (by decide) ?_
  refine r_istore (pc := 11) (lv' := [(5, .int (iv 0)), (4, .int (iv 0)), (3, .int (iv (sz (Int.toNat x1)))), (0, .ref y), (1, .int (iv x1)), (2, .int (iv x2))]) dX12_place_11 (by decide) rfl ?_
  refine r_aload_n (pc := 13) dX12_place_13 (i := 0) rfl rfl ?_
  refine t_getE (pc := 14) (.ref (y + 42)) ht (rd_of RX_y) fX12_136 dX12_place_14 rfl ?_
  refine r_iconst (pc := 17) (v := iv 0) dX12_place_17 (by decide) ?_
  refine r_iconst (pc := 18) (v := iv (-1)) dX12_place_18 (by decide) ?_
  refine t_iastX (pc := 19) (t0 := 0) ht RX_image dX12_place_19 rfl (by decide) (by omega) (by omega) (fun hp2 ht3 => ?_)
  have ht4 := RXw_im ht3
  have hqht4 : Rfx 16 (-1) 15 (fup im (Int.toNat 0) (-1)) := Rfx_up (by assumption) (by omega)
  have hpl0 : plI (isP (Int.toNat (mn (Int.toNat x1))) (dr (Int.toNat x1)) (sh fr (60 * x1)) (sh tt (60 * x1)) (sh wt (60 * x1)) (sh co (60 * x1)) (sh fr (60 * x2)) (sh tt (60 * x2)) (sh wt (60 * x2)) (sh co (60 * x2))) (sz (Int.toNat x1)) (fup im (Int.toNat 0) (-1)) 0 0 := pli_0 (by omega) (if_pos rfl)
  have B20 : ∀ k : Nat, ∀ im20 : Nat → Int, ∀ hp20 : MH, Tw (RX Γ cI cJ cZ y rf cn nm so sz dr mn fr tt wt co nu sa wo ln hw ro qi qc nf nt nw nc cl nx ie be sd bl bs wy ra rb lb bg os js ls sp jw go de yb ah im20) hp20 → ∀  (v20_4 : Int) (v20_5 : Int), 0 ≤ v20_4 ∧ v20_4 ≤ 65535 ∧ (-1) ≤ v20_5 ∧ v20_5 ≤ 16 ∧ (Rfx 16 (-1) 15 im20) ∧ (v20_5 ≤ (sz (Int.toNat x1))) ∧ (plI (isP (Int.toNat (mn (Int.toNat x1))) (dr (Int.toNat x1)) (sh fr (60 * x1)) (sh tt (60 * x1)) (sh wt (60 * x1)) (sh co (60 * x1)) (sh fr (60 * x2)) (sh tt (60 * x2)) (sh wt (60 * x2)) (sh co (60 * x2))) (sz (Int.toNat x1)) im20 v20_5 v20_4) → plM im20 v20_5 (sz (Int.toNat x1)) ≤ (k : Int) → Rn (gG D cI cJ cZ cT lo b L xs) mX12_place d 20 [(0, .ref y), (1, .int (iv x1)), (2, .int (iv x2)), (3, .int (iv (sz (Int.toNat x1)))), (4, .int (iv v20_4)), (5, .int (iv v20_5))] [] hp20 n 0 0 Po9 := by
    refine lpS _ ?_
    intro k20 ih20 im20 hp20 ht20 v20_4 v20_5 hf20 hm20
    obtain ⟨hf20_0, hf20_1, hf20_2, hf20_3, ha20_4, hf20_5, ha20_6⟩ := hf20
    refine r_iload (pc := 20) dX12_place_20 rfl ?_
    refine t_if_lt (pc := 22) (tgt := 174) dX12_place_22 (by decide) (by omega) (fun c22 => ?_) (fun c22 => ?_)
    · have hpl := (by assumption : plI (isP (Int.toNat (mn (Int.toNat x1))) (dr (Int.toNat x1)) (sh fr (60 * x1)) (sh tt (60 * x1)) (sh wt (60 * x1)) (sh co (60 * x1)) (sh fr (60 * x2)) (sh tt (60 * x2)) (sh wt (60 * x2)) (sh co (60 * x2))) (sz (Int.toNat x1)) im20 v20_5 v20_4)
      refine r_iload (pc := 174) dX12_place_174 rfl ?_
      refine r_iload_n (pc := 176) dX12_place_176 (i := 3) rfl rfl ?_
      refine t_icmp_ne (pc := 177) (tgt := 184) dX12_place_177 (by decide) (by omega) (by omega) (fun c177 => ?_) (fun c177 => ?_)
      · refine r_iconst (pc := 184) (v := iv 0) dX12_place_184 (by decide) ?_
        exact r_zret (pc := 185) dX12_place_185 rfl (iv_nar (by omega)) (hPo _ _ _ ⟨rfl, 0, im20, ht20, rfl, (by omega), (by exact Or.inr ⟨rfl, pl_e0 hpl (by omega)⟩), (by assumption)⟩)
      · exfalso
        omega
    · refine r_iload (pc := 25) dX12_place_25 rfl ?_
      refine r_iload_n (pc := 27) dX12_place_27 (i := 3) rfl rfl ?_
      refine t_icmp_ge (pc := 28) (tgt := 174) dX12_place_28 (by decide) (by omega) (by omega) (fun c28 => ?_) (fun c28 => ?_)
      · have hpl := (by assumption : plI (isP (Int.toNat (mn (Int.toNat x1))) (dr (Int.toNat x1)) (sh fr (60 * x1)) (sh tt (60 * x1)) (sh wt (60 * x1)) (sh co (60 * x1)) (sh fr (60 * x2)) (sh tt (60 * x2)) (sh wt (60 * x2)) (sh co (60 * x2))) (sz (Int.toNat x1)) im20 v20_5 v20_4)
        refine r_iload (pc := 174) dX12_place_174 rfl ?_
        refine r_iload_n (pc := 176) dX12_place_176 (i := 3) rfl rfl ?_
        refine t_icmp_ne (pc := 177) (tgt := 184) dX12_place_177 (by decide) (by omega) (by omega) (fun c177 => ?_) (fun c177 => ?_)
        · refine r_iconst (pc := 184) (v := iv 0) dX12_place_184 (by decide) ?_
          exact r_zret (pc := 185) dX12_place_185 rfl (iv_nar (by omega)) (hPo _ _ _ ⟨rfl, 0, im20, ht20, rfl, (by omega), (by exact Or.inr ⟨rfl, pl_e0 hpl (by omega)⟩), (by assumption)⟩)
        · refine r_iconst (pc := 180) (v := iv 1) dX12_place_180 (by decide) ?_
          refine r_goto (pc := 181) (tgt := 185) dX12_place_181 (by decide) ?_
          exact r_zret (pc := 185) dX12_place_185 rfl (iv_nar (by omega)) (hPo _ _ _ ⟨rfl, 1, im20, ht20, rfl, (by omega), (by exact Or.inl ⟨rfl, pl_e1 hpl (by omega)⟩), (by assumption)⟩)
      · have hpl := (by assumption : plI (isP (Int.toNat (mn (Int.toNat x1))) (dr (Int.toNat x1)) (sh fr (60 * x1)) (sh tt (60 * x1)) (sh wt (60 * x1)) (sh co (60 * x1)) (sh fr (60 * x2)) (sh tt (60 * x2)) (sh wt (60 * x2)) (sh co (60 * x2))) (sz (Int.toNat x1)) im20 v20_5 v20_4)
        have hpf0 : Pfx im20 v20_5 := fun i hi => (hpl.1.1 i hi).1.1
        refine r_iload (pc := 31) dX12_place_31 rfl ?_
        refine r_aload_n (pc := 33) dX12_place_33 (i := 0) rfl rfl ?_
        refine t_getE (pc := 34) (.ref (y + 42)) ht20 (rd_of RX_y) fX12_136 dX12_place_34 rfl ?_
        refine r_iload (pc := 37) dX12_place_37 rfl ?_
        refine t_ialdX (pc := 39) (t0 := 0) ht20 (rd_of RX_image) dX12_place_39 rfl (by decide) (by omega) (fun b5 => ?_)
        have rb5 := (show Rfx 16 (-1) 15 im20 by assumption) (Int.toNat v20_5) (by omega)
        refine t_if_ge (pc := 40) (tgt := 47) dX12_place_40 (by decide) (by omega) (fun c40 => ?_) (fun c40 => ?_)
        · refine r_iconst (pc := 47) (v := iv 1) dX12_place_47 (by decide) ?_
          refine r_aload_n (pc := 48) dX12_place_48 (i := 0) rfl rfl ?_
          refine t_getE (pc := 49) (.ref (y + 42)) ht20 (rd_of RX_y) fX12_136 dX12_place_49 rfl ?_
          refine r_iload (pc := 52) dX12_place_52 rfl ?_
          refine t_ialdX (pc := 54) (t0 := 0) ht20 (rd_of RX_image) dX12_place_54 rfl (by decide) (by omega) (fun b6 => ?_)
          have rb6 := (show Rfx 16 (-1) 15 im20 by assumption) (Int.toNat v20_5) (by omega)
          refine r_ishl (pc := 55) (v := iv ((2 ^ Int.toNat (im20 (Int.toNat v20_5)) : Nat) : Int)) dX12_place_55 (shl_e (by omega)) ?_
          have mp55_7 : 1 ≤ 2 ^ Int.toNat (im20 (Int.toNat v20_5)) := Nat.one_le_two_pow
          have mq55_8 : 2 ^ Int.toNat (im20 (Int.toNat v20_5)) ≤ 2 ^ 15 := Nat.pow_le_pow_right (by omega) (by omega)
          have ms55 := Me_shl (Int.toNat (im20 (Int.toNat v20_5)))
          refine r_iconst (pc := 56) (v := iv (-1)) dX12_place_56 (by decide) ?_
          refine r_ixor (pc := 57) (v := iv (-((2 ^ Int.toNat (im20 (Int.toNat v20_5)) : Nat) : Int) - 1)) dX12_place_57 (iv_not _) ?_
          obtain ⟨z9, hz9, bz9⟩ := and_l v20_4 (-((2 ^ Int.toNat (im20 (Int.toNat v20_5)) : Nat) : Int) - 1) (by omega) (by omega)
          refine r_iand (pc := 58) (v := iv z9) dX12_place_58 hz9 ?_
          have mez9 := Me_not (y := ((2 ^ Int.toNat (im20 (Int.toNat v20_5)) : Nat) : Int)) hz9 (by omega) (by omega) (by omega)
          refine r_istore (pc := 59) (lv' := [(4, .int (iv z9)), (0, .ref y), (1, .int (iv x1)), (2, .int (iv x2)), (3, .int (iv (sz (Int.toNat x1)))), (5, .int (iv v20_5))]) dX12_place_59 (by decide) rfl ?_
          have hus : usW im20 v20_5 z9 := us_y hpl (by omega) (by omega) (fun b => by rw [mez9 b, ms55 b])
          refine r_aload_n (pc := 61) dX12_place_61 (i := 0) rfl rfl ?_
          refine t_getE (pc := 62) (.ref (y + 42)) ht20 (rd_of RX_y) fX12_136 dX12_place_62 rfl ?_
          refine r_iload (pc := 65) dX12_place_65 rfl ?_
          refine t_ialdX (pc := 67) (t0 := 0) ht20 (rd_of RX_image) dX12_place_67 rfl (by decide) (by omega) (fun b10 => ?_)
          have rb10 := (show Rfx 16 (-1) 15 im20 by assumption) (Int.toNat v20_5) (by omega)
          refine r_iconst (pc := 68) (v := iv 1) dX12_place_68 (by decide) ?_
          refine r_iadd (pc := 69) (v := iv ((im20 (Int.toNat v20_5)) + 1)) dX12_place_69 (iv_add _ _) ?_
          refine r_istore (pc := 70) (lv' := [(6, .int (iv ((im20 (Int.toNat v20_5)) + 1))), (4, .int (iv z9)), (0, .ref y), (1, .int (iv x1)), (2, .int (iv x2)), (3, .int (iv (sz (Int.toNat x1)))), (5, .int (iv v20_5))]) dX12_place_70 (by decide) rfl ?_
          refine r_iconst (pc := 72) (v := iv 0) dX12_place_72 (by decide) ?_
          refine r_istore (pc := 73) (lv' := [(7, .int (iv 0)), (6, .int (iv ((im20 (Int.toNat v20_5)) + 1))), (4, .int (iv z9)), (0, .ref y), (1, .int (iv x1)), (2, .int (iv x2)), (3, .int (iv (sz (Int.toNat x1)))), (5, .int (iv v20_5))]) dX12_place_73 (by decide) rfl ?_
          have hS73 : Sm im20 im20 v20_5 := Sm_rf _ _
          have hfl73 := flu_0 hpl (by omega)
          have B75 : ∀ k : Nat, ∀ im75 : Nat → Int, ∀ hp75 : MH, Tw (RX Γ cI cJ cZ y rf cn nm so sz dr mn fr tt wt co nu sa wo ln hw ro qi qc nf nt nw nc cl nx ie be sd bl bs wy ra rb lb bg os js ls sp jw go de yb ah im75) hp75 → ∀  (v75_6 : Int) (v75_7 : Int), 0 ≤ v75_6 ∧ v75_6 ≤ 16 ∧ (im20 (Int.toNat v20_5)) + 1 ≤ v75_6 ∧ 0 ≤ v75_7 ∧ v75_7 ≤ 1 ∧ (Rfx 16 (-1) 15 im75) ∧ (im20 (Int.toNat v20_5) + 1 ≤ v75_6) ∧ (Sm im20 im75 v20_5) ∧ ((v75_7 = 0 ∧ flU (isP (Int.toNat (mn (Int.toNat x1))) (dr (Int.toNat x1)) (sh fr (60 * x1)) (sh tt (60 * x1)) (sh wt (60 * x1)) (sh co (60 * x1)) (sh fr (60 * x2)) (sh tt (60 * x2)) (sh wt (60 * x2)) (sh co (60 * x2))) (sz (Int.toNat x1)) im20 v20_5 v75_6) ∨ (v75_7 = 1 ∧ flU (isP (Int.toNat (mn (Int.toNat x1))) (dr (Int.toNat x1)) (sh fr (60 * x1)) (sh tt (60 * x1)) (sh wt (60 * x1)) (sh co (60 * x1)) (sh fr (60 * x2)) (sh tt (60 * x2)) (sh wt (60 * x2)) (sh co (60 * x2))) (sz (Int.toNat x1)) im20 v20_5 (v75_6 - 1) ∧ im75 (Int.toNat v20_5) = v75_6 - 1 ∧ (im20 (Int.toNat v20_5) + 1 ≤ v75_6 - 1 ∧ v75_6 - 1 < (sz (Int.toNat x1))) ∧ (isP (Int.toNat (mn (Int.toNat x1))) (dr (Int.toNat x1)) (sh fr (60 * x1)) (sh tt (60 * x1)) (sh wt (60 * x1)) (sh co (60 * x1)) (sh fr (60 * x2)) (sh tt (60 * x2)) (sh wt (60 * x2)) (sh co (60 * x2))) im75 v20_5 ∧ ¬ Me z9 (Int.toNat (v75_6 - 1)))) → 16 - v75_6 ≤ (k : Int) → Rn (gG D cI cJ cZ cT lo b L xs) mX12_place d 75 [(0, .ref y), (1, .int (iv x1)), (2, .int (iv x2)), (3, .int (iv (sz (Int.toNat x1)))), (4, .int (iv z9)), (5, .int (iv v20_5)), (6, .int (iv v75_6)), (7, .int (iv v75_7))] [] hp75 n 0 0 Po9 := by
            refine lpS _ ?_
            intro k75 ih75 im75 hp75 ht75 v75_6 v75_7 hf75 hm75
            obtain ⟨hf75_0, hf75_1, hf75_2, hf75_3, hf75_4, ha75_5, hf75_6, ha75_7, ha75_8⟩ := hf75
            refine r_iload (pc := 75) dX12_place_75 rfl ?_
            refine r_iload_n (pc := 77) dX12_place_77 (i := 3) rfl rfl ?_
            refine t_icmp_ge (pc := 78) (tgt := 129) dX12_place_78 (by decide) (by omega) (by omega) (fun c78 => ?_) (fun c78 => ?_)
            · refine r_iload (pc := 129) dX12_place_129 rfl ?_
              refine t_if_eq (pc := 131) (tgt := 168) dX12_place_131 (by decide) (by omega) (fun c131 => ?_) (fun c131 => ?_)
              · have h75 := (by assumption : (v75_7 = 0 ∧ flU (isP (Int.toNat (mn (Int.toNat x1))) (dr (Int.toNat x1)) (sh fr (60 * x1)) (sh tt (60 * x1)) (sh wt (60 * x1)) (sh co (60 * x1)) (sh fr (60 * x2)) (sh tt (60 * x2)) (sh wt (60 * x2)) (sh co (60 * x2))) (sz (Int.toNat x1)) im20 v20_5 v75_6) ∨ (v75_7 = 1 ∧ flU (isP (Int.toNat (mn (Int.toNat x1))) (dr (Int.toNat x1)) (sh fr (60 * x1)) (sh tt (60 * x1)) (sh wt (60 * x1)) (sh co (60 * x1)) (sh fr (60 * x2)) (sh tt (60 * x2)) (sh wt (60 * x2)) (sh co (60 * x2))) (sz (Int.toNat x1)) im20 v20_5 (v75_6 - 1) ∧ im75 (Int.toNat v20_5) = v75_6 - 1 ∧ (im20 (Int.toNat v20_5) + 1 ≤ v75_6 - 1 ∧ v75_6 - 1 < (sz (Int.toNat x1))) ∧ (isP (Int.toNat (mn (Int.toNat x1))) (dr (Int.toNat x1)) (sh fr (60 * x1)) (sh tt (60 * x1)) (sh wt (60 * x1)) (sh co (60 * x1)) (sh fr (60 * x2)) (sh tt (60 * x2)) (sh wt (60 * x2)) (sh co (60 * x2))) im75 v20_5 ∧ ¬ Me z9 (Int.toNat (v75_6 - 1))))
                have hS75 := (by assumption : Sm im20 im75 v20_5)
                have hfl := (h75.resolve_right (fun g9 => by have := g9.1; omega)).2
                clear h75
                refine r_iinc (pc := 168) (v := iv (v20_5 - 1)) (lv' := [(5, .int (iv (v20_5 - 1))), (0, .ref y), (1, .int (iv x1)), (2, .int (iv x2)), (3, .int (iv (sz (Int.toNat x1)))), (4, .int (iv z9)), (6, .int (iv v75_6)), (7, .int (iv v75_7))]) dX12_place_168 rfl ((iv_add _ _).trans (congrArg iv (show v20_5 + (-1) = v20_5 - 1 by omega))) (by decide) rfl ?_
                have hplN : plI (isP (Int.toNat (mn (Int.toNat x1))) (dr (Int.toNat x1)) (sh fr (60 * x1)) (sh tt (60 * x1)) (sh wt (60 * x1)) (sh co (60 * x1)) (sh fr (60 * x2)) (sh tt (60 * x2)) (sh wt (60 * x2)) (sh co (60 * x2))) (sz (Int.toNat x1)) im75 (v20_5 - 1) z9 := pl_n (fun a b w h9 hf9 => is_cg a b w h9 hf9) hpl.1 hfl (by omega) hus hS75 (by omega)
                have hM9 : plM im75 (v20_5 - 1) (sz (Int.toNat x1)) < plM im20 v20_5 (sz (Int.toNat x1)) := plM_d1 (by omega) (by assumption) hpf0 hS75
                have hN9 : 0 ≤ plM im75 (v20_5 - 1) (sz (Int.toNat x1)) := (plM_nn (by assumption) (fun i hi => (hplN.1.1 i hi).1.1) (by omega)).1
                refine r_goto (pc := 171) (tgt := 20) dX12_place_171 (by decide) ?_
                refine Rn.pick (lv' := [(0, .ref y), (1, .int (iv x1)), (2, .int (iv x2)), (3, .int (iv (sz (Int.toNat x1)))), (4, .int (iv z9)), (5, .int (iv (v20_5 - 1)))]) [1, 2, 3, 4, 5, 0] rfl ?_
                exact ih20 (Int.toNat (plM im75 (v20_5 - 1) (sz (Int.toNat x1)))) (by omega) im75 _ ht75 z9 (v20_5 - 1) ⟨by omega, by omega, by omega, by omega, by assumption, by omega, by (first | exact hplN | exact hpl0)⟩ (by omega)
              · have h75 := (by assumption : (v75_7 = 0 ∧ flU (isP (Int.toNat (mn (Int.toNat x1))) (dr (Int.toNat x1)) (sh fr (60 * x1)) (sh tt (60 * x1)) (sh wt (60 * x1)) (sh co (60 * x1)) (sh fr (60 * x2)) (sh tt (60 * x2)) (sh wt (60 * x2)) (sh co (60 * x2))) (sz (Int.toNat x1)) im20 v20_5 v75_6) ∨ (v75_7 = 1 ∧ flU (isP (Int.toNat (mn (Int.toNat x1))) (dr (Int.toNat x1)) (sh fr (60 * x1)) (sh tt (60 * x1)) (sh wt (60 * x1)) (sh co (60 * x1)) (sh fr (60 * x2)) (sh tt (60 * x2)) (sh wt (60 * x2)) (sh co (60 * x2))) (sz (Int.toNat x1)) im20 v20_5 (v75_6 - 1) ∧ im75 (Int.toNat v20_5) = v75_6 - 1 ∧ (im20 (Int.toNat v20_5) + 1 ≤ v75_6 - 1 ∧ v75_6 - 1 < (sz (Int.toNat x1))) ∧ (isP (Int.toNat (mn (Int.toNat x1))) (dr (Int.toNat x1)) (sh fr (60 * x1)) (sh tt (60 * x1)) (sh wt (60 * x1)) (sh co (60 * x1)) (sh fr (60 * x2)) (sh tt (60 * x2)) (sh wt (60 * x2)) (sh co (60 * x2))) im75 v20_5 ∧ ¬ Me z9 (Int.toNat (v75_6 - 1))))
                have hS75 := (by assumption : Sm im20 im75 v20_5)
                obtain ⟨-, hf1, hf2, hf3, hf4, hf5⟩ := h75.resolve_left (fun g9 => by have := g9.1; omega)
                clear h75
                refine r_iload (pc := 134) dX12_place_134 rfl ?_
                refine r_iconst (pc := 136) (v := iv 1) dX12_place_136 (by decide) ?_
                refine r_aload_n (pc := 137) dX12_place_137 (i := 0) rfl rfl ?_
                refine t_getE (pc := 138) (.ref (y + 42)) ht75 (rd_of RX_y) fX12_136 dX12_place_138 rfl ?_
                refine r_iload (pc := 141) dX12_place_141 rfl ?_
                refine t_ialdX (pc := 143) (t0 := 0) ht75 (rd_of RX_image) dX12_place_143 rfl (by decide) (by omega) (fun b11 => ?_)
                have rb11 := (show Rfx 16 (-1) 15 im75 by assumption) (Int.toNat v20_5) (by omega)
                refine r_ishl (pc := 144) (v := iv ((2 ^ Int.toNat (im75 (Int.toNat v20_5)) : Nat) : Int)) dX12_place_144 (shl_e (by omega)) ?_
                have mp144_12 : 1 ≤ 2 ^ Int.toNat (im75 (Int.toNat v20_5)) := Nat.one_le_two_pow
                have mq144_13 : 2 ^ Int.toNat (im75 (Int.toNat v20_5)) ≤ 2 ^ 15 := Nat.pow_le_pow_right (by omega) (by omega)
                have ms144 := Me_shl (Int.toNat (im75 (Int.toNat v20_5)))
                obtain ⟨z14, hz14, bz14⟩ := or_2 16 z9 ((2 ^ Int.toNat (im75 (Int.toNat v20_5)) : Nat) : Int) (by omega) (by omega) (by decide)
                refine r_ior (pc := 145) (v := iv z14) dX12_place_145 hz14 ?_
                have mez14 := Me_or hz14 (by omega) (by omega) (by omega)
                have hu2 : ∀ b, Me z14 b ↔ Me z9 b ∨ b = Int.toNat (v75_6 - 1) := fun b => by rw [mez14 b, ms144 b, hf2]
                refine r_istore (pc := 146) (lv' := [(4, .int (iv z14)), (0, .ref y), (1, .int (iv x1)), (2, .int (iv x2)), (3, .int (iv (sz (Int.toNat x1)))), (5, .int (iv v20_5)), (6, .int (iv v75_6)), (7, .int (iv v75_7))]) dX12_place_146 (by decide) rfl ?_
                refine r_iinc (pc := 148) (v := iv (v20_5 + 1)) (lv' := [(5, .int (iv (v20_5 + 1))), (4, .int (iv z14)), (0, .ref y), (1, .int (iv x1)), (2, .int (iv x2)), (3, .int (iv (sz (Int.toNat x1)))), (6, .int (iv v75_6)), (7, .int (iv v75_7))]) dX12_place_148 rfl (iv_add _ _) (by decide) rfl ?_
                refine r_iload (pc := 151) dX12_place_151 rfl ?_
                refine r_iload_n (pc := 153) dX12_place_153 (i := 3) rfl rfl ?_
                refine t_icmp_ge (pc := 154) (tgt := 171) dX12_place_154 (by decide) (by omega) (by omega) (fun c154 => ?_) (fun c154 => ?_)
                · have hplN : plI (isP (Int.toNat (mn (Int.toNat x1))) (dr (Int.toNat x1)) (sh fr (60 * x1)) (sh tt (60 * x1)) (sh wt (60 * x1)) (sh co (60 * x1)) (sh fr (60 * x2)) (sh tt (60 * x2)) (sh wt (60 * x2)) (sh co (60 * x2))) (sz (Int.toNat x1)) im75 (v20_5 + 1) z14 := pl_y (fun a b w h9 hf9 => is_cg a b w h9 hf9) hpl.1 hf1 (by omega) hus hS75 hf2 (by omega) hf5 hf4 (fun _ _ => rfl) (fun g9 => absurd g9 (by omega)) hu2
                  have hM9 : plM im75 (v20_5 + 1) (sz (Int.toNat x1)) < plM im20 v20_5 (sz (Int.toNat x1)) := plM_u1 (by omega) hS75 (by omega) (by omega)
                  have hN9 : 0 ≤ plM im75 (v20_5 + 1) (sz (Int.toNat x1)) := (plM_nn (by assumption) (fun i hi => (hplN.1.1 i hi).1.1) (by omega)).1
                  refine r_goto (pc := 171) (tgt := 20) dX12_place_171 (by decide) ?_
                  refine Rn.pick (lv' := [(0, .ref y), (1, .int (iv x1)), (2, .int (iv x2)), (3, .int (iv (sz (Int.toNat x1)))), (4, .int (iv z14)), (5, .int (iv (v20_5 + 1)))]) [2, 3, 4, 5, 1, 0] rfl ?_
                  exact ih20 (Int.toNat (plM im75 (v20_5 + 1) (sz (Int.toNat x1)))) (by omega) im75 _ ht75 z14 (v20_5 + 1) ⟨by omega, by omega, by omega, by omega, by assumption, by omega, by (first | exact hplN | exact hpl0)⟩ (by omega)
                · refine r_aload_n (pc := 157) dX12_place_157 (i := 0) rfl rfl ?_
                  refine t_getE (pc := 158) (.ref (y + 42)) ht75 (rd_of RX_y) fX12_136 dX12_place_158 rfl ?_
                  refine r_iload (pc := 161) dX12_place_161 rfl ?_
                  refine r_iconst (pc := 163) (v := iv (-1)) dX12_place_163 (by decide) ?_
                  refine t_iastX (pc := 164) (t0 := 0) ht75 RX_image dX12_place_164 rfl (by decide) (by omega) (by omega) (fun hp15 ht16 => ?_)
                  have ht17 := RXw_im ht16
                  have hqht17 : Rfx 16 (-1) 15 (fup im75 (Int.toNat (v20_5 + 1)) (-1)) := Rfx_up (by assumption) (by omega)
                  have hplN : plI (isP (Int.toNat (mn (Int.toNat x1))) (dr (Int.toNat x1)) (sh fr (60 * x1)) (sh tt (60 * x1)) (sh wt (60 * x1)) (sh co (60 * x1)) (sh fr (60 * x2)) (sh tt (60 * x2)) (sh wt (60 * x2)) (sh co (60 * x2))) (sz (Int.toNat x1)) (fup im75 (Int.toNat (v20_5 + 1)) (-1)) (v20_5 + 1) z14 := pl_y (fun a b w h9 hf9 => is_cg a b w h9 hf9) hpl.1 hf1 (by omega) hus hS75 hf2 (by omega) hf5 hf4 (fun i hi => if_neg (by omega)) (fun _ => if_pos rfl) hu2
                  have hM9 : plM (fup im75 (Int.toNat (v20_5 + 1)) (-1)) (v20_5 + 1) (sz (Int.toNat x1)) < plM im20 v20_5 (sz (Int.toNat x1)) := plM_u2 (by omega) hS75 (by omega)
                  have hN9 : 0 ≤ plM (fup im75 (Int.toNat (v20_5 + 1)) (-1)) (v20_5 + 1) (sz (Int.toNat x1)) := (plM_nn (by assumption) (fun i hi => (hplN.1.1 i hi).1.1) (by omega)).1
                  refine r_goto (pc := 165) (tgt := 171) dX12_place_165 (by decide) ?_
                  refine r_goto (pc := 171) (tgt := 20) dX12_place_171 (by decide) ?_
                  refine Rn.pick (lv' := [(0, .ref y), (1, .int (iv x1)), (2, .int (iv x2)), (3, .int (iv (sz (Int.toNat x1)))), (4, .int (iv z14)), (5, .int (iv (v20_5 + 1)))]) [2, 3, 4, 5, 1, 0] rfl ?_
                  exact ih20 (Int.toNat (plM (fup im75 (Int.toNat (v20_5 + 1)) (-1)) (v20_5 + 1) (sz (Int.toNat x1)))) (by omega) (fup im75 (Int.toNat (v20_5 + 1)) (-1)) _ ht17 z14 (v20_5 + 1) ⟨by omega, by omega, by omega, by omega, by assumption, by omega, by (first | exact hplN | exact hpl0)⟩ (by omega)
            · refine r_iload (pc := 81) dX12_place_81 rfl ?_
              refine t_if_ne (pc := 83) (tgt := 129) dX12_place_83 (by decide) (by omega) (fun c83 => ?_) (fun c83 => ?_)
              · refine r_iload (pc := 129) dX12_place_129 rfl ?_
                refine t_if_eq (pc := 131) (tgt := 168) dX12_place_131 (by decide) (by omega) (fun c131 => ?_) (fun c131 => ?_)
                · exfalso
                  omega
                · have h75 := (by assumption : (v75_7 = 0 ∧ flU (isP (Int.toNat (mn (Int.toNat x1))) (dr (Int.toNat x1)) (sh fr (60 * x1)) (sh tt (60 * x1)) (sh wt (60 * x1)) (sh co (60 * x1)) (sh fr (60 * x2)) (sh tt (60 * x2)) (sh wt (60 * x2)) (sh co (60 * x2))) (sz (Int.toNat x1)) im20 v20_5 v75_6) ∨ (v75_7 = 1 ∧ flU (isP (Int.toNat (mn (Int.toNat x1))) (dr (Int.toNat x1)) (sh fr (60 * x1)) (sh tt (60 * x1)) (sh wt (60 * x1)) (sh co (60 * x1)) (sh fr (60 * x2)) (sh tt (60 * x2)) (sh wt (60 * x2)) (sh co (60 * x2))) (sz (Int.toNat x1)) im20 v20_5 (v75_6 - 1) ∧ im75 (Int.toNat v20_5) = v75_6 - 1 ∧ (im20 (Int.toNat v20_5) + 1 ≤ v75_6 - 1 ∧ v75_6 - 1 < (sz (Int.toNat x1))) ∧ (isP (Int.toNat (mn (Int.toNat x1))) (dr (Int.toNat x1)) (sh fr (60 * x1)) (sh tt (60 * x1)) (sh wt (60 * x1)) (sh co (60 * x1)) (sh fr (60 * x2)) (sh tt (60 * x2)) (sh wt (60 * x2)) (sh co (60 * x2))) im75 v20_5 ∧ ¬ Me z9 (Int.toNat (v75_6 - 1))))
                  have hS75 := (by assumption : Sm im20 im75 v20_5)
                  obtain ⟨-, hf1, hf2, hf3, hf4, hf5⟩ := h75.resolve_left (fun g9 => by have := g9.1; omega)
                  clear h75
                  refine r_iload (pc := 134) dX12_place_134 rfl ?_
                  refine r_iconst (pc := 136) (v := iv 1) dX12_place_136 (by decide) ?_
                  refine r_aload_n (pc := 137) dX12_place_137 (i := 0) rfl rfl ?_
                  refine t_getE (pc := 138) (.ref (y + 42)) ht75 (rd_of RX_y) fX12_136 dX12_place_138 rfl ?_
                  refine r_iload (pc := 141) dX12_place_141 rfl ?_
                  refine t_ialdX (pc := 143) (t0 := 0) ht75 (rd_of RX_image) dX12_place_143 rfl (by decide) (by omega) (fun b18 => ?_)
                  have rb18 := (show Rfx 16 (-1) 15 im75 by assumption) (Int.toNat v20_5) (by omega)
                  refine r_ishl (pc := 144) (v := iv ((2 ^ Int.toNat (im75 (Int.toNat v20_5)) : Nat) : Int)) dX12_place_144 (shl_e (by omega)) ?_
                  have mp144_19 : 1 ≤ 2 ^ Int.toNat (im75 (Int.toNat v20_5)) := Nat.one_le_two_pow
                  have mq144_20 : 2 ^ Int.toNat (im75 (Int.toNat v20_5)) ≤ 2 ^ 15 := Nat.pow_le_pow_right (by omega) (by omega)
                  have ms144 := Me_shl (Int.toNat (im75 (Int.toNat v20_5)))
                  obtain ⟨z21, hz21, bz21⟩ := or_2 16 z9 ((2 ^ Int.toNat (im75 (Int.toNat v20_5)) : Nat) : Int) (by omega) (by omega) (by decide)
                  refine r_ior (pc := 145) (v := iv z21) dX12_place_145 hz21 ?_
                  have mez21 := Me_or hz21 (by omega) (by omega) (by omega)
                  have hu2 : ∀ b, Me z21 b ↔ Me z9 b ∨ b = Int.toNat (v75_6 - 1) := fun b => by rw [mez21 b, ms144 b, hf2]
                  refine r_istore (pc := 146) (lv' := [(4, .int (iv z21)), (0, .ref y), (1, .int (iv x1)), (2, .int (iv x2)), (3, .int (iv (sz (Int.toNat x1)))), (5, .int (iv v20_5)), (6, .int (iv v75_6)), (7, .int (iv v75_7))]) dX12_place_146 (by decide) rfl ?_
                  refine r_iinc (pc := 148) (v := iv (v20_5 + 1)) (lv' := [(5, .int (iv (v20_5 + 1))), (4, .int (iv z21)), (0, .ref y), (1, .int (iv x1)), (2, .int (iv x2)), (3, .int (iv (sz (Int.toNat x1)))), (6, .int (iv v75_6)), (7, .int (iv v75_7))]) dX12_place_148 rfl (iv_add _ _) (by decide) rfl ?_
                  refine r_iload (pc := 151) dX12_place_151 rfl ?_
                  refine r_iload_n (pc := 153) dX12_place_153 (i := 3) rfl rfl ?_
                  refine t_icmp_ge (pc := 154) (tgt := 171) dX12_place_154 (by decide) (by omega) (by omega) (fun c154 => ?_) (fun c154 => ?_)
                  · have hplN : plI (isP (Int.toNat (mn (Int.toNat x1))) (dr (Int.toNat x1)) (sh fr (60 * x1)) (sh tt (60 * x1)) (sh wt (60 * x1)) (sh co (60 * x1)) (sh fr (60 * x2)) (sh tt (60 * x2)) (sh wt (60 * x2)) (sh co (60 * x2))) (sz (Int.toNat x1)) im75 (v20_5 + 1) z21 := pl_y (fun a b w h9 hf9 => is_cg a b w h9 hf9) hpl.1 hf1 (by omega) hus hS75 hf2 (by omega) hf5 hf4 (fun _ _ => rfl) (fun g9 => absurd g9 (by omega)) hu2
                    have hM9 : plM im75 (v20_5 + 1) (sz (Int.toNat x1)) < plM im20 v20_5 (sz (Int.toNat x1)) := plM_u1 (by omega) hS75 (by omega) (by omega)
                    have hN9 : 0 ≤ plM im75 (v20_5 + 1) (sz (Int.toNat x1)) := (plM_nn (by assumption) (fun i hi => (hplN.1.1 i hi).1.1) (by omega)).1
                    refine r_goto (pc := 171) (tgt := 20) dX12_place_171 (by decide) ?_
                    refine Rn.pick (lv' := [(0, .ref y), (1, .int (iv x1)), (2, .int (iv x2)), (3, .int (iv (sz (Int.toNat x1)))), (4, .int (iv z21)), (5, .int (iv (v20_5 + 1)))]) [2, 3, 4, 5, 1, 0] rfl ?_
                    exact ih20 (Int.toNat (plM im75 (v20_5 + 1) (sz (Int.toNat x1)))) (by omega) im75 _ ht75 z21 (v20_5 + 1) ⟨by omega, by omega, by omega, by omega, by assumption, by omega, by (first | exact hplN | exact hpl0)⟩ (by omega)
                  · refine r_aload_n (pc := 157) dX12_place_157 (i := 0) rfl rfl ?_
                    refine t_getE (pc := 158) (.ref (y + 42)) ht75 (rd_of RX_y) fX12_136 dX12_place_158 rfl ?_
                    refine r_iload (pc := 161) dX12_place_161 rfl ?_
                    refine r_iconst (pc := 163) (v := iv (-1)) dX12_place_163 (by decide) ?_
                    refine t_iastX (pc := 164) (t0 := 0) ht75 RX_image dX12_place_164 rfl (by decide) (by omega) (by omega) (fun hp22 ht23 => ?_)
                    have ht24 := RXw_im ht23
                    have hqht24 : Rfx 16 (-1) 15 (fup im75 (Int.toNat (v20_5 + 1)) (-1)) := Rfx_up (by assumption) (by omega)
                    have hplN : plI (isP (Int.toNat (mn (Int.toNat x1))) (dr (Int.toNat x1)) (sh fr (60 * x1)) (sh tt (60 * x1)) (sh wt (60 * x1)) (sh co (60 * x1)) (sh fr (60 * x2)) (sh tt (60 * x2)) (sh wt (60 * x2)) (sh co (60 * x2))) (sz (Int.toNat x1)) (fup im75 (Int.toNat (v20_5 + 1)) (-1)) (v20_5 + 1) z21 := pl_y (fun a b w h9 hf9 => is_cg a b w h9 hf9) hpl.1 hf1 (by omega) hus hS75 hf2 (by omega) hf5 hf4 (fun i hi => if_neg (by omega)) (fun _ => if_pos rfl) hu2
                    have hM9 : plM (fup im75 (Int.toNat (v20_5 + 1)) (-1)) (v20_5 + 1) (sz (Int.toNat x1)) < plM im20 v20_5 (sz (Int.toNat x1)) := plM_u2 (by omega) hS75 (by omega)
                    have hN9 : 0 ≤ plM (fup im75 (Int.toNat (v20_5 + 1)) (-1)) (v20_5 + 1) (sz (Int.toNat x1)) := (plM_nn (by assumption) (fun i hi => (hplN.1.1 i hi).1.1) (by omega)).1
                    refine r_goto (pc := 165) (tgt := 171) dX12_place_165 (by decide) ?_
                    refine r_goto (pc := 171) (tgt := 20) dX12_place_171 (by decide) ?_
                    refine Rn.pick (lv' := [(0, .ref y), (1, .int (iv x1)), (2, .int (iv x2)), (3, .int (iv (sz (Int.toNat x1)))), (4, .int (iv z21)), (5, .int (iv (v20_5 + 1)))]) [2, 3, 4, 5, 1, 0] rfl ?_
                    exact ih20 (Int.toNat (plM (fup im75 (Int.toNat (v20_5 + 1)) (-1)) (v20_5 + 1) (sz (Int.toNat x1)))) (by omega) (fup im75 (Int.toNat (v20_5 + 1)) (-1)) _ ht24 z21 (v20_5 + 1) ⟨by omega, by omega, by omega, by omega, by assumption, by omega, by (first | exact hplN | exact hpl0)⟩ (by omega)
              · have h75 := (by assumption : (v75_7 = 0 ∧ flU (isP (Int.toNat (mn (Int.toNat x1))) (dr (Int.toNat x1)) (sh fr (60 * x1)) (sh tt (60 * x1)) (sh wt (60 * x1)) (sh co (60 * x1)) (sh fr (60 * x2)) (sh tt (60 * x2)) (sh wt (60 * x2)) (sh co (60 * x2))) (sz (Int.toNat x1)) im20 v20_5 v75_6) ∨ (v75_7 = 1 ∧ flU (isP (Int.toNat (mn (Int.toNat x1))) (dr (Int.toNat x1)) (sh fr (60 * x1)) (sh tt (60 * x1)) (sh wt (60 * x1)) (sh co (60 * x1)) (sh fr (60 * x2)) (sh tt (60 * x2)) (sh wt (60 * x2)) (sh co (60 * x2))) (sz (Int.toNat x1)) im20 v20_5 (v75_6 - 1) ∧ im75 (Int.toNat v20_5) = v75_6 - 1 ∧ (im20 (Int.toNat v20_5) + 1 ≤ v75_6 - 1 ∧ v75_6 - 1 < (sz (Int.toNat x1))) ∧ (isP (Int.toNat (mn (Int.toNat x1))) (dr (Int.toNat x1)) (sh fr (60 * x1)) (sh tt (60 * x1)) (sh wt (60 * x1)) (sh co (60 * x1)) (sh fr (60 * x2)) (sh tt (60 * x2)) (sh wt (60 * x2)) (sh co (60 * x2))) im75 v20_5 ∧ ¬ Me z9 (Int.toNat (v75_6 - 1))))
                have hfl := (h75.resolve_right (fun g9 => by have := g9.1; omega)).2
                clear h75
                refine r_aload_n (pc := 86) dX12_place_86 (i := 0) rfl rfl ?_
                refine t_getE (pc := 87) (.ref (y + 42)) ht75 (rd_of RX_y) fX12_136 dX12_place_87 rfl ?_
                refine r_iload (pc := 90) dX12_place_90 rfl ?_
                refine r_iload (pc := 92) dX12_place_92 rfl ?_
                refine t_iastX (pc := 94) (t0 := 0) ht75 RX_image dX12_place_94 rfl (by decide) (by omega) (by omega) (fun hp25 ht26 => ?_)
                have ht27 := RXw_im ht26
                have hqht27 : Rfx 16 (-1) 15 (fup im75 (Int.toNat v20_5) v75_6) := Rfx_up (by assumption) (by omega)
                have hS94 : Sm im20 (fup im75 (Int.toNat v20_5) v75_6) v20_5 := Sm_up (by assumption)
                have hV94 : (fup im75 (Int.toNat v20_5) v75_6) (Int.toNat v20_5) = v75_6 := if_pos rfl
                have hpf9 : ∀ i : Nat, (i : Int) ≤ v20_5 → 0 ≤ (fup im75 (Int.toNat v20_5) v75_6) i := fun i hi => by
                  by_cases e9 : i = (Int.toNat v20_5)
                  · rw [e9, hV94]; omega
                  · rw [hS94 i e9]; exact hpf0 i (by omega)
                refine r_iload (pc := 95) dX12_place_95 rfl ?_
                refine r_iload (pc := 97) dX12_place_97 rfl ?_
                have hq99_28 := shr_le (Int.toNat z9) (Int.toNat v75_6)
                refine r_ishr (pc := 99) (v := iv ((Int.toNat z9 >>> Int.toNat v75_6 : Nat) : Int)) dX12_place_99 (shr_e (by omega) (by omega)) ?_
                refine r_iconst (pc := 100) (v := iv 1) dX12_place_100 (by decide) ?_
                refine r_iand (pc := 101) (v := iv (((Int.toNat z9 >>> Int.toNat v75_6 : Nat) : Int) % 2)) dX12_place_101 (and1_e _ (by omega)) ?_
                have mb101 := @Me_bit z9 v75_6
                refine t_if_ne (pc := 102) (tgt := 120) dX12_place_102 (by decide) (by omega) (fun c102 => ?_) (fun c102 => ?_)
                · have pm102 : Me z9 (Int.toNat v75_6) := Me_bit.mp (by omega)
                  have hfl1 := fl_up (fun a b w h9 hf9 => is_cg a b w h9 hf9) hfl (by omega) hus hS94 hV94 (fun g9 => absurd pm102 g9)
                  refine r_iconst (pc := 120) (v := iv 0) dX12_place_120 (by decide) ?_
                  refine r_istore (pc := 121) (lv' := [(7, .int (iv 0)), (0, .ref y), (1, .int (iv x1)), (2, .int (iv x2)), (3, .int (iv (sz (Int.toNat x1)))), (4, .int (iv z9)), (5, .int (iv v20_5)), (6, .int (iv v75_6))]) dX12_place_121 (by decide) rfl ?_
                  refine r_iinc (pc := 123) (v := iv (v75_6 + 1)) (lv' := [(6, .int (iv (v75_6 + 1))), (7, .int (iv 0)), (0, .ref y), (1, .int (iv x1)), (2, .int (iv x2)), (3, .int (iv (sz (Int.toNat x1)))), (4, .int (iv z9)), (5, .int (iv v20_5))]) dX12_place_123 rfl (iv_add _ _) (by decide) rfl ?_
                  refine r_goto (pc := 126) (tgt := 75) dX12_place_126 (by decide) ?_
                  refine Rn.pick (lv' := [(0, .ref y), (1, .int (iv x1)), (2, .int (iv x2)), (3, .int (iv (sz (Int.toNat x1)))), (4, .int (iv z9)), (5, .int (iv v20_5)), (6, .int (iv (v75_6 + 1))), (7, .int (iv 0))]) [2, 3, 4, 5, 6, 7, 0, 1] rfl ?_
                  exact ih75 (Int.toNat (16 - (v75_6 + 1))) (by omega) (fup im75 (Int.toNat v20_5) v75_6) _ ht27 (v75_6 + 1) 0 ⟨by omega, by omega, by omega, by omega, by omega, by assumption, by omega, by (first | exact hS94 | exact hS73), by (first | exact Or.inr ⟨rfl, hfnd⟩ | exact Or.inl ⟨rfl, hfl1⟩ | exact Or.inl ⟨rfl, hfl73⟩)⟩ (by omega)
                · have nm102 : ¬ Me z9 (Int.toNat v75_6) := fun h9 => absurd (Me_bit.mpr h9) (by omega)
                  refine r_aload_n (pc := 105) dX12_place_105 (i := 0) rfl rfl ?_
                  refine r_iload_n (pc := 106) dX12_place_106 (i := 1) rfl rfl ?_
                  refine r_iload_n (pc := 107) dX12_place_107 (i := 2) rfl rfl ?_
                  refine r_iload (pc := 108) dX12_place_108 rfl ?_
                  obtain ⟨fs33, hfs33⟩ := t_obj ht27 (rd_of RX_y)
                  refine r_callV (pc := 110) (as := [.int (iv x1), .int (iv x2), .int (iv v20_5)]) (st := []) kX12_391 rfl dX12_place_110 hfs33 (x_X12_fits (d := d - 1) (x1 := x1) (x2 := x2) (x3 := v20_5) (by omega) (by assumption) (by assumption) (by assumption) (by assumption) (by assumption) (by assumption) (by assumption) ht27 (by omega) (by omega) (by omega) (by assumption) (by assumption) (by assumption) (fun _ _ _ h => h)) rfl (by omega) (Nat.le_of_ble_eq_true rfl) (Nat.zero_le _) (Nat.zero_le _) rfl (fun r30 hp29 n31 hq32 => ?_)
                  obtain ⟨hnn31, r9_35, ht34, hrr30, hhq320, hhq321⟩ := hq32
                  subst n31 r30
                  have hhq320 : 0 ≤ r9_35 ∧ r9_35 ≤ 1 := hhq320
                  have hhq321 : (r9_35 = 1 ∧ ftP (Int.toNat (mn (Int.toNat x1))) (dr (Int.toNat x1)) (sh fr (60 * x1)) (sh tt (60 * x1)) (sh wt (60 * x1)) (sh co (60 * x1)) (sh fr (60 * x2)) (sh tt (60 * x2)) (sh wt (60 * x2)) (sh co (60 * x2)) (fup im75 (Int.toNat v20_5) v75_6) v20_5) ∨ (r9_35 = 0 ∧ ¬ ftP (Int.toNat (mn (Int.toNat x1))) (dr (Int.toNat x1)) (sh fr (60 * x1)) (sh tt (60 * x1)) (sh wt (60 * x1)) (sh co (60 * x1)) (sh fr (60 * x2)) (sh tt (60 * x2)) (sh wt (60 * x2)) (sh co (60 * x2)) (fup im75 (Int.toNat v20_5) v75_6) v20_5) := hhq321
                  change Rn _ _ _ 113 _ [.int (iv r9_35)] _ _ _ _ _
                  refine t_if_eq (pc := 113) (tgt := 120) dX12_place_113 (by decide) (by omega) (fun c113 => ?_) (fun c113 => ?_)
                  · have hnf := (Or.resolve_left hhq321 (fun g9 => by have := g9.1; omega)).2
                    have hfl1 := fl_up (fun a b w h9 hf9 => is_cg a b w h9 hf9) hfl (by omega) hus hS94 hV94 (fun _ g9 => hnf (g9 (by omega)))
                    clear hhq321
                    refine r_iconst (pc := 120) (v := iv 0) dX12_place_120 (by decide) ?_
                    refine r_istore (pc := 121) (lv' := [(7, .int (iv 0)), (0, .ref y), (1, .int (iv x1)), (2, .int (iv x2)), (3, .int (iv (sz (Int.toNat x1)))), (4, .int (iv z9)), (5, .int (iv v20_5)), (6, .int (iv v75_6))]) dX12_place_121 (by decide) rfl ?_
                    refine r_iinc (pc := 123) (v := iv (v75_6 + 1)) (lv' := [(6, .int (iv (v75_6 + 1))), (7, .int (iv 0)), (0, .ref y), (1, .int (iv x1)), (2, .int (iv x2)), (3, .int (iv (sz (Int.toNat x1)))), (4, .int (iv z9)), (5, .int (iv v20_5))]) dX12_place_123 rfl (iv_add _ _) (by decide) rfl ?_
                    refine r_goto (pc := 126) (tgt := 75) dX12_place_126 (by decide) ?_
                    refine Rn.pick (lv' := [(0, .ref y), (1, .int (iv x1)), (2, .int (iv x2)), (3, .int (iv (sz (Int.toNat x1)))), (4, .int (iv z9)), (5, .int (iv v20_5)), (6, .int (iv (v75_6 + 1))), (7, .int (iv 0))]) [2, 3, 4, 5, 6, 7, 0, 1] rfl ?_
                    exact ih75 (Int.toNat (16 - (v75_6 + 1))) (by omega) (fup im75 (Int.toNat v20_5) v75_6) _ ht34 (v75_6 + 1) 0 ⟨by omega, by omega, by omega, by omega, by omega, by assumption, by omega, by (first | exact hS94 | exact hS73), by (first | exact Or.inr ⟨rfl, hfnd⟩ | exact Or.inl ⟨rfl, hfl1⟩ | exact Or.inl ⟨rfl, hfl73⟩)⟩ (by omega)
                  · have hyf := (Or.resolve_right hhq321 (fun g9 => by have := g9.1; omega)).2
                    have hfnd : flU (isP (Int.toNat (mn (Int.toNat x1))) (dr (Int.toNat x1)) (sh fr (60 * x1)) (sh tt (60 * x1)) (sh wt (60 * x1)) (sh co (60 * x1)) (sh fr (60 * x2)) (sh tt (60 * x2)) (sh wt (60 * x2)) (sh co (60 * x2))) (sz (Int.toNat x1)) im20 v20_5 (v75_6 + 1 - 1) ∧ (fup im75 (Int.toNat v20_5) v75_6) (Int.toNat v20_5) = v75_6 + 1 - 1 ∧ (im20 (Int.toNat v20_5) + 1 ≤ v75_6 + 1 - 1 ∧ v75_6 + 1 - 1 < (sz (Int.toNat x1))) ∧ (isP (Int.toNat (mn (Int.toNat x1))) (dr (Int.toNat x1)) (sh fr (60 * x1)) (sh tt (60 * x1)) (sh wt (60 * x1)) (sh co (60 * x1)) (sh fr (60 * x2)) (sh tt (60 * x2)) (sh wt (60 * x2)) (sh co (60 * x2))) (fup im75 (Int.toNat v20_5) v75_6) v20_5 ∧ ¬ Me z9 (Int.toNat (v75_6 + 1 - 1)) := by
                      rw [show v75_6 + 1 - 1 = v75_6 by omega]
                      exact ⟨hfl, hV94, by omega, fun _ => hyf, nm102⟩
                    clear hhq321
                    refine r_iconst (pc := 116) (v := iv 1) dX12_place_116 (by decide) ?_
                    refine r_goto (pc := 117) (tgt := 121) dX12_place_117 (by decide) ?_
                    refine r_istore (pc := 121) (lv' := [(7, .int (iv 1)), (0, .ref y), (1, .int (iv x1)), (2, .int (iv x2)), (3, .int (iv (sz (Int.toNat x1)))), (4, .int (iv z9)), (5, .int (iv v20_5)), (6, .int (iv v75_6))]) dX12_place_121 (by decide) rfl ?_
                    refine r_iinc (pc := 123) (v := iv (v75_6 + 1)) (lv' := [(6, .int (iv (v75_6 + 1))), (7, .int (iv 1)), (0, .ref y), (1, .int (iv x1)), (2, .int (iv x2)), (3, .int (iv (sz (Int.toNat x1)))), (4, .int (iv z9)), (5, .int (iv v20_5))]) dX12_place_123 rfl (iv_add _ _) (by decide) rfl ?_
                    refine r_goto (pc := 126) (tgt := 75) dX12_place_126 (by decide) ?_
                    refine Rn.pick (lv' := [(0, .ref y), (1, .int (iv x1)), (2, .int (iv x2)), (3, .int (iv (sz (Int.toNat x1)))), (4, .int (iv z9)), (5, .int (iv v20_5)), (6, .int (iv (v75_6 + 1))), (7, .int (iv 1))]) [2, 3, 4, 5, 6, 7, 0, 1] rfl ?_
                    exact ih75 (Int.toNat (16 - (v75_6 + 1))) (by omega) (fup im75 (Int.toNat v20_5) v75_6) _ ht34 (v75_6 + 1) 1 ⟨by omega, by omega, by omega, by omega, by omega, by assumption, by omega, by (first | exact hS94 | exact hS73), by (first | exact Or.inr ⟨rfl, hfnd⟩ | exact Or.inl ⟨rfl, hfl1⟩ | exact Or.inl ⟨rfl, hfl73⟩)⟩ (by omega)
          refine Rn.pick (lv' := [(0, .ref y), (1, .int (iv x1)), (2, .int (iv x2)), (3, .int (iv (sz (Int.toNat x1)))), (4, .int (iv z9)), (5, .int (iv v20_5)), (6, .int (iv ((im20 (Int.toNat v20_5)) + 1))), (7, .int (iv 0))]) [3, 4, 5, 6, 2, 7, 1, 0] rfl ?_
          exact B75 (Int.toNat (16 - ((im20 (Int.toNat v20_5)) + 1))) im20 _ ht20 ((im20 (Int.toNat v20_5)) + 1) 0 ⟨by omega, by omega, by omega, by omega, by omega, by assumption, by omega, by (first | exact hS94 | exact hS73), by (first | exact Or.inr ⟨rfl, hfnd⟩ | exact Or.inl ⟨rfl, hfl1⟩ | exact Or.inl ⟨rfl, hfl73⟩)⟩ (by omega)
        · refine r_iconst (pc := 43) (v := iv (-1)) dX12_place_43 (by decide) ?_
          refine r_goto (pc := 44) (tgt := 58) dX12_place_44 (by decide) ?_
          refine r_iand (pc := 58) (v := iv v20_4) dX12_place_58 (and_m1 _) ?_
          refine r_istore (pc := 59) (lv' := [(4, .int (iv v20_4)), (0, .ref y), (1, .int (iv x1)), (2, .int (iv x2)), (3, .int (iv (sz (Int.toNat x1)))), (5, .int (iv v20_5))]) dX12_place_59 (by decide) rfl ?_
          have hus : usW im20 v20_5 v20_4 := us_n hpl (by omega)
          refine r_aload_n (pc := 61) dX12_place_61 (i := 0) rfl rfl ?_
          refine t_getE (pc := 62) (.ref (y + 42)) ht20 (rd_of RX_y) fX12_136 dX12_place_62 rfl ?_
          refine r_iload (pc := 65) dX12_place_65 rfl ?_
          refine t_ialdX (pc := 67) (t0 := 0) ht20 (rd_of RX_image) dX12_place_67 rfl (by decide) (by omega) (fun b36 => ?_)
          have rb36 := (show Rfx 16 (-1) 15 im20 by assumption) (Int.toNat v20_5) (by omega)
          refine r_iconst (pc := 68) (v := iv 1) dX12_place_68 (by decide) ?_
          refine r_iadd (pc := 69) (v := iv ((im20 (Int.toNat v20_5)) + 1)) dX12_place_69 (iv_add _ _) ?_
          refine r_istore (pc := 70) (lv' := [(6, .int (iv ((im20 (Int.toNat v20_5)) + 1))), (4, .int (iv v20_4)), (0, .ref y), (1, .int (iv x1)), (2, .int (iv x2)), (3, .int (iv (sz (Int.toNat x1)))), (5, .int (iv v20_5))]) dX12_place_70 (by decide) rfl ?_
          refine r_iconst (pc := 72) (v := iv 0) dX12_place_72 (by decide) ?_
          refine r_istore (pc := 73) (lv' := [(7, .int (iv 0)), (6, .int (iv ((im20 (Int.toNat v20_5)) + 1))), (4, .int (iv v20_4)), (0, .ref y), (1, .int (iv x1)), (2, .int (iv x2)), (3, .int (iv (sz (Int.toNat x1)))), (5, .int (iv v20_5))]) dX12_place_73 (by decide) rfl ?_
          have hS73 : Sm im20 im20 v20_5 := Sm_rf _ _
          have hfl73 := flu_0 hpl (by omega)
          have B75 : ∀ k : Nat, ∀ im75 : Nat → Int, ∀ hp75 : MH, Tw (RX Γ cI cJ cZ y rf cn nm so sz dr mn fr tt wt co nu sa wo ln hw ro qi qc nf nt nw nc cl nx ie be sd bl bs wy ra rb lb bg os js ls sp jw go de yb ah im75) hp75 → ∀  (v75_6 : Int) (v75_7 : Int), 0 ≤ v75_6 ∧ v75_6 ≤ 16 ∧ (im20 (Int.toNat v20_5)) + 1 ≤ v75_6 ∧ 0 ≤ v75_7 ∧ v75_7 ≤ 1 ∧ (Rfx 16 (-1) 15 im75) ∧ (im20 (Int.toNat v20_5) + 1 ≤ v75_6) ∧ (Sm im20 im75 v20_5) ∧ ((v75_7 = 0 ∧ flU (isP (Int.toNat (mn (Int.toNat x1))) (dr (Int.toNat x1)) (sh fr (60 * x1)) (sh tt (60 * x1)) (sh wt (60 * x1)) (sh co (60 * x1)) (sh fr (60 * x2)) (sh tt (60 * x2)) (sh wt (60 * x2)) (sh co (60 * x2))) (sz (Int.toNat x1)) im20 v20_5 v75_6) ∨ (v75_7 = 1 ∧ flU (isP (Int.toNat (mn (Int.toNat x1))) (dr (Int.toNat x1)) (sh fr (60 * x1)) (sh tt (60 * x1)) (sh wt (60 * x1)) (sh co (60 * x1)) (sh fr (60 * x2)) (sh tt (60 * x2)) (sh wt (60 * x2)) (sh co (60 * x2))) (sz (Int.toNat x1)) im20 v20_5 (v75_6 - 1) ∧ im75 (Int.toNat v20_5) = v75_6 - 1 ∧ (im20 (Int.toNat v20_5) + 1 ≤ v75_6 - 1 ∧ v75_6 - 1 < (sz (Int.toNat x1))) ∧ (isP (Int.toNat (mn (Int.toNat x1))) (dr (Int.toNat x1)) (sh fr (60 * x1)) (sh tt (60 * x1)) (sh wt (60 * x1)) (sh co (60 * x1)) (sh fr (60 * x2)) (sh tt (60 * x2)) (sh wt (60 * x2)) (sh co (60 * x2))) im75 v20_5 ∧ ¬ Me v20_4 (Int.toNat (v75_6 - 1)))) → 16 - v75_6 ≤ (k : Int) → Rn (gG D cI cJ cZ cT lo b L xs) mX12_place d 75 [(0, .ref y), (1, .int (iv x1)), (2, .int (iv x2)), (3, .int (iv (sz (Int.toNat x1)))), (4, .int (iv v20_4)), (5, .int (iv v20_5)), (6, .int (iv v75_6)), (7, .int (iv v75_7))] [] hp75 n 0 0 Po9 := by
            refine lpS _ ?_
            intro k75 ih75 im75 hp75 ht75 v75_6 v75_7 hf75 hm75
            obtain ⟨hf75_0, hf75_1, hf75_2, hf75_3, hf75_4, ha75_5, hf75_6, ha75_7, ha75_8⟩ := hf75
            refine r_iload (pc := 75) dX12_place_75 rfl ?_
            refine r_iload_n (pc := 77) dX12_place_77 (i := 3) rfl rfl ?_
            refine t_icmp_ge (pc := 78) (tgt := 129) dX12_place_78 (by decide) (by omega) (by omega) (fun c78 => ?_) (fun c78 => ?_)
            · refine r_iload (pc := 129) dX12_place_129 rfl ?_
              refine t_if_eq (pc := 131) (tgt := 168) dX12_place_131 (by decide) (by omega) (fun c131 => ?_) (fun c131 => ?_)
              · have h75 := (by assumption : (v75_7 = 0 ∧ flU (isP (Int.toNat (mn (Int.toNat x1))) (dr (Int.toNat x1)) (sh fr (60 * x1)) (sh tt (60 * x1)) (sh wt (60 * x1)) (sh co (60 * x1)) (sh fr (60 * x2)) (sh tt (60 * x2)) (sh wt (60 * x2)) (sh co (60 * x2))) (sz (Int.toNat x1)) im20 v20_5 v75_6) ∨ (v75_7 = 1 ∧ flU (isP (Int.toNat (mn (Int.toNat x1))) (dr (Int.toNat x1)) (sh fr (60 * x1)) (sh tt (60 * x1)) (sh wt (60 * x1)) (sh co (60 * x1)) (sh fr (60 * x2)) (sh tt (60 * x2)) (sh wt (60 * x2)) (sh co (60 * x2))) (sz (Int.toNat x1)) im20 v20_5 (v75_6 - 1) ∧ im75 (Int.toNat v20_5) = v75_6 - 1 ∧ (im20 (Int.toNat v20_5) + 1 ≤ v75_6 - 1 ∧ v75_6 - 1 < (sz (Int.toNat x1))) ∧ (isP (Int.toNat (mn (Int.toNat x1))) (dr (Int.toNat x1)) (sh fr (60 * x1)) (sh tt (60 * x1)) (sh wt (60 * x1)) (sh co (60 * x1)) (sh fr (60 * x2)) (sh tt (60 * x2)) (sh wt (60 * x2)) (sh co (60 * x2))) im75 v20_5 ∧ ¬ Me v20_4 (Int.toNat (v75_6 - 1))))
                have hS75 := (by assumption : Sm im20 im75 v20_5)
                have hfl := (h75.resolve_right (fun g9 => by have := g9.1; omega)).2
                clear h75
                refine r_iinc (pc := 168) (v := iv (v20_5 - 1)) (lv' := [(5, .int (iv (v20_5 - 1))), (0, .ref y), (1, .int (iv x1)), (2, .int (iv x2)), (3, .int (iv (sz (Int.toNat x1)))), (4, .int (iv v20_4)), (6, .int (iv v75_6)), (7, .int (iv v75_7))]) dX12_place_168 rfl ((iv_add _ _).trans (congrArg iv (show v20_5 + (-1) = v20_5 - 1 by omega))) (by decide) rfl ?_
                have hplN : plI (isP (Int.toNat (mn (Int.toNat x1))) (dr (Int.toNat x1)) (sh fr (60 * x1)) (sh tt (60 * x1)) (sh wt (60 * x1)) (sh co (60 * x1)) (sh fr (60 * x2)) (sh tt (60 * x2)) (sh wt (60 * x2)) (sh co (60 * x2))) (sz (Int.toNat x1)) im75 (v20_5 - 1) v20_4 := pl_n (fun a b w h9 hf9 => is_cg a b w h9 hf9) hpl.1 hfl (by omega) hus hS75 (by omega)
                have hM9 : plM im75 (v20_5 - 1) (sz (Int.toNat x1)) < plM im20 v20_5 (sz (Int.toNat x1)) := plM_d1 (by omega) (by assumption) hpf0 hS75
                have hN9 : 0 ≤ plM im75 (v20_5 - 1) (sz (Int.toNat x1)) := (plM_nn (by assumption) (fun i hi => (hplN.1.1 i hi).1.1) (by omega)).1
                refine r_goto (pc := 171) (tgt := 20) dX12_place_171 (by decide) ?_
                refine Rn.pick (lv' := [(0, .ref y), (1, .int (iv x1)), (2, .int (iv x2)), (3, .int (iv (sz (Int.toNat x1)))), (4, .int (iv v20_4)), (5, .int (iv (v20_5 - 1)))]) [1, 2, 3, 4, 5, 0] rfl ?_
                exact ih20 (Int.toNat (plM im75 (v20_5 - 1) (sz (Int.toNat x1)))) (by omega) im75 _ ht75 v20_4 (v20_5 - 1) ⟨by omega, by omega, by omega, by omega, by assumption, by omega, by (first | exact hplN | exact hpl0)⟩ (by omega)
              · have h75 := (by assumption : (v75_7 = 0 ∧ flU (isP (Int.toNat (mn (Int.toNat x1))) (dr (Int.toNat x1)) (sh fr (60 * x1)) (sh tt (60 * x1)) (sh wt (60 * x1)) (sh co (60 * x1)) (sh fr (60 * x2)) (sh tt (60 * x2)) (sh wt (60 * x2)) (sh co (60 * x2))) (sz (Int.toNat x1)) im20 v20_5 v75_6) ∨ (v75_7 = 1 ∧ flU (isP (Int.toNat (mn (Int.toNat x1))) (dr (Int.toNat x1)) (sh fr (60 * x1)) (sh tt (60 * x1)) (sh wt (60 * x1)) (sh co (60 * x1)) (sh fr (60 * x2)) (sh tt (60 * x2)) (sh wt (60 * x2)) (sh co (60 * x2))) (sz (Int.toNat x1)) im20 v20_5 (v75_6 - 1) ∧ im75 (Int.toNat v20_5) = v75_6 - 1 ∧ (im20 (Int.toNat v20_5) + 1 ≤ v75_6 - 1 ∧ v75_6 - 1 < (sz (Int.toNat x1))) ∧ (isP (Int.toNat (mn (Int.toNat x1))) (dr (Int.toNat x1)) (sh fr (60 * x1)) (sh tt (60 * x1)) (sh wt (60 * x1)) (sh co (60 * x1)) (sh fr (60 * x2)) (sh tt (60 * x2)) (sh wt (60 * x2)) (sh co (60 * x2))) im75 v20_5 ∧ ¬ Me v20_4 (Int.toNat (v75_6 - 1))))
                have hS75 := (by assumption : Sm im20 im75 v20_5)
                obtain ⟨-, hf1, hf2, hf3, hf4, hf5⟩ := h75.resolve_left (fun g9 => by have := g9.1; omega)
                clear h75
                refine r_iload (pc := 134) dX12_place_134 rfl ?_
                refine r_iconst (pc := 136) (v := iv 1) dX12_place_136 (by decide) ?_
                refine r_aload_n (pc := 137) dX12_place_137 (i := 0) rfl rfl ?_
                refine t_getE (pc := 138) (.ref (y + 42)) ht75 (rd_of RX_y) fX12_136 dX12_place_138 rfl ?_
                refine r_iload (pc := 141) dX12_place_141 rfl ?_
                refine t_ialdX (pc := 143) (t0 := 0) ht75 (rd_of RX_image) dX12_place_143 rfl (by decide) (by omega) (fun b37 => ?_)
                have rb37 := (show Rfx 16 (-1) 15 im75 by assumption) (Int.toNat v20_5) (by omega)
                refine r_ishl (pc := 144) (v := iv ((2 ^ Int.toNat (im75 (Int.toNat v20_5)) : Nat) : Int)) dX12_place_144 (shl_e (by omega)) ?_
                have mp144_38 : 1 ≤ 2 ^ Int.toNat (im75 (Int.toNat v20_5)) := Nat.one_le_two_pow
                have mq144_39 : 2 ^ Int.toNat (im75 (Int.toNat v20_5)) ≤ 2 ^ 15 := Nat.pow_le_pow_right (by omega) (by omega)
                have ms144 := Me_shl (Int.toNat (im75 (Int.toNat v20_5)))
                obtain ⟨z40, hz40, bz40⟩ := or_2 16 v20_4 ((2 ^ Int.toNat (im75 (Int.toNat v20_5)) : Nat) : Int) (by omega) (by omega) (by decide)
                refine r_ior (pc := 145) (v := iv z40) dX12_place_145 hz40 ?_
                have mez40 := Me_or hz40 (by omega) (by omega) (by omega)
                have hu2 : ∀ b, Me z40 b ↔ Me v20_4 b ∨ b = Int.toNat (v75_6 - 1) := fun b => by rw [mez40 b, ms144 b, hf2]
                refine r_istore (pc := 146) (lv' := [(4, .int (iv z40)), (0, .ref y), (1, .int (iv x1)), (2, .int (iv x2)), (3, .int (iv (sz (Int.toNat x1)))), (5, .int (iv v20_5)), (6, .int (iv v75_6)), (7, .int (iv v75_7))]) dX12_place_146 (by decide) rfl ?_
                refine r_iinc (pc := 148) (v := iv (v20_5 + 1)) (lv' := [(5, .int (iv (v20_5 + 1))), (4, .int (iv z40)), (0, .ref y), (1, .int (iv x1)), (2, .int (iv x2)), (3, .int (iv (sz (Int.toNat x1)))), (6, .int (iv v75_6)), (7, .int (iv v75_7))]) dX12_place_148 rfl (iv_add _ _) (by decide) rfl ?_
                refine r_iload (pc := 151) dX12_place_151 rfl ?_
                refine r_iload_n (pc := 153) dX12_place_153 (i := 3) rfl rfl ?_
                refine t_icmp_ge (pc := 154) (tgt := 171) dX12_place_154 (by decide) (by omega) (by omega) (fun c154 => ?_) (fun c154 => ?_)
                · have hplN : plI (isP (Int.toNat (mn (Int.toNat x1))) (dr (Int.toNat x1)) (sh fr (60 * x1)) (sh tt (60 * x1)) (sh wt (60 * x1)) (sh co (60 * x1)) (sh fr (60 * x2)) (sh tt (60 * x2)) (sh wt (60 * x2)) (sh co (60 * x2))) (sz (Int.toNat x1)) im75 (v20_5 + 1) z40 := pl_y (fun a b w h9 hf9 => is_cg a b w h9 hf9) hpl.1 hf1 (by omega) hus hS75 hf2 (by omega) hf5 hf4 (fun _ _ => rfl) (fun g9 => absurd g9 (by omega)) hu2
                  have hM9 : plM im75 (v20_5 + 1) (sz (Int.toNat x1)) < plM im20 v20_5 (sz (Int.toNat x1)) := plM_u1 (by omega) hS75 (by omega) (by omega)
                  have hN9 : 0 ≤ plM im75 (v20_5 + 1) (sz (Int.toNat x1)) := (plM_nn (by assumption) (fun i hi => (hplN.1.1 i hi).1.1) (by omega)).1
                  refine r_goto (pc := 171) (tgt := 20) dX12_place_171 (by decide) ?_
                  refine Rn.pick (lv' := [(0, .ref y), (1, .int (iv x1)), (2, .int (iv x2)), (3, .int (iv (sz (Int.toNat x1)))), (4, .int (iv z40)), (5, .int (iv (v20_5 + 1)))]) [2, 3, 4, 5, 1, 0] rfl ?_
                  exact ih20 (Int.toNat (plM im75 (v20_5 + 1) (sz (Int.toNat x1)))) (by omega) im75 _ ht75 z40 (v20_5 + 1) ⟨by omega, by omega, by omega, by omega, by assumption, by omega, by (first | exact hplN | exact hpl0)⟩ (by omega)
                · refine r_aload_n (pc := 157) dX12_place_157 (i := 0) rfl rfl ?_
                  refine t_getE (pc := 158) (.ref (y + 42)) ht75 (rd_of RX_y) fX12_136 dX12_place_158 rfl ?_
                  refine r_iload (pc := 161) dX12_place_161 rfl ?_
                  refine r_iconst (pc := 163) (v := iv (-1)) dX12_place_163 (by decide) ?_
                  refine t_iastX (pc := 164) (t0 := 0) ht75 RX_image dX12_place_164 rfl (by decide) (by omega) (by omega) (fun hp41 ht42 => ?_)
                  have ht43 := RXw_im ht42
                  have hqht43 : Rfx 16 (-1) 15 (fup im75 (Int.toNat (v20_5 + 1)) (-1)) := Rfx_up (by assumption) (by omega)
                  have hplN : plI (isP (Int.toNat (mn (Int.toNat x1))) (dr (Int.toNat x1)) (sh fr (60 * x1)) (sh tt (60 * x1)) (sh wt (60 * x1)) (sh co (60 * x1)) (sh fr (60 * x2)) (sh tt (60 * x2)) (sh wt (60 * x2)) (sh co (60 * x2))) (sz (Int.toNat x1)) (fup im75 (Int.toNat (v20_5 + 1)) (-1)) (v20_5 + 1) z40 := pl_y (fun a b w h9 hf9 => is_cg a b w h9 hf9) hpl.1 hf1 (by omega) hus hS75 hf2 (by omega) hf5 hf4 (fun i hi => if_neg (by omega)) (fun _ => if_pos rfl) hu2
                  have hM9 : plM (fup im75 (Int.toNat (v20_5 + 1)) (-1)) (v20_5 + 1) (sz (Int.toNat x1)) < plM im20 v20_5 (sz (Int.toNat x1)) := plM_u2 (by omega) hS75 (by omega)
                  have hN9 : 0 ≤ plM (fup im75 (Int.toNat (v20_5 + 1)) (-1)) (v20_5 + 1) (sz (Int.toNat x1)) := (plM_nn (by assumption) (fun i hi => (hplN.1.1 i hi).1.1) (by omega)).1
                  refine r_goto (pc := 165) (tgt := 171) dX12_place_165 (by decide) ?_
                  refine r_goto (pc := 171) (tgt := 20) dX12_place_171 (by decide) ?_
                  refine Rn.pick (lv' := [(0, .ref y), (1, .int (iv x1)), (2, .int (iv x2)), (3, .int (iv (sz (Int.toNat x1)))), (4, .int (iv z40)), (5, .int (iv (v20_5 + 1)))]) [2, 3, 4, 5, 1, 0] rfl ?_
                  exact ih20 (Int.toNat (plM (fup im75 (Int.toNat (v20_5 + 1)) (-1)) (v20_5 + 1) (sz (Int.toNat x1)))) (by omega) (fup im75 (Int.toNat (v20_5 + 1)) (-1)) _ ht43 z40 (v20_5 + 1) ⟨by omega, by omega, by omega, by omega, by assumption, by omega, by (first | exact hplN | exact hpl0)⟩ (by omega)
            · refine r_iload (pc := 81) dX12_place_81 rfl ?_
              refine t_if_ne (pc := 83) (tgt := 129) dX12_place_83 (by decide) (by omega) (fun c83 => ?_) (fun c83 => ?_)
              · refine r_iload (pc := 129) dX12_place_129 rfl ?_
                refine t_if_eq (pc := 131) (tgt := 168) dX12_place_131 (by decide) (by omega) (fun c131 => ?_) (fun c131 => ?_)
                · exfalso
                  omega
                · have h75 := (by assumption : (v75_7 = 0 ∧ flU (isP (Int.toNat (mn (Int.toNat x1))) (dr (Int.toNat x1)) (sh fr (60 * x1)) (sh tt (60 * x1)) (sh wt (60 * x1)) (sh co (60 * x1)) (sh fr (60 * x2)) (sh tt (60 * x2)) (sh wt (60 * x2)) (sh co (60 * x2))) (sz (Int.toNat x1)) im20 v20_5 v75_6) ∨ (v75_7 = 1 ∧ flU (isP (Int.toNat (mn (Int.toNat x1))) (dr (Int.toNat x1)) (sh fr (60 * x1)) (sh tt (60 * x1)) (sh wt (60 * x1)) (sh co (60 * x1)) (sh fr (60 * x2)) (sh tt (60 * x2)) (sh wt (60 * x2)) (sh co (60 * x2))) (sz (Int.toNat x1)) im20 v20_5 (v75_6 - 1) ∧ im75 (Int.toNat v20_5) = v75_6 - 1 ∧ (im20 (Int.toNat v20_5) + 1 ≤ v75_6 - 1 ∧ v75_6 - 1 < (sz (Int.toNat x1))) ∧ (isP (Int.toNat (mn (Int.toNat x1))) (dr (Int.toNat x1)) (sh fr (60 * x1)) (sh tt (60 * x1)) (sh wt (60 * x1)) (sh co (60 * x1)) (sh fr (60 * x2)) (sh tt (60 * x2)) (sh wt (60 * x2)) (sh co (60 * x2))) im75 v20_5 ∧ ¬ Me v20_4 (Int.toNat (v75_6 - 1))))
                  have hS75 := (by assumption : Sm im20 im75 v20_5)
                  obtain ⟨-, hf1, hf2, hf3, hf4, hf5⟩ := h75.resolve_left (fun g9 => by have := g9.1; omega)
                  clear h75
                  refine r_iload (pc := 134) dX12_place_134 rfl ?_
                  refine r_iconst (pc := 136) (v := iv 1) dX12_place_136 (by decide) ?_
                  refine r_aload_n (pc := 137) dX12_place_137 (i := 0) rfl rfl ?_
                  refine t_getE (pc := 138) (.ref (y + 42)) ht75 (rd_of RX_y) fX12_136 dX12_place_138 rfl ?_
                  refine r_iload (pc := 141) dX12_place_141 rfl ?_
                  refine t_ialdX (pc := 143) (t0 := 0) ht75 (rd_of RX_image) dX12_place_143 rfl (by decide) (by omega) (fun b44 => ?_)
                  have rb44 := (show Rfx 16 (-1) 15 im75 by assumption) (Int.toNat v20_5) (by omega)
                  refine r_ishl (pc := 144) (v := iv ((2 ^ Int.toNat (im75 (Int.toNat v20_5)) : Nat) : Int)) dX12_place_144 (shl_e (by omega)) ?_
                  have mp144_45 : 1 ≤ 2 ^ Int.toNat (im75 (Int.toNat v20_5)) := Nat.one_le_two_pow
                  have mq144_46 : 2 ^ Int.toNat (im75 (Int.toNat v20_5)) ≤ 2 ^ 15 := Nat.pow_le_pow_right (by omega) (by omega)
                  have ms144 := Me_shl (Int.toNat (im75 (Int.toNat v20_5)))
                  obtain ⟨z47, hz47, bz47⟩ := or_2 16 v20_4 ((2 ^ Int.toNat (im75 (Int.toNat v20_5)) : Nat) : Int) (by omega) (by omega) (by decide)
                  refine r_ior (pc := 145) (v := iv z47) dX12_place_145 hz47 ?_
                  have mez47 := Me_or hz47 (by omega) (by omega) (by omega)
                  have hu2 : ∀ b, Me z47 b ↔ Me v20_4 b ∨ b = Int.toNat (v75_6 - 1) := fun b => by rw [mez47 b, ms144 b, hf2]
                  refine r_istore (pc := 146) (lv' := [(4, .int (iv z47)), (0, .ref y), (1, .int (iv x1)), (2, .int (iv x2)), (3, .int (iv (sz (Int.toNat x1)))), (5, .int (iv v20_5)), (6, .int (iv v75_6)), (7, .int (iv v75_7))]) dX12_place_146 (by decide) rfl ?_
                  refine r_iinc (pc := 148) (v := iv (v20_5 + 1)) (lv' := [(5, .int (iv (v20_5 + 1))), (4, .int (iv z47)), (0, .ref y), (1, .int (iv x1)), (2, .int (iv x2)), (3, .int (iv (sz (Int.toNat x1)))), (6, .int (iv v75_6)), (7, .int (iv v75_7))]) dX12_place_148 rfl (iv_add _ _) (by decide) rfl ?_
                  refine r_iload (pc := 151) dX12_place_151 rfl ?_
                  refine r_iload_n (pc := 153) dX12_place_153 (i := 3) rfl rfl ?_
                  refine t_icmp_ge (pc := 154) (tgt := 171) dX12_place_154 (by decide) (by omega) (by omega) (fun c154 => ?_) (fun c154 => ?_)
                  · have hplN : plI (isP (Int.toNat (mn (Int.toNat x1))) (dr (Int.toNat x1)) (sh fr (60 * x1)) (sh tt (60 * x1)) (sh wt (60 * x1)) (sh co (60 * x1)) (sh fr (60 * x2)) (sh tt (60 * x2)) (sh wt (60 * x2)) (sh co (60 * x2))) (sz (Int.toNat x1)) im75 (v20_5 + 1) z47 := pl_y (fun a b w h9 hf9 => is_cg a b w h9 hf9) hpl.1 hf1 (by omega) hus hS75 hf2 (by omega) hf5 hf4 (fun _ _ => rfl) (fun g9 => absurd g9 (by omega)) hu2
                    have hM9 : plM im75 (v20_5 + 1) (sz (Int.toNat x1)) < plM im20 v20_5 (sz (Int.toNat x1)) := plM_u1 (by omega) hS75 (by omega) (by omega)
                    have hN9 : 0 ≤ plM im75 (v20_5 + 1) (sz (Int.toNat x1)) := (plM_nn (by assumption) (fun i hi => (hplN.1.1 i hi).1.1) (by omega)).1
                    refine r_goto (pc := 171) (tgt := 20) dX12_place_171 (by decide) ?_
                    refine Rn.pick (lv' := [(0, .ref y), (1, .int (iv x1)), (2, .int (iv x2)), (3, .int (iv (sz (Int.toNat x1)))), (4, .int (iv z47)), (5, .int (iv (v20_5 + 1)))]) [2, 3, 4, 5, 1, 0] rfl ?_
                    exact ih20 (Int.toNat (plM im75 (v20_5 + 1) (sz (Int.toNat x1)))) (by omega) im75 _ ht75 z47 (v20_5 + 1) ⟨by omega, by omega, by omega, by omega, by assumption, by omega, by (first | exact hplN | exact hpl0)⟩ (by omega)
                  · refine r_aload_n (pc := 157) dX12_place_157 (i := 0) rfl rfl ?_
                    refine t_getE (pc := 158) (.ref (y + 42)) ht75 (rd_of RX_y) fX12_136 dX12_place_158 rfl ?_
                    refine r_iload (pc := 161) dX12_place_161 rfl ?_
                    refine r_iconst (pc := 163) (v := iv (-1)) dX12_place_163 (by decide) ?_
                    refine t_iastX (pc := 164) (t0 := 0) ht75 RX_image dX12_place_164 rfl (by decide) (by omega) (by omega) (fun hp48 ht49 => ?_)
                    have ht50 := RXw_im ht49
                    have hqht50 : Rfx 16 (-1) 15 (fup im75 (Int.toNat (v20_5 + 1)) (-1)) := Rfx_up (by assumption) (by omega)
                    have hplN : plI (isP (Int.toNat (mn (Int.toNat x1))) (dr (Int.toNat x1)) (sh fr (60 * x1)) (sh tt (60 * x1)) (sh wt (60 * x1)) (sh co (60 * x1)) (sh fr (60 * x2)) (sh tt (60 * x2)) (sh wt (60 * x2)) (sh co (60 * x2))) (sz (Int.toNat x1)) (fup im75 (Int.toNat (v20_5 + 1)) (-1)) (v20_5 + 1) z47 := pl_y (fun a b w h9 hf9 => is_cg a b w h9 hf9) hpl.1 hf1 (by omega) hus hS75 hf2 (by omega) hf5 hf4 (fun i hi => if_neg (by omega)) (fun _ => if_pos rfl) hu2
                    have hM9 : plM (fup im75 (Int.toNat (v20_5 + 1)) (-1)) (v20_5 + 1) (sz (Int.toNat x1)) < plM im20 v20_5 (sz (Int.toNat x1)) := plM_u2 (by omega) hS75 (by omega)
                    have hN9 : 0 ≤ plM (fup im75 (Int.toNat (v20_5 + 1)) (-1)) (v20_5 + 1) (sz (Int.toNat x1)) := (plM_nn (by assumption) (fun i hi => (hplN.1.1 i hi).1.1) (by omega)).1
                    refine r_goto (pc := 165) (tgt := 171) dX12_place_165 (by decide) ?_
                    refine r_goto (pc := 171) (tgt := 20) dX12_place_171 (by decide) ?_
                    refine Rn.pick (lv' := [(0, .ref y), (1, .int (iv x1)), (2, .int (iv x2)), (3, .int (iv (sz (Int.toNat x1)))), (4, .int (iv z47)), (5, .int (iv (v20_5 + 1)))]) [2, 3, 4, 5, 1, 0] rfl ?_
                    exact ih20 (Int.toNat (plM (fup im75 (Int.toNat (v20_5 + 1)) (-1)) (v20_5 + 1) (sz (Int.toNat x1)))) (by omega) (fup im75 (Int.toNat (v20_5 + 1)) (-1)) _ ht50 z47 (v20_5 + 1) ⟨by omega, by omega, by omega, by omega, by assumption, by omega, by (first | exact hplN | exact hpl0)⟩ (by omega)
              · have h75 := (by assumption : (v75_7 = 0 ∧ flU (isP (Int.toNat (mn (Int.toNat x1))) (dr (Int.toNat x1)) (sh fr (60 * x1)) (sh tt (60 * x1)) (sh wt (60 * x1)) (sh co (60 * x1)) (sh fr (60 * x2)) (sh tt (60 * x2)) (sh wt (60 * x2)) (sh co (60 * x2))) (sz (Int.toNat x1)) im20 v20_5 v75_6) ∨ (v75_7 = 1 ∧ flU (isP (Int.toNat (mn (Int.toNat x1))) (dr (Int.toNat x1)) (sh fr (60 * x1)) (sh tt (60 * x1)) (sh wt (60 * x1)) (sh co (60 * x1)) (sh fr (60 * x2)) (sh tt (60 * x2)) (sh wt (60 * x2)) (sh co (60 * x2))) (sz (Int.toNat x1)) im20 v20_5 (v75_6 - 1) ∧ im75 (Int.toNat v20_5) = v75_6 - 1 ∧ (im20 (Int.toNat v20_5) + 1 ≤ v75_6 - 1 ∧ v75_6 - 1 < (sz (Int.toNat x1))) ∧ (isP (Int.toNat (mn (Int.toNat x1))) (dr (Int.toNat x1)) (sh fr (60 * x1)) (sh tt (60 * x1)) (sh wt (60 * x1)) (sh co (60 * x1)) (sh fr (60 * x2)) (sh tt (60 * x2)) (sh wt (60 * x2)) (sh co (60 * x2))) im75 v20_5 ∧ ¬ Me v20_4 (Int.toNat (v75_6 - 1))))
                have hfl := (h75.resolve_right (fun g9 => by have := g9.1; omega)).2
                clear h75
                refine r_aload_n (pc := 86) dX12_place_86 (i := 0) rfl rfl ?_
                refine t_getE (pc := 87) (.ref (y + 42)) ht75 (rd_of RX_y) fX12_136 dX12_place_87 rfl ?_
                refine r_iload (pc := 90) dX12_place_90 rfl ?_
                refine r_iload (pc := 92) dX12_place_92 rfl ?_
                refine t_iastX (pc := 94) (t0 := 0) ht75 RX_image dX12_place_94 rfl (by decide) (by omega) (by omega) (fun hp51 ht52 => ?_)
                have ht53 := RXw_im ht52
                have hqht53 : Rfx 16 (-1) 15 (fup im75 (Int.toNat v20_5) v75_6) := Rfx_up (by assumption) (by omega)
                have hS94 : Sm im20 (fup im75 (Int.toNat v20_5) v75_6) v20_5 := Sm_up (by assumption)
                have hV94 : (fup im75 (Int.toNat v20_5) v75_6) (Int.toNat v20_5) = v75_6 := if_pos rfl
                have hpf9 : ∀ i : Nat, (i : Int) ≤ v20_5 → 0 ≤ (fup im75 (Int.toNat v20_5) v75_6) i := fun i hi => by
                  by_cases e9 : i = (Int.toNat v20_5)
                  · rw [e9, hV94]; omega
                  · rw [hS94 i e9]; exact hpf0 i (by omega)
                refine r_iload (pc := 95) dX12_place_95 rfl ?_
                refine r_iload (pc := 97) dX12_place_97 rfl ?_
                have hq99_54 := shr_le (Int.toNat v20_4) (Int.toNat v75_6)
                refine r_ishr (pc := 99) (v := iv ((Int.toNat v20_4 >>> Int.toNat v75_6 : Nat) : Int)) dX12_place_99 (shr_e (by omega) (by omega)) ?_
                refine r_iconst (pc := 100) (v := iv 1) dX12_place_100 (by decide) ?_
                refine r_iand (pc := 101) (v := iv (((Int.toNat v20_4 >>> Int.toNat v75_6 : Nat) : Int) % 2)) dX12_place_101 (and1_e _ (by omega)) ?_
                have mb101 := @Me_bit v20_4 v75_6
                refine t_if_ne (pc := 102) (tgt := 120) dX12_place_102 (by decide) (by omega) (fun c102 => ?_) (fun c102 => ?_)
                · have pm102 : Me v20_4 (Int.toNat v75_6) := Me_bit.mp (by omega)
                  have hfl1 := fl_up (fun a b w h9 hf9 => is_cg a b w h9 hf9) hfl (by omega) hus hS94 hV94 (fun g9 => absurd pm102 g9)
                  refine r_iconst (pc := 120) (v := iv 0) dX12_place_120 (by decide) ?_
                  refine r_istore (pc := 121) (lv' := [(7, .int (iv 0)), (0, .ref y), (1, .int (iv x1)), (2, .int (iv x2)), (3, .int (iv (sz (Int.toNat x1)))), (4, .int (iv v20_4)), (5, .int (iv v20_5)), (6, .int (iv v75_6))]) dX12_place_121 (by decide) rfl ?_
                  refine r_iinc (pc := 123) (v := iv (v75_6 + 1)) (lv' := [(6, .int (iv (v75_6 + 1))), (7, .int (iv 0)), (0, .ref y), (1, .int (iv x1)), (2, .int (iv x2)), (3, .int (iv (sz (Int.toNat x1)))), (4, .int (iv v20_4)), (5, .int (iv v20_5))]) dX12_place_123 rfl (iv_add _ _) (by decide) rfl ?_
                  refine r_goto (pc := 126) (tgt := 75) dX12_place_126 (by decide) ?_
                  refine Rn.pick (lv' := [(0, .ref y), (1, .int (iv x1)), (2, .int (iv x2)), (3, .int (iv (sz (Int.toNat x1)))), (4, .int (iv v20_4)), (5, .int (iv v20_5)), (6, .int (iv (v75_6 + 1))), (7, .int (iv 0))]) [2, 3, 4, 5, 6, 7, 0, 1] rfl ?_
                  exact ih75 (Int.toNat (16 - (v75_6 + 1))) (by omega) (fup im75 (Int.toNat v20_5) v75_6) _ ht53 (v75_6 + 1) 0 ⟨by omega, by omega, by omega, by omega, by omega, by assumption, by omega, by (first | exact hS94 | exact hS73), by (first | exact Or.inr ⟨rfl, hfnd⟩ | exact Or.inl ⟨rfl, hfl1⟩ | exact Or.inl ⟨rfl, hfl73⟩)⟩ (by omega)
                · have nm102 : ¬ Me v20_4 (Int.toNat v75_6) := fun h9 => absurd (Me_bit.mpr h9) (by omega)
                  refine r_aload_n (pc := 105) dX12_place_105 (i := 0) rfl rfl ?_
                  refine r_iload_n (pc := 106) dX12_place_106 (i := 1) rfl rfl ?_
                  refine r_iload_n (pc := 107) dX12_place_107 (i := 2) rfl rfl ?_
                  refine r_iload (pc := 108) dX12_place_108 rfl ?_
                  obtain ⟨fs59, hfs59⟩ := t_obj ht53 (rd_of RX_y)
                  refine r_callV (pc := 110) (as := [.int (iv x1), .int (iv x2), .int (iv v20_5)]) (st := []) kX12_391 rfl dX12_place_110 hfs59 (x_X12_fits (d := d - 1) (x1 := x1) (x2 := x2) (x3 := v20_5) (by omega) (by assumption) (by assumption) (by assumption) (by assumption) (by assumption) (by assumption) (by assumption) ht53 (by omega) (by omega) (by omega) (by assumption) (by assumption) (by assumption) (fun _ _ _ h => h)) rfl (by omega) (Nat.le_of_ble_eq_true rfl) (Nat.zero_le _) (Nat.zero_le _) rfl (fun r56 hp55 n57 hq58 => ?_)
                  obtain ⟨hnn57, r9_61, ht60, hrr56, hhq580, hhq581⟩ := hq58
                  subst n57 r56
                  have hhq580 : 0 ≤ r9_61 ∧ r9_61 ≤ 1 := hhq580
                  have hhq581 : (r9_61 = 1 ∧ ftP (Int.toNat (mn (Int.toNat x1))) (dr (Int.toNat x1)) (sh fr (60 * x1)) (sh tt (60 * x1)) (sh wt (60 * x1)) (sh co (60 * x1)) (sh fr (60 * x2)) (sh tt (60 * x2)) (sh wt (60 * x2)) (sh co (60 * x2)) (fup im75 (Int.toNat v20_5) v75_6) v20_5) ∨ (r9_61 = 0 ∧ ¬ ftP (Int.toNat (mn (Int.toNat x1))) (dr (Int.toNat x1)) (sh fr (60 * x1)) (sh tt (60 * x1)) (sh wt (60 * x1)) (sh co (60 * x1)) (sh fr (60 * x2)) (sh tt (60 * x2)) (sh wt (60 * x2)) (sh co (60 * x2)) (fup im75 (Int.toNat v20_5) v75_6) v20_5) := hhq581
                  change Rn _ _ _ 113 _ [.int (iv r9_61)] _ _ _ _ _
                  refine t_if_eq (pc := 113) (tgt := 120) dX12_place_113 (by decide) (by omega) (fun c113 => ?_) (fun c113 => ?_)
                  · have hnf := (Or.resolve_left hhq581 (fun g9 => by have := g9.1; omega)).2
                    have hfl1 := fl_up (fun a b w h9 hf9 => is_cg a b w h9 hf9) hfl (by omega) hus hS94 hV94 (fun _ g9 => hnf (g9 (by omega)))
                    clear hhq581
                    refine r_iconst (pc := 120) (v := iv 0) dX12_place_120 (by decide) ?_
                    refine r_istore (pc := 121) (lv' := [(7, .int (iv 0)), (0, .ref y), (1, .int (iv x1)), (2, .int (iv x2)), (3, .int (iv (sz (Int.toNat x1)))), (4, .int (iv v20_4)), (5, .int (iv v20_5)), (6, .int (iv v75_6))]) dX12_place_121 (by decide) rfl ?_
                    refine r_iinc (pc := 123) (v := iv (v75_6 + 1)) (lv' := [(6, .int (iv (v75_6 + 1))), (7, .int (iv 0)), (0, .ref y), (1, .int (iv x1)), (2, .int (iv x2)), (3, .int (iv (sz (Int.toNat x1)))), (4, .int (iv v20_4)), (5, .int (iv v20_5))]) dX12_place_123 rfl (iv_add _ _) (by decide) rfl ?_
                    refine r_goto (pc := 126) (tgt := 75) dX12_place_126 (by decide) ?_
                    refine Rn.pick (lv' := [(0, .ref y), (1, .int (iv x1)), (2, .int (iv x2)), (3, .int (iv (sz (Int.toNat x1)))), (4, .int (iv v20_4)), (5, .int (iv v20_5)), (6, .int (iv (v75_6 + 1))), (7, .int (iv 0))]) [2, 3, 4, 5, 6, 7, 0, 1] rfl ?_
                    exact ih75 (Int.toNat (16 - (v75_6 + 1))) (by omega) (fup im75 (Int.toNat v20_5) v75_6) _ ht60 (v75_6 + 1) 0 ⟨by omega, by omega, by omega, by omega, by omega, by assumption, by omega, by (first | exact hS94 | exact hS73), by (first | exact Or.inr ⟨rfl, hfnd⟩ | exact Or.inl ⟨rfl, hfl1⟩ | exact Or.inl ⟨rfl, hfl73⟩)⟩ (by omega)
                  · have hyf := (Or.resolve_right hhq581 (fun g9 => by have := g9.1; omega)).2
                    have hfnd : flU (isP (Int.toNat (mn (Int.toNat x1))) (dr (Int.toNat x1)) (sh fr (60 * x1)) (sh tt (60 * x1)) (sh wt (60 * x1)) (sh co (60 * x1)) (sh fr (60 * x2)) (sh tt (60 * x2)) (sh wt (60 * x2)) (sh co (60 * x2))) (sz (Int.toNat x1)) im20 v20_5 (v75_6 + 1 - 1) ∧ (fup im75 (Int.toNat v20_5) v75_6) (Int.toNat v20_5) = v75_6 + 1 - 1 ∧ (im20 (Int.toNat v20_5) + 1 ≤ v75_6 + 1 - 1 ∧ v75_6 + 1 - 1 < (sz (Int.toNat x1))) ∧ (isP (Int.toNat (mn (Int.toNat x1))) (dr (Int.toNat x1)) (sh fr (60 * x1)) (sh tt (60 * x1)) (sh wt (60 * x1)) (sh co (60 * x1)) (sh fr (60 * x2)) (sh tt (60 * x2)) (sh wt (60 * x2)) (sh co (60 * x2))) (fup im75 (Int.toNat v20_5) v75_6) v20_5 ∧ ¬ Me v20_4 (Int.toNat (v75_6 + 1 - 1)) := by
                      rw [show v75_6 + 1 - 1 = v75_6 by omega]
                      exact ⟨hfl, hV94, by omega, fun _ => hyf, nm102⟩
                    clear hhq581
                    refine r_iconst (pc := 116) (v := iv 1) dX12_place_116 (by decide) ?_
                    refine r_goto (pc := 117) (tgt := 121) dX12_place_117 (by decide) ?_
                    refine r_istore (pc := 121) (lv' := [(7, .int (iv 1)), (0, .ref y), (1, .int (iv x1)), (2, .int (iv x2)), (3, .int (iv (sz (Int.toNat x1)))), (4, .int (iv v20_4)), (5, .int (iv v20_5)), (6, .int (iv v75_6))]) dX12_place_121 (by decide) rfl ?_
                    refine r_iinc (pc := 123) (v := iv (v75_6 + 1)) (lv' := [(6, .int (iv (v75_6 + 1))), (7, .int (iv 1)), (0, .ref y), (1, .int (iv x1)), (2, .int (iv x2)), (3, .int (iv (sz (Int.toNat x1)))), (4, .int (iv v20_4)), (5, .int (iv v20_5))]) dX12_place_123 rfl (iv_add _ _) (by decide) rfl ?_
                    refine r_goto (pc := 126) (tgt := 75) dX12_place_126 (by decide) ?_
                    refine Rn.pick (lv' := [(0, .ref y), (1, .int (iv x1)), (2, .int (iv x2)), (3, .int (iv (sz (Int.toNat x1)))), (4, .int (iv v20_4)), (5, .int (iv v20_5)), (6, .int (iv (v75_6 + 1))), (7, .int (iv 1))]) [2, 3, 4, 5, 6, 7, 0, 1] rfl ?_
                    exact ih75 (Int.toNat (16 - (v75_6 + 1))) (by omega) (fup im75 (Int.toNat v20_5) v75_6) _ ht60 (v75_6 + 1) 1 ⟨by omega, by omega, by omega, by omega, by omega, by assumption, by omega, by (first | exact hS94 | exact hS73), by (first | exact Or.inr ⟨rfl, hfnd⟩ | exact Or.inl ⟨rfl, hfl1⟩ | exact Or.inl ⟨rfl, hfl73⟩)⟩ (by omega)
          refine Rn.pick (lv' := [(0, .ref y), (1, .int (iv x1)), (2, .int (iv x2)), (3, .int (iv (sz (Int.toNat x1)))), (4, .int (iv v20_4)), (5, .int (iv v20_5)), (6, .int (iv ((im20 (Int.toNat v20_5)) + 1))), (7, .int (iv 0))]) [3, 4, 5, 6, 2, 7, 1, 0] rfl ?_
          exact B75 (Int.toNat (16 - ((im20 (Int.toNat v20_5)) + 1))) im20 _ ht20 ((im20 (Int.toNat v20_5)) + 1) 0 ⟨by omega, by omega, by omega, by omega, by omega, by assumption, by omega, by (first | exact hS94 | exact hS73), by (first | exact Or.inr ⟨rfl, hfnd⟩ | exact Or.inl ⟨rfl, hfl1⟩ | exact Or.inl ⟨rfl, hfl73⟩)⟩ (by omega)
  refine Rn.pick (lv' := [(0, .ref y), (1, .int (iv x1)), (2, .int (iv x2)), (3, .int (iv (sz (Int.toNat x1)))), (4, .int (iv 0)), (5, .int (iv 0))]) [3, 4, 5, 2, 1, 0] rfl ?_
  exact B20 (Int.toNat (plM (fup im (Int.toNat 0) (-1)) 0 (sz (Int.toNat x1)))) (fup im (Int.toNat 0) (-1)) _ ht4 0 0 ⟨by omega, by omega, by omega, by omega, by assumption, by omega, by (first | exact hplN | exact hpl0)⟩ (by omega)
