set_option maxHeartbeats 4000000 in
set_option maxRecDepth 100000 in
theorem x_X12_alike {D : va_G} {cI cJ cZ cT : ClassId} {lo b L : Nat} {xs : Nat → Int32} {hp : MH} {n d : Nat} {Γ : TG} {y : Nat} {rf cn nm : Int} {so sz dr mn fr tt wt co : Nat → Int} {nu : Nat → Int64} {sa : Nat → Int} {wo : Nat → Int64} {ln : Nat → Int} {hw : Nat → Int64} {ro qi qc nf nt nw nc : Nat → Int} {cl nx : Nat → Int64} {ie be sd bl : Nat → Int} {bs wy ra rb : Nat → Int64} {lb bg os js ls : Nat → Int} {sp : Nat → Int64} {jw go : Nat → Int} {de : Nat → Int64} {yb ah im : Nat → Int} {x1 x2 x3 x4 : Int} {Po9 : Option Value → MH → Nat → Prop} (hd0 : 4 ≤ d) (hR_sizes : Rfx 121 0 16 sz) (hR_many : Rfx 121 0 60 mn) (hR_from : Rfx 7260 0 15 fr) (hR_to : Rfx 7260 0 15 tt) (hR_weight : Rfx 7260 (-1000) 1000 wt) (hR_cost : Rfx 7260 (-1000) 1000 co) (hR_directs : Rfx 121 0 1 dr) (hR_image : Rfx 16 (-1) 15 im) (ht : Tw (RX Γ cI cJ cZ y rf cn nm so sz dr mn fr tt wt co nu sa wo ln hw ro qi qc nf nt nw nc cl nx ie be sd bl bs wy ra rb lb bg os js ls sp jw go de yb ah im) hp) (hx1 : 0 ≤ x1 ∧ x1 ≤ 120) (hx2 : 0 ≤ x2 ∧ x2 ≤ 120) (hx3 : 0 ≤ x3 ∧ x3 ≤ 1) (hx4 : (-2147483648) ≤ x4 ∧ x4 ≤ 2147483647) (hn1 : 0 < (sz (Int.toNat x1))) (hx9 : x3 = 0 → 0 ≤ x4 ∧ x4 < (sz (Int.toNat x1))) (hPo : ∀ r hp1 n1, (n1 = n ∧ ∃ (q9 : Int64) (w1 : Nat → Int), Tw (RX Γ cI cJ cZ y rf cn nm so sz dr mn fr tt wt co nu sa wo ln hw ro qi qc nf nt nw nc cl nx ie be sd bl bs wy ra rb lb bg os js ls sp jw go de yb ah w1) hp1 ∧ r = some (.long q9) ∧ (((sz (Int.toNat x2) = sz (Int.toNat x1) ∧ dr (Int.toNat x2) = dr (Int.toNat x1) ∧ mn (Int.toNat x2) = mn (Int.toNat x1)) ∧ ∃ im9, lxA (isP (Int.toNat (mn (Int.toNat x1))) (dr (Int.toNat x1)) (sh fr (60 * x1)) (sh tt (60 * x1)) (sh wt (60 * x1)) (sh co (60 * x1)) (sh fr (60 * x2)) (sh tt (60 * x2)) (sh wt (60 * x2)) (sh co (60 * x2))) (sz (Int.toNat x1)) im9 ∧ q9.toInt = (if x3 = 0 then im9 (Int.toNat x4) else 1)) ∨ (¬ ((sz (Int.toNat x2) = sz (Int.toNat x1) ∧ dr (Int.toNat x2) = dr (Int.toNat x1) ∧ mn (Int.toNat x2) = mn (Int.toNat x1)) ∧ ∃ im9, vaP (isP (Int.toNat (mn (Int.toNat x1))) (dr (Int.toNat x1)) (sh fr (60 * x1)) (sh tt (60 * x1)) (sh wt (60 * x1)) (sh co (60 * x1)) (sh fr (60 * x2)) (sh tt (60 * x2)) (sh wt (60 * x2)) (sh co (60 * x2))) (sz (Int.toNat x1)) im9) ∧ q9.toInt = (if x3 = 0 then -1 else 0))) ∧ (Rfx 16 (-1) 15 w1)) → Po9 r hp1 n1) : Mt (gG D cI cJ cZ cT lo b L xs) mX12_alike d 0 0 [.ref y, .int (iv x1), .int (iv x2), .int (iv x3), .int (iv x4)] hp n Po9 := by
  refine Mt.of rfl (Nat.le_of_ble_eq_true rfl) ?_
  refine Rn.pick (lv' := [(0, .ref y), (1, .int (iv x1)), (2, .int (iv x2)), (3, .int (iv x3)), (4, .int (iv x4))]) [0, 1, 2, 3, 4] rfl ?_
  have rsz := hR_sizes (Int.toNat x1) (by omega)
  refine r_aload_n (pc := 0) dX12_alike_0 (i := 0) rfl rfl ?_
  refine t_getE (pc := 1) (.ref (y + 2)) ht (rd_of RX_y) fX12_13 dX12_alike_1 rfl ?_
  refine r_iload_n (pc := 4) dX12_alike_4 (i := 1) rfl rfl ?_
  refine t_ialdX (pc := 5) (t0 := 0) ht (rd_of RX_sizes) dX12_alike_5 rfl (by decide) (by omega) (fun b1 => ?_)
  have rb1 := (show Rfx 121 0 16 sz by assumption) (Int.toNat x1) (by omega)
  refine r_aload_n (pc := 6) dX12_alike_6 (i := 0) rfl rfl ?_
  refine t_getE (pc := 7) (.ref (y + 2)) ht (rd_of RX_y) fX12_13 dX12_alike_7 rfl ?_
  refine r_iload_n (pc := 10) dX12_alike_10 (i := 2) rfl rfl ?_
  refine t_ialdX (pc := 11) (t0 := 0) ht (rd_of RX_sizes) dX12_alike_11 rfl (by decide) (by omega) (fun b2 => ?_)
  have rb2 := (show Rfx 121 0 16 sz by assumption) (Int.toNat x2) (by omega)
  refine t_icmp_ne (pc := 12) (tgt := 58) dX12_alike_12 (by decide) (by omega) (by omega) (fun c12 => ?_) (fun c12 => ?_)
  · have hse0 : ¬ ((sz (Int.toNat x2) = sz (Int.toNat x1) ∧ dr (Int.toNat x2) = dr (Int.toNat x1) ∧ mn (Int.toNat x2) = mn (Int.toNat x1)) ∧ ∃ im9, vaP (isP (Int.toNat (mn (Int.toNat x1))) (dr (Int.toNat x1)) (sh fr (60 * x1)) (sh tt (60 * x1)) (sh wt (60 * x1)) (sh co (60 * x1)) (sh fr (60 * x2)) (sh tt (60 * x2)) (sh wt (60 * x2)) (sh co (60 * x2))) (sz (Int.toNat x1)) im9) := fun g9 => by have := g9.1; omega
    refine r_iconst (pc := 58) (v := iv 0) dX12_alike_58 (by decide) ?_
    refine r_istore (pc := 59) (lv' := [(5, .int (iv 0)), (0, .ref y), (1, .int (iv x1)), (2, .int (iv x2)), (3, .int (iv x3)), (4, .int (iv x4))]) dX12_alike_59 (by decide) rfl ?_
    refine r_iload_n (pc := 61) dX12_alike_61 (i := 3) rfl rfl ?_
    refine t_if_eq (pc := 62) (tgt := 78) dX12_alike_62 (by decide) (by omega) (fun c62 => ?_) (fun c62 => ?_)
    · refine r_iload (pc := 78) dX12_alike_78 rfl ?_
      refine t_if_eq (pc := 80) (tgt := 94) dX12_alike_80 (by decide) (by omega) (fun c80 => ?_) (fun c80 => ?_)
      · refine r_ldc2 (pc := 94) (v := (-1)) dX12_alike_94 kX12_357 ?_
        have hk94 : ((-1) : Int64).toInt = (-1) := by decide
        exact r_lret (pc := 97) dX12_alike_97 rfl (hPo _ _ _ ⟨rfl, ((-1) : Int64), im, ht, rfl, (by exact Or.inr ⟨hse0, by rw [if_pos (by omega)]; exact hk94⟩), (by assumption)⟩)
      · exfalso
        omega
    · refine r_iload (pc := 65) dX12_alike_65 rfl ?_
      refine t_if_eq (pc := 67) (tgt := 74) dX12_alike_67 (by decide) (by omega) (fun c67 => ?_) (fun c67 => ?_)
      · refine r_lconst (pc := 74) (v := 0) dX12_alike_74 (by decide) ?_
        have hk74 : (0 : Int64).toInt = 0 := by decide
        refine r_goto (pc := 75) (tgt := 97) dX12_alike_75 (by decide) ?_
        exact r_lret (pc := 97) dX12_alike_97 rfl (hPo _ _ _ ⟨rfl, (0 : Int64), im, ht, rfl, (by exact Or.inr ⟨hse0, by rw [if_neg (by omega)]; exact hk74⟩), (by assumption)⟩)
      · exfalso
        omega
  · refine r_aload_n (pc := 15) dX12_alike_15 (i := 0) rfl rfl ?_
    refine t_getE (pc := 16) (.ref (y + 3)) ht (rd_of RX_y) fX12_16 dX12_alike_16 rfl ?_
    refine r_iload_n (pc := 19) dX12_alike_19 (i := 1) rfl rfl ?_
    refine t_zaldX (pc := 20) (t0 := 2) ht (rd_of RX_directs) dX12_alike_20 rfl (by decide) (by omega) (fun b3 => ?_)
    have rb3 := (show Rfx 121 0 1 dr by assumption) (Int.toNat x1) (by omega)
    refine r_aload_n (pc := 21) dX12_alike_21 (i := 0) rfl rfl ?_
    refine t_getE (pc := 22) (.ref (y + 3)) ht (rd_of RX_y) fX12_16 dX12_alike_22 rfl ?_
    refine r_iload_n (pc := 25) dX12_alike_25 (i := 2) rfl rfl ?_
    refine t_zaldX (pc := 26) (t0 := 2) ht (rd_of RX_directs) dX12_alike_26 rfl (by decide) (by omega) (fun b4 => ?_)
    have rb4 := (show Rfx 121 0 1 dr by assumption) (Int.toNat x2) (by omega)
    refine t_icmp_ne (pc := 27) (tgt := 58) dX12_alike_27 (by decide) (by omega) (by omega) (fun c27 => ?_) (fun c27 => ?_)
    · have hse0 : ¬ ((sz (Int.toNat x2) = sz (Int.toNat x1) ∧ dr (Int.toNat x2) = dr (Int.toNat x1) ∧ mn (Int.toNat x2) = mn (Int.toNat x1)) ∧ ∃ im9, vaP (isP (Int.toNat (mn (Int.toNat x1))) (dr (Int.toNat x1)) (sh fr (60 * x1)) (sh tt (60 * x1)) (sh wt (60 * x1)) (sh co (60 * x1)) (sh fr (60 * x2)) (sh tt (60 * x2)) (sh wt (60 * x2)) (sh co (60 * x2))) (sz (Int.toNat x1)) im9) := fun g9 => by have := g9.1; omega
      refine r_iconst (pc := 58) (v := iv 0) dX12_alike_58 (by decide) ?_
      refine r_istore (pc := 59) (lv' := [(5, .int (iv 0)), (0, .ref y), (1, .int (iv x1)), (2, .int (iv x2)), (3, .int (iv x3)), (4, .int (iv x4))]) dX12_alike_59 (by decide) rfl ?_
      refine r_iload_n (pc := 61) dX12_alike_61 (i := 3) rfl rfl ?_
      refine t_if_eq (pc := 62) (tgt := 78) dX12_alike_62 (by decide) (by omega) (fun c62 => ?_) (fun c62 => ?_)
      · refine r_iload (pc := 78) dX12_alike_78 rfl ?_
        refine t_if_eq (pc := 80) (tgt := 94) dX12_alike_80 (by decide) (by omega) (fun c80 => ?_) (fun c80 => ?_)
        · refine r_ldc2 (pc := 94) (v := (-1)) dX12_alike_94 kX12_357 ?_
          have hk94 : ((-1) : Int64).toInt = (-1) := by decide
          exact r_lret (pc := 97) dX12_alike_97 rfl (hPo _ _ _ ⟨rfl, ((-1) : Int64), im, ht, rfl, (by exact Or.inr ⟨hse0, by rw [if_pos (by omega)]; exact hk94⟩), (by assumption)⟩)
        · exfalso
          omega
      · refine r_iload (pc := 65) dX12_alike_65 rfl ?_
        refine t_if_eq (pc := 67) (tgt := 74) dX12_alike_67 (by decide) (by omega) (fun c67 => ?_) (fun c67 => ?_)
        · refine r_lconst (pc := 74) (v := 0) dX12_alike_74 (by decide) ?_
          have hk74 : (0 : Int64).toInt = 0 := by decide
          refine r_goto (pc := 75) (tgt := 97) dX12_alike_75 (by decide) ?_
          exact r_lret (pc := 97) dX12_alike_97 rfl (hPo _ _ _ ⟨rfl, (0 : Int64), im, ht, rfl, (by exact Or.inr ⟨hse0, by rw [if_neg (by omega)]; exact hk74⟩), (by assumption)⟩)
        · exfalso
          omega
    · refine r_aload_n (pc := 30) dX12_alike_30 (i := 0) rfl rfl ?_
      refine t_getE (pc := 31) (.ref (y + 4)) ht (rd_of RX_y) fX12_20 dX12_alike_31 rfl ?_
      refine r_iload_n (pc := 34) dX12_alike_34 (i := 1) rfl rfl ?_
      refine t_ialdX (pc := 35) (t0 := 0) ht (rd_of RX_many) dX12_alike_35 rfl (by decide) (by omega) (fun b5 => ?_)
      have rb5 := (show Rfx 121 0 60 mn by assumption) (Int.toNat x1) (by omega)
      refine r_aload_n (pc := 36) dX12_alike_36 (i := 0) rfl rfl ?_
      refine t_getE (pc := 37) (.ref (y + 4)) ht (rd_of RX_y) fX12_20 dX12_alike_37 rfl ?_
      refine r_iload_n (pc := 40) dX12_alike_40 (i := 2) rfl rfl ?_
      refine t_ialdX (pc := 41) (t0 := 0) ht (rd_of RX_many) dX12_alike_41 rfl (by decide) (by omega) (fun b6 => ?_)
      have rb6 := (show Rfx 121 0 60 mn by assumption) (Int.toNat x2) (by omega)
      refine t_icmp_ne (pc := 42) (tgt := 58) dX12_alike_42 (by decide) (by omega) (by omega) (fun c42 => ?_) (fun c42 => ?_)
      · have hse0 : ¬ ((sz (Int.toNat x2) = sz (Int.toNat x1) ∧ dr (Int.toNat x2) = dr (Int.toNat x1) ∧ mn (Int.toNat x2) = mn (Int.toNat x1)) ∧ ∃ im9, vaP (isP (Int.toNat (mn (Int.toNat x1))) (dr (Int.toNat x1)) (sh fr (60 * x1)) (sh tt (60 * x1)) (sh wt (60 * x1)) (sh co (60 * x1)) (sh fr (60 * x2)) (sh tt (60 * x2)) (sh wt (60 * x2)) (sh co (60 * x2))) (sz (Int.toNat x1)) im9) := fun g9 => by have := g9.1; omega
        refine r_iconst (pc := 58) (v := iv 0) dX12_alike_58 (by decide) ?_
        refine r_istore (pc := 59) (lv' := [(5, .int (iv 0)), (0, .ref y), (1, .int (iv x1)), (2, .int (iv x2)), (3, .int (iv x3)), (4, .int (iv x4))]) dX12_alike_59 (by decide) rfl ?_
        refine r_iload_n (pc := 61) dX12_alike_61 (i := 3) rfl rfl ?_
        refine t_if_eq (pc := 62) (tgt := 78) dX12_alike_62 (by decide) (by omega) (fun c62 => ?_) (fun c62 => ?_)
        · refine r_iload (pc := 78) dX12_alike_78 rfl ?_
          refine t_if_eq (pc := 80) (tgt := 94) dX12_alike_80 (by decide) (by omega) (fun c80 => ?_) (fun c80 => ?_)
          · refine r_ldc2 (pc := 94) (v := (-1)) dX12_alike_94 kX12_357 ?_
            have hk94 : ((-1) : Int64).toInt = (-1) := by decide
            exact r_lret (pc := 97) dX12_alike_97 rfl (hPo _ _ _ ⟨rfl, ((-1) : Int64), im, ht, rfl, (by exact Or.inr ⟨hse0, by rw [if_pos (by omega)]; exact hk94⟩), (by assumption)⟩)
          · exfalso
            omega
        · refine r_iload (pc := 65) dX12_alike_65 rfl ?_
          refine t_if_eq (pc := 67) (tgt := 74) dX12_alike_67 (by decide) (by omega) (fun c67 => ?_) (fun c67 => ?_)
          · refine r_lconst (pc := 74) (v := 0) dX12_alike_74 (by decide) ?_
            have hk74 : (0 : Int64).toInt = 0 := by decide
            refine r_goto (pc := 75) (tgt := 97) dX12_alike_75 (by decide) ?_
            exact r_lret (pc := 97) dX12_alike_97 rfl (hPo _ _ _ ⟨rfl, (0 : Int64), im, ht, rfl, (by exact Or.inr ⟨hse0, by rw [if_neg (by omega)]; exact hk74⟩), (by assumption)⟩)
          · exfalso
            omega
      · refine r_aload_n (pc := 45) dX12_alike_45 (i := 0) rfl rfl ?_
        refine r_iload_n (pc := 46) dX12_alike_46 (i := 1) rfl rfl ?_
        refine r_iload_n (pc := 47) dX12_alike_47 (i := 2) rfl rfl ?_
        obtain ⟨fs11, hfs11⟩ := t_obj ht (rd_of RX_y)
        refine r_callV (pc := 48) (as := [.int (iv x1), .int (iv x2)]) (st := []) kX12_388 rfl dX12_alike_48 hfs11 (x_X12_place (d := d - 1) (x1 := x1) (x2 := x2) (by omega) (by assumption) (by assumption) (by assumption) (by assumption) (by assumption) (by assumption) (by assumption) (by assumption) ht (by omega) (by omega) (by omega) (by omega) (by omega) (fun _ _ _ h => h)) rfl (by omega) (Nat.le_of_ble_eq_true rfl) (Nat.zero_le _) (Nat.zero_le _) rfl (fun r8 hp7 n9 hq10 => ?_)
        obtain ⟨hnn9, r9_13, w1_14, ht12, hrr8, hhq100, hhq101, hhq102⟩ := hq10
        subst n9 r8
        have hhq100 : 0 ≤ r9_13 ∧ r9_13 ≤ 1 := hhq100
        have hhq101 : (r9_13 = 1 ∧ lxA (isP (Int.toNat (mn (Int.toNat x1))) (dr (Int.toNat x1)) (sh fr (60 * x1)) (sh tt (60 * x1)) (sh wt (60 * x1)) (sh co (60 * x1)) (sh fr (60 * x2)) (sh tt (60 * x2)) (sh wt (60 * x2)) (sh co (60 * x2))) (sz (Int.toNat x1)) w1_14) ∨ (r9_13 = 0 ∧ ∀ im9, ¬ vaP (isP (Int.toNat (mn (Int.toNat x1))) (dr (Int.toNat x1)) (sh fr (60 * x1)) (sh tt (60 * x1)) (sh wt (60 * x1)) (sh co (60 * x1)) (sh fr (60 * x2)) (sh tt (60 * x2)) (sh wt (60 * x2)) (sh co (60 * x2))) (sz (Int.toNat x1)) im9) := hhq101
        have hhq102 : Rfx 16 (-1) 15 w1_14 := hhq102
        change Rn _ _ _ 51 _ [.int (iv r9_13)] _ _ _ _ _
        refine t_if_eq (pc := 51) (tgt := 58) dX12_alike_51 (by decide) (by omega) (fun c51 => ?_) (fun c51 => ?_)
        · have hse : (sz (Int.toNat x2) = sz (Int.toNat x1) ∧ dr (Int.toNat x2) = dr (Int.toNat x1) ∧ mn (Int.toNat x2) = mn (Int.toNat x1)) := by omega
          have hse0 : ¬ ((sz (Int.toNat x2) = sz (Int.toNat x1) ∧ dr (Int.toNat x2) = dr (Int.toNat x1) ∧ mn (Int.toNat x2) = mn (Int.toNat x1)) ∧ ∃ im9, vaP (isP (Int.toNat (mn (Int.toNat x1))) (dr (Int.toNat x1)) (sh fr (60 * x1)) (sh tt (60 * x1)) (sh wt (60 * x1)) (sh co (60 * x1)) (sh fr (60 * x2)) (sh tt (60 * x2)) (sh wt (60 * x2)) (sh co (60 * x2))) (sz (Int.toNat x1)) im9) := fun g9 => by
            obtain ⟨-, im9, h9⟩ := g9
            exact (Or.resolve_left hhq101 (fun g8 => by have := g8.1; omega)).2 im9 h9
          refine r_iconst (pc := 58) (v := iv 0) dX12_alike_58 (by decide) ?_
          refine r_istore (pc := 59) (lv' := [(5, .int (iv 0)), (0, .ref y), (1, .int (iv x1)), (2, .int (iv x2)), (3, .int (iv x3)), (4, .int (iv x4))]) dX12_alike_59 (by decide) rfl ?_
          refine r_iload_n (pc := 61) dX12_alike_61 (i := 3) rfl rfl ?_
          refine t_if_eq (pc := 62) (tgt := 78) dX12_alike_62 (by decide) (by omega) (fun c62 => ?_) (fun c62 => ?_)
          · refine r_iload (pc := 78) dX12_alike_78 rfl ?_
            refine t_if_eq (pc := 80) (tgt := 94) dX12_alike_80 (by decide) (by omega) (fun c80 => ?_) (fun c80 => ?_)
            · refine r_ldc2 (pc := 94) (v := (-1)) dX12_alike_94 kX12_357 ?_
              have hk94 : ((-1) : Int64).toInt = (-1) := by decide
              exact r_lret (pc := 97) dX12_alike_97 rfl (hPo _ _ _ ⟨rfl, ((-1) : Int64), w1_14, ht12, rfl, (by exact Or.inr ⟨hse0, by rw [if_pos (by omega)]; exact hk94⟩), (by assumption)⟩)
            · exfalso
              omega
          · refine r_iload (pc := 65) dX12_alike_65 rfl ?_
            refine t_if_eq (pc := 67) (tgt := 74) dX12_alike_67 (by decide) (by omega) (fun c67 => ?_) (fun c67 => ?_)
            · refine r_lconst (pc := 74) (v := 0) dX12_alike_74 (by decide) ?_
              have hk74 : (0 : Int64).toInt = 0 := by decide
              refine r_goto (pc := 75) (tgt := 97) dX12_alike_75 (by decide) ?_
              exact r_lret (pc := 97) dX12_alike_97 rfl (hPo _ _ _ ⟨rfl, (0 : Int64), w1_14, ht12, rfl, (by exact Or.inr ⟨hse0, by rw [if_neg (by omega)]; exact hk74⟩), (by assumption)⟩)
            · exfalso
              omega
        · have hse : (sz (Int.toNat x2) = sz (Int.toNat x1) ∧ dr (Int.toNat x2) = dr (Int.toNat x1) ∧ mn (Int.toNat x2) = mn (Int.toNat x1)) := by omega
          have hlx := (Or.resolve_right hhq101 (fun g8 => by have := g8.1; omega)).2
          refine r_iconst (pc := 54) (v := iv 1) dX12_alike_54 (by decide) ?_
          refine r_goto (pc := 55) (tgt := 59) dX12_alike_55 (by decide) ?_
          refine r_istore (pc := 59) (lv' := [(5, .int (iv 1)), (0, .ref y), (1, .int (iv x1)), (2, .int (iv x2)), (3, .int (iv x3)), (4, .int (iv x4))]) dX12_alike_59 (by decide) rfl ?_
          refine r_iload_n (pc := 61) dX12_alike_61 (i := 3) rfl rfl ?_
          refine t_if_eq (pc := 62) (tgt := 78) dX12_alike_62 (by decide) (by omega) (fun c62 => ?_) (fun c62 => ?_)
          · refine r_iload (pc := 78) dX12_alike_78 rfl ?_
            refine t_if_eq (pc := 80) (tgt := 94) dX12_alike_80 (by decide) (by omega) (fun c80 => ?_) (fun c80 => ?_)
            · exfalso
              omega
            · refine r_aload_n (pc := 83) dX12_alike_83 (i := 0) rfl rfl ?_
              refine t_getE (pc := 84) (.ref (y + 42)) ht12 (rd_of RX_y) fX12_136 dX12_alike_84 rfl ?_
              refine r_iload (pc := 87) dX12_alike_87 rfl ?_
              refine t_ialdX (pc := 89) (t0 := 0) ht12 (rd_of RX_image) dX12_alike_89 rfl (by decide) (by omega) (fun b15 => ?_)
              have rb15 := (show Rfx 16 (-1) 15 w1_14 by assumption) (Int.toNat x4) (by omega)
              refine r_i2l (pc := 90) (v := (iv (w1_14 (Int.toNat x4))).toInt64) dX12_alike_90 rfl ?_
              refine r_goto (pc := 91) (tgt := 97) dX12_alike_91 (by decide) ?_
              exact r_lret (pc := 97) dX12_alike_97 rfl (hPo _ _ _ ⟨rfl, ((iv (w1_14 (Int.toNat x4))).toInt64), w1_14, ht12, rfl, (by exact Or.inl ⟨hse, _, hlx, by rw [if_pos (by omega)]; exact iv_long (by omega)⟩), (by assumption)⟩)
          · refine r_iload (pc := 65) dX12_alike_65 rfl ?_
            refine t_if_eq (pc := 67) (tgt := 74) dX12_alike_67 (by decide) (by omega) (fun c67 => ?_) (fun c67 => ?_)
            · exfalso
              omega
            · refine r_lconst (pc := 70) (v := 1) dX12_alike_70 (by decide) ?_
              have hk70 : (1 : Int64).toInt = 1 := by decide
              refine r_goto (pc := 71) (tgt := 97) dX12_alike_71 (by decide) ?_
              exact r_lret (pc := 97) dX12_alike_97 rfl (hPo _ _ _ ⟨rfl, (1 : Int64), w1_14, ht12, rfl, (by exact Or.inl ⟨hse, _, hlx, by rw [if_neg (by omega)]; exact hk70⟩), (by assumption)⟩)
