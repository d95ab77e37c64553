theorem ms_z {R : Nat → Nat → Prop} {n : Nat} {r : Int} : msI R n r 0 0 := fun i => ⟨fun g => absurd g (Me_0 i), fun g => by omega⟩
theorem ms_no {R : Nat → Nat → Prop} {n : Nat} {r v s z : Int} (h : msI R n r v s) (hv : 0 ≤ v) (hz : ∀ i, Me z i ↔ Me s i) (hn : ¬ maA R (fun j => j < n ∧ j ≠ Int.toNat v) r) : msI R n r (v + 1) z := fun i => by
  rw [hz i, h i]
  constructor
  · exact fun g => ⟨by omega, g.2⟩
  · intro g
    by_cases e : (i : Int) < v
    · exact ⟨e, g.2⟩
    · have e1 : i = Int.toNat v := by omega
      rw [e1] at g; exact absurd g.2 hn
theorem ms_ys {R : Nat → Nat → Prop} {n : Nat} {r v s z : Int} (h : msI R n r v s) (hv : 0 ≤ v) (hz : ∀ i, Me z i ↔ Me s i ∨ i = Int.toNat v) (hy : maA R (fun j => j < n ∧ j ≠ Int.toNat v) r) : msI R n r (v + 1) z := fun i => by
  rw [hz i, h i]
  constructor
  · rintro (g | g)
    · exact ⟨by omega, g.2⟩
    · rw [g]; exact ⟨by omega, hy⟩
  · intro g
    by_cases e : (i : Int) < v
    · exact Or.inl ⟨e, g.2⟩
    · exact Or.inr (by omega)
theorem ms_end {R : Nat → Nat → Prop} {n : Nat} {r v s : Int} (hr : maA R (fun j => j < n) r) (h : msI R n r v s) (hv : v = (n : Int)) : msA R n s := ⟨r, hr, fun i => by
  rw [h i]
  exact ⟨fun g => ⟨by omega, g.2⟩, fun g => ⟨by omega, g.2⟩⟩⟩
set_option maxHeartbeats 4000000 in
set_option maxRecDepth 100000 in
theorem x_X12_missed {D : va_G} {cI cJ cZ cT : ClassId} {lo b L : Nat} {xs : Nat → Int32} {hp : MH} {n d : Nat} {Γ : TG} {y : Nat} {rf cn nm : Int} {so sz dr mn fr tt wt co : Nat → Int} {nu : Nat → Int64} {sa : Nat → Int} {wo : Nat → Int64} {ln : Nat → Int} {hw : Nat → Int64} {ro qi qc nf nt nw nc : Nat → Int} {cl nx : Nat → Int64} {ie be sd bl : Nat → Int} {bs wy ra rb : Nat → Int64} {lb bg os js ls : Nat → Int} {sp : Nat → Int64} {jw go : Nat → Int} {de : Nat → Int64} {yb ah im : Nat → Int} {x1 : Int} {Po9 : Option Value → MH → Nat → Prop} (hd0 : 1 ≤ d) (hR_beside : Rfx 16 0 65535 be) (ht : Tw (RX Γ cI cJ cZ y rf cn nm so sz dr mn fr tt wt co nu sa wo ln hw ro qi qc nf nt nw nc cl nx ie be sd bl bs wy ra rb lb bg os js ls sp jw go de yb ah im) hp) (hx1 : 1 ≤ x1 ∧ x1 ≤ 16) (hsy9 : ∀ i j : Nat, i < 16 → j < 16 → Me (be i) j → Me (be j) i) (hPo : ∀ r hp1 n1, (n1 = n ∧ ∃ (q9 : Int64) (w1 : Nat → Int), Tw (RX Γ cI cJ cZ y rf cn nm so sz dr mn fr tt wt co nu sa wo ln hw ro qi qc nf nt nw nc cl nx ie be sd bl bs wy ra rb lb bg os js w1 sp jw go de yb ah im) hp1 ∧ r = some (.long q9) ∧ (msA (fun i j => Me (be i) j) (Int.toNat x1) q9.toInt) ∧ (0 ≤ q9.toInt)) → Po9 r hp1 n1) : Mt (gG D cI cJ cZ cT lo b L xs) mX12_missed d 0 0 [.ref y, .int (iv x1)] hp n Po9 := by
  refine Mt.of rfl (Nat.le_of_ble_eq_true rfl) ?_
  refine Rn.pick (lv' := [(0, .ref y), (1, .int (iv x1))]) [0, 1] rfl ?_
  have mp5 : 1 ≤ 2 ^ x1.toNat := Nat.one_le_two_pow
  have mq5 : 2 ^ x1.toNat ≤ 2 ^ 16 := Nat.pow_le_pow_right (by omega) (by omega)
  refine r_iconst (pc := 0) (v := iv 1) dX12_missed_0 (by decide) ?_
  refine r_iload_n (pc := 1) dX12_missed_1 (i := 1) rfl rfl ?_
  refine r_ishl (pc := 2) (v := iv ((2 ^ Int.toNat x1 : Nat) : Int)) dX12_missed_2 (shl_e (by omega)) ?_
  have mp2_1 : 1 ≤ 2 ^ Int.toNat x1 := Nat.one_le_two_pow
  have mq2_2 : 2 ^ Int.toNat x1 ≤ 2 ^ 16 := Nat.pow_le_pow_right (by omega) (by omega)
  have ms2 := Me_shl (Int.toNat x1)
  refine r_iconst (pc := 3) (v := iv 1) dX12_missed_3 (by decide) ?_
  refine r_isub (pc := 4) (v := iv (((2 ^ Int.toNat x1 : Nat) : Int) - 1)) dX12_missed_4 (iv_sub _ _) ?_
  refine r_istore_n (pc := 5) (lv' := [(2, .int (iv (((2 ^ Int.toNat x1 : Nat) : Int) - 1))), (0, .ref y), (1, .int (iv x1))]) dX12_missed_5 (i := 2) rfl (by decide) rfl ?_
  refine r_aload_n (pc := 6) dX12_missed_6 (i := 0) rfl rfl ?_
  refine r_iload_n (pc := 7) dX12_missed_7 (i := 2) rfl rfl ?_
  refine r_iload_n (pc := 8) dX12_missed_8 (i := 1) rfl rfl ?_
  obtain ⟨fs7, hfs7⟩ := t_obj ht (rd_of RX_y)
  refine r_callV (pc := 9) (as := [.int (iv (((2 ^ Int.toNat x1 : Nat) : Int) - 1)), .int (iv x1)]) (st := []) kX12_331 rfl dX12_missed_9 hfs7 (x_X12_pairs (d := d - 1) (x1 := ((2 ^ Int.toNat x1 : Nat) : Int) - 1) (x2 := x1) (by omega) (by assumption) ht (by omega) (by omega) (by omega) (by assumption) (fun _ _ _ h => h)) rfl (by omega) (Nat.le_of_ble_eq_true rfl) (Nat.zero_le _) (Nat.zero_le _) rfl (fun r4 hp3 n5 hq6 => ?_)
  obtain ⟨hnn5, q9_9, w1_10, ht8, hrr4, hhq60, hhq61⟩ := hq6
  subst n5 r4
  have hhq60 : maA (fun i j => Me (be i) j) (Me (((2 ^ Int.toNat x1 : Nat) : Int) - 1)) q9_9.toInt := hhq60
  have hhq61 : lsM (fun i j => Me (be i) j) w1_10 ((((2 ^ Int.toNat x1 : Nat) : Int) - 1) + 1) := hhq61
  change Rn _ _ _ 12 _ [.long q9_9] _ _ _ _ _
  have hmaF := hhq60
  have hlsF := hhq61
  have hmaA := ma_cg (R := (fun i j => Me (be i) j)) (S1 := fun j => j < Int.toNat x1) (fun j => (Me_all j).symm) (fun _ _ _ _ => Iff.rfl) hmaF
  refine r_lstore_n (pc := 12) (lv' := [(3, .long q9_9), (2, .int (iv (((2 ^ Int.toNat x1 : Nat) : Int) - 1))), (0, .ref y), (1, .int (iv x1))]) dX12_missed_12 (i := 3) rfl (by decide) rfl ?_
  refine r_iconst (pc := 13) (v := iv 0) dX12_missed_13 (by decide) ?_
  refine r_istore (pc := 14) (lv' := [(5, .int (iv 0)), (3, .long q9_9), (2, .int (iv (((2 ^ Int.toNat x1 : Nat) : Int) - 1))), (0, .ref y), (1, .int (iv x1))]) dX12_missed_14 (by decide) rfl ?_
  refine r_iconst (pc := 16) (v := iv 0) dX12_missed_16 (by decide) ?_
  refine r_istore (pc := 17) (lv' := [(6, .int (iv 0)), (5, .int (iv 0)), (3, .long q9_9), (2, .int (iv (((2 ^ Int.toNat x1 : Nat) : Int) - 1))), (0, .ref y), (1, .int (iv x1))]) dX12_missed_17 (by decide) rfl ?_
  have B19 : ∀ k : Nat, ∀ hp19 : MH, Tw (RX Γ cI cJ cZ y rf cn nm so sz dr mn fr tt wt co nu sa wo ln hw ro qi qc nf nt nw nc cl nx ie be sd bl bs wy ra rb lb bg os js w1_10 sp jw go de yb ah im) hp19 → ∀  (v19_5 : Int) (v19_6 : Int), 0 ≤ v19_5 ∧ v19_5 ≤ 65535 ∧ 0 ≤ v19_6 ∧ v19_6 ≤ 16 ∧ (v19_6 ≤ x1) ∧ (0 ≤ v19_5) ∧ (v19_5 ≤ 65535) ∧ (msI (fun i j => Me (be i) j) (Int.toNat x1) q9_9.toInt v19_6 v19_5) → 16 - v19_6 ≤ (k : Int) → Rn (gG D cI cJ cZ cT lo b L xs) mX12_missed d 19 [(0, .ref y), (1, .int (iv x1)), (2, .int (iv (((2 ^ Int.toNat x1 : Nat) : Int) - 1))), (3, .long q9_9), (5, .int (iv v19_5)), (6, .int (iv v19_6))] [] hp19 n 0 0 Po9 := by
    refine lpS _ ?_
    intro k19 ih19 hp19 ht19 v19_5 v19_6 hf19 hm19
    obtain ⟨hf19_0, hf19_1, hf19_2, hf19_3, hf19_4, hf19_5, hf19_6, ha19_7⟩ := hf19
    refine r_iload (pc := 19) dX12_missed_19 rfl ?_
    refine r_iload_n (pc := 21) dX12_missed_21 (i := 1) rfl rfl ?_
    refine t_icmp_ge (pc := 22) (tgt := 63) dX12_missed_22 (by decide) (by omega) (by omega) (fun c22 => ?_) (fun c22 => ?_)
    · refine r_iload (pc := 63) dX12_missed_63 rfl ?_
      refine r_i2l (pc := 65) (v := (iv v19_5).toInt64) dX12_missed_65 rfl ?_
      exact r_lret (pc := 66) dX12_missed_66 rfl (hPo _ _ _ ⟨rfl, ((iv v19_5).toInt64), w1_10, ht19, rfl, (by (rw [iv_long (by omega)]; exact ms_end hmaA (by assumption : msI (fun i j => Me (be i) j) (Int.toNat x1) q9_9.toInt v19_6 v19_5) (by omega))), (by (rw [iv_long (by omega)]; omega))⟩)
    · refine r_iload (pc := 25) dX12_missed_25 rfl ?_
      refine r_aload_n (pc := 27) dX12_missed_27 (i := 0) rfl rfl ?_
      refine t_getE (pc := 28) (.ref (y + 35)) ht19 (rd_of RX_y) fX12_115 dX12_missed_28 rfl ?_
      refine r_iload_n (pc := 31) dX12_missed_31 (i := 2) rfl rfl ?_
      refine r_iconst (pc := 32) (v := iv 1) dX12_missed_32 (by decide) ?_
      refine r_iload (pc := 33) dX12_missed_33 rfl ?_
      refine r_ishl (pc := 35) (v := iv ((2 ^ Int.toNat v19_6 : Nat) : Int)) dX12_missed_35 (shl_e (by omega)) ?_
      have mp35_11 : 1 ≤ 2 ^ Int.toNat v19_6 := Nat.one_le_two_pow
      have mq35_12 : 2 ^ Int.toNat v19_6 ≤ 2 ^ 15 := Nat.pow_le_pow_right (by omega) (by omega)
      have ms35 := Me_shl (Int.toNat v19_6)
      refine r_iconst (pc := 36) (v := iv (-1)) dX12_missed_36 (by decide) ?_
      refine r_ixor (pc := 37) (v := iv (-((2 ^ Int.toNat v19_6 : Nat) : Int) - 1)) dX12_missed_37 (iv_not _) ?_
      obtain ⟨z13, hz13, bz13⟩ := and_l (((2 ^ Int.toNat x1 : Nat) : Int) - 1) (-((2 ^ Int.toNat v19_6 : Nat) : Int) - 1) (by omega) (by omega)
      refine r_iand (pc := 38) (v := iv z13) dX12_missed_38 hz13 ?_
      have mez13 := Me_not (y := ((2 ^ Int.toNat v19_6 : Nat) : Int)) hz13 (by omega) (by omega) (by omega)
      have hz38 : ∀ j, (j < Int.toNat x1 ∧ j ≠ Int.toNat v19_6) ↔ Me z13 j := fun j => by rw [mez13 j, ms35 j, Me_all j]
      refine t_ialdX (pc := 39) (t0 := 0) ht19 (rd_of RX_least) dX12_missed_39 rfl (by decide) (by omega) (fun b14 => ?_)
      have hma39 := lsm_at hlsF (s := z13) (by omega) (by omega)
      have hmb39 := ma_b (by omega) hma39
      have hmc39 := ma_cg (R := (fun i j => Me (be i) j)) hz38 (fun _ _ _ _ => Iff.rfl) hma39
      refine r_i2l (pc := 40) (v := (iv (w1_10 (Int.toNat z13))).toInt64) dX12_missed_40 rfl ?_
      have hiv40 := iv_long (x := w1_10 (Int.toNat z13)) (by omega)
      refine r_lload_n (pc := 41) dX12_missed_41 (i := 3) rfl rfl ?_
      refine r_lcmp (pc := 42) dX12_missed_42 ?_
      refine t_lif_ne (pc := 43) (tgt := 53) dX12_missed_43 (by decide) (fun c43 => ?_) (fun c43 => ?_)
      · refine r_iconst (pc := 53) (v := iv 0) dX12_missed_53 (by decide) ?_
        obtain ⟨z15, hz15, bz15⟩ := or_2 16 v19_5 0 (by omega) (by omega) (by decide)
        refine r_ior (pc := 54) (v := iv z15) dX12_missed_54 hz15 ?_
        have mez15 := Me_or hz15 (by omega) (by omega) (by omega)
        have hms : msI (fun i j => Me (be i) j) (Int.toNat x1) q9_9.toInt (v19_6 + 1) z15 := ms_no (by assumption : msI (fun i j => Me (be i) j) (Int.toNat x1) q9_9.toInt v19_6 v19_5) (by omega) (fun i => by rw [mez15 i]; exact ⟨fun g => g.elim id (fun g => absurd g (Me_0 i)), Or.inl⟩) (fun g9 => by have h9 := ma_uq hmc39 g9; omega)
        refine r_istore (pc := 55) (lv' := [(5, .int (iv z15)), (0, .ref y), (1, .int (iv x1)), (2, .int (iv (((2 ^ Int.toNat x1 : Nat) : Int) - 1))), (3, .long q9_9), (6, .int (iv v19_6))]) dX12_missed_55 (by decide) rfl ?_
        refine r_iinc (pc := 57) (v := iv (v19_6 + 1)) (lv' := [(6, .int (iv (v19_6 + 1))), (5, .int (iv z15)), (0, .ref y), (1, .int (iv x1)), (2, .int (iv (((2 ^ Int.toNat x1 : Nat) : Int) - 1))), (3, .long q9_9)]) dX12_missed_57 rfl (iv_add _ _) (by decide) rfl ?_
        refine r_goto (pc := 60) (tgt := 19) dX12_missed_60 (by decide) ?_
        refine Rn.pick (lv' := [(0, .ref y), (1, .int (iv x1)), (2, .int (iv (((2 ^ Int.toNat x1 : Nat) : Int) - 1))), (3, .long q9_9), (5, .int (iv z15)), (6, .int (iv (v19_6 + 1)))]) [2, 3, 4, 5, 1, 0] rfl ?_
        exact ih19 (Int.toNat (16 - (v19_6 + 1))) (by omega) _ ht19 z15 (v19_6 + 1) ⟨by omega, by omega, by omega, by omega, by omega, by omega, by omega, by (first | exact hms | exact ms_z)⟩ (by omega)
      · refine r_iconst (pc := 46) (v := iv 1) dX12_missed_46 (by decide) ?_
        refine r_iload (pc := 47) dX12_missed_47 rfl ?_
        refine r_ishl (pc := 49) (v := iv ((2 ^ Int.toNat v19_6 : Nat) : Int)) dX12_missed_49 (shl_e (by omega)) ?_
        have mp49_16 : 1 ≤ 2 ^ Int.toNat v19_6 := Nat.one_le_two_pow
        have mq49_17 : 2 ^ Int.toNat v19_6 ≤ 2 ^ 15 := Nat.pow_le_pow_right (by omega) (by omega)
        have ms49 := Me_shl (Int.toNat v19_6)
        refine r_goto (pc := 50) (tgt := 54) dX12_missed_50 (by decide) ?_
        obtain ⟨z18, hz18, bz18⟩ := or_2 16 v19_5 ((2 ^ Int.toNat v19_6 : Nat) : Int) (by omega) (by omega) (by decide)
        refine r_ior (pc := 54) (v := iv z18) dX12_missed_54 hz18 ?_
        have mez18 := Me_or hz18 (by omega) (by omega) (by omega)
        have hms : msI (fun i j => Me (be i) j) (Int.toNat x1) q9_9.toInt (v19_6 + 1) z18 := ms_ys (by assumption : msI (fun i j => Me (be i) j) (Int.toNat x1) q9_9.toInt v19_6 v19_5) (by omega) (fun i => by rw [mez18 i, ms49 i]) (by rw [show q9_9.toInt = w1_10 (Int.toNat z13) by omega]; exact hmc39)
        refine r_istore (pc := 55) (lv' := [(5, .int (iv z18)), (0, .ref y), (1, .int (iv x1)), (2, .int (iv (((2 ^ Int.toNat x1 : Nat) : Int) - 1))), (3, .long q9_9), (6, .int (iv v19_6))]) dX12_missed_55 (by decide) rfl ?_
        refine r_iinc (pc := 57) (v := iv (v19_6 + 1)) (lv' := [(6, .int (iv (v19_6 + 1))), (5, .int (iv z18)), (0, .ref y), (1, .int (iv x1)), (2, .int (iv (((2 ^ Int.toNat x1 : Nat) : Int) - 1))), (3, .long q9_9)]) dX12_missed_57 rfl (iv_add _ _) (by decide) rfl ?_
        refine r_goto (pc := 60) (tgt := 19) dX12_missed_60 (by decide) ?_
        refine Rn.pick (lv' := [(0, .ref y), (1, .int (iv x1)), (2, .int (iv (((2 ^ Int.toNat x1 : Nat) : Int) - 1))), (3, .long q9_9), (5, .int (iv z18)), (6, .int (iv (v19_6 + 1)))]) [2, 3, 4, 5, 1, 0] rfl ?_
        exact ih19 (Int.toNat (16 - (v19_6 + 1))) (by omega) _ ht19 z18 (v19_6 + 1) ⟨by omega, by omega, by omega, by omega, by omega, by omega, by omega, by (first | exact hms | exact ms_z)⟩ (by omega)
  refine Rn.pick (lv' := [(0, .ref y), (1, .int (iv x1)), (2, .int (iv (((2 ^ Int.toNat x1 : Nat) : Int) - 1))), (3, .long q9_9), (5, .int (iv 0)), (6, .int (iv 0))]) [4, 5, 3, 2, 1, 0] rfl ?_
  exact B19 (Int.toNat (16 - 0)) _ ht8 0 0 ⟨by omega, by omega, by omega, by omega, by omega, by omega, by omega, by (first | exact hms | exact ms_z)⟩ (by omega)
