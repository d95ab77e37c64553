theorem Me_le {a b : Int} (h0 : 0 ≤ a) (h1 : 0 ≤ b) (h : ∀ j, Me a j → Me b j) : a ≤ b := by
  have e : a.toNat ||| b.toNat = b.toNat := by
    apply Nat.eq_of_testBit_eq
    intro i
    rw [Nat.testBit_or]
    by_cases g : a.toNat.testBit i = true
    · have g2 : b.toNat.testBit i = true := h i g
      rw [g, g2]; rfl
    · rw [Bool.not_eq_true] at g
      rw [g]; rfl
  have := Nat.left_le_or (n := a.toNat) (m := b.toNat)
  omega
def sdL (F T : Nat → Int) (k : Int) : Prop := ∀ i : Nat, (i : Int) < k → F i ≠ T i
theorem sdl_0 {F T : Nat → Int} : sdL F T 0 := fun i hi => by omega
theorem sdl_up {F T : Nat → Int} {k : Int} (h : sdL F T k) (h0 : 0 ≤ k) (hn : F k.toNat ≠ T k.toNat) : sdL F T (k + 1) := by
  intro i hi
  by_cases e : i = k.toNat
  · rw [e]; exact hn
  · exact h i (by omega)
/-- the search goes on: what was there a round ago -/
def sdN (m : Nat) (F T : Nat → Int) (zero one was : Int) : Prop := was = -1 ∨ (0 ≤ was ∧ ∃ zero0 one0 : Int, (∀ j, Me one j ↔ Me one0 j ∨ ∃ i, Me zero0 i ∧ joA m F T i j) ∧ (∀ j, Me zero j ↔ Me zero0 j ∨ ∃ i, Me one i ∧ joA m F T i j) ∧ ∀ j, Me was j ↔ Me zero0 j ∨ Me one0 j)
theorem sdn_le {m : Nat} {F T : Nat → Int} {zero one was z : Int} (h : sdN m F T zero one was) (hz : ∀ j, Me z j ↔ Me zero j ∨ Me one j) (h0 : 0 ≤ z) : was ≤ z := by
  rcases h with e | ⟨e, z0, o0, g1, g2, g3⟩
  · omega
  · refine Me_le e h0 (fun j hj => ?_)
    rcases (g3 j).mp hj with q | q
    · exact (hz j).mpr (Or.inl ((g2 j).mpr (Or.inl q)))
    · exact (hz j).mpr (Or.inr ((g1 j).mpr (Or.inl q)))
theorem sd_low {left part : Int} {lw i0 : Nat} (h1 : ∀ j, Me part j → Me left j) (h2 : Me part lw) (h3 : ∀ j, j < lw → ¬ Me left j) (h4 : Me part i0) (h5 : ∀ j, j < i0 → ¬ Me part j) : i0 = lw := by
  rcases Nat.lt_trichotomy i0 lw with g | g | g
  · exact absurd (h1 i0 h4) (h3 i0 g)
  · exact g
  · exact absurd h2 (h5 lw g)
set_option maxHeartbeats 4000000 in
set_option maxRecDepth 100000 in
theorem x_X12_side {D : va_G} {cI cJ cZ cT : ClassId} {lo b L : Nat} {xs : Nat → Int32} {hp : MH} {n d : Nat} {Γ : TG} {y : Nat} {rf cn nm : Int} {so sz dr mn fr tt wt co : Nat → Int} {nu : Nat → Int64} {sa : Nat → Int} {wo : Nat → Int64} {ln : Nat → Int} {hw : Nat → Int64} {ro qi qc nf nt nw nc : Nat → Int} {cl nx : Nat → Int64} {ie be sd bl : Nat → Int} {bs wy ra rb : Nat → Int64} {lb bg os js ls : Nat → Int} {sp : Nat → Int64} {jw go : Nat → Int} {de : Nat → Int64} {yb ah im : Nat → Int} {x1 x2 : Int} {Po9 : Option Value → MH → Nat → Prop} (hd0 : 1 ≤ d) (hR_sizes : Rfx 121 0 16 sz) (hR_many : Rfx 121 0 60 mn) (hR_from : Rfx 7260 0 15 fr) (hR_to : Rfx 7260 0 15 tt) (hR_beside : Rfx 16 0 65535 be) (ht : Tw (RX Γ cI cJ cZ y rf cn nm so sz dr mn fr tt wt co nu sa wo ln hw ro qi qc nf nt nw nc cl nx ie be sd bl bs wy ra rb lb bg os js ls sp jw go de yb ah im) hp) (hx1 : 0 ≤ x1 ∧ x1 ≤ 120) (hx2 : 0 ≤ x2 ∧ x2 ≤ 15) (hEn : enP fr tt mn sz x1) (hx9 : x2 < (sz (Int.toNat x1))) (hjb9 : jbP be (Int.toNat (mn (Int.toNat x1))) (sh fr (60 * x1)) (sh tt (60 * x1)) (fun k => (k : Int) ≠ -1)) (hPo : ∀ r hp1 n1, (n1 = n ∧ ∃ (q9 : Int64), Tw (RX Γ cI cJ cZ y rf cn nm so sz dr mn fr tt wt co nu sa wo ln hw ro qi qc nf nt nw nc cl nx ie be sd bl bs wy ra rb lb bg os js ls sp jw go de yb ah im) hp1 ∧ r = some (.long q9) ∧ (sdA (Int.toNat (mn (Int.toNat x1))) (sh fr (60 * x1)) (sh tt (60 * x1)) (Int.toNat (sz (Int.toNat x1))) (Int.toNat x2) q9.toInt)) → Po9 r hp1 n1) : Mt (gG D cI cJ cZ cT lo b L xs) mX12_side d 0 0 [.ref y, .int (iv x1), .int (iv x2)] hp n Po9 := by
  refine Mt.of rfl (Nat.le_of_ble_eq_true rfl) ?_
  refine Rn.pick (lv' := [(0, .ref y), (1, .int (iv x1)), (2, .int (iv x2))]) [0, 1, 2] rfl ?_
  have rsz := hR_sizes (Int.toNat x1) (by omega)
  have rmn := hR_many (Int.toNat x1) (by omega)
  have hFT := enF hEn (by assumption) (by assumption) (by omega) (by omega)
  have hFn : ∀ k, k < (Int.toNat (mn (Int.toNat x1))) → (0 ≤ (sh fr (60 * x1)) k ∧ (sh fr (60 * x1)) k < (((Int.toNat (sz (Int.toNat x1))) : Nat) : Int)) ∧ (0 ≤ (sh tt (60 * x1)) k ∧ (sh tt (60 * x1)) k < (((Int.toNat (sz (Int.toNat x1))) : Nat) : Int)) := fun k hk => by have h9 := hFT k hk; omega
  have hbe : ∀ i, i < 16 → ∀ j, Me (be i) j ↔ joA (Int.toNat (mn (Int.toNat x1))) (sh fr (60 * x1)) (sh tt (60 * x1)) i j := fun i hi j => (hjb9 i hi j).trans (jo_iff (fun k _ _ => ⟨fun _ => trivial, fun _ => by show ((k : Nat) : Int) ≠ -1; omega⟩) i j)
  refine r_aload_n (pc := 0) dX12_side_0 (i := 0) rfl rfl ?_
  refine t_getE (pc := 1) (.ref (y + 2)) ht (rd_of RX_y) fX12_13 dX12_side_1 rfl ?_
  refine r_iload_n (pc := 4) dX12_side_4 (i := 1) rfl rfl ?_
  refine t_ialdX (pc := 5) (t0 := 0) ht (rd_of RX_sizes) dX12_side_5 rfl (by decide) (by omega) (fun b1 => ?_)
  have rb1 := (show Rfx 121 0 16 sz by assumption) (Int.toNat x1) (by omega)
  refine r_istore_n (pc := 6) (lv' := [(3, .int (iv (sz (Int.toNat x1)))), (0, .ref y), (1, .int (iv x1)), (2, .int (iv x2))]) dX12_side_6 (i := 3) rfl (by decide) rfl ?_
  refine r_iconst (pc := 7) (v := iv 0) dX12_side_7 (by decide) ?_
  refine r_istore (pc := 8) (lv' := [(4, .int (iv 0)), (3, .int (iv (sz (Int.toNat x1)))), (0, .ref y), (1, .int (iv x1)), (2, .int (iv x2))]) dX12_side_8 (by decide) rfl ?_
  have B10 : ∀ k : Nat, ∀ hp10 : MH, Tw (RX Γ cI cJ cZ y rf cn nm so sz dr mn fr tt wt co nu sa wo ln hw ro qi qc nf nt nw nc cl nx ie be sd bl bs wy ra rb lb bg os js ls sp jw go de yb ah im) hp10 → ∀  (v10_4 : Int), 0 ≤ v10_4 ∧ v10_4 ≤ 60 ∧ (v10_4 ≤ (mn (Int.toNat x1))) ∧ (sdL (sh fr (60 * x1)) (sh tt (60 * x1)) v10_4) → 60 - v10_4 ≤ (k : Int) → Rn (gG D cI cJ cZ cT lo b L xs) mX12_side d 10 [(0, .ref y), (1, .int (iv x1)), (2, .int (iv x2)), (3, .int (iv (sz (Int.toNat x1)))), (4, .int (iv v10_4))] [] hp10 n 0 0 Po9 := by
    refine lpS _ ?_
    intro k10 ih10 hp10 ht10 v10_4 hf10 hm10
    obtain ⟨hf10_0, hf10_1, hf10_2, ha10_3⟩ := hf10
    refine r_iload (pc := 10) dX12_side_10 rfl ?_
    refine r_aload_n (pc := 12) dX12_side_12 (i := 0) rfl rfl ?_
    refine t_getE (pc := 13) (.ref (y + 4)) ht10 (rd_of RX_y) fX12_20 dX12_side_13 rfl ?_
    refine r_iload_n (pc := 16) dX12_side_16 (i := 1) rfl rfl ?_
    refine t_ialdX (pc := 17) (t0 := 0) ht10 (rd_of RX_many) dX12_side_17 rfl (by decide) (by omega) (fun b2 => ?_)
    have rb2 := (show Rfx 121 0 60 mn by assumption) (Int.toNat x1) (by omega)
    refine t_icmp_ge (pc := 18) (tgt := 56) dX12_side_18 (by decide) (by omega) (by omega) (fun c18 => ?_) (fun c18 => ?_)
    · refine r_iconst (pc := 56) (v := iv 0) dX12_side_56 (by decide) ?_
      refine r_istore (pc := 57) (lv' := [(4, .int (iv 0)), (0, .ref y), (1, .int (iv x1)), (2, .int (iv x2)), (3, .int (iv (sz (Int.toNat x1))))]) dX12_side_57 (by decide) rfl ?_
      refine r_iconst (pc := 59) (v := iv 1) dX12_side_59 (by decide) ?_
      refine r_iload_n (pc := 60) dX12_side_60 (i := 3) rfl rfl ?_
      refine r_ishl (pc := 61) (v := iv ((2 ^ Int.toNat (sz (Int.toNat x1)) : Nat) : Int)) dX12_side_61 (shl_e (by omega)) ?_
      have mp61_3 : 1 ≤ 2 ^ Int.toNat (sz (Int.toNat x1)) := Nat.one_le_two_pow
      have mq61_4 : 2 ^ Int.toNat (sz (Int.toNat x1)) ≤ 2 ^ 16 := Nat.pow_le_pow_right (by omega) (by omega)
      have ms61 := Me_shl (Int.toNat (sz (Int.toNat x1)))
      refine r_iconst (pc := 62) (v := iv 1) dX12_side_62 (by decide) ?_
      refine r_isub (pc := 63) (v := iv (((2 ^ Int.toNat (sz (Int.toNat x1)) : Nat) : Int) - 1)) dX12_side_63 (iv_sub _ _) ?_
      have hall : ∀ j, Me (((2 ^ Int.toNat (sz (Int.toNat x1)) : Nat) : Int) - 1) j ↔ j < (Int.toNat (sz (Int.toNat x1))) := fun j => Me_all j
      refine r_istore (pc := 64) (lv' := [(5, .int (iv (((2 ^ Int.toNat (sz (Int.toNat x1)) : Nat) : Int) - 1))), (4, .int (iv 0)), (0, .ref y), (1, .int (iv x1)), (2, .int (iv x2)), (3, .int (iv (sz (Int.toNat x1))))]) dX12_side_64 (by decide) rfl ?_
      have B66 : ∀ k : Nat, ∀ hp66 : MH, Tw (RX Γ cI cJ cZ y rf cn nm so sz dr mn fr tt wt co nu sa wo ln hw ro qi qc nf nt nw nc cl nx ie be sd bl bs wy ra rb lb bg os js ls sp jw go de yb ah im) hp66 → ∀  (v66_4 : Int) (v66_5 : Int), 0 ≤ v66_4 ∧ v66_4 ≤ 65535 ∧ 0 ≤ v66_5 ∧ v66_5 ≤ 65535 ∧ v66_5 ≤ ((2 ^ Int.toNat (sz (Int.toNat x1)) : Nat) : Int) - 1 ∧ (sdR (Int.toNat (mn (Int.toNat x1))) (sh fr (60 * x1)) (sh tt (60 * x1)) (Int.toNat (sz (Int.toNat x1))) v66_5 v66_4) → v66_5 ≤ (k : Int) → Rn (gG D cI cJ cZ cT lo b L xs) mX12_side d 66 [(0, .ref y), (2, .int (iv x2)), (3, .int (iv (sz (Int.toNat x1)))), (4, .int (iv v66_4)), (5, .int (iv v66_5))] [] hp66 n 0 0 Po9 := by
        refine lpS _ ?_
        intro k66 ih66 hp66 ht66 v66_4 v66_5 hf66 hm66
        obtain ⟨hf66_0, hf66_1, hf66_2, hf66_3, hf66_4, ha66_5⟩ := hf66
        refine r_iload (pc := 66) dX12_side_66 rfl ?_
        refine t_if_eq (pc := 68) (tgt := 228) dX12_side_68 (by decide) (by omega) (fun c68 => ?_) (fun c68 => ?_)
        · refine r_iload (pc := 228) dX12_side_228 rfl ?_
          refine r_iload_n (pc := 230) dX12_side_230 (i := 2) rfl rfl ?_
          have hq231_5 := shr_le (Int.toNat v66_4) (Int.toNat x2)
          refine r_ishr (pc := 231) (v := iv ((Int.toNat v66_4 >>> Int.toNat x2 : Nat) : Int)) dX12_side_231 (shr_e (by omega) (by omega)) ?_
          refine r_iconst (pc := 232) (v := iv 1) dX12_side_232 (by decide) ?_
          refine r_iand (pc := 233) (v := iv (((Int.toNat v66_4 >>> Int.toNat x2 : Nat) : Int) % 2)) dX12_side_233 (and1_e _ (by omega)) ?_
          have mb233 := @Me_bit v66_4 x2
          refine r_i2l (pc := 234) (v := (iv (((Int.toNat v66_4 >>> Int.toNat x2 : Nat) : Int) % 2)).toInt64) dX12_side_234 rfl ?_
          exact r_lret (pc := 235) dX12_side_235 rfl (hPo _ _ _ ⟨rfl, ((iv (((Int.toNat v66_4 >>> Int.toNat x2 : Nat) : Int) % 2)).toInt64), ht66, rfl, (by (rw [iv_long (by omega)]; exact sdr_end (by assumption : sdR (Int.toNat (mn (Int.toNat x1))) (sh fr (60 * x1)) (sh tt (60 * x1)) (Int.toNat (sz (Int.toNat x1))) v66_5 v66_4) (by omega) (bit_v mb233 (by omega))))⟩)
        · refine r_aload_n (pc := 71) dX12_side_71 (i := 0) rfl rfl ?_
          refine r_iload (pc := 72) dX12_side_72 rfl ?_
          obtain ⟨fs10, hfs10⟩ := t_obj ht66 (rd_of RX_y)
          refine r_callV (pc := 74) (as := [.int (iv v66_5)]) (st := []) kX12_237 rfl dX12_side_74 hfs10 (x_X12_together (d := d - 1) (x1 := v66_5) (by omega) (by assumption) ht66 (by omega) (fun _ _ _ h => h)) rfl (by omega) (Nat.le_of_ble_eq_true rfl) (Nat.zero_le _) (Nat.zero_le _) rfl (fun r7 hp6 n8 hq9 => ?_)
          obtain ⟨hnn8, r9_12, ht11, hrr7, hhq90, hhq91⟩ := hq9
          subst n8 r7
          have hhq90 : 0 ≤ r9_12 ∧ r9_12 ≤ 65535 := hhq90
          have hhq91 : tgP be v66_5 r9_12 := hhq91
          change Rn _ _ _ 77 _ [.int (iv r9_12)] _ _ _ _ _
          obtain ⟨lw, hlw1, hlw2, hpt⟩ := hhq91.2 (by omega)
          have hsr := (by assumption : sdR (Int.toNat (mn (Int.toNat x1))) (sh fr (60 * x1)) (sh tt (60 * x1)) (Int.toNat (sz (Int.toNat x1))) v66_5 v66_4)
          obtain ⟨hp1, hp2, hp3⟩ := pc_cl hbe (by omega) hsr hlw1 hpt
          have hpp : 0 < r9_12 := Classical.byContradiction (fun h9 => by
            have h8 := hp2
            rw [show r9_12 = 0 by omega] at h8
            exact Me_0 _ h8)
          refine r_istore (pc := 77) (lv' := [(6, .int (iv r9_12)), (0, .ref y), (2, .int (iv x2)), (3, .int (iv (sz (Int.toNat x1)))), (4, .int (iv v66_4)), (5, .int (iv v66_5))]) dX12_side_77 (by decide) rfl ?_
          refine r_iload (pc := 79) dX12_side_79 rfl ?_
          refine r_iload (pc := 81) dX12_side_81 rfl ?_
          refine r_ineg (pc := 83) (v := iv (-r9_12)) dX12_side_83 (iv_neg _) ?_
          obtain ⟨z13, hz13, bz13⟩ := and_l r9_12 (-r9_12) (by omega) (by omega)
          refine r_iand (pc := 84) (v := iv z13) dX12_side_84 hz13 ?_
          have mez13 := Me_low hz13 (by omega) (by omega)
          obtain ⟨i0, hz0, hm0, hn0⟩ := mez13.2 (by omega)
          have ei := sd_low hp1 hp2 hlw2 hm0 hn0
          have hzl : ∀ i, Me z13 i ↔ i = lw := fun i => by rw [hz0, ei]; exact Me_shl lw i
          refine r_istore (pc := 85) (lv' := [(7, .int (iv z13)), (6, .int (iv r9_12)), (0, .ref y), (2, .int (iv x2)), (3, .int (iv (sz (Int.toNat x1)))), (4, .int (iv v66_4)), (5, .int (iv v66_5))]) dX12_side_85 (by decide) rfl ?_
          refine r_iconst (pc := 87) (v := iv 0) dX12_side_87 (by decide) ?_
          refine r_istore (pc := 88) (lv' := [(8, .int (iv 0)), (7, .int (iv z13)), (6, .int (iv r9_12)), (0, .ref y), (2, .int (iv x2)), (3, .int (iv (sz (Int.toNat x1)))), (4, .int (iv v66_4)), (5, .int (iv v66_5))]) dX12_side_88 (by decide) rfl ?_
          refine r_iconst (pc := 90) (v := iv (-1)) dX12_side_90 (by decide) ?_
          refine r_istore (pc := 91) (lv' := [(9, .int (iv (-1))), (8, .int (iv 0)), (7, .int (iv z13)), (6, .int (iv r9_12)), (0, .ref y), (2, .int (iv x2)), (3, .int (iv (sz (Int.toNat x1)))), (4, .int (iv v66_4)), (5, .int (iv v66_5))]) dX12_side_91 (by decide) rfl ?_
          have B93 : ∀ k : Nat, ∀ hp93 : MH, Tw (RX Γ cI cJ cZ y rf cn nm so sz dr mn fr tt wt co nu sa wo ln hw ro qi qc nf nt nw nc cl nx ie be sd bl bs wy ra rb lb bg os js ls sp jw go de yb ah im) hp93 → ∀  (v93_7 : Int) (v93_8 : Int) (v93_9 : Int), 0 ≤ v93_7 ∧ v93_7 ≤ 65535 ∧ z13 ≤ v93_7 ∧ 0 ≤ v93_8 ∧ v93_8 ≤ 65535 ∧ (-1) ≤ v93_9 ∧ v93_9 ≤ 65535 ∧ (-1 ≤ v93_9) ∧ (v93_9 ≤ 65535) ∧ (sdZ (Int.toNat (mn (Int.toNat x1))) (sh fr (60 * x1)) (sh tt (60 * x1)) r9_12 lw v93_7 v93_8) ∧ (sdN (Int.toNat (mn (Int.toNat x1))) (sh fr (60 * x1)) (sh tt (60 * x1)) v93_7 v93_8 v93_9) → 65536 - v93_9 ≤ (k : Int) → Rn (gG D cI cJ cZ cT lo b L xs) mX12_side d 93 [(0, .ref y), (2, .int (iv x2)), (3, .int (iv (sz (Int.toNat x1)))), (4, .int (iv v66_4)), (5, .int (iv v66_5)), (6, .int (iv r9_12)), (7, .int (iv v93_7)), (8, .int (iv v93_8)), (9, .int (iv v93_9))] [] hp93 n 0 0 Po9 := by
            refine lpS _ ?_
            intro k93 ih93 hp93 ht93 v93_7 v93_8 v93_9 hf93 hm93
            obtain ⟨hf93_0, hf93_1, hf93_2, hf93_3, hf93_4, hf93_5, hf93_6, hf93_7, hf93_8, ha93_9, ha93_10⟩ := hf93
            refine r_iload (pc := 93) dX12_side_93 rfl ?_
            refine r_iload (pc := 95) dX12_side_95 rfl ?_
            refine r_iload (pc := 97) dX12_side_97 rfl ?_
            obtain ⟨z14, hz14, bz14⟩ := or_2 16 v93_7 v93_8 (by omega) (by omega) (by decide)
            refine r_ior (pc := 99) (v := iv z14) dX12_side_99 hz14 ?_
            have mez14 := Me_or hz14 (by omega) (by omega) (by omega)
            have hle99 := sdn_le (by assumption : sdN (Int.toNat (mn (Int.toNat x1))) (sh fr (60 * x1)) (sh tt (60 * x1)) v93_7 v93_8 v93_9) mez14 (by omega)
            refine t_icmp_eq (pc := 100) (tgt := 197) dX12_side_100 (by decide) (by omega) (by omega) (fun c100 => ?_) (fun c100 => ?_)
            · obtain ⟨z0, o0, g1, g2, g3⟩ := (Or.resolve_left (by assumption : sdN (Int.toNat (mn (Int.toNat x1))) (sh fr (60 * x1)) (sh tt (60 * x1)) v93_7 v93_8 v93_9) (by omega)).2
              have hu : ∀ j, (Me v93_7 j ∨ Me v93_8 j) ↔ (Me z0 j ∨ Me o0 j) := fun j => by rw [← mez14 j, ← g3 j, show z14 = v93_9 by omega]
              refine r_iload (pc := 197) dX12_side_197 rfl ?_
              refine r_iload (pc := 199) dX12_side_199 rfl ?_
              obtain ⟨z15, hz15, bz15⟩ := and_2 v93_7 v93_8 (by omega) (by omega)
              refine r_iand (pc := 201) (v := iv z15) dX12_side_201 hz15 ?_
              have mez15 := Me_and hz15 (by omega) (by omega) (by omega)
              refine t_if_eq (pc := 202) (tgt := 209) dX12_side_202 (by decide) (by omega) (fun c202 => ?_) (fun c202 => ?_)
              · have hdj : ∀ j, ¬ (Me v93_7 j ∧ Me v93_8 j) := fun j h9 => by
                  have h8 := (mez15 j).mpr h9
                  rw [show z15 = 0 by omega] at h8
                  exact Me_0 j h8
                refine r_iload (pc := 209) dX12_side_209 rfl ?_
                refine r_iload (pc := 211) dX12_side_211 rfl ?_
                obtain ⟨z16, hz16, bz16⟩ := or_2 16 v66_4 v93_8 (by omega) (by omega) (by decide)
                refine r_ior (pc := 213) (v := iv z16) dX12_side_213 hz16 ?_
                have mez16 := Me_or hz16 (by omega) (by omega) (by omega)
                refine r_istore (pc := 214) (lv' := [(4, .int (iv z16)), (0, .ref y), (2, .int (iv x2)), (3, .int (iv (sz (Int.toNat x1)))), (5, .int (iv v66_5)), (6, .int (iv r9_12)), (7, .int (iv v93_7)), (8, .int (iv v93_8)), (9, .int (iv v93_9))]) dX12_side_214 (by decide) rfl ?_
                refine r_iload (pc := 216) dX12_side_216 rfl ?_
                refine r_iload (pc := 218) dX12_side_218 rfl ?_
                refine r_iconst (pc := 220) (v := iv (-1)) dX12_side_220 (by decide) ?_
                refine r_ixor (pc := 221) (v := iv (-r9_12 - 1)) dX12_side_221 (iv_not _) ?_
                obtain ⟨z17, hz17, bz17⟩ := and_l v66_5 (-r9_12 - 1) (by omega) (by omega)
                refine r_iand (pc := 222) (v := iv z17) dX12_side_222 hz17 ?_
                have mez17 := Me_not (y := r9_12) hz17 (by omega) (by omega) (by omega)
                have hsr9 := sdr_st hbe (by omega) (fun k hk => (by assumption : sdL (sh fr (60 * x1)) (sh tt (60 * x1)) v10_4) k (by omega)) hFn hsr ⟨hlw1, hlw2⟩ hpt (by assumption : sdZ (Int.toNat (mn (Int.toNat x1))) (sh fr (60 * x1)) (sh tt (60 * x1)) r9_12 lw v93_7 v93_8) g1 g2 hu hdj mez17 mez16
                have hlt9 : z17 ≠ v66_5 := fun e9 => by
                  have h8 := (mez17 lw).mp (by rw [e9]; exact hlw1)
                  exact h8.2 hp2
                refine r_istore (pc := 223) (lv' := [(5, .int (iv z17)), (4, .int (iv z16)), (0, .ref y), (2, .int (iv x2)), (3, .int (iv (sz (Int.toNat x1)))), (6, .int (iv r9_12)), (7, .int (iv v93_7)), (8, .int (iv v93_8)), (9, .int (iv v93_9))]) dX12_side_223 (by decide) rfl ?_
                refine r_goto (pc := 225) (tgt := 66) dX12_side_225 (by decide) ?_
                refine Rn.pick (lv' := [(0, .ref y), (2, .int (iv x2)), (3, .int (iv (sz (Int.toNat x1)))), (4, .int (iv z16)), (5, .int (iv z17))]) [2, 3, 4, 1, 0] rfl ?_
                exact ih66 (Int.toNat (z17)) (by omega) _ ht93 z16 z17 ⟨by omega, by omega, by omega, by omega, by omega, by (first | exact hsr9 | exact sdr_0 hall hFn)⟩ (by omega)
              · obtain ⟨j9, hj9⟩ := Me_ex (show 0 < z15 by omega)
                have hno9 := sdz_no (by assumption : sdZ (Int.toNat (mn (Int.toNat x1))) (sh fr (60 * x1)) (sh tt (60 * x1)) r9_12 lw v93_7 v93_8) ((mez15 j9).mp hj9)
                refine r_ldc2 (pc := 205) (v := (-1)) dX12_side_205 kX12_357 ?_
                have hk205 : ((-1) : Int64).toInt = (-1) := by decide
                exact r_lret (pc := 208) dX12_side_208 rfl (hPo _ _ _ ⟨rfl, ((-1) : Int64), ht93, rfl, (by exact Or.inl ⟨hk205, hno9⟩)⟩)
            · refine r_iload (pc := 103) dX12_side_103 rfl ?_
              refine r_iload (pc := 105) dX12_side_105 rfl ?_
              obtain ⟨z18, hz18, bz18⟩ := or_2 16 v93_7 v93_8 (by omega) (by omega) (by decide)
              refine r_ior (pc := 107) (v := iv z18) dX12_side_107 hz18 ?_
              have mez18 := Me_or hz18 (by omega) (by omega) (by omega)
              have e107 : z18 = z14 := Me_ext (by omega) (by omega) (fun j => (mez18 j).trans (mez14 j).symm)
              refine r_istore (pc := 108) (lv' := [(9, .int (iv z18)), (0, .ref y), (2, .int (iv x2)), (3, .int (iv (sz (Int.toNat x1)))), (4, .int (iv v66_4)), (5, .int (iv v66_5)), (6, .int (iv r9_12)), (7, .int (iv v93_7)), (8, .int (iv v93_8))]) dX12_side_108 (by decide) rfl ?_
              refine r_iconst (pc := 110) (v := iv 0) dX12_side_110 (by decide) ?_
              refine r_istore (pc := 111) (lv' := [(10, .int (iv 0)), (9, .int (iv z18)), (0, .ref y), (2, .int (iv x2)), (3, .int (iv (sz (Int.toNat x1)))), (4, .int (iv v66_4)), (5, .int (iv v66_5)), (6, .int (iv r9_12)), (7, .int (iv v93_7)), (8, .int (iv v93_8))]) dX12_side_111 (by decide) rfl ?_
              have B113 : ∀ k : Nat, ∀ hp113 : MH, Tw (RX Γ cI cJ cZ y rf cn nm so sz dr mn fr tt wt co nu sa wo ln hw ro qi qc nf nt nw nc cl nx ie be sd bl bs wy ra rb lb bg os js ls sp jw go de yb ah im) hp113 → ∀  (v113_8 : Int) (v113_10 : Int), 0 ≤ v113_8 ∧ v113_8 ≤ 65535 ∧ v93_8 ≤ v113_8 ∧ 0 ≤ v113_10 ∧ v113_10 ≤ 16 ∧ (v113_10 ≤ (sz (Int.toNat x1))) ∧ (sdPt be v93_8 v93_7 v113_8 v113_10) → 16 - v113_10 ≤ (k : Int) → Rn (gG D cI cJ cZ cT lo b L xs) mX12_side d 113 [(0, .ref y), (2, .int (iv x2)), (3, .int (iv (sz (Int.toNat x1)))), (4, .int (iv v66_4)), (5, .int (iv v66_5)), (6, .int (iv r9_12)), (7, .int (iv v93_7)), (8, .int (iv v113_8)), (9, .int (iv z18)), (10, .int (iv v113_10))] [] hp113 n 0 0 Po9 := by
                refine lpS _ ?_
                intro k113 ih113 hp113 ht113 v113_8 v113_10 hf113 hm113
                obtain ⟨hf113_0, hf113_1, hf113_2, hf113_3, hf113_4, hf113_5, ha113_6⟩ := hf113
                refine r_iload (pc := 113) dX12_side_113 rfl ?_
                refine r_iload_n (pc := 115) dX12_side_115 (i := 3) rfl rfl ?_
                refine t_icmp_ge (pc := 116) (tgt := 152) dX12_side_116 (by decide) (by omega) (by omega) (fun c116 => ?_) (fun c116 => ?_)
                · refine r_iconst (pc := 152) (v := iv 0) dX12_side_152 (by decide) ?_
                  refine r_istore (pc := 153) (lv' := [(10, .int (iv 0)), (0, .ref y), (2, .int (iv x2)), (3, .int (iv (sz (Int.toNat x1)))), (4, .int (iv v66_4)), (5, .int (iv v66_5)), (6, .int (iv r9_12)), (7, .int (iv v93_7)), (8, .int (iv v113_8)), (9, .int (iv z18))]) dX12_side_153 (by decide) rfl ?_
                  have B155 : ∀ k : Nat, ∀ hp155 : MH, Tw (RX Γ cI cJ cZ y rf cn nm so sz dr mn fr tt wt co nu sa wo ln hw ro qi qc nf nt nw nc cl nx ie be sd bl bs wy ra rb lb bg os js ls sp jw go de yb ah im) hp155 → ∀  (v155_7 : Int) (v155_10 : Int), 0 ≤ v155_7 ∧ v155_7 ≤ 65535 ∧ v93_7 ≤ v155_7 ∧ 0 ≤ v155_10 ∧ v155_10 ≤ 16 ∧ (v155_10 ≤ (sz (Int.toNat x1))) ∧ (sdPt be v93_7 v113_8 v155_7 v155_10) → 16 - v155_10 ≤ (k : Int) → Rn (gG D cI cJ cZ cT lo b L xs) mX12_side d 155 [(0, .ref y), (2, .int (iv x2)), (3, .int (iv (sz (Int.toNat x1)))), (4, .int (iv v66_4)), (5, .int (iv v66_5)), (6, .int (iv r9_12)), (7, .int (iv v155_7)), (8, .int (iv v113_8)), (9, .int (iv z18)), (10, .int (iv v155_10))] [] hp155 n 0 0 Po9 := by
                    refine lpS _ ?_
                    intro k155 ih155 hp155 ht155 v155_7 v155_10 hf155 hm155
                    obtain ⟨hf155_0, hf155_1, hf155_2, hf155_3, hf155_4, hf155_5, ha155_6⟩ := hf155
                    refine r_iload (pc := 155) dX12_side_155 rfl ?_
                    refine r_iload_n (pc := 157) dX12_side_157 (i := 3) rfl rfl ?_
                    refine t_icmp_ge (pc := 158) (tgt := 194) dX12_side_158 (by decide) (by omega) (by omega) (fun c158 => ?_) (fun c158 => ?_)
                    · have hsz := (by assumption : sdZ (Int.toNat (mn (Int.toNat x1))) (sh fr (60 * x1)) (sh tt (60 * x1)) r9_12 lw v93_7 v93_8)
                      have k1 := sdp_end (n := (Int.toNat (sz (Int.toNat x1)))) hbe (by omega) (fun j hj => hsr.1 j (hp1 j (hsz.2.1 j hj))) (by assumption : sdPt be v93_8 v93_7 v113_8 v113_10) (by omega)
                      have k2 := sdp_end (n := (Int.toNat (sz (Int.toNat x1)))) hbe (by omega) (fun j hj => by
                        rcases (k1 j).mp hj with q | ⟨i, q1, q2⟩
                        · exact hsr.1 j (hp1 j (hsz.2.2.1 j q))
                        · exact hsr.1 j (hp1 j (hp3 i j q2 (hsz.2.1 i q1)))) (by assumption : sdPt be v93_7 v113_8 v155_7 v155_10) (by omega)
                      have hsz9 := sdz_st hp3 hsz k1 k2
                      have hsn9 : sdN (Int.toNat (mn (Int.toNat x1))) (sh fr (60 * x1)) (sh tt (60 * x1)) v155_7 v113_8 z18 := Or.inr ⟨by omega, v93_7, v93_8, k1, k2, mez18⟩
                      refine r_goto (pc := 194) (tgt := 93) dX12_side_194 (by decide) ?_
                      refine Rn.pick (lv' := [(0, .ref y), (2, .int (iv x2)), (3, .int (iv (sz (Int.toNat x1)))), (4, .int (iv v66_4)), (5, .int (iv v66_5)), (6, .int (iv r9_12)), (7, .int (iv v155_7)), (8, .int (iv v113_8)), (9, .int (iv z18))]) [0, 1, 2, 3, 4, 5, 6, 7, 8] rfl ?_
                      exact ih93 (Int.toNat (65536 - z18)) (by omega) _ ht155 v155_7 v113_8 z18 ⟨by omega, by omega, by omega, by omega, by omega, by omega, by omega, by omega, by omega, by (first | exact hsz9 | exact sdz_0 hzl hp2), by (first | exact hsn9 | exact Or.inl rfl)⟩ (by omega)
                    · refine r_iload (pc := 161) dX12_side_161 rfl ?_
                      refine r_iload (pc := 163) dX12_side_163 rfl ?_
                      refine r_iload (pc := 165) dX12_side_165 rfl ?_
                      have hq167_19 := shr_le (Int.toNat v113_8) (Int.toNat v155_10)
                      refine r_ishr (pc := 167) (v := iv ((Int.toNat v113_8 >>> Int.toNat v155_10 : Nat) : Int)) dX12_side_167 (shr_e (by omega) (by omega)) ?_
                      refine r_iconst (pc := 168) (v := iv 1) dX12_side_168 (by decide) ?_
                      refine r_iand (pc := 169) (v := iv (((Int.toNat v113_8 >>> Int.toNat v155_10 : Nat) : Int) % 2)) dX12_side_169 (and1_e _ (by omega)) ?_
                      have mb169 := @Me_bit v113_8 v155_10
                      refine r_iconst (pc := 170) (v := iv 1) dX12_side_170 (by decide) ?_
                      refine t_icmp_ne (pc := 171) (tgt := 184) dX12_side_171 (by decide) (by omega) (by omega) (fun c171 => ?_) (fun c171 => ?_)
                      · have nm171 : ¬ Me v113_8 (Int.toNat v155_10) := fun h9 => absurd (Me_bit.mpr h9) (by omega)
                        refine r_iconst (pc := 184) (v := iv 0) dX12_side_184 (by decide) ?_
                        obtain ⟨z20, hz20, bz20⟩ := or_2 16 v155_7 0 (by omega) (by omega) (by decide)
                        refine r_ior (pc := 185) (v := iv z20) dX12_side_185 hz20 ?_
                        have mez20 := Me_or hz20 (by omega) (by omega) (by omega)
                        have hpr := sdp_n (by assumption : sdPt be v93_7 v113_8 v155_7 v155_10) (by omega) nm171 mez20
                        refine r_istore (pc := 186) (lv' := [(7, .int (iv z20)), (0, .ref y), (2, .int (iv x2)), (3, .int (iv (sz (Int.toNat x1)))), (4, .int (iv v66_4)), (5, .int (iv v66_5)), (6, .int (iv r9_12)), (8, .int (iv v113_8)), (9, .int (iv z18)), (10, .int (iv v155_10))]) dX12_side_186 (by decide) rfl ?_
                        refine r_iinc (pc := 188) (v := iv (v155_10 + 1)) (lv' := [(10, .int (iv (v155_10 + 1))), (7, .int (iv z20)), (0, .ref y), (2, .int (iv x2)), (3, .int (iv (sz (Int.toNat x1)))), (4, .int (iv v66_4)), (5, .int (iv v66_5)), (6, .int (iv r9_12)), (8, .int (iv v113_8)), (9, .int (iv z18))]) dX12_side_188 rfl (iv_add _ _) (by decide) rfl ?_
                        refine r_goto (pc := 191) (tgt := 155) dX12_side_191 (by decide) ?_
                        refine Rn.pick (lv' := [(0, .ref y), (2, .int (iv x2)), (3, .int (iv (sz (Int.toNat x1)))), (4, .int (iv v66_4)), (5, .int (iv v66_5)), (6, .int (iv r9_12)), (7, .int (iv z20)), (8, .int (iv v113_8)), (9, .int (iv z18)), (10, .int (iv (v155_10 + 1)))]) [2, 3, 4, 5, 6, 7, 1, 8, 9, 0] rfl ?_
                        exact ih155 (Int.toNat (16 - (v155_10 + 1))) (by omega) _ ht155 z20 (v155_10 + 1) ⟨by omega, by omega, by omega, by omega, by omega, by omega, by (first | exact hpr | exact sdp_0)⟩ (by omega)
                      · have pm171 : Me v113_8 (Int.toNat v155_10) := Me_bit.mp (by omega)
                        refine r_aload_n (pc := 174) dX12_side_174 (i := 0) rfl rfl ?_
                        refine t_getE (pc := 175) (.ref (y + 24)) ht155 (rd_of RX_y) fX12_81 dX12_side_175 rfl ?_
                        refine r_iload (pc := 178) dX12_side_178 rfl ?_
                        refine t_ialdX (pc := 180) (t0 := 0) ht155 (rd_of RX_beside) dX12_side_180 rfl (by decide) (by omega) (fun b21 => ?_)
                        have rb21 := (show Rfx 16 0 65535 be by assumption) (Int.toNat v155_10) (by omega)
                        refine r_goto (pc := 181) (tgt := 185) dX12_side_181 (by decide) ?_
                        obtain ⟨z22, hz22, bz22⟩ := or_2 16 v155_7 (be (Int.toNat v155_10)) (by omega) (by omega) (by decide)
                        refine r_ior (pc := 185) (v := iv z22) dX12_side_185 hz22 ?_
                        have mez22 := Me_or hz22 (by omega) (by omega) (by omega)
                        have hpr := sdp_y (by assumption : sdPt be v93_7 v113_8 v155_7 v155_10) (by omega) pm171 mez22
                        refine r_istore (pc := 186) (lv' := [(7, .int (iv z22)), (0, .ref y), (2, .int (iv x2)), (3, .int (iv (sz (Int.toNat x1)))), (4, .int (iv v66_4)), (5, .int (iv v66_5)), (6, .int (iv r9_12)), (8, .int (iv v113_8)), (9, .int (iv z18)), (10, .int (iv v155_10))]) dX12_side_186 (by decide) rfl ?_
                        refine r_iinc (pc := 188) (v := iv (v155_10 + 1)) (lv' := [(10, .int (iv (v155_10 + 1))), (7, .int (iv z22)), (0, .ref y), (2, .int (iv x2)), (3, .int (iv (sz (Int.toNat x1)))), (4, .int (iv v66_4)), (5, .int (iv v66_5)), (6, .int (iv r9_12)), (8, .int (iv v113_8)), (9, .int (iv z18))]) dX12_side_188 rfl (iv_add _ _) (by decide) rfl ?_
                        refine r_goto (pc := 191) (tgt := 155) dX12_side_191 (by decide) ?_
                        refine Rn.pick (lv' := [(0, .ref y), (2, .int (iv x2)), (3, .int (iv (sz (Int.toNat x1)))), (4, .int (iv v66_4)), (5, .int (iv v66_5)), (6, .int (iv r9_12)), (7, .int (iv z22)), (8, .int (iv v113_8)), (9, .int (iv z18)), (10, .int (iv (v155_10 + 1)))]) [2, 3, 4, 5, 6, 7, 1, 8, 9, 0] rfl ?_
                        exact ih155 (Int.toNat (16 - (v155_10 + 1))) (by omega) _ ht155 z22 (v155_10 + 1) ⟨by omega, by omega, by omega, by omega, by omega, by omega, by (first | exact hpr | exact sdp_0)⟩ (by omega)
                  refine Rn.pick (lv' := [(0, .ref y), (2, .int (iv x2)), (3, .int (iv (sz (Int.toNat x1)))), (4, .int (iv v66_4)), (5, .int (iv v66_5)), (6, .int (iv r9_12)), (7, .int (iv v93_7)), (8, .int (iv v113_8)), (9, .int (iv z18)), (10, .int (iv 0))]) [1, 2, 3, 4, 5, 6, 7, 8, 9, 0] rfl ?_
                  exact B155 (Int.toNat (16 - 0)) _ ht113 v93_7 0 ⟨by omega, by omega, by omega, by omega, by omega, by omega, by (first | exact hpr | exact sdp_0)⟩ (by omega)
                · refine r_iload (pc := 119) dX12_side_119 rfl ?_
                  refine r_iload (pc := 121) dX12_side_121 rfl ?_
                  refine r_iload (pc := 123) dX12_side_123 rfl ?_
                  have hq125_23 := shr_le (Int.toNat v93_7) (Int.toNat v113_10)
                  refine r_ishr (pc := 125) (v := iv ((Int.toNat v93_7 >>> Int.toNat v113_10 : Nat) : Int)) dX12_side_125 (shr_e (by omega) (by omega)) ?_
                  refine r_iconst (pc := 126) (v := iv 1) dX12_side_126 (by decide) ?_
                  refine r_iand (pc := 127) (v := iv (((Int.toNat v93_7 >>> Int.toNat v113_10 : Nat) : Int) % 2)) dX12_side_127 (and1_e _ (by omega)) ?_
                  have mb127 := @Me_bit v93_7 v113_10
                  refine r_iconst (pc := 128) (v := iv 1) dX12_side_128 (by decide) ?_
                  refine t_icmp_ne (pc := 129) (tgt := 142) dX12_side_129 (by decide) (by omega) (by omega) (fun c129 => ?_) (fun c129 => ?_)
                  · have nm129 : ¬ Me v93_7 (Int.toNat v113_10) := fun h9 => absurd (Me_bit.mpr h9) (by omega)
                    refine r_iconst (pc := 142) (v := iv 0) dX12_side_142 (by decide) ?_
                    obtain ⟨z24, hz24, bz24⟩ := or_2 16 v113_8 0 (by omega) (by omega) (by decide)
                    refine r_ior (pc := 143) (v := iv z24) dX12_side_143 hz24 ?_
                    have mez24 := Me_or hz24 (by omega) (by omega) (by omega)
                    have hpq := sdp_n (by assumption : sdPt be v93_8 v93_7 v113_8 v113_10) (by omega) nm129 mez24
                    refine r_istore (pc := 144) (lv' := [(8, .int (iv z24)), (0, .ref y), (2, .int (iv x2)), (3, .int (iv (sz (Int.toNat x1)))), (4, .int (iv v66_4)), (5, .int (iv v66_5)), (6, .int (iv r9_12)), (7, .int (iv v93_7)), (9, .int (iv z18)), (10, .int (iv v113_10))]) dX12_side_144 (by decide) rfl ?_
                    refine r_iinc (pc := 146) (v := iv (v113_10 + 1)) (lv' := [(10, .int (iv (v113_10 + 1))), (8, .int (iv z24)), (0, .ref y), (2, .int (iv x2)), (3, .int (iv (sz (Int.toNat x1)))), (4, .int (iv v66_4)), (5, .int (iv v66_5)), (6, .int (iv r9_12)), (7, .int (iv v93_7)), (9, .int (iv z18))]) dX12_side_146 rfl (iv_add _ _) (by decide) rfl ?_
                    refine r_goto (pc := 149) (tgt := 113) dX12_side_149 (by decide) ?_
                    refine Rn.pick (lv' := [(0, .ref y), (2, .int (iv x2)), (3, .int (iv (sz (Int.toNat x1)))), (4, .int (iv v66_4)), (5, .int (iv v66_5)), (6, .int (iv r9_12)), (7, .int (iv v93_7)), (8, .int (iv z24)), (9, .int (iv z18)), (10, .int (iv (v113_10 + 1)))]) [2, 3, 4, 5, 6, 7, 8, 1, 9, 0] rfl ?_
                    exact ih113 (Int.toNat (16 - (v113_10 + 1))) (by omega) _ ht113 z24 (v113_10 + 1) ⟨by omega, by omega, by omega, by omega, by omega, by omega, by (first | exact hpq | exact sdp_0)⟩ (by omega)
                  · have pm129 : Me v93_7 (Int.toNat v113_10) := Me_bit.mp (by omega)
                    refine r_aload_n (pc := 132) dX12_side_132 (i := 0) rfl rfl ?_
                    refine t_getE (pc := 133) (.ref (y + 24)) ht113 (rd_of RX_y) fX12_81 dX12_side_133 rfl ?_
                    refine r_iload (pc := 136) dX12_side_136 rfl ?_
                    refine t_ialdX (pc := 138) (t0 := 0) ht113 (rd_of RX_beside) dX12_side_138 rfl (by decide) (by omega) (fun b25 => ?_)
                    have rb25 := (show Rfx 16 0 65535 be by assumption) (Int.toNat v113_10) (by omega)
                    refine r_goto (pc := 139) (tgt := 143) dX12_side_139 (by decide) ?_
                    obtain ⟨z26, hz26, bz26⟩ := or_2 16 v113_8 (be (Int.toNat v113_10)) (by omega) (by omega) (by decide)
                    refine r_ior (pc := 143) (v := iv z26) dX12_side_143 hz26 ?_
                    have mez26 := Me_or hz26 (by omega) (by omega) (by omega)
                    have hpq := sdp_y (by assumption : sdPt be v93_8 v93_7 v113_8 v113_10) (by omega) pm129 mez26
                    refine r_istore (pc := 144) (lv' := [(8, .int (iv z26)), (0, .ref y), (2, .int (iv x2)), (3, .int (iv (sz (Int.toNat x1)))), (4, .int (iv v66_4)), (5, .int (iv v66_5)), (6, .int (iv r9_12)), (7, .int (iv v93_7)), (9, .int (iv z18)), (10, .int (iv v113_10))]) dX12_side_144 (by decide) rfl ?_
                    refine r_iinc (pc := 146) (v := iv (v113_10 + 1)) (lv' := [(10, .int (iv (v113_10 + 1))), (8, .int (iv z26)), (0, .ref y), (2, .int (iv x2)), (3, .int (iv (sz (Int.toNat x1)))), (4, .int (iv v66_4)), (5, .int (iv v66_5)), (6, .int (iv r9_12)), (7, .int (iv v93_7)), (9, .int (iv z18))]) dX12_side_146 rfl (iv_add _ _) (by decide) rfl ?_
                    refine r_goto (pc := 149) (tgt := 113) dX12_side_149 (by decide) ?_
                    refine Rn.pick (lv' := [(0, .ref y), (2, .int (iv x2)), (3, .int (iv (sz (Int.toNat x1)))), (4, .int (iv v66_4)), (5, .int (iv v66_5)), (6, .int (iv r9_12)), (7, .int (iv v93_7)), (8, .int (iv z26)), (9, .int (iv z18)), (10, .int (iv (v113_10 + 1)))]) [2, 3, 4, 5, 6, 7, 8, 1, 9, 0] rfl ?_
                    exact ih113 (Int.toNat (16 - (v113_10 + 1))) (by omega) _ ht113 z26 (v113_10 + 1) ⟨by omega, by omega, by omega, by omega, by omega, by omega, by (first | exact hpq | exact sdp_0)⟩ (by omega)
              refine Rn.pick (lv' := [(0, .ref y), (2, .int (iv x2)), (3, .int (iv (sz (Int.toNat x1)))), (4, .int (iv v66_4)), (5, .int (iv v66_5)), (6, .int (iv r9_12)), (7, .int (iv v93_7)), (8, .int (iv v93_8)), (9, .int (iv z18)), (10, .int (iv 0))]) [2, 3, 4, 5, 6, 7, 8, 9, 1, 0] rfl ?_
              exact B113 (Int.toNat (16 - 0)) _ ht93 v93_8 0 ⟨by omega, by omega, by omega, by omega, by omega, by omega, by (first | exact hpq | exact sdp_0)⟩ (by omega)
          refine Rn.pick (lv' := [(0, .ref y), (2, .int (iv x2)), (3, .int (iv (sz (Int.toNat x1)))), (4, .int (iv v66_4)), (5, .int (iv v66_5)), (6, .int (iv r9_12)), (7, .int (iv z13)), (8, .int (iv 0)), (9, .int (iv (-1)))]) [4, 5, 6, 7, 8, 3, 2, 1, 0] rfl ?_
          exact B93 (Int.toNat (65536 - (-1))) _ ht11 z13 0 (-1) ⟨by omega, by omega, by omega, by omega, by omega, by omega, by omega, by omega, by omega, by (first | exact hsz9 | exact sdz_0 hzl hp2), by (first | exact hsn9 | exact Or.inl rfl)⟩ (by omega)
      refine Rn.pick (lv' := [(0, .ref y), (2, .int (iv x2)), (3, .int (iv (sz (Int.toNat x1)))), (4, .int (iv 0)), (5, .int (iv (((2 ^ Int.toNat (sz (Int.toNat x1)) : Nat) : Int) - 1)))]) [2, 4, 5, 1, 0] rfl ?_
      exact B66 (Int.toNat ((((2 ^ Int.toNat (sz (Int.toNat x1)) : Nat) : Int) - 1))) _ ht10 0 (((2 ^ Int.toNat (sz (Int.toNat x1)) : Nat) : Int) - 1) ⟨by omega, by omega, by omega, by omega, by omega, by (first | exact hsr9 | exact sdr_0 hall hFn)⟩ (by omega)
    · refine r_aload_n (pc := 21) dX12_side_21 (i := 0) rfl rfl ?_
      refine t_getE (pc := 22) (.ref (y + 5)) ht10 (rd_of RX_y) fX12_23 dX12_side_22 rfl ?_
      refine r_iload_n (pc := 25) dX12_side_25 (i := 1) rfl rfl ?_
      refine r_iload (pc := 26) dX12_side_26 rfl ?_
      refine t_callSI (pc := 28) (as := [.int (iv x1), .int (iv v10_4)]) (st := [.ref (y + 5)]) kX12_157 dX12_side_28 (t_X12_at1x (d := d - 1) (x1 := x1) (x2 := v10_4) (by omega)  ht10 (by omega) (by omega)) rfl (by omega) (Nat.le_of_ble_eq_true rfl) rfl (fun hp27 y29 ht28 by29 => ?_)
      have ey29 : y29 = 60 * x1 + v10_4 := by29
      subst ey29
      have eF := sh_at fr (60 * x1) (v := v10_4) (by omega)
      have eT := sh_at tt (60 * x1) (v := v10_4) (by omega)
      refine t_ialdX (pc := 31) (t0 := 0) ht28 (rd_of RX_from) dX12_side_31 rfl (by decide) (by omega) (fun b30 => ?_)
      have rb30 := (show Rfx 7260 0 15 fr by assumption) (Int.toNat (60 * x1 + v10_4)) (by omega)
      refine r_aload_n (pc := 32) dX12_side_32 (i := 0) rfl rfl ?_
      refine t_getE (pc := 33) (.ref (y + 6)) ht28 (rd_of RX_y) fX12_26 dX12_side_33 rfl ?_
      refine r_iload_n (pc := 36) dX12_side_36 (i := 1) rfl rfl ?_
      refine r_iload (pc := 37) dX12_side_37 rfl ?_
      refine t_callSI (pc := 39) (as := [.int (iv x1), .int (iv v10_4)]) (st := [.ref (y + 6), .int (iv (fr (Int.toNat (60 * x1 + v10_4))))]) kX12_157 dX12_side_39 (t_X12_at1x (d := d - 1) (x1 := x1) (x2 := v10_4) (by omega)  ht28 (by omega) (by omega)) rfl (by omega) (Nat.le_of_ble_eq_true rfl) rfl (fun hp31 y33 ht32 by33 => ?_)
      have ey33 : y33 = 60 * x1 + v10_4 := by33
      subst ey33
      refine t_ialdX (pc := 42) (t0 := 0) ht32 (rd_of RX_to) dX12_side_42 rfl (by decide) (by omega) (fun b34 => ?_)
      have rb34 := (show Rfx 7260 0 15 tt by assumption) (Int.toNat (60 * x1 + v10_4)) (by omega)
      refine t_icmp_ne (pc := 43) (tgt := 50) dX12_side_43 (by decide) (by omega) (by omega) (fun c43 => ?_) (fun c43 => ?_)
      · have hsl := sdl_up (by assumption : sdL (sh fr (60 * x1)) (sh tt (60 * x1)) v10_4) (by omega) (by rw [← eF, ← eT]; omega)
        refine r_iinc (pc := 50) (v := iv (v10_4 + 1)) (lv' := [(4, .int (iv (v10_4 + 1))), (0, .ref y), (1, .int (iv x1)), (2, .int (iv x2)), (3, .int (iv (sz (Int.toNat x1))))]) dX12_side_50 rfl (iv_add _ _) (by decide) rfl ?_
        refine r_goto (pc := 53) (tgt := 10) dX12_side_53 (by decide) ?_
        refine Rn.pick (lv' := [(0, .ref y), (1, .int (iv x1)), (2, .int (iv x2)), (3, .int (iv (sz (Int.toNat x1)))), (4, .int (iv (v10_4 + 1)))]) [1, 2, 3, 4, 0] rfl ?_
        exact ih10 (Int.toNat (60 - (v10_4 + 1))) (by omega) _ ht32 (v10_4 + 1) ⟨by omega, by omega, by omega, by (first | exact hsl | exact sdl_0)⟩ (by omega)
      · have hlp : (sh fr (60 * x1)) (Int.toNat v10_4) = (sh tt (60 * x1)) (Int.toNat v10_4) := by rw [← eF, ← eT]; omega
        refine r_ldc2 (pc := 46) (v := (-1)) dX12_side_46 kX12_357 ?_
        have hk46 : ((-1) : Int64).toInt = (-1) := by decide
        exact r_lret (pc := 49) dX12_side_49 rfl (hPo _ _ _ ⟨rfl, ((-1) : Int64), ht32, rfl, (by exact Or.inl ⟨hk46, sd_loop (k := Int.toNat v10_4) (by omega) hlp⟩)⟩)
  refine Rn.pick (lv' := [(0, .ref y), (1, .int (iv x1)), (2, .int (iv x2)), (3, .int (iv (sz (Int.toNat x1)))), (4, .int (iv 0))]) [2, 3, 4, 1, 0] rfl ?_
  exact B10 (Int.toNat (60 - 0)) _ ht 0 ⟨by omega, by omega, by omega, by (first | exact hsl | exact sdl_0)⟩ (by omega)
