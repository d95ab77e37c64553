theorem ow_if {d e : Int} {F T W : Nat → Int} {s : Nat → Bool} {k : Nat} (h : (s (F k).toNat = true ∧ s (T k).toNat = false) ∨ (d = 0 ∧ s (T k).toNat = true ∧ s (F k).toNat = false)) : owA d e F T W s k = wfA e W k := if_pos h
theorem ow_n1 {d e : Int} {F T W : Nat → Int} {s : Nat → Bool} {k : Nat} (hA : s (F k).toNat = true) (hB : s (T k).toNat = true) : owA d e F T W s k = 0 := if_neg (fun g => by
  rcases g with ⟨_, g⟩ | ⟨_, _, g⟩
  · rw [hB] at g; cases g
  · rw [hA] at g; cases g)
theorem ow_n2 {d e : Int} {F T W : Nat → Int} {s : Nat → Bool} {k : Nat} (hA : s (F k).toNat = false) (hB : s (T k).toNat = false) : owA d e F T W s k = 0 := if_neg (fun g => by
  rcases g with ⟨g, _⟩ | ⟨_, g, _⟩
  · rw [hA] at g; cases g
  · rw [hB] at g; cases g)
theorem ow_n3 {d e : Int} {F T W : Nat → Int} {s : Nat → Bool} {k : Nat} (hA : s (F k).toNat = false) (hd : d ≠ 0) : owA d e F T W s k = 0 := if_neg (fun g => by
  rcases g with ⟨g, _⟩ | ⟨g, _, _⟩
  · rw [hA] at g; cases g
  · exact hd g)
theorem wfa_1 {e : Int} {W : Nat → Int} {k : Nat} (h : e ≠ 0) : wfA e W k = 1 := if_neg h
theorem wfa_2 {e : Int} {W : Nat → Int} {k : Nat} (h : e = 0) (hw : 0 < W k) : wfA e W k = W k := by
  unfold wfA; rw [if_pos h, if_pos hw]
theorem wfa_3 {e : Int} {W : Nat → Int} {k : Nat} (h : e = 0) (hw : ¬ 0 < W k) : wfA e W k = 0 := by
  unfold wfA; rw [if_pos h, if_neg hw]
theorem ou_up {m : Nat} {d e : Int} {F T W : Nat → Int} {s : Nat → Bool} {x y : Int64} {k : Int} (hW : ∀ k, k < m → -1000 ≤ W k ∧ W k ≤ 1000) (hm : m ≤ 60) (h0 : 0 ≤ k ∧ k < (m : Int)) (hx : x.toInt = sgm (owA d e F T W s) (Int.toNat k)) (ho : owA d e F T W s (Int.toNat k) = wfA e W (Int.toNat k)) (hy : y.toInt = wfA e W (Int.toNat k)) : (x + y).toInt = sgm (owA d e F T W s) (Int.toNat (k + 1)) := by
  have h1 := ou_b (d := d) (e := e) (F := F) (T := T) (s := s) hW (Int.toNat k) (by omega)
  have h2 := wf_b (e := e) hW (Int.toNat k) (by omega)
  rw [l_add (by omega), show Int.toNat (k + 1) = Int.toNat k + 1 by omega, hx, hy, ← ho]
  rfl
theorem ou_no {d e : Int} {F T W : Nat → Int} {s : Nat → Bool} {x : Int64} {k : Int} (h0 : 0 ≤ k) (hx : x.toInt = sgm (owA d e F T W s) (Int.toNat k)) (ho : owA d e F T W s (Int.toNat k) = 0) : x.toInt = sgm (owA d e F T W s) (Int.toNat (k + 1)) := by
  rw [show Int.toNat (k + 1) = Int.toNat k + 1 by omega, hx]
  show _ = sgm (owA d e F T W s) (Int.toNat k) + owA d e F T W s (Int.toNat k)
  rw [ho]; omega
/-- the least so far -/
def mnI (m : Nat) (d e : Int) (F T W : Nat → Int) (n x y : Nat) (far k b : Int) : Prop := (∀ S, ctP n x y S → S < k → b ≤ ouA m d e F T W (msk S)) ∧ (b = far ∨ ∃ S, ctP n x y S ∧ ouA m d e F T W (msk S) = b)
theorem mni_0 {m : Nat} {d e : Int} {F T W : Nat → Int} {n x y : Nat} {far : Int} : mnI m d e F T W n x y far 0 far := ⟨fun S h1 h2 => by have := h1.1; omega, Or.inl rfl⟩
theorem mni_sk {m : Nat} {d e : Int} {F T W : Nat → Int} {n x y : Nat} {far k b : Int} (h : mnI m d e F T W n x y far k b) (hn : ¬ ctP n x y k) : mnI m d e F T W n x y far (k + 1) b := ⟨fun S h1 h2 => by
  by_cases g : S = k
  · subst g; exact absurd h1 hn
  · exact h.1 S h1 (by omega), h.2⟩
theorem mni_ge {m : Nat} {d e : Int} {F T W : Nat → Int} {n x y : Nat} {far k b q : Int} (h : mnI m d e F T W n x y far k b) (hq : q = ouA m d e F T W (msk k)) (hg : b ≤ q) : mnI m d e F T W n x y far (k + 1) b := ⟨fun S h1 h2 => by
  by_cases g : S = k
  · subst g; omega
  · exact h.1 S h1 (by omega), h.2⟩
theorem mni_lt {m : Nat} {d e : Int} {F T W : Nat → Int} {n x y : Nat} {far k b q : Int} (h : mnI m d e F T W n x y far k b) (hk : ctP n x y k) (hq : q = ouA m d e F T W (msk k)) (hg : q < b) : mnI m d e F T W n x y far (k + 1) q := ⟨fun S h1 h2 => by
  by_cases g : S = k
  · subst g; omega
  · have := h.1 S h1 (by omega)
    omega, Or.inr ⟨k, hk, hq.symm⟩⟩
theorem ct_one {n x y : Nat} (hx : x < n) (hxy : x ≠ y) : ctP n x y ((2 ^ x : Nat) : Int) :=
  ⟨⟨Int.natCast_nonneg _, Int.ofNat_lt.mpr (Nat.pow_lt_pow_right (by omega) hx)⟩, (Me_shl x x).mpr rfl, fun g => hxy ((Me_shl x y).mp g).symm⟩
theorem mni_end {m : Nat} {d e : Int} {F T W : Nat → Int} {n x y : Nat} {far k b : Int} (hW : ∀ k, k < m → -1000 ≤ W k ∧ W k ≤ 1000) (hm : m ≤ 60) (h : mnI m d e F T W n x y far k b) (hk : ((2 ^ n : Nat) : Int) ≤ k) (hf : 60000 < far) (hx : x < n) (hxy : x ≠ y) : mcA m d e F T W n x y b := by
  have h1 : ∀ S, ctP n x y S → b ≤ ouA m d e F T W (msk S) := fun S hS => h.1 S hS (by have := hS.1; omega)
  have h2 := h1 _ (ct_one hx hxy)
  have h3 := ou_b (d := d) (e := e) (F := F) (T := T) (s := msk ((2 ^ x : Nat) : Int)) hW m (Nat.le_refl _)
  have h4 : ouA m d e F T W (msk ((2 ^ x : Nat) : Int)) = sgm (owA d e F T W (msk ((2 ^ x : Nat) : Int))) m := rfl
  rcases h.2 with g | g
  · omega
  · exact ⟨g, h1⟩
/-- no least cut below k -/
def mcI (m : Nat) (d e : Int) (F T W : Nat → Int) (n x y : Nat) (k b : Int) : Prop := ∀ S, ctP n x y S → S < k → ouA m d e F T W (msk S) ≠ b
theorem mci_0 {m : Nat} {d e : Int} {F T W : Nat → Int} {n x y : Nat} {b : Int} : mcI m d e F T W n x y 0 b := fun S h1 h2 => by have := h1.1; omega
theorem mci_up {m : Nat} {d e : Int} {F T W : Nat → Int} {n x y : Nat} {k b : Int} (h : mcI m d e F T W n x y k b) (hn : ctP n x y k → ouA m d e F T W (msk k) ≠ b) : mcI m d e F T W n x y (k + 1) b := fun S h1 h2 => by
  by_cases g : S = k
  · subst g; exact hn h1
  · exact h S h1 (by omega)
theorem mci_y {m : Nat} {d e : Int} {F T W : Nat → Int} {n x y : Nat} {k b : Int} (h : mcI m d e F T W n x y k b) (ha : mcA m d e F T W n x y b) (hk : ctP n x y k) (hb : ouA m d e F T W (msk k) = b) : mcS m d e F T W n x y k :=
  ⟨hk, fun S hS => by rw [hb]; exact ha.2 S hS, fun S hS e => Classical.byContradiction (fun g => h S hS (by omega) (by rw [e]; exact hb))⟩
theorem mci_e {m : Nat} {d e : Int} {F T W : Nat → Int} {n x y : Nat} {k b : Int} (h : mcI m d e F T W n x y k b) (ha : mcA m d e F T W n x y b) (hk : ((2 ^ n : Nat) : Int) ≤ k) : False := by
  obtain ⟨⟨S, h1, h2⟩, -⟩ := ha
  exact h S h1 (by have := h1.1; omega) h2
set_option maxHeartbeats 4000000 in
set_option maxRecDepth 100000 in
theorem x_X12_out {D : va_G} {cI cJ cZ cT : ClassId} {lo b L : Nat} {xs : Nat → Int32} {hp : MH} {n d : Nat} {Γ : TG} {y : Nat} {rf cn nm : Int} {so sz dr mn fr tt wt co : Nat → Int} {nu : Nat → Int64} {sa : Nat → Int} {wo : Nat → Int64} {ln : Nat → Int} {hw : Nat → Int64} {ro qi qc nf nt nw nc : Nat → Int} {cl nx : Nat → Int64} {ie be sd bl : Nat → Int} {bs wy ra rb : Nat → Int64} {lb bg os js ls : Nat → Int} {sp : Nat → Int64} {jw go : Nat → Int} {de : Nat → Int64} {yb ah im : Nat → Int} {x1 x2 x3 : Int} {Po9 : Option Value → MH → Nat → Prop} (hd0 : 1 ≤ d) (hR_many : Rfx 121 0 60 mn) (hR_from : Rfx 7260 0 15 fr) (hR_to : Rfx 7260 0 15 tt) (hR_weight : Rfx 7260 (-1000) 1000 wt) (hR_directs : Rfx 121 0 1 dr) (ht : Tw (RX Γ cI cJ cZ y rf cn nm so sz dr mn fr tt wt co nu sa wo ln hw ro qi qc nf nt nw nc cl nx ie be sd bl bs wy ra rb lb bg os js ls sp jw go de yb ah im) hp) (hx1 : 0 ≤ x1 ∧ x1 ≤ 120) (hx2 : 0 ≤ x2 ∧ x2 ≤ 65535) (hx3 : 0 ≤ x3 ∧ x3 ≤ 1) (hPo : ∀ r hp1 n1, (n1 = n ∧ ∃ (q9 : Int64), Tw (RX Γ cI cJ cZ y rf cn nm so sz dr mn fr tt wt co nu sa wo ln hw ro qi qc nf nt nw nc cl nx ie be sd bl bs wy ra rb lb bg os js ls sp jw go de yb ah im) hp1 ∧ r = some (.long q9) ∧ (q9.toInt = ouA (Int.toNat (mn (Int.toNat x1))) (dr (Int.toNat x1)) x3 (sh fr (60 * x1)) (sh tt (60 * x1)) (sh wt (60 * x1)) (msk x2)) ∧ (0 ≤ q9.toInt ∧ q9.toInt ≤ 60000)) → Po9 r hp1 n1) : Mt (gG D cI cJ cZ cT lo b L xs) mX12_out d 0 0 [.ref y, .int (iv x1), .int (iv x2), .int (iv x3)] hp n Po9 := by
  refine Mt.of rfl (Nat.le_of_ble_eq_true rfl) ?_
  refine Rn.pick (lv' := [(0, .ref y), (1, .int (iv x1)), (2, .int (iv x2)), (3, .int (iv x3))]) [0, 1, 2, 3] rfl ?_
  have rmn := hR_many (Int.toNat x1) (by omega)
  have rdr := hR_directs (Int.toNat x1) (by omega)
  have hWb : ∀ k, k < (Int.toNat (mn (Int.toNat x1))) → -1000 ≤ (sh wt (60 * x1)) k ∧ (sh wt (60 * x1)) k ≤ 1000 := fun k hk => hR_weight (60 * x1 + (k : Int)).toNat (by omega)
  refine r_lconst (pc := 0) (v := 0) dX12_out_0 (by decide) ?_
  have hk0 : (0 : Int64).toInt = 0 := by decide
  refine r_lstore (pc := 1) (lv' := [(4, .long (0 : Int64)), (0, .ref y), (1, .int (iv x1)), (2, .int (iv x2)), (3, .int (iv x3))]) dX12_out_1 (by decide) rfl ?_
  refine r_iconst (pc := 3) (v := iv 0) dX12_out_3 (by decide) ?_
  refine r_istore (pc := 4) (lv' := [(6, .int (iv 0)), (4, .long (0 : Int64)), (0, .ref y), (1, .int (iv x1)), (2, .int (iv x2)), (3, .int (iv x3))]) dX12_out_4 (by decide) rfl ?_
  have B6 : ∀ k : Nat, ∀ hp6 : MH, Tw (RX Γ cI cJ cZ y rf cn nm so sz dr mn fr tt wt co nu sa wo ln hw ro qi qc nf nt nw nc cl nx ie be sd bl bs wy ra rb lb bg os js ls sp jw go de yb ah im) hp6 → ∀  (v6_6 : Int) (w6_4 : Int64), 0 ≤ v6_6 ∧ v6_6 ≤ 60 ∧ (v6_6 ≤ (mn (Int.toNat x1))) ∧ (w6_4.toInt = sgm (owA (dr (Int.toNat x1)) x3 (sh fr (60 * x1)) (sh tt (60 * x1)) (sh wt (60 * x1)) (msk x2)) (Int.toNat v6_6)) → 60 - v6_6 ≤ (k : Int) → Rn (gG D cI cJ cZ cT lo b L xs) mX12_out d 6 [(0, .ref y), (1, .int (iv x1)), (2, .int (iv x2)), (3, .int (iv x3)), (4, .long w6_4), (6, .int (iv v6_6))] [] hp6 n 0 0 Po9 := by
    refine lpS _ ?_
    intro k6 ih6 hp6 ht6 v6_6 w6_4 hf6 hm6
    obtain ⟨hf6_0, hf6_1, hf6_2, ha6_3⟩ := hf6
    refine r_iload (pc := 6) dX12_out_6 rfl ?_
    refine r_aload_n (pc := 8) dX12_out_8 (i := 0) rfl rfl ?_
    refine t_getE (pc := 9) (.ref (y + 4)) ht6 (rd_of RX_y) fX12_20 dX12_out_9 rfl ?_
    refine r_iload_n (pc := 12) dX12_out_12 (i := 1) rfl rfl ?_
    refine t_ialdX (pc := 13) (t0 := 0) ht6 (rd_of RX_many) dX12_out_13 rfl (by decide) (by omega) (fun b1 => ?_)
    have rb1 := (show Rfx 121 0 60 mn by assumption) (Int.toNat x1) (by omega)
    refine t_icmp_ge (pc := 14) (tgt := 139) dX12_out_14 (by decide) (by omega) (by omega) (fun c14 => ?_) (fun c14 => ?_)
    · refine r_lload (pc := 139) dX12_out_139 rfl ?_
      exact r_lret (pc := 141) dX12_out_141 rfl (hPo _ _ _ ⟨rfl, w6_4, ht6, rfl, (by (rw [(by assumption : w6_4.toInt = sgm (owA (dr (Int.toNat x1)) x3 (sh fr (60 * x1)) (sh tt (60 * x1)) (sh wt (60 * x1)) (msk x2)) (Int.toNat v6_6)), show v6_6 = ((((Int.toNat (mn (Int.toNat x1)))) : Nat) : Int) by omega, Int.toNat_natCast]; rfl)), (by (have h9 := ou_b (d := (dr (Int.toNat x1))) (e := x3) (F := (sh fr (60 * x1))) (T := (sh tt (60 * x1))) (s := msk x2) hWb (Int.toNat v6_6) (by omega); have h8 := (by assumption : w6_4.toInt = sgm (owA (dr (Int.toNat x1)) x3 (sh fr (60 * x1)) (sh tt (60 * x1)) (sh wt (60 * x1)) (msk x2)) (Int.toNat v6_6)); omega))⟩)
    · refine r_iload_n (pc := 17) dX12_out_17 (i := 1) rfl rfl ?_
      refine r_iload (pc := 18) dX12_out_18 rfl ?_
      refine t_callSI (pc := 20) (as := [.int (iv x1), .int (iv v6_6)]) (st := []) kX12_157 dX12_out_20 (t_X12_at1x (d := d - 1) (x1 := x1) (x2 := v6_6) (by omega)  ht6 (by omega) (by omega)) rfl (by omega) (Nat.le_of_ble_eq_true rfl) rfl (fun hp2 y4 ht3 by4 => ?_)
      have ey4 : y4 = 60 * x1 + v6_6 := by4
      subst ey4
      have eF := sh_at fr (60 * x1) (v := v6_6) (by omega)
      have eT := sh_at tt (60 * x1) (v := v6_6) (by omega)
      have eW := sh_at wt (60 * x1) (v := v6_6) (by omega)
      refine r_istore (pc := 23) (lv' := [(7, .int (iv (60 * x1 + v6_6))), (0, .ref y), (1, .int (iv x1)), (2, .int (iv x2)), (3, .int (iv x3)), (4, .long w6_4), (6, .int (iv v6_6))]) dX12_out_23 (by decide) rfl ?_
      refine r_iload_n (pc := 25) dX12_out_25 (i := 2) rfl rfl ?_
      refine r_aload_n (pc := 26) dX12_out_26 (i := 0) rfl rfl ?_
      refine t_getE (pc := 27) (.ref (y + 5)) ht3 (rd_of RX_y) fX12_23 dX12_out_27 rfl ?_
      refine r_iload (pc := 30) dX12_out_30 rfl ?_
      refine t_ialdX (pc := 32) (t0 := 0) ht3 (rd_of RX_from) dX12_out_32 rfl (by decide) (by omega) (fun b5 => ?_)
      have rb5 := (show Rfx 7260 0 15 fr by assumption) (Int.toNat (60 * x1 + v6_6)) (by omega)
      have hq33_6 := shr_le (Int.toNat x2) (Int.toNat (fr (Int.toNat (60 * x1 + v6_6))))
      refine r_ishr (pc := 33) (v := iv ((Int.toNat x2 >>> Int.toNat (fr (Int.toNat (60 * x1 + v6_6))) : Nat) : Int)) dX12_out_33 (shr_e (by omega) (by omega)) ?_
      refine r_iconst (pc := 34) (v := iv 1) dX12_out_34 (by decide) ?_
      refine r_iand (pc := 35) (v := iv (((Int.toNat x2 >>> Int.toNat (fr (Int.toNat (60 * x1 + v6_6))) : Nat) : Int) % 2)) dX12_out_35 (and1_e _ (by omega)) ?_
      have mb35 := @Me_bit x2 (fr (Int.toNat (60 * x1 + v6_6)))
      refine r_iconst (pc := 36) (v := iv 1) dX12_out_36 (by decide) ?_
      refine t_icmp_ne (pc := 37) (tgt := 44) dX12_out_37 (by decide) (by omega) (by omega) (fun c37 => ?_) (fun c37 => ?_)
      · have nm37 : ¬ Me x2 (Int.toNat (fr (Int.toNat (60 * x1 + v6_6)))) := fun h9 => absurd (Me_bit.mpr h9) (by omega)
        have hA : msk x2 ((sh fr (60 * x1)) (Int.toNat v6_6)).toNat = false := Bool.eq_false_iff.mpr (fun g9 => nm37 (by rw [eF]; exact g9))
        refine r_iconst (pc := 44) (v := iv 0) dX12_out_44 (by decide) ?_
        refine r_istore (pc := 45) (lv' := [(8, .int (iv 0)), (7, .int (iv (60 * x1 + v6_6))), (0, .ref y), (1, .int (iv x1)), (2, .int (iv x2)), (3, .int (iv x3)), (4, .long w6_4), (6, .int (iv v6_6))]) dX12_out_45 (by decide) rfl ?_
        refine r_iload_n (pc := 47) dX12_out_47 (i := 2) rfl rfl ?_
        refine r_aload_n (pc := 48) dX12_out_48 (i := 0) rfl rfl ?_
        refine t_getE (pc := 49) (.ref (y + 6)) ht3 (rd_of RX_y) fX12_26 dX12_out_49 rfl ?_
        refine r_iload (pc := 52) dX12_out_52 rfl ?_
        refine t_ialdX (pc := 54) (t0 := 0) ht3 (rd_of RX_to) dX12_out_54 rfl (by decide) (by omega) (fun b7 => ?_)
        have rb7 := (show Rfx 7260 0 15 tt by assumption) (Int.toNat (60 * x1 + v6_6)) (by omega)
        have hq55_8 := shr_le (Int.toNat x2) (Int.toNat (tt (Int.toNat (60 * x1 + v6_6))))
        refine r_ishr (pc := 55) (v := iv ((Int.toNat x2 >>> Int.toNat (tt (Int.toNat (60 * x1 + v6_6))) : Nat) : Int)) dX12_out_55 (shr_e (by omega) (by omega)) ?_
        refine r_iconst (pc := 56) (v := iv 1) dX12_out_56 (by decide) ?_
        refine r_iand (pc := 57) (v := iv (((Int.toNat x2 >>> Int.toNat (tt (Int.toNat (60 * x1 + v6_6))) : Nat) : Int) % 2)) dX12_out_57 (and1_e _ (by omega)) ?_
        have mb57 := @Me_bit x2 (tt (Int.toNat (60 * x1 + v6_6)))
        refine r_iconst (pc := 58) (v := iv 1) dX12_out_58 (by decide) ?_
        refine t_icmp_ne (pc := 59) (tgt := 66) dX12_out_59 (by decide) (by omega) (by omega) (fun c59 => ?_) (fun c59 => ?_)
        · have nm59 : ¬ Me x2 (Int.toNat (tt (Int.toNat (60 * x1 + v6_6)))) := fun h9 => absurd (Me_bit.mpr h9) (by omega)
          have hB : msk x2 ((sh tt (60 * x1)) (Int.toNat v6_6)).toNat = false := Bool.eq_false_iff.mpr (fun g9 => nm59 (by rw [eT]; exact g9))
          refine r_iconst (pc := 66) (v := iv 0) dX12_out_66 (by decide) ?_
          refine r_istore (pc := 67) (lv' := [(9, .int (iv 0)), (8, .int (iv 0)), (7, .int (iv (60 * x1 + v6_6))), (0, .ref y), (1, .int (iv x1)), (2, .int (iv x2)), (3, .int (iv x3)), (4, .long w6_4), (6, .int (iv v6_6))]) dX12_out_67 (by decide) rfl ?_
          refine r_iload (pc := 69) dX12_out_69 rfl ?_
          refine t_if_eq (pc := 71) (tgt := 79) dX12_out_71 (by decide) (by omega) (fun c71 => ?_) (fun c71 => ?_)
          · refine r_aload_n (pc := 79) dX12_out_79 (i := 0) rfl rfl ?_
            refine t_getE (pc := 80) (.ref (y + 3)) ht3 (rd_of RX_y) fX12_16 dX12_out_80 rfl ?_
            refine r_iload_n (pc := 83) dX12_out_83 (i := 1) rfl rfl ?_
            refine t_zaldX (pc := 84) (t0 := 2) ht3 (rd_of RX_directs) dX12_out_84 rfl (by decide) (by omega) (fun b9 => ?_)
            have rb9 := (show Rfx 121 0 1 dr by assumption) (Int.toNat x1) (by omega)
            refine t_if_ne (pc := 85) (tgt := 133) dX12_out_85 (by decide) (by omega) (fun c85 => ?_) (fun c85 => ?_)
            · have hou := ou_no (by omega) (by assumption : w6_4.toInt = sgm (owA (dr (Int.toNat x1)) x3 (sh fr (60 * x1)) (sh tt (60 * x1)) (sh wt (60 * x1)) (msk x2)) (Int.toNat v6_6)) (ow_n3 hA (by omega))
              refine r_iinc (pc := 133) (v := iv (v6_6 + 1)) (lv' := [(6, .int (iv (v6_6 + 1))), (9, .int (iv 0)), (8, .int (iv 0)), (7, .int (iv (60 * x1 + v6_6))), (0, .ref y), (1, .int (iv x1)), (2, .int (iv x2)), (3, .int (iv x3)), (4, .long w6_4)]) dX12_out_133 rfl (iv_add _ _) (by decide) rfl ?_
              refine r_goto (pc := 136) (tgt := 6) dX12_out_136 (by decide) ?_
              refine Rn.pick (lv' := [(0, .ref y), (1, .int (iv x1)), (2, .int (iv x2)), (3, .int (iv x3)), (4, .long w6_4), (6, .int (iv (v6_6 + 1)))]) [4, 5, 6, 7, 8, 0] rfl ?_
              exact ih6 (Int.toNat (60 - (v6_6 + 1))) (by omega) _ ht3 (v6_6 + 1) w6_4 ⟨by omega, by omega, by omega, by (first | exact hou | exact hk0)⟩ (by omega)
            · refine r_iload (pc := 88) dX12_out_88 rfl ?_
              refine t_if_eq (pc := 90) (tgt := 133) dX12_out_90 (by decide) (by omega) (fun c90 => ?_) (fun c90 => ?_)
              · have hou := ou_no (by omega) (by assumption : w6_4.toInt = sgm (owA (dr (Int.toNat x1)) x3 (sh fr (60 * x1)) (sh tt (60 * x1)) (sh wt (60 * x1)) (msk x2)) (Int.toNat v6_6)) (ow_n2 hA hB)
                refine r_iinc (pc := 133) (v := iv (v6_6 + 1)) (lv' := [(6, .int (iv (v6_6 + 1))), (9, .int (iv 0)), (8, .int (iv 0)), (7, .int (iv (60 * x1 + v6_6))), (0, .ref y), (1, .int (iv x1)), (2, .int (iv x2)), (3, .int (iv x3)), (4, .long w6_4)]) dX12_out_133 rfl (iv_add _ _) (by decide) rfl ?_
                refine r_goto (pc := 136) (tgt := 6) dX12_out_136 (by decide) ?_
                refine Rn.pick (lv' := [(0, .ref y), (1, .int (iv x1)), (2, .int (iv x2)), (3, .int (iv x3)), (4, .long w6_4), (6, .int (iv (v6_6 + 1)))]) [4, 5, 6, 7, 8, 0] rfl ?_
                exact ih6 (Int.toNat (60 - (v6_6 + 1))) (by omega) _ ht3 (v6_6 + 1) w6_4 ⟨by omega, by omega, by omega, by (first | exact hou | exact hk0)⟩ (by omega)
              · exfalso
                omega
          · exfalso
            omega
        · have pm59 : Me x2 (Int.toNat (tt (Int.toNat (60 * x1 + v6_6)))) := Me_bit.mp (by omega)
          have hB : msk x2 ((sh tt (60 * x1)) (Int.toNat v6_6)).toNat = true := by rw [← eT]; exact pm59
          refine r_iconst (pc := 62) (v := iv 1) dX12_out_62 (by decide) ?_
          refine r_goto (pc := 63) (tgt := 67) dX12_out_63 (by decide) ?_
          refine r_istore (pc := 67) (lv' := [(9, .int (iv 1)), (8, .int (iv 0)), (7, .int (iv (60 * x1 + v6_6))), (0, .ref y), (1, .int (iv x1)), (2, .int (iv x2)), (3, .int (iv x3)), (4, .long w6_4), (6, .int (iv v6_6))]) dX12_out_67 (by decide) rfl ?_
          refine r_iload (pc := 69) dX12_out_69 rfl ?_
          refine t_if_eq (pc := 71) (tgt := 79) dX12_out_71 (by decide) (by omega) (fun c71 => ?_) (fun c71 => ?_)
          · refine r_aload_n (pc := 79) dX12_out_79 (i := 0) rfl rfl ?_
            refine t_getE (pc := 80) (.ref (y + 3)) ht3 (rd_of RX_y) fX12_16 dX12_out_80 rfl ?_
            refine r_iload_n (pc := 83) dX12_out_83 (i := 1) rfl rfl ?_
            refine t_zaldX (pc := 84) (t0 := 2) ht3 (rd_of RX_directs) dX12_out_84 rfl (by decide) (by omega) (fun b10 => ?_)
            have rb10 := (show Rfx 121 0 1 dr by assumption) (Int.toNat x1) (by omega)
            refine t_if_ne (pc := 85) (tgt := 133) dX12_out_85 (by decide) (by omega) (fun c85 => ?_) (fun c85 => ?_)
            · have hou := ou_no (by omega) (by assumption : w6_4.toInt = sgm (owA (dr (Int.toNat x1)) x3 (sh fr (60 * x1)) (sh tt (60 * x1)) (sh wt (60 * x1)) (msk x2)) (Int.toNat v6_6)) (ow_n3 hA (by omega))
              refine r_iinc (pc := 133) (v := iv (v6_6 + 1)) (lv' := [(6, .int (iv (v6_6 + 1))), (9, .int (iv 1)), (8, .int (iv 0)), (7, .int (iv (60 * x1 + v6_6))), (0, .ref y), (1, .int (iv x1)), (2, .int (iv x2)), (3, .int (iv x3)), (4, .long w6_4)]) dX12_out_133 rfl (iv_add _ _) (by decide) rfl ?_
              refine r_goto (pc := 136) (tgt := 6) dX12_out_136 (by decide) ?_
              refine Rn.pick (lv' := [(0, .ref y), (1, .int (iv x1)), (2, .int (iv x2)), (3, .int (iv x3)), (4, .long w6_4), (6, .int (iv (v6_6 + 1)))]) [4, 5, 6, 7, 8, 0] rfl ?_
              exact ih6 (Int.toNat (60 - (v6_6 + 1))) (by omega) _ ht3 (v6_6 + 1) w6_4 ⟨by omega, by omega, by omega, by (first | exact hou | exact hk0)⟩ (by omega)
            · refine r_iload (pc := 88) dX12_out_88 rfl ?_
              refine t_if_eq (pc := 90) (tgt := 133) dX12_out_90 (by decide) (by omega) (fun c90 => ?_) (fun c90 => ?_)
              · exfalso
                omega
              · refine r_iload (pc := 93) dX12_out_93 rfl ?_
                refine t_if_ne (pc := 95) (tgt := 133) dX12_out_95 (by decide) (by omega) (fun c95 => ?_) (fun c95 => ?_)
                · exfalso
                  omega
                · refine r_lload (pc := 98) dX12_out_98 rfl ?_
                  refine r_iload_n (pc := 100) dX12_out_100 (i := 3) rfl rfl ?_
                  refine t_if_eq (pc := 101) (tgt := 108) dX12_out_101 (by decide) (by omega) (fun c101 => ?_) (fun c101 => ?_)
                  · refine r_aload_n (pc := 108) dX12_out_108 (i := 0) rfl rfl ?_
                    refine t_getE (pc := 109) (.ref (y + 7)) ht3 (rd_of RX_y) fX12_29 dX12_out_109 rfl ?_
                    refine r_iload (pc := 112) dX12_out_112 rfl ?_
                    refine t_ialdX (pc := 114) (t0 := 0) ht3 (rd_of RX_weight) dX12_out_114 rfl (by decide) (by omega) (fun b11 => ?_)
                    have rb11 := (show Rfx 7260 (-1000) 1000 wt by assumption) (Int.toNat (60 * x1 + v6_6)) (by omega)
                    refine t_if_le (pc := 115) (tgt := 129) dX12_out_115 (by decide) (by omega) (fun c115 => ?_) (fun c115 => ?_)
                    · refine r_lconst (pc := 129) (v := 0) dX12_out_129 (by decide) ?_
                      have hk129 : (0 : Int64).toInt = 0 := by decide
                      refine r_ladd (pc := 130) (v := w6_4 + (0 : Int64)) dX12_out_130 rfl ?_
                      have hou : (w6_4 + (0 : Int64)).toInt = sgm (owA (dr (Int.toNat x1)) x3 (sh fr (60 * x1)) (sh tt (60 * x1)) (sh wt (60 * x1)) (msk x2)) (Int.toNat (v6_6 + 1)) := ou_up hWb (by omega) (by omega) (by assumption : w6_4.toInt = sgm (owA (dr (Int.toNat x1)) x3 (sh fr (60 * x1)) (sh tt (60 * x1)) (sh wt (60 * x1)) (msk x2)) (Int.toNat v6_6)) (ow_if (Or.inr ⟨by omega, hB, hA⟩)) (by rw [wfa_3 (by omega) (by rw [← eW]; omega)]; exact hk129)
                      refine r_lstore (pc := 131) (lv' := [(4, .long (w6_4 + (0 : Int64))), (9, .int (iv 1)), (8, .int (iv 0)), (7, .int (iv (60 * x1 + v6_6))), (0, .ref y), (1, .int (iv x1)), (2, .int (iv x2)), (3, .int (iv x3)), (6, .int (iv v6_6))]) dX12_out_131 (by decide) rfl ?_
                      refine r_iinc (pc := 133) (v := iv (v6_6 + 1)) (lv' := [(6, .int (iv (v6_6 + 1))), (4, .long (w6_4 + (0 : Int64))), (9, .int (iv 1)), (8, .int (iv 0)), (7, .int (iv (60 * x1 + v6_6))), (0, .ref y), (1, .int (iv x1)), (2, .int (iv x2)), (3, .int (iv x3))]) dX12_out_133 rfl (iv_add _ _) (by decide) rfl ?_
                      refine r_goto (pc := 136) (tgt := 6) dX12_out_136 (by decide) ?_
                      refine Rn.pick (lv' := [(0, .ref y), (1, .int (iv x1)), (2, .int (iv x2)), (3, .int (iv x3)), (4, .long (w6_4 + (0 : Int64))), (6, .int (iv (v6_6 + 1)))]) [5, 6, 7, 8, 1, 0] rfl ?_
                      exact ih6 (Int.toNat (60 - (v6_6 + 1))) (by omega) _ ht3 (v6_6 + 1) (w6_4 + (0 : Int64)) ⟨by omega, by omega, by omega, by (first | exact hou | exact hk0)⟩ (by omega)
                    · refine r_aload_n (pc := 118) dX12_out_118 (i := 0) rfl rfl ?_
                      refine t_getE (pc := 119) (.ref (y + 7)) ht3 (rd_of RX_y) fX12_29 dX12_out_119 rfl ?_
                      refine r_iload (pc := 122) dX12_out_122 rfl ?_
                      refine t_ialdX (pc := 124) (t0 := 0) ht3 (rd_of RX_weight) dX12_out_124 rfl (by decide) (by omega) (fun b12 => ?_)
                      have rb12 := (show Rfx 7260 (-1000) 1000 wt by assumption) (Int.toNat (60 * x1 + v6_6)) (by omega)
                      refine r_i2l (pc := 125) (v := (iv (wt (Int.toNat (60 * x1 + v6_6)))).toInt64) dX12_out_125 rfl ?_
                      refine r_goto (pc := 126) (tgt := 130) dX12_out_126 (by decide) ?_
                      refine r_ladd (pc := 130) (v := w6_4 + ((iv (wt (Int.toNat (60 * x1 + v6_6)))).toInt64)) dX12_out_130 rfl ?_
                      have hou : (w6_4 + ((iv (wt (Int.toNat (60 * x1 + v6_6)))).toInt64)).toInt = sgm (owA (dr (Int.toNat x1)) x3 (sh fr (60 * x1)) (sh tt (60 * x1)) (sh wt (60 * x1)) (msk x2)) (Int.toNat (v6_6 + 1)) := ou_up hWb (by omega) (by omega) (by assumption : w6_4.toInt = sgm (owA (dr (Int.toNat x1)) x3 (sh fr (60 * x1)) (sh tt (60 * x1)) (sh wt (60 * x1)) (msk x2)) (Int.toNat v6_6)) (ow_if (Or.inr ⟨by omega, hB, hA⟩)) (by rw [wfa_2 (by omega) (by rw [← eW]; omega), ← eW]; exact iv_long (by omega))
                      refine r_lstore (pc := 131) (lv' := [(4, .long (w6_4 + ((iv (wt (Int.toNat (60 * x1 + v6_6)))).toInt64))), (9, .int (iv 1)), (8, .int (iv 0)), (7, .int (iv (60 * x1 + v6_6))), (0, .ref y), (1, .int (iv x1)), (2, .int (iv x2)), (3, .int (iv x3)), (6, .int (iv v6_6))]) dX12_out_131 (by decide) rfl ?_
                      refine r_iinc (pc := 133) (v := iv (v6_6 + 1)) (lv' := [(6, .int (iv (v6_6 + 1))), (4, .long (w6_4 + ((iv (wt (Int.toNat (60 * x1 + v6_6)))).toInt64))), (9, .int (iv 1)), (8, .int (iv 0)), (7, .int (iv (60 * x1 + v6_6))), (0, .ref y), (1, .int (iv x1)), (2, .int (iv x2)), (3, .int (iv x3))]) dX12_out_133 rfl (iv_add _ _) (by decide) rfl ?_
                      refine r_goto (pc := 136) (tgt := 6) dX12_out_136 (by decide) ?_
                      refine Rn.pick (lv' := [(0, .ref y), (1, .int (iv x1)), (2, .int (iv x2)), (3, .int (iv x3)), (4, .long (w6_4 + ((iv (wt (Int.toNat (60 * x1 + v6_6)))).toInt64))), (6, .int (iv (v6_6 + 1)))]) [5, 6, 7, 8, 1, 0] rfl ?_
                      exact ih6 (Int.toNat (60 - (v6_6 + 1))) (by omega) _ ht3 (v6_6 + 1) (w6_4 + ((iv (wt (Int.toNat (60 * x1 + v6_6)))).toInt64)) ⟨by omega, by omega, by omega, by (first | exact hou | exact hk0)⟩ (by omega)
                  · refine r_lconst (pc := 104) (v := 1) dX12_out_104 (by decide) ?_
                    have hk104 : (1 : Int64).toInt = 1 := by decide
                    refine r_goto (pc := 105) (tgt := 130) dX12_out_105 (by decide) ?_
                    refine r_ladd (pc := 130) (v := w6_4 + (1 : Int64)) dX12_out_130 rfl ?_
                    have hou : (w6_4 + (1 : Int64)).toInt = sgm (owA (dr (Int.toNat x1)) x3 (sh fr (60 * x1)) (sh tt (60 * x1)) (sh wt (60 * x1)) (msk x2)) (Int.toNat (v6_6 + 1)) := ou_up hWb (by omega) (by omega) (by assumption : w6_4.toInt = sgm (owA (dr (Int.toNat x1)) x3 (sh fr (60 * x1)) (sh tt (60 * x1)) (sh wt (60 * x1)) (msk x2)) (Int.toNat v6_6)) (ow_if (Or.inr ⟨by omega, hB, hA⟩)) (by rw [wfa_1 (by omega)]; exact hk104)
                    refine r_lstore (pc := 131) (lv' := [(4, .long (w6_4 + (1 : Int64))), (9, .int (iv 1)), (8, .int (iv 0)), (7, .int (iv (60 * x1 + v6_6))), (0, .ref y), (1, .int (iv x1)), (2, .int (iv x2)), (3, .int (iv x3)), (6, .int (iv v6_6))]) dX12_out_131 (by decide) rfl ?_
                    refine r_iinc (pc := 133) (v := iv (v6_6 + 1)) (lv' := [(6, .int (iv (v6_6 + 1))), (4, .long (w6_4 + (1 : Int64))), (9, .int (iv 1)), (8, .int (iv 0)), (7, .int (iv (60 * x1 + v6_6))), (0, .ref y), (1, .int (iv x1)), (2, .int (iv x2)), (3, .int (iv x3))]) dX12_out_133 rfl (iv_add _ _) (by decide) rfl ?_
                    refine r_goto (pc := 136) (tgt := 6) dX12_out_136 (by decide) ?_
                    refine Rn.pick (lv' := [(0, .ref y), (1, .int (iv x1)), (2, .int (iv x2)), (3, .int (iv x3)), (4, .long (w6_4 + (1 : Int64))), (6, .int (iv (v6_6 + 1)))]) [5, 6, 7, 8, 1, 0] rfl ?_
                    exact ih6 (Int.toNat (60 - (v6_6 + 1))) (by omega) _ ht3 (v6_6 + 1) (w6_4 + (1 : Int64)) ⟨by omega, by omega, by omega, by (first | exact hou | exact hk0)⟩ (by omega)
          · exfalso
            omega
      · have pm37 : Me x2 (Int.toNat (fr (Int.toNat (60 * x1 + v6_6)))) := Me_bit.mp (by omega)
        have hA : msk x2 ((sh fr (60 * x1)) (Int.toNat v6_6)).toNat = true := by rw [← eF]; exact pm37
        refine r_iconst (pc := 40) (v := iv 1) dX12_out_40 (by decide) ?_
        refine r_goto (pc := 41) (tgt := 45) dX12_out_41 (by decide) ?_
        refine r_istore (pc := 45) (lv' := [(8, .int (iv 1)), (7, .int (iv (60 * x1 + v6_6))), (0, .ref y), (1, .int (iv x1)), (2, .int (iv x2)), (3, .int (iv x3)), (4, .long w6_4), (6, .int (iv v6_6))]) dX12_out_45 (by decide) rfl ?_
        refine r_iload_n (pc := 47) dX12_out_47 (i := 2) rfl rfl ?_
        refine r_aload_n (pc := 48) dX12_out_48 (i := 0) rfl rfl ?_
        refine t_getE (pc := 49) (.ref (y + 6)) ht3 (rd_of RX_y) fX12_26 dX12_out_49 rfl ?_
        refine r_iload (pc := 52) dX12_out_52 rfl ?_
        refine t_ialdX (pc := 54) (t0 := 0) ht3 (rd_of RX_to) dX12_out_54 rfl (by decide) (by omega) (fun b13 => ?_)
        have rb13 := (show Rfx 7260 0 15 tt by assumption) (Int.toNat (60 * x1 + v6_6)) (by omega)
        have hq55_14 := shr_le (Int.toNat x2) (Int.toNat (tt (Int.toNat (60 * x1 + v6_6))))
        refine r_ishr (pc := 55) (v := iv ((Int.toNat x2 >>> Int.toNat (tt (Int.toNat (60 * x1 + v6_6))) : Nat) : Int)) dX12_out_55 (shr_e (by omega) (by omega)) ?_
        refine r_iconst (pc := 56) (v := iv 1) dX12_out_56 (by decide) ?_
        refine r_iand (pc := 57) (v := iv (((Int.toNat x2 >>> Int.toNat (tt (Int.toNat (60 * x1 + v6_6))) : Nat) : Int) % 2)) dX12_out_57 (and1_e _ (by omega)) ?_
        have mb57 := @Me_bit x2 (tt (Int.toNat (60 * x1 + v6_6)))
        refine r_iconst (pc := 58) (v := iv 1) dX12_out_58 (by decide) ?_
        refine t_icmp_ne (pc := 59) (tgt := 66) dX12_out_59 (by decide) (by omega) (by omega) (fun c59 => ?_) (fun c59 => ?_)
        · have nm59 : ¬ Me x2 (Int.toNat (tt (Int.toNat (60 * x1 + v6_6)))) := fun h9 => absurd (Me_bit.mpr h9) (by omega)
          have hB : msk x2 ((sh tt (60 * x1)) (Int.toNat v6_6)).toNat = false := Bool.eq_false_iff.mpr (fun g9 => nm59 (by rw [eT]; exact g9))
          refine r_iconst (pc := 66) (v := iv 0) dX12_out_66 (by decide) ?_
          refine r_istore (pc := 67) (lv' := [(9, .int (iv 0)), (8, .int (iv 1)), (7, .int (iv (60 * x1 + v6_6))), (0, .ref y), (1, .int (iv x1)), (2, .int (iv x2)), (3, .int (iv x3)), (4, .long w6_4), (6, .int (iv v6_6))]) dX12_out_67 (by decide) rfl ?_
          refine r_iload (pc := 69) dX12_out_69 rfl ?_
          refine t_if_eq (pc := 71) (tgt := 79) dX12_out_71 (by decide) (by omega) (fun c71 => ?_) (fun c71 => ?_)
          · exfalso
            omega
          · refine r_iload (pc := 74) dX12_out_74 rfl ?_
            refine t_if_eq (pc := 76) (tgt := 98) dX12_out_76 (by decide) (by omega) (fun c76 => ?_) (fun c76 => ?_)
            · refine r_lload (pc := 98) dX12_out_98 rfl ?_
              refine r_iload_n (pc := 100) dX12_out_100 (i := 3) rfl rfl ?_
              refine t_if_eq (pc := 101) (tgt := 108) dX12_out_101 (by decide) (by omega) (fun c101 => ?_) (fun c101 => ?_)
              · refine r_aload_n (pc := 108) dX12_out_108 (i := 0) rfl rfl ?_
                refine t_getE (pc := 109) (.ref (y + 7)) ht3 (rd_of RX_y) fX12_29 dX12_out_109 rfl ?_
                refine r_iload (pc := 112) dX12_out_112 rfl ?_
                refine t_ialdX (pc := 114) (t0 := 0) ht3 (rd_of RX_weight) dX12_out_114 rfl (by decide) (by omega) (fun b15 => ?_)
                have rb15 := (show Rfx 7260 (-1000) 1000 wt by assumption) (Int.toNat (60 * x1 + v6_6)) (by omega)
                refine t_if_le (pc := 115) (tgt := 129) dX12_out_115 (by decide) (by omega) (fun c115 => ?_) (fun c115 => ?_)
                · refine r_lconst (pc := 129) (v := 0) dX12_out_129 (by decide) ?_
                  have hk129 : (0 : Int64).toInt = 0 := by decide
                  refine r_ladd (pc := 130) (v := w6_4 + (0 : Int64)) dX12_out_130 rfl ?_
                  have hou : (w6_4 + (0 : Int64)).toInt = sgm (owA (dr (Int.toNat x1)) x3 (sh fr (60 * x1)) (sh tt (60 * x1)) (sh wt (60 * x1)) (msk x2)) (Int.toNat (v6_6 + 1)) := ou_up hWb (by omega) (by omega) (by assumption : w6_4.toInt = sgm (owA (dr (Int.toNat x1)) x3 (sh fr (60 * x1)) (sh tt (60 * x1)) (sh wt (60 * x1)) (msk x2)) (Int.toNat v6_6)) (ow_if (Or.inl ⟨hA, hB⟩)) (by rw [wfa_3 (by omega) (by rw [← eW]; omega)]; exact hk129)
                  refine r_lstore (pc := 131) (lv' := [(4, .long (w6_4 + (0 : Int64))), (9, .int (iv 0)), (8, .int (iv 1)), (7, .int (iv (60 * x1 + v6_6))), (0, .ref y), (1, .int (iv x1)), (2, .int (iv x2)), (3, .int (iv x3)), (6, .int (iv v6_6))]) dX12_out_131 (by decide) rfl ?_
                  refine r_iinc (pc := 133) (v := iv (v6_6 + 1)) (lv' := [(6, .int (iv (v6_6 + 1))), (4, .long (w6_4 + (0 : Int64))), (9, .int (iv 0)), (8, .int (iv 1)), (7, .int (iv (60 * x1 + v6_6))), (0, .ref y), (1, .int (iv x1)), (2, .int (iv x2)), (3, .int (iv x3))]) dX12_out_133 rfl (iv_add _ _) (by decide) rfl ?_
                  refine r_goto (pc := 136) (tgt := 6) dX12_out_136 (by decide) ?_
                  refine Rn.pick (lv' := [(0, .ref y), (1, .int (iv x1)), (2, .int (iv x2)), (3, .int (iv x3)), (4, .long (w6_4 + (0 : Int64))), (6, .int (iv (v6_6 + 1)))]) [5, 6, 7, 8, 1, 0] rfl ?_
                  exact ih6 (Int.toNat (60 - (v6_6 + 1))) (by omega) _ ht3 (v6_6 + 1) (w6_4 + (0 : Int64)) ⟨by omega, by omega, by omega, by (first | exact hou | exact hk0)⟩ (by omega)
                · refine r_aload_n (pc := 118) dX12_out_118 (i := 0) rfl rfl ?_
                  refine t_getE (pc := 119) (.ref (y + 7)) ht3 (rd_of RX_y) fX12_29 dX12_out_119 rfl ?_
                  refine r_iload (pc := 122) dX12_out_122 rfl ?_
                  refine t_ialdX (pc := 124) (t0 := 0) ht3 (rd_of RX_weight) dX12_out_124 rfl (by decide) (by omega) (fun b16 => ?_)
                  have rb16 := (show Rfx 7260 (-1000) 1000 wt by assumption) (Int.toNat (60 * x1 + v6_6)) (by omega)
                  refine r_i2l (pc := 125) (v := (iv (wt (Int.toNat (60 * x1 + v6_6)))).toInt64) dX12_out_125 rfl ?_
                  refine r_goto (pc := 126) (tgt := 130) dX12_out_126 (by decide) ?_
                  refine r_ladd (pc := 130) (v := w6_4 + ((iv (wt (Int.toNat (60 * x1 + v6_6)))).toInt64)) dX12_out_130 rfl ?_
                  have hou : (w6_4 + ((iv (wt (Int.toNat (60 * x1 + v6_6)))).toInt64)).toInt = sgm (owA (dr (Int.toNat x1)) x3 (sh fr (60 * x1)) (sh tt (60 * x1)) (sh wt (60 * x1)) (msk x2)) (Int.toNat (v6_6 + 1)) := ou_up hWb (by omega) (by omega) (by assumption : w6_4.toInt = sgm (owA (dr (Int.toNat x1)) x3 (sh fr (60 * x1)) (sh tt (60 * x1)) (sh wt (60 * x1)) (msk x2)) (Int.toNat v6_6)) (ow_if (Or.inl ⟨hA, hB⟩)) (by rw [wfa_2 (by omega) (by rw [← eW]; omega), ← eW]; exact iv_long (by omega))
                  refine r_lstore (pc := 131) (lv' := [(4, .long (w6_4 + ((iv (wt (Int.toNat (60 * x1 + v6_6)))).toInt64))), (9, .int (iv 0)), (8, .int (iv 1)), (7, .int (iv (60 * x1 + v6_6))), (0, .ref y), (1, .int (iv x1)), (2, .int (iv x2)), (3, .int (iv x3)), (6, .int (iv v6_6))]) dX12_out_131 (by decide) rfl ?_
                  refine r_iinc (pc := 133) (v := iv (v6_6 + 1)) (lv' := [(6, .int (iv (v6_6 + 1))), (4, .long (w6_4 + ((iv (wt (Int.toNat (60 * x1 + v6_6)))).toInt64))), (9, .int (iv 0)), (8, .int (iv 1)), (7, .int (iv (60 * x1 + v6_6))), (0, .ref y), (1, .int (iv x1)), (2, .int (iv x2)), (3, .int (iv x3))]) dX12_out_133 rfl (iv_add _ _) (by decide) rfl ?_
                  refine r_goto (pc := 136) (tgt := 6) dX12_out_136 (by decide) ?_
                  refine Rn.pick (lv' := [(0, .ref y), (1, .int (iv x1)), (2, .int (iv x2)), (3, .int (iv x3)), (4, .long (w6_4 + ((iv (wt (Int.toNat (60 * x1 + v6_6)))).toInt64))), (6, .int (iv (v6_6 + 1)))]) [5, 6, 7, 8, 1, 0] rfl ?_
                  exact ih6 (Int.toNat (60 - (v6_6 + 1))) (by omega) _ ht3 (v6_6 + 1) (w6_4 + ((iv (wt (Int.toNat (60 * x1 + v6_6)))).toInt64)) ⟨by omega, by omega, by omega, by (first | exact hou | exact hk0)⟩ (by omega)
              · refine r_lconst (pc := 104) (v := 1) dX12_out_104 (by decide) ?_
                have hk104 : (1 : Int64).toInt = 1 := by decide
                refine r_goto (pc := 105) (tgt := 130) dX12_out_105 (by decide) ?_
                refine r_ladd (pc := 130) (v := w6_4 + (1 : Int64)) dX12_out_130 rfl ?_
                have hou : (w6_4 + (1 : Int64)).toInt = sgm (owA (dr (Int.toNat x1)) x3 (sh fr (60 * x1)) (sh tt (60 * x1)) (sh wt (60 * x1)) (msk x2)) (Int.toNat (v6_6 + 1)) := ou_up hWb (by omega) (by omega) (by assumption : w6_4.toInt = sgm (owA (dr (Int.toNat x1)) x3 (sh fr (60 * x1)) (sh tt (60 * x1)) (sh wt (60 * x1)) (msk x2)) (Int.toNat v6_6)) (ow_if (Or.inl ⟨hA, hB⟩)) (by rw [wfa_1 (by omega)]; exact hk104)
                refine r_lstore (pc := 131) (lv' := [(4, .long (w6_4 + (1 : Int64))), (9, .int (iv 0)), (8, .int (iv 1)), (7, .int (iv (60 * x1 + v6_6))), (0, .ref y), (1, .int (iv x1)), (2, .int (iv x2)), (3, .int (iv x3)), (6, .int (iv v6_6))]) dX12_out_131 (by decide) rfl ?_
                refine r_iinc (pc := 133) (v := iv (v6_6 + 1)) (lv' := [(6, .int (iv (v6_6 + 1))), (4, .long (w6_4 + (1 : Int64))), (9, .int (iv 0)), (8, .int (iv 1)), (7, .int (iv (60 * x1 + v6_6))), (0, .ref y), (1, .int (iv x1)), (2, .int (iv x2)), (3, .int (iv x3))]) dX12_out_133 rfl (iv_add _ _) (by decide) rfl ?_
                refine r_goto (pc := 136) (tgt := 6) dX12_out_136 (by decide) ?_
                refine Rn.pick (lv' := [(0, .ref y), (1, .int (iv x1)), (2, .int (iv x2)), (3, .int (iv x3)), (4, .long (w6_4 + (1 : Int64))), (6, .int (iv (v6_6 + 1)))]) [5, 6, 7, 8, 1, 0] rfl ?_
                exact ih6 (Int.toNat (60 - (v6_6 + 1))) (by omega) _ ht3 (v6_6 + 1) (w6_4 + (1 : Int64)) ⟨by omega, by omega, by omega, by (first | exact hou | exact hk0)⟩ (by omega)
            · exfalso
              omega
        · have pm59 : Me x2 (Int.toNat (tt (Int.toNat (60 * x1 + v6_6)))) := Me_bit.mp (by omega)
          have hB : msk x2 ((sh tt (60 * x1)) (Int.toNat v6_6)).toNat = true := by rw [← eT]; exact pm59
          refine r_iconst (pc := 62) (v := iv 1) dX12_out_62 (by decide) ?_
          refine r_goto (pc := 63) (tgt := 67) dX12_out_63 (by decide) ?_
          refine r_istore (pc := 67) (lv' := [(9, .int (iv 1)), (8, .int (iv 1)), (7, .int (iv (60 * x1 + v6_6))), (0, .ref y), (1, .int (iv x1)), (2, .int (iv x2)), (3, .int (iv x3)), (4, .long w6_4), (6, .int (iv v6_6))]) dX12_out_67 (by decide) rfl ?_
          refine r_iload (pc := 69) dX12_out_69 rfl ?_
          refine t_if_eq (pc := 71) (tgt := 79) dX12_out_71 (by decide) (by omega) (fun c71 => ?_) (fun c71 => ?_)
          · exfalso
            omega
          · refine r_iload (pc := 74) dX12_out_74 rfl ?_
            refine t_if_eq (pc := 76) (tgt := 98) dX12_out_76 (by decide) (by omega) (fun c76 => ?_) (fun c76 => ?_)
            · exfalso
              omega
            · refine r_aload_n (pc := 79) dX12_out_79 (i := 0) rfl rfl ?_
              refine t_getE (pc := 80) (.ref (y + 3)) ht3 (rd_of RX_y) fX12_16 dX12_out_80 rfl ?_
              refine r_iload_n (pc := 83) dX12_out_83 (i := 1) rfl rfl ?_
              refine t_zaldX (pc := 84) (t0 := 2) ht3 (rd_of RX_directs) dX12_out_84 rfl (by decide) (by omega) (fun b17 => ?_)
              have rb17 := (show Rfx 121 0 1 dr by assumption) (Int.toNat x1) (by omega)
              refine t_if_ne (pc := 85) (tgt := 133) dX12_out_85 (by decide) (by omega) (fun c85 => ?_) (fun c85 => ?_)
              · have hou := ou_no (by omega) (by assumption : w6_4.toInt = sgm (owA (dr (Int.toNat x1)) x3 (sh fr (60 * x1)) (sh tt (60 * x1)) (sh wt (60 * x1)) (msk x2)) (Int.toNat v6_6)) (ow_n1 hA hB)
                refine r_iinc (pc := 133) (v := iv (v6_6 + 1)) (lv' := [(6, .int (iv (v6_6 + 1))), (9, .int (iv 1)), (8, .int (iv 1)), (7, .int (iv (60 * x1 + v6_6))), (0, .ref y), (1, .int (iv x1)), (2, .int (iv x2)), (3, .int (iv x3)), (4, .long w6_4)]) dX12_out_133 rfl (iv_add _ _) (by decide) rfl ?_
                refine r_goto (pc := 136) (tgt := 6) dX12_out_136 (by decide) ?_
                refine Rn.pick (lv' := [(0, .ref y), (1, .int (iv x1)), (2, .int (iv x2)), (3, .int (iv x3)), (4, .long w6_4), (6, .int (iv (v6_6 + 1)))]) [4, 5, 6, 7, 8, 0] rfl ?_
                exact ih6 (Int.toNat (60 - (v6_6 + 1))) (by omega) _ ht3 (v6_6 + 1) w6_4 ⟨by omega, by omega, by omega, by (first | exact hou | exact hk0)⟩ (by omega)
              · refine r_iload (pc := 88) dX12_out_88 rfl ?_
                refine t_if_eq (pc := 90) (tgt := 133) dX12_out_90 (by decide) (by omega) (fun c90 => ?_) (fun c90 => ?_)
                · exfalso
                  omega
                · refine r_iload (pc := 93) dX12_out_93 rfl ?_
                  refine t_if_ne (pc := 95) (tgt := 133) dX12_out_95 (by decide) (by omega) (fun c95 => ?_) (fun c95 => ?_)
                  · have hou := ou_no (by omega) (by assumption : w6_4.toInt = sgm (owA (dr (Int.toNat x1)) x3 (sh fr (60 * x1)) (sh tt (60 * x1)) (sh wt (60 * x1)) (msk x2)) (Int.toNat v6_6)) (ow_n1 hA hB)
                    refine r_iinc (pc := 133) (v := iv (v6_6 + 1)) (lv' := [(6, .int (iv (v6_6 + 1))), (9, .int (iv 1)), (8, .int (iv 1)), (7, .int (iv (60 * x1 + v6_6))), (0, .ref y), (1, .int (iv x1)), (2, .int (iv x2)), (3, .int (iv x3)), (4, .long w6_4)]) dX12_out_133 rfl (iv_add _ _) (by decide) rfl ?_
                    refine r_goto (pc := 136) (tgt := 6) dX12_out_136 (by decide) ?_
                    refine Rn.pick (lv' := [(0, .ref y), (1, .int (iv x1)), (2, .int (iv x2)), (3, .int (iv x3)), (4, .long w6_4), (6, .int (iv (v6_6 + 1)))]) [4, 5, 6, 7, 8, 0] rfl ?_
                    exact ih6 (Int.toNat (60 - (v6_6 + 1))) (by omega) _ ht3 (v6_6 + 1) w6_4 ⟨by omega, by omega, by omega, by (first | exact hou | exact hk0)⟩ (by omega)
                  · exfalso
                    omega
  refine Rn.pick (lv' := [(0, .ref y), (1, .int (iv x1)), (2, .int (iv x2)), (3, .int (iv x3)), (4, .long (0 : Int64)), (6, .int (iv 0))]) [2, 3, 4, 5, 1, 0] rfl ?_
  exact B6 (Int.toNat (60 - 0)) _ ht 0 (0 : Int64) ⟨by omega, by omega, by omega, by (first | exact hou | exact hk0)⟩ (by omega)
set_option maxHeartbeats 4000000 in
set_option maxRecDepth 100000 in
theorem x_X12_cut {D : va_G} {cI cJ cZ cT : ClassId} {lo b L : Nat} {xs : Nat → Int32} {hp : MH} {n d : Nat} {Γ : TG} {y : Nat} {rf cn nm : Int} {so sz dr mn fr tt wt co : Nat → Int} {nu : Nat → Int64} {sa : Nat → Int} {wo : Nat → Int64} {ln : Nat → Int} {hw : Nat → Int64} {ro qi qc nf nt nw nc : Nat → Int} {cl nx : Nat → Int64} {ie be sd bl : Nat → Int} {bs wy ra rb : Nat → Int64} {lb bg os js ls : Nat → Int} {sp : Nat → Int64} {jw go : Nat → Int} {de : Nat → Int64} {yb ah im : Nat → Int} {x1 x2 x3 x4 : Int} {Po9 : Option Value → MH → Nat → Prop} (hd0 : 2 ≤ d) (hR_sizes : Rfx 121 0 16 sz) (hR_many : Rfx 121 0 60 mn) (hR_from : Rfx 7260 0 15 fr) (hR_to : Rfx 7260 0 15 tt) (hR_weight : Rfx 7260 (-1000) 1000 wt) (hR_directs : Rfx 121 0 1 dr) (ht : Tw (RX Γ cI cJ cZ y rf cn nm so sz dr mn fr tt wt co nu sa wo ln hw ro qi qc nf nt nw nc cl nx ie be sd bl bs wy ra rb lb bg os js ls sp jw go de yb ah im) hp) (hx1 : 0 ≤ x1 ∧ x1 ≤ 120) (hx2 : 0 ≤ x2 ∧ x2 ≤ 15) (hx3 : 0 ≤ x3 ∧ x3 ≤ 15) (hx4 : 0 ≤ x4 ∧ x4 ≤ 1) (hx9 : x2 < (sz (Int.toNat x1)) ∧ x3 < (sz (Int.toNat x1)) ∧ x2 ≠ x3) (hPo : ∀ r hp1 n1, (n1 = n ∧ ∃ (q9 : Int64), Tw (RX Γ cI cJ cZ y rf cn nm so sz dr mn fr tt wt co nu sa wo ln hw ro qi qc nf nt nw nc cl nx ie be sd bl bs wy ra rb lb bg os js ls sp jw go de yb ah im) hp1 ∧ r = some (.long q9) ∧ (mcA (Int.toNat (mn (Int.toNat x1))) (dr (Int.toNat x1)) x4 (sh fr (60 * x1)) (sh tt (60 * x1)) (sh wt (60 * x1)) (Int.toNat (sz (Int.toNat x1))) (Int.toNat x2) (Int.toNat x3) q9.toInt)) → Po9 r hp1 n1) : Mt (gG D cI cJ cZ cT lo b L xs) mX12_cut d 0 0 [.ref y, .int (iv x1), .int (iv x2), .int (iv x3), .int (iv x4)] hp n Po9 := by
  refine Mt.of rfl (Nat.le_of_ble_eq_true rfl) ?_
  refine Rn.pick (lv' := [(0, .ref y), (1, .int (iv x1)), (2, .int (iv x2)), (3, .int (iv x3)), (4, .int (iv x4))]) [0, 1, 2, 3, 4] rfl ?_
  have rsz := hR_sizes (Int.toNat x1) (by omega)
  have rmn := hR_many (Int.toNat x1) (by omega)
  have hWb : ∀ k, k < (Int.toNat (mn (Int.toNat x1))) → -1000 ≤ (sh wt (60 * x1)) k ∧ (sh wt (60 * x1)) k ≤ 1000 := fun k hk => hR_weight (60 * x1 + (k : Int)).toNat (by omega)
  have mp5 : 1 ≤ 2 ^ (Int.toNat (sz (Int.toNat x1))) := Nat.one_le_two_pow
  have mq5 : 2 ^ (Int.toNat (sz (Int.toNat x1))) ≤ 2 ^ 16 := Nat.pow_le_pow_right (by omega) (by omega)
  refine r_ldc2 (pc := 0) (v := 1000000000000) dX12_cut_0 kX12_251 ?_
  have hk0 : (1000000000000 : Int64).toInt = 1000000000000 := by decide
  refine r_lstore (pc := 3) (lv' := [(5, .long (1000000000000 : Int64)), (0, .ref y), (1, .int (iv x1)), (2, .int (iv x2)), (3, .int (iv x3)), (4, .int (iv x4))]) dX12_cut_3 (by decide) rfl ?_
  refine r_iconst (pc := 5) (v := iv 0) dX12_cut_5 (by decide) ?_
  refine r_istore (pc := 6) (lv' := [(7, .int (iv 0)), (5, .long (1000000000000 : Int64)), (0, .ref y), (1, .int (iv x1)), (2, .int (iv x2)), (3, .int (iv x3)), (4, .int (iv x4))]) dX12_cut_6 (by decide) rfl ?_
  have B8 : ∀ k : Nat, ∀ hp8 : MH, Tw (RX Γ cI cJ cZ y rf cn nm so sz dr mn fr tt wt co nu sa wo ln hw ro qi qc nf nt nw nc cl nx ie be sd bl bs wy ra rb lb bg os js ls sp jw go de yb ah im) hp8 → ∀  (v8_7 : Int) (w8_5 : Int64), 0 ≤ v8_7 ∧ v8_7 ≤ 65536 ∧ (v8_7 ≤ ((2 ^ (Int.toNat (sz (Int.toNat x1))) : Nat) : Int)) ∧ (mnI (Int.toNat (mn (Int.toNat x1))) (dr (Int.toNat x1)) x4 (sh fr (60 * x1)) (sh tt (60 * x1)) (sh wt (60 * x1)) (Int.toNat (sz (Int.toNat x1))) (Int.toNat x2) (Int.toNat x3) 1000000000000 v8_7 w8_5.toInt) → 65536 - v8_7 ≤ (k : Int) → Rn (gG D cI cJ cZ cT lo b L xs) mX12_cut d 8 [(0, .ref y), (1, .int (iv x1)), (2, .int (iv x2)), (3, .int (iv x3)), (4, .int (iv x4)), (5, .long w8_5), (7, .int (iv v8_7))] [] hp8 n 0 0 Po9 := by
    refine lpS _ ?_
    intro k8 ih8 hp8 ht8 v8_7 w8_5 hf8 hm8
    obtain ⟨hf8_0, hf8_1, hf8_2, ha8_3⟩ := hf8
    refine r_iload (pc := 8) dX12_cut_8 rfl ?_
    refine r_iconst (pc := 10) (v := iv 1) dX12_cut_10 (by decide) ?_
    refine r_aload_n (pc := 11) dX12_cut_11 (i := 0) rfl rfl ?_
    refine t_getE (pc := 12) (.ref (y + 2)) ht8 (rd_of RX_y) fX12_13 dX12_cut_12 rfl ?_
    refine r_iload_n (pc := 15) dX12_cut_15 (i := 1) rfl rfl ?_
    refine t_ialdX (pc := 16) (t0 := 0) ht8 (rd_of RX_sizes) dX12_cut_16 rfl (by decide) (by omega) (fun b1 => ?_)
    have rb1 := (show Rfx 121 0 16 sz by assumption) (Int.toNat x1) (by omega)
    refine r_ishl (pc := 17) (v := iv ((2 ^ Int.toNat (sz (Int.toNat x1)) : Nat) : Int)) dX12_cut_17 (shl_e (by omega)) ?_
    have mp17_2 : 1 ≤ 2 ^ Int.toNat (sz (Int.toNat x1)) := Nat.one_le_two_pow
    have mq17_3 : 2 ^ Int.toNat (sz (Int.toNat x1)) ≤ 2 ^ 16 := Nat.pow_le_pow_right (by omega) (by omega)
    have ms17 := Me_shl (Int.toNat (sz (Int.toNat x1)))
    refine t_icmp_ge (pc := 18) (tgt := 74) dX12_cut_18 (by decide) (by omega) (by omega) (fun c18 => ?_) (fun c18 => ?_)
    · refine r_lload (pc := 74) dX12_cut_74 rfl ?_
      exact r_lret (pc := 76) dX12_cut_76 rfl (hPo _ _ _ ⟨rfl, w8_5, ht8, rfl, (by exact mni_end hWb (by omega) (by assumption : mnI (Int.toNat (mn (Int.toNat x1))) (dr (Int.toNat x1)) x4 (sh fr (60 * x1)) (sh tt (60 * x1)) (sh wt (60 * x1)) (Int.toNat (sz (Int.toNat x1))) (Int.toNat x2) (Int.toNat x3) 1000000000000 v8_7 w8_5.toInt) (by omega) (by omega) (by omega) (by omega))⟩)
    · refine r_iload (pc := 21) dX12_cut_21 rfl ?_
      refine r_iload_n (pc := 23) dX12_cut_23 (i := 2) rfl rfl ?_
      have hq24_4 := shr_le (Int.toNat v8_7) (Int.toNat x2)
      refine r_ishr (pc := 24) (v := iv ((Int.toNat v8_7 >>> Int.toNat x2 : Nat) : Int)) dX12_cut_24 (shr_e (by omega) (by omega)) ?_
      refine r_iconst (pc := 25) (v := iv 1) dX12_cut_25 (by decide) ?_
      refine r_iand (pc := 26) (v := iv (((Int.toNat v8_7 >>> Int.toNat x2 : Nat) : Int) % 2)) dX12_cut_26 (and1_e _ (by omega)) ?_
      have mb26 := @Me_bit v8_7 x2
      refine r_iconst (pc := 27) (v := iv 1) dX12_cut_27 (by decide) ?_
      refine t_icmp_ne (pc := 28) (tgt := 68) dX12_cut_28 (by decide) (by omega) (by omega) (fun c28 => ?_) (fun c28 => ?_)
      · have nm28 : ¬ Me v8_7 (Int.toNat x2) := fun h9 => absurd (Me_bit.mpr h9) (by omega)
        have hmn := mni_sk (by assumption : mnI (Int.toNat (mn (Int.toNat x1))) (dr (Int.toNat x1)) x4 (sh fr (60 * x1)) (sh tt (60 * x1)) (sh wt (60 * x1)) (Int.toNat (sz (Int.toNat x1))) (Int.toNat x2) (Int.toNat x3) 1000000000000 v8_7 w8_5.toInt) (fun g9 => nm28 g9.2.1)
        refine r_iinc (pc := 68) (v := iv (v8_7 + 1)) (lv' := [(7, .int (iv (v8_7 + 1))), (0, .ref y), (1, .int (iv x1)), (2, .int (iv x2)), (3, .int (iv x3)), (4, .int (iv x4)), (5, .long w8_5)]) dX12_cut_68 rfl (iv_add _ _) (by decide) rfl ?_
        refine r_goto (pc := 71) (tgt := 8) dX12_cut_71 (by decide) ?_
        refine Rn.pick (lv' := [(0, .ref y), (1, .int (iv x1)), (2, .int (iv x2)), (3, .int (iv x3)), (4, .int (iv x4)), (5, .long w8_5), (7, .int (iv (v8_7 + 1)))]) [1, 2, 3, 4, 5, 6, 0] rfl ?_
        exact ih8 (Int.toNat (65536 - (v8_7 + 1))) (by omega) _ ht8 (v8_7 + 1) w8_5 ⟨by omega, by omega, by omega, by (first | exact hmn | (rw [hk0]; exact mni_0))⟩ (by omega)
      · have pm28 : Me v8_7 (Int.toNat x2) := Me_bit.mp (by omega)
        refine r_iload (pc := 31) dX12_cut_31 rfl ?_
        refine r_iload_n (pc := 33) dX12_cut_33 (i := 3) rfl rfl ?_
        have hq34_5 := shr_le (Int.toNat v8_7) (Int.toNat x3)
        refine r_ishr (pc := 34) (v := iv ((Int.toNat v8_7 >>> Int.toNat x3 : Nat) : Int)) dX12_cut_34 (shr_e (by omega) (by omega)) ?_
        refine r_iconst (pc := 35) (v := iv 1) dX12_cut_35 (by decide) ?_
        refine r_iand (pc := 36) (v := iv (((Int.toNat v8_7 >>> Int.toNat x3 : Nat) : Int) % 2)) dX12_cut_36 (and1_e _ (by omega)) ?_
        have mb36 := @Me_bit v8_7 x3
        refine t_if_ne (pc := 37) (tgt := 68) dX12_cut_37 (by decide) (by omega) (fun c37 => ?_) (fun c37 => ?_)
        · have pm37 : Me v8_7 (Int.toNat x3) := Me_bit.mp (by omega)
          have hmn := mni_sk (by assumption : mnI (Int.toNat (mn (Int.toNat x1))) (dr (Int.toNat x1)) x4 (sh fr (60 * x1)) (sh tt (60 * x1)) (sh wt (60 * x1)) (Int.toNat (sz (Int.toNat x1))) (Int.toNat x2) (Int.toNat x3) 1000000000000 v8_7 w8_5.toInt) (fun g9 => g9.2.2 pm37)
          refine r_iinc (pc := 68) (v := iv (v8_7 + 1)) (lv' := [(7, .int (iv (v8_7 + 1))), (0, .ref y), (1, .int (iv x1)), (2, .int (iv x2)), (3, .int (iv x3)), (4, .int (iv x4)), (5, .long w8_5)]) dX12_cut_68 rfl (iv_add _ _) (by decide) rfl ?_
          refine r_goto (pc := 71) (tgt := 8) dX12_cut_71 (by decide) ?_
          refine Rn.pick (lv' := [(0, .ref y), (1, .int (iv x1)), (2, .int (iv x2)), (3, .int (iv x3)), (4, .int (iv x4)), (5, .long w8_5), (7, .int (iv (v8_7 + 1)))]) [1, 2, 3, 4, 5, 6, 0] rfl ?_
          exact ih8 (Int.toNat (65536 - (v8_7 + 1))) (by omega) _ ht8 (v8_7 + 1) w8_5 ⟨by omega, by omega, by omega, by (first | exact hmn | (rw [hk0]; exact mni_0))⟩ (by omega)
        · have nm37 : ¬ Me v8_7 (Int.toNat x3) := fun h9 => absurd (Me_bit.mpr h9) (by omega)
          have hct : ctP (Int.toNat (sz (Int.toNat x1))) (Int.toNat x2) (Int.toNat x3) v8_7 := ⟨by omega, pm28, nm37⟩
          refine r_aload_n (pc := 40) dX12_cut_40 (i := 0) rfl rfl ?_
          refine r_iload_n (pc := 41) dX12_cut_41 (i := 1) rfl rfl ?_
          refine r_iload (pc := 42) dX12_cut_42 rfl ?_
          refine r_iload (pc := 44) dX12_cut_44 rfl ?_
          obtain ⟨fs10, hfs10⟩ := t_obj ht8 (rd_of RX_y)
          refine r_callV (pc := 46) (as := [.int (iv x1), .int (iv v8_7), .int (iv x4)]) (st := []) kX12_368 rfl dX12_cut_46 hfs10 (x_X12_out (d := d - 1) (x1 := x1) (x2 := v8_7) (x3 := x4) (by omega) (by assumption) (by assumption) (by assumption) (by assumption) (by assumption) ht8 (by omega) (by omega) (by omega) (fun _ _ _ h => h)) rfl (by omega) (Nat.le_of_ble_eq_true rfl) (Nat.zero_le _) (Nat.zero_le _) rfl (fun r7 hp6 n8 hq9 => ?_)
          obtain ⟨hnn8, q9_12, ht11, hrr7, hhq90, hhq91⟩ := hq9
          subst n8 r7
          have hhq90 : q9_12.toInt = ouA (Int.toNat (mn (Int.toNat x1))) (dr (Int.toNat x1)) x4 (sh fr (60 * x1)) (sh tt (60 * x1)) (sh wt (60 * x1)) (msk v8_7) := hhq90
          have hhq91 : 0 ≤ q9_12.toInt ∧ q9_12.toInt ≤ 60000 := hhq91
          change Rn _ _ _ 49 _ [.long q9_12] _ _ _ _ _
          refine r_lstore (pc := 49) (lv' := [(8, .long q9_12), (0, .ref y), (1, .int (iv x1)), (2, .int (iv x2)), (3, .int (iv x3)), (4, .int (iv x4)), (5, .long w8_5), (7, .int (iv v8_7))]) dX12_cut_49 (by decide) rfl ?_
          refine r_lload (pc := 51) dX12_cut_51 rfl ?_
          refine r_lload (pc := 53) dX12_cut_53 rfl ?_
          refine r_lcmp (pc := 55) dX12_cut_55 ?_
          refine t_lif_ge (pc := 56) (tgt := 64) dX12_cut_56 (by decide) (fun c56 => ?_) (fun c56 => ?_)
          · have hmn := mni_ge (by assumption : mnI (Int.toNat (mn (Int.toNat x1))) (dr (Int.toNat x1)) x4 (sh fr (60 * x1)) (sh tt (60 * x1)) (sh wt (60 * x1)) (Int.toNat (sz (Int.toNat x1))) (Int.toNat x2) (Int.toNat x3) 1000000000000 v8_7 w8_5.toInt) hhq90 (by omega)
            refine r_lload (pc := 64) dX12_cut_64 rfl ?_
            refine r_lstore (pc := 66) (lv' := [(5, .long w8_5), (8, .long q9_12), (0, .ref y), (1, .int (iv x1)), (2, .int (iv x2)), (3, .int (iv x3)), (4, .int (iv x4)), (7, .int (iv v8_7))]) dX12_cut_66 (by decide) rfl ?_
            refine r_iinc (pc := 68) (v := iv (v8_7 + 1)) (lv' := [(7, .int (iv (v8_7 + 1))), (5, .long w8_5), (8, .long q9_12), (0, .ref y), (1, .int (iv x1)), (2, .int (iv x2)), (3, .int (iv x3)), (4, .int (iv x4))]) dX12_cut_68 rfl (iv_add _ _) (by decide) rfl ?_
            refine r_goto (pc := 71) (tgt := 8) dX12_cut_71 (by decide) ?_
            refine Rn.pick (lv' := [(0, .ref y), (1, .int (iv x1)), (2, .int (iv x2)), (3, .int (iv x3)), (4, .int (iv x4)), (5, .long w8_5), (7, .int (iv (v8_7 + 1)))]) [3, 4, 5, 6, 7, 1, 0] rfl ?_
            exact ih8 (Int.toNat (65536 - (v8_7 + 1))) (by omega) _ ht11 (v8_7 + 1) w8_5 ⟨by omega, by omega, by omega, by (first | exact hmn | (rw [hk0]; exact mni_0))⟩ (by omega)
          · have hmn := mni_lt (by assumption : mnI (Int.toNat (mn (Int.toNat x1))) (dr (Int.toNat x1)) x4 (sh fr (60 * x1)) (sh tt (60 * x1)) (sh wt (60 * x1)) (Int.toNat (sz (Int.toNat x1))) (Int.toNat x2) (Int.toNat x3) 1000000000000 v8_7 w8_5.toInt) hct hhq90 (by omega)
            refine r_lload (pc := 59) dX12_cut_59 rfl ?_
            refine r_goto (pc := 61) (tgt := 66) dX12_cut_61 (by decide) ?_
            refine r_lstore (pc := 66) (lv' := [(5, .long q9_12), (8, .long q9_12), (0, .ref y), (1, .int (iv x1)), (2, .int (iv x2)), (3, .int (iv x3)), (4, .int (iv x4)), (7, .int (iv v8_7))]) dX12_cut_66 (by decide) rfl ?_
            refine r_iinc (pc := 68) (v := iv (v8_7 + 1)) (lv' := [(7, .int (iv (v8_7 + 1))), (5, .long q9_12), (8, .long q9_12), (0, .ref y), (1, .int (iv x1)), (2, .int (iv x2)), (3, .int (iv x3)), (4, .int (iv x4))]) dX12_cut_68 rfl (iv_add _ _) (by decide) rfl ?_
            refine r_goto (pc := 71) (tgt := 8) dX12_cut_71 (by decide) ?_
            refine Rn.pick (lv' := [(0, .ref y), (1, .int (iv x1)), (2, .int (iv x2)), (3, .int (iv x3)), (4, .int (iv x4)), (5, .long q9_12), (7, .int (iv (v8_7 + 1)))]) [3, 4, 5, 6, 7, 1, 0] rfl ?_
            exact ih8 (Int.toNat (65536 - (v8_7 + 1))) (by omega) _ ht11 (v8_7 + 1) q9_12 ⟨by omega, by omega, by omega, by (first | exact hmn | (rw [hk0]; exact mni_0))⟩ (by omega)
  refine Rn.pick (lv' := [(0, .ref y), (1, .int (iv x1)), (2, .int (iv x2)), (3, .int (iv x3)), (4, .int (iv x4)), (5, .long (1000000000000 : Int64)), (7, .int (iv 0))]) [2, 3, 4, 5, 6, 1, 0] rfl ?_
  exact B8 (Int.toNat (65536 - 0)) _ ht 0 (1000000000000 : Int64) ⟨by omega, by omega, by omega, by (first | exact hmn | (rw [hk0]; exact mni_0))⟩ (by omega)
set_option maxHeartbeats 4000000 in
set_option maxRecDepth 100000 in
theorem x_X12_cutSet {D : va_G} {cI cJ cZ cT : ClassId} {lo b L : Nat} {xs : Nat → Int32} {hp : MH} {n d : Nat} {Γ : TG} {y : Nat} {rf cn nm : Int} {so sz dr mn fr tt wt co : Nat → Int} {nu : Nat → Int64} {sa : Nat → Int} {wo : Nat → Int64} {ln : Nat → Int} {hw : Nat → Int64} {ro qi qc nf nt nw nc : Nat → Int} {cl nx : Nat → Int64} {ie be sd bl : Nat → Int} {bs wy ra rb : Nat → Int64} {lb bg os js ls : Nat → Int} {sp : Nat → Int64} {jw go : Nat → Int} {de : Nat → Int64} {yb ah im : Nat → Int} {x1 x2 x3 : Int} {Po9 : Option Value → MH → Nat → Prop} (hd0 : 3 ≤ d) (hR_sizes : Rfx 121 0 16 sz) (hR_many : Rfx 121 0 60 mn) (hR_from : Rfx 7260 0 15 fr) (hR_to : Rfx 7260 0 15 tt) (hR_weight : Rfx 7260 (-1000) 1000 wt) (hR_directs : Rfx 121 0 1 dr) (ht : Tw (RX Γ cI cJ cZ y rf cn nm so sz dr mn fr tt wt co nu sa wo ln hw ro qi qc nf nt nw nc cl nx ie be sd bl bs wy ra rb lb bg os js ls sp jw go de yb ah im) hp) (hx1 : 0 ≤ x1 ∧ x1 ≤ 120) (hx2 : 0 ≤ x2 ∧ x2 ≤ 15) (hx3 : 0 ≤ x3 ∧ x3 ≤ 15) (hx9 : x2 < (sz (Int.toNat x1)) ∧ x3 < (sz (Int.toNat x1)) ∧ x2 ≠ x3) (hPo : ∀ r hp1 n1, (n1 = n ∧ ∃ (q9 : Int64), Tw (RX Γ cI cJ cZ y rf cn nm so sz dr mn fr tt wt co nu sa wo ln hw ro qi qc nf nt nw nc cl nx ie be sd bl bs wy ra rb lb bg os js ls sp jw go de yb ah im) hp1 ∧ r = some (.long q9) ∧ (mcS (Int.toNat (mn (Int.toNat x1))) (dr (Int.toNat x1)) 0 (sh fr (60 * x1)) (sh tt (60 * x1)) (sh wt (60 * x1)) (Int.toNat (sz (Int.toNat x1))) (Int.toNat x2) (Int.toNat x3) q9.toInt)) → Po9 r hp1 n1) : Mt (gG D cI cJ cZ cT lo b L xs) mX12_cutSet d 0 0 [.ref y, .int (iv x1), .int (iv x2), .int (iv x3)] hp n Po9 := by
  refine Mt.of rfl (Nat.le_of_ble_eq_true rfl) ?_
  refine Rn.pick (lv' := [(0, .ref y), (1, .int (iv x1)), (2, .int (iv x2)), (3, .int (iv x3))]) [0, 1, 2, 3] rfl ?_
  have rsz := hR_sizes (Int.toNat x1) (by omega)
  have rmn := hR_many (Int.toNat x1) (by omega)
  have mp5 : 1 ≤ 2 ^ (Int.toNat (sz (Int.toNat x1))) := Nat.one_le_two_pow
  have mq5 : 2 ^ (Int.toNat (sz (Int.toNat x1))) ≤ 2 ^ 16 := Nat.pow_le_pow_right (by omega) (by omega)
  refine r_aload_n (pc := 0) dX12_cutSet_0 (i := 0) rfl rfl ?_
  refine r_iload_n (pc := 1) dX12_cutSet_1 (i := 1) rfl rfl ?_
  refine r_iload_n (pc := 2) dX12_cutSet_2 (i := 2) rfl rfl ?_
  refine r_iload_n (pc := 3) dX12_cutSet_3 (i := 3) rfl rfl ?_
  refine r_iconst (pc := 4) (v := iv 0) dX12_cutSet_4 (by decide) ?_
  obtain ⟨fs5, hfs5⟩ := t_obj ht (rd_of RX_y)
  refine r_callV (pc := 5) (as := [.int (iv x1), .int (iv x2), .int (iv x3), .int (iv 0)]) (st := []) kX12_343 rfl dX12_cutSet_5 hfs5 (x_X12_cut (d := d - 1) (x1 := x1) (x2 := x2) (x3 := x3) (x4 := 0) (by omega) (by assumption) (by assumption) (by assumption) (by assumption) (by assumption) (by assumption) ht (by omega) (by omega) (by omega) (by omega) (by omega) (fun _ _ _ h => h)) rfl (by omega) (Nat.le_of_ble_eq_true rfl) (Nat.zero_le _) (Nat.zero_le _) rfl (fun r2 hp1 n3 hq4 => ?_)
  obtain ⟨hnn3, q9_7, ht6, hrr2, hhq40⟩ := hq4
  subst n3 r2
  have hhq40 : mcA (Int.toNat (mn (Int.toNat x1))) (dr (Int.toNat x1)) 0 (sh fr (60 * x1)) (sh tt (60 * x1)) (sh wt (60 * x1)) (Int.toNat (sz (Int.toNat x1))) (Int.toNat x2) (Int.toNat x3) q9_7.toInt := hhq40
  change Rn _ _ _ 8 _ [.long q9_7] _ _ _ _ _
  have hmc := hhq40
  refine r_lstore (pc := 8) (lv' := [(4, .long q9_7), (0, .ref y), (1, .int (iv x1)), (2, .int (iv x2)), (3, .int (iv x3))]) dX12_cutSet_8 (by decide) rfl ?_
  refine r_iconst (pc := 10) (v := iv 0) dX12_cutSet_10 (by decide) ?_
  refine r_istore (pc := 11) (lv' := [(6, .int (iv 0)), (4, .long q9_7), (0, .ref y), (1, .int (iv x1)), (2, .int (iv x2)), (3, .int (iv x3))]) dX12_cutSet_11 (by decide) rfl ?_
  have B13 : ∀ k : Nat, ∀ hp13 : MH, Tw (RX Γ cI cJ cZ y rf cn nm so sz dr mn fr tt wt co nu sa wo ln hw ro qi qc nf nt nw nc cl nx ie be sd bl bs wy ra rb lb bg os js ls sp jw go de yb ah im) hp13 → ∀  (v13_6 : Int), 0 ≤ v13_6 ∧ v13_6 ≤ 65536 ∧ (v13_6 ≤ ((2 ^ (Int.toNat (sz (Int.toNat x1))) : Nat) : Int)) ∧ (mcI (Int.toNat (mn (Int.toNat x1))) (dr (Int.toNat x1)) 0 (sh fr (60 * x1)) (sh tt (60 * x1)) (sh wt (60 * x1)) (Int.toNat (sz (Int.toNat x1))) (Int.toNat x2) (Int.toNat x3) v13_6 q9_7.toInt) → 65536 - v13_6 ≤ (k : Int) → Rn (gG D cI cJ cZ cT lo b L xs) mX12_cutSet d 13 [(0, .ref y), (1, .int (iv x1)), (2, .int (iv x2)), (3, .int (iv x3)), (4, .long q9_7), (6, .int (iv v13_6))] [] hp13 n 0 0 Po9 := by
    refine lpS _ ?_
    intro k13 ih13 hp13 ht13 v13_6 hf13 hm13
    obtain ⟨hf13_0, hf13_1, hf13_2, ha13_3⟩ := hf13
    refine r_iload (pc := 13) dX12_cutSet_13 rfl ?_
    refine r_iconst (pc := 15) (v := iv 1) dX12_cutSet_15 (by decide) ?_
    refine r_aload_n (pc := 16) dX12_cutSet_16 (i := 0) rfl rfl ?_
    refine t_getE (pc := 17) (.ref (y + 2)) ht13 (rd_of RX_y) fX12_13 dX12_cutSet_17 rfl ?_
    refine r_iload_n (pc := 20) dX12_cutSet_20 (i := 1) rfl rfl ?_
    refine t_ialdX (pc := 21) (t0 := 0) ht13 (rd_of RX_sizes) dX12_cutSet_21 rfl (by decide) (by omega) (fun b8 => ?_)
    have rb8 := (show Rfx 121 0 16 sz by assumption) (Int.toNat x1) (by omega)
    refine r_ishl (pc := 22) (v := iv ((2 ^ Int.toNat (sz (Int.toNat x1)) : Nat) : Int)) dX12_cutSet_22 (shl_e (by omega)) ?_
    have mp22_9 : 1 ≤ 2 ^ Int.toNat (sz (Int.toNat x1)) := Nat.one_le_two_pow
    have mq22_10 : 2 ^ Int.toNat (sz (Int.toNat x1)) ≤ 2 ^ 16 := Nat.pow_le_pow_right (by omega) (by omega)
    have ms22 := Me_shl (Int.toNat (sz (Int.toNat x1)))
    refine t_icmp_ge (pc := 23) (tgt := 69) dX12_cutSet_23 (by decide) (by omega) (by omega) (fun c23 => ?_) (fun c23 => ?_)
    · refine r_lconst (pc := 69) (v := 0) dX12_cutSet_69 (by decide) ?_
      have hk69 : (0 : Int64).toInt = 0 := by decide
      exact r_lret (pc := 70) dX12_cutSet_70 rfl (hPo _ _ _ ⟨rfl, (0 : Int64), ht13, rfl, (by exact (mci_e (by assumption : mcI (Int.toNat (mn (Int.toNat x1))) (dr (Int.toNat x1)) 0 (sh fr (60 * x1)) (sh tt (60 * x1)) (sh wt (60 * x1)) (Int.toNat (sz (Int.toNat x1))) (Int.toNat x2) (Int.toNat x3) v13_6 q9_7.toInt) hmc (by omega)).elim)⟩)
    · refine r_iload (pc := 26) dX12_cutSet_26 rfl ?_
      refine r_iload_n (pc := 28) dX12_cutSet_28 (i := 2) rfl rfl ?_
      have hq29_11 := shr_le (Int.toNat v13_6) (Int.toNat x2)
      refine r_ishr (pc := 29) (v := iv ((Int.toNat v13_6 >>> Int.toNat x2 : Nat) : Int)) dX12_cutSet_29 (shr_e (by omega) (by omega)) ?_
      refine r_iconst (pc := 30) (v := iv 1) dX12_cutSet_30 (by decide) ?_
      refine r_iand (pc := 31) (v := iv (((Int.toNat v13_6 >>> Int.toNat x2 : Nat) : Int) % 2)) dX12_cutSet_31 (and1_e _ (by omega)) ?_
      have mb31 := @Me_bit v13_6 x2
      refine r_iconst (pc := 32) (v := iv 1) dX12_cutSet_32 (by decide) ?_
      refine t_icmp_ne (pc := 33) (tgt := 63) dX12_cutSet_33 (by decide) (by omega) (by omega) (fun c33 => ?_) (fun c33 => ?_)
      · have nm33 : ¬ Me v13_6 (Int.toNat x2) := fun h9 => absurd (Me_bit.mpr h9) (by omega)
        have hmi := mci_up (by assumption : mcI (Int.toNat (mn (Int.toNat x1))) (dr (Int.toNat x1)) 0 (sh fr (60 * x1)) (sh tt (60 * x1)) (sh wt (60 * x1)) (Int.toNat (sz (Int.toNat x1))) (Int.toNat x2) (Int.toNat x3) v13_6 q9_7.toInt) (fun g9 => absurd g9.2.1 nm33)
        refine r_iinc (pc := 63) (v := iv (v13_6 + 1)) (lv' := [(6, .int (iv (v13_6 + 1))), (0, .ref y), (1, .int (iv x1)), (2, .int (iv x2)), (3, .int (iv x3)), (4, .long q9_7)]) dX12_cutSet_63 rfl (iv_add _ _) (by decide) rfl ?_
        refine r_goto (pc := 66) (tgt := 13) dX12_cutSet_66 (by decide) ?_
        refine Rn.pick (lv' := [(0, .ref y), (1, .int (iv x1)), (2, .int (iv x2)), (3, .int (iv x3)), (4, .long q9_7), (6, .int (iv (v13_6 + 1)))]) [1, 2, 3, 4, 5, 0] rfl ?_
        exact ih13 (Int.toNat (65536 - (v13_6 + 1))) (by omega) _ ht13 (v13_6 + 1) ⟨by omega, by omega, by omega, by (first | exact hmi | exact mci_0)⟩ (by omega)
      · have pm33 : Me v13_6 (Int.toNat x2) := Me_bit.mp (by omega)
        refine r_iload (pc := 36) dX12_cutSet_36 rfl ?_
        refine r_iload_n (pc := 38) dX12_cutSet_38 (i := 3) rfl rfl ?_
        have hq39_12 := shr_le (Int.toNat v13_6) (Int.toNat x3)
        refine r_ishr (pc := 39) (v := iv ((Int.toNat v13_6 >>> Int.toNat x3 : Nat) : Int)) dX12_cutSet_39 (shr_e (by omega) (by omega)) ?_
        refine r_iconst (pc := 40) (v := iv 1) dX12_cutSet_40 (by decide) ?_
        refine r_iand (pc := 41) (v := iv (((Int.toNat v13_6 >>> Int.toNat x3 : Nat) : Int) % 2)) dX12_cutSet_41 (and1_e _ (by omega)) ?_
        have mb41 := @Me_bit v13_6 x3
        refine t_if_ne (pc := 42) (tgt := 63) dX12_cutSet_42 (by decide) (by omega) (fun c42 => ?_) (fun c42 => ?_)
        · have pm42 : Me v13_6 (Int.toNat x3) := Me_bit.mp (by omega)
          have hmi := mci_up (by assumption : mcI (Int.toNat (mn (Int.toNat x1))) (dr (Int.toNat x1)) 0 (sh fr (60 * x1)) (sh tt (60 * x1)) (sh wt (60 * x1)) (Int.toNat (sz (Int.toNat x1))) (Int.toNat x2) (Int.toNat x3) v13_6 q9_7.toInt) (fun g9 => absurd pm42 g9.2.2)
          refine r_iinc (pc := 63) (v := iv (v13_6 + 1)) (lv' := [(6, .int (iv (v13_6 + 1))), (0, .ref y), (1, .int (iv x1)), (2, .int (iv x2)), (3, .int (iv x3)), (4, .long q9_7)]) dX12_cutSet_63 rfl (iv_add _ _) (by decide) rfl ?_
          refine r_goto (pc := 66) (tgt := 13) dX12_cutSet_66 (by decide) ?_
          refine Rn.pick (lv' := [(0, .ref y), (1, .int (iv x1)), (2, .int (iv x2)), (3, .int (iv x3)), (4, .long q9_7), (6, .int (iv (v13_6 + 1)))]) [1, 2, 3, 4, 5, 0] rfl ?_
          exact ih13 (Int.toNat (65536 - (v13_6 + 1))) (by omega) _ ht13 (v13_6 + 1) ⟨by omega, by omega, by omega, by (first | exact hmi | exact mci_0)⟩ (by omega)
        · have nm42 : ¬ Me v13_6 (Int.toNat x3) := fun h9 => absurd (Me_bit.mpr h9) (by omega)
          have hct : ctP (Int.toNat (sz (Int.toNat x1))) (Int.toNat x2) (Int.toNat x3) v13_6 := ⟨by omega, pm33, nm42⟩
          refine r_aload_n (pc := 45) dX12_cutSet_45 (i := 0) rfl rfl ?_
          refine r_iload_n (pc := 46) dX12_cutSet_46 (i := 1) rfl rfl ?_
          refine r_iload (pc := 47) dX12_cutSet_47 rfl ?_
          refine r_iconst (pc := 49) (v := iv 0) dX12_cutSet_49 (by decide) ?_
          obtain ⟨fs17, hfs17⟩ := t_obj ht13 (rd_of RX_y)
          refine r_callV (pc := 50) (as := [.int (iv x1), .int (iv v13_6), .int (iv 0)]) (st := []) kX12_368 rfl dX12_cutSet_50 hfs17 (x_X12_out (d := d - 1) (x1 := x1) (x2 := v13_6) (x3 := 0) (by omega) (by assumption) (by assumption) (by assumption) (by assumption) (by assumption) ht13 (by omega) (by omega) (by omega) (fun _ _ _ h => h)) rfl (by omega) (Nat.le_of_ble_eq_true rfl) (Nat.zero_le _) (Nat.zero_le _) rfl (fun r14 hp13 n15 hq16 => ?_)
          obtain ⟨hnn15, q9_19, ht18, hrr14, hhq160, hhq161⟩ := hq16
          subst n15 r14
          have hhq160 : q9_19.toInt = ouA (Int.toNat (mn (Int.toNat x1))) (dr (Int.toNat x1)) 0 (sh fr (60 * x1)) (sh tt (60 * x1)) (sh wt (60 * x1)) (msk v13_6) := hhq160
          have hhq161 : 0 ≤ q9_19.toInt ∧ q9_19.toInt ≤ 60000 := hhq161
          change Rn _ _ _ 53 _ [.long q9_19] _ _ _ _ _
          refine r_lload (pc := 53) dX12_cutSet_53 rfl ?_
          refine r_lcmp (pc := 55) dX12_cutSet_55 ?_
          refine t_lif_ne (pc := 56) (tgt := 63) dX12_cutSet_56 (by decide) (fun c56 => ?_) (fun c56 => ?_)
          · have hmi := mci_up (by assumption : mcI (Int.toNat (mn (Int.toNat x1))) (dr (Int.toNat x1)) 0 (sh fr (60 * x1)) (sh tt (60 * x1)) (sh wt (60 * x1)) (Int.toNat (sz (Int.toNat x1))) (Int.toNat x2) (Int.toNat x3) v13_6 q9_7.toInt) (fun _ => by rw [← hhq160]; exact c56)
            refine r_iinc (pc := 63) (v := iv (v13_6 + 1)) (lv' := [(6, .int (iv (v13_6 + 1))), (0, .ref y), (1, .int (iv x1)), (2, .int (iv x2)), (3, .int (iv x3)), (4, .long q9_7)]) dX12_cutSet_63 rfl (iv_add _ _) (by decide) rfl ?_
            refine r_goto (pc := 66) (tgt := 13) dX12_cutSet_66 (by decide) ?_
            refine Rn.pick (lv' := [(0, .ref y), (1, .int (iv x1)), (2, .int (iv x2)), (3, .int (iv x3)), (4, .long q9_7), (6, .int (iv (v13_6 + 1)))]) [1, 2, 3, 4, 5, 0] rfl ?_
            exact ih13 (Int.toNat (65536 - (v13_6 + 1))) (by omega) _ ht18 (v13_6 + 1) ⟨by omega, by omega, by omega, by (first | exact hmi | exact mci_0)⟩ (by omega)
          · have hcs := mci_y (by assumption : mcI (Int.toNat (mn (Int.toNat x1))) (dr (Int.toNat x1)) 0 (sh fr (60 * x1)) (sh tt (60 * x1)) (sh wt (60 * x1)) (Int.toNat (sz (Int.toNat x1))) (Int.toNat x2) (Int.toNat x3) v13_6 q9_7.toInt) hmc hct (by rw [← hhq160]; exact Classical.byContradiction c56)
            refine r_iload (pc := 59) dX12_cutSet_59 rfl ?_
            refine r_i2l (pc := 61) (v := (iv v13_6).toInt64) dX12_cutSet_61 rfl ?_
            exact r_lret (pc := 62) dX12_cutSet_62 rfl (hPo _ _ _ ⟨rfl, ((iv v13_6).toInt64), ht18, rfl, (by (rw [iv_long (by omega)]; exact hcs))⟩)
  refine Rn.pick (lv' := [(0, .ref y), (1, .int (iv x1)), (2, .int (iv x2)), (3, .int (iv x3)), (4, .long q9_7), (6, .int (iv 0))]) [2, 3, 4, 5, 1, 0] rfl ?_
  exact B13 (Int.toNat (65536 - 0)) _ ht6 0 ⟨by omega, by omega, by omega, by (first | exact hmi | exact mci_0)⟩ (by omega)
