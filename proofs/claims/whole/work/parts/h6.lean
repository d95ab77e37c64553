set_option maxHeartbeats 4000000 in
set_option maxRecDepth 100000 in
theorem c_X2_findCheapestx {D : va_G} {cI cJ cZ cT : ClassId} {lo b L : Nat} {xs : Nat → Int32} {hp : MH} {n d : Nat} {Γ : TG} {s : Nat} {Lk : Int} {B lt lh lr lc : Nat → Int} {De : Nat → Int64} {x1 x2 x3 : Int} {m : Nat} {F T W C h p : Nat → Int} (hd0 : 1 ≤ d) (hL0 : 0 ≤ Lk ∧ Lk ≤ 240) (hB0 : Rfx 16 0 239 B) (hlt0 : Rfx 240 0 15 lt) (hlh0 : Rfx 240 0 15 lh) (ht : Tw (LSt Γ cI cJ s Lk B lt lh lr lc De) hp) (hL2 : Lk = 2 * (m : Int)) (hlk : lkR lt lh lr lc m F T W C h) (hfi : fiR W 1 m h) (hpt : ptR (tlR F T) (hdR F T) (rmR W 1 h) (csR C h) (2 * m) p) (hTL : ∀ j, j < 2 * m → (0 ≤ tlR F T j ∧ tlR F T j < (((Int.toNat x1) : Nat) : Int)) ∧ 0 ≤ hdR F T j ∧ hdR F T j < (((Int.toNat x1) : Nat) : Int)) (hx1 : 1 ≤ x1 ∧ x1 ≤ 16) (hx2 : 0 ≤ x2 ∧ x2 ≤ 15) (hx3 : 0 ≤ x3 ∧ x3 ≤ 15) (hxn : x2 < x1) : Mt (gG D cI cJ cZ cT lo b L xs) mX2_findCheapest d 0 0 [.ref s, .int (iv x1), .int (iv x2), .int (iv x3)] hp n (fun r9 hp1 n1 => n1 = n ∧ ∃ (B1 : Nat → Int) (De1 : Nat → Int64) (v : Int), Tw (LSt Γ cI cJ s Lk B1 lt lh lr lc De1) hp1 ∧ Rfx 16 0 239 B1 ∧ farP De1 ∧ r9 = some (.int (iv v)) ∧ bfR (Int.toNat x1) (Int.toNat x2) (tlR F T) (hdR F T) (rmR W 1 h) (csR C h) (2 * m) p (dtC De1) (bfN B1) 4000 ∧ cvR (tlR F T) (hdR F T) (rmR W 1 h) (csR C h) (2 * m) (dtC De1) ∧ ((v = 1 ∧ (De1 (Int.toNat x3)).toInt < 1000000000000) ∨ (v = 0 ∧ ¬ (De1 (Int.toNat x3)).toInt < 1000000000000))) := by
  refine Mt.of rfl (Nat.le_of_ble_eq_true rfl) ?_
  refine Rn.pick (lv' := [(0, .ref s), (1, .int (iv x1)), (2, .int (iv x2)), (3, .int (iv x3))]) [0, 1, 2, 3] rfl ?_
  have t0 : Tw (ov (ov (ov (ov (ov (ov (ov Γ s (tO 2 (flG s Lk))) (s + 2) (xI cI 16 B)) (s + 4) (xI cI 240 lt)) (s + 5) (xI cI 240 lh)) (s + 6) (xI cI 240 lr)) (s + 7) (xI cI 240 lc)) (s + 8) (xJ cJ 16 De)) hp := ht
  refine r_aload_n (pc := 0) dX2_findCheapest_0 (i := 0) rfl rfl ?_
  refine t_getE (pc := 1) (.ref (s + 8)) t0 (rd_ov (by omega) (rd_ov (by omega) (rd_ov (by omega) (rd_ov (by omega) (rd_ov (by omega) (rd_ov (by omega) (rd_of (ov_s _ _ _)))))))) fX2_33 dX2_findCheapest_1 rfl ?_
  refine r_ldc2 (pc := 4) (v := 1099511627776) dX2_findCheapest_4 kX2_106 ?_
  have hk4 : (1099511627776 : Int64).toInt = 1099511627776 := by decide
  refine t_fillJX (pc := 7) t0 (rd_of (ov_s _ _ _)) kX2_108 dX2_findCheapest_7 (by omega) (by omega) (Nat.le_of_ble_eq_true rfl) (fun hp1 ht2 => ?_)
  rw [ov_ov] at ht2
  refine r_aload_n (pc := 10) dX2_findCheapest_10 (i := 0) rfl rfl ?_
  refine t_getE (pc := 11) (.ref (s + 8)) ht2 (rd_ov (by omega) (rd_ov (by omega) (rd_ov (by omega) (rd_ov (by omega) (rd_ov (by omega) (rd_ov (by omega) (rd_of (ov_s _ _ _)))))))) fX2_33 dX2_findCheapest_11 rfl ?_
  refine r_iload_n (pc := 14) dX2_findCheapest_14 (i := 2) rfl rfl ?_
  refine r_lconst (pc := 15) (v := 0) dX2_findCheapest_15 (by decide) ?_
  have hk15 : (0 : Int64).toInt = 0 := by decide
  refine t_lastX (pc := 16) (t0 := 1) ht2 (ov_s _ _ _) dX2_findCheapest_16 rfl (by decide) (by omega) (fun hp3 ht4 => ?_)
  rw [ov_ov] at ht4
  have hfa16 : farP (fuj (fun _ => (1099511627776 : Int64)) (Int.toNat x2) (0 : Int64)) := fun v hv => by
    unfold fuj
    by_cases e : v = (Int.toNat x2)
    · rw [if_pos e, hk15]; exact Or.inl (by omega)
    · rw [if_neg e, hk4]; exact Or.inr rfl
  have hd16 : ∀ i : Nat, i < (Int.toNat x1) → dtC (fuj (fun _ => (1099511627776 : Int64)) (Int.toNat x2) (0 : Int64)) i = if i = (Int.toNat x2) then 0 else 1000000000000 := fun i hi => by
    unfold dtC fuj
    by_cases e : i = (Int.toNat x2)
    · rw [if_pos e, if_pos e, hk15]; rfl
    · rw [if_neg e, if_neg e, hk4]; rfl
  have hbs16 : bsD (Int.toNat x1) (Int.toNat x2) (tlR F T) (hdR F T) (rmR W 1 h) (csR C h) (2 * m) p (dtC (fuj (fun _ => (1099511627776 : Int64)) (Int.toNat x2) (0 : Int64))) (bfN B) (240 * 0) (Int.toNat 0) := bsd_0 (by omega) hd16
  refine r_iconst (pc := 17) (v := iv 1) dX2_findCheapest_17 (by decide) ?_
  refine r_istore (pc := 18) (lv' := [(4, .int (iv 1)), (0, .ref s), (1, .int (iv x1)), (2, .int (iv x2)), (3, .int (iv x3))]) dX2_findCheapest_18 (by decide) rfl ?_
  refine r_iconst (pc := 20) (v := iv 0) dX2_findCheapest_20 (by decide) ?_
  refine r_istore (pc := 21) (lv' := [(5, .int (iv 0)), (4, .int (iv 1)), (0, .ref s), (1, .int (iv x1)), (2, .int (iv x2)), (3, .int (iv x3))]) dX2_findCheapest_21 (by decide) rfl ?_
  have B23 : ∀ k : Nat, ∀ B23 : Nat → Int, ∀ De23 : Nat → Int64, ∀ hp23 : MH, Tw (ov (ov (ov (ov (ov (ov (ov Γ s (tO 2 (flG s Lk))) (s + 2) (xI cI 16 B23)) (s + 4) (xI cI 240 lt)) (s + 5) (xI cI 240 lh)) (s + 6) (xI cI 240 lr)) (s + 7) (xI cI 240 lc)) (s + 8) (xJ cJ 16 De23)) hp23 → ∀  (v23_4 : Int) (v23_5 : Int), 0 ≤ v23_4 ∧ v23_4 ≤ 1 ∧ 0 ≤ v23_5 ∧ v23_5 ≤ 16 ∧ (v23_5 ≤ x1) ∧ (Rfx 16 0 239 B23) ∧ (farP De23) ∧ (bsD (Int.toNat x1) (Int.toNat x2) (tlR F T) (hdR F T) (rmR W 1 h) (csR C h) (2 * m) p (dtC De23) (bfN B23) (240 * v23_5) (Int.toNat v23_5)) ∧ (v23_4 = 0 → cvR (tlR F T) (hdR F T) (rmR W 1 h) (csR C h) (2 * m) (dtC De23)) → 16 - v23_5 ≤ (k : Int) → Rn (gG D cI cJ cZ cT lo b L xs) mX2_findCheapest d 23 [(0, .ref s), (1, .int (iv x1)), (3, .int (iv x3)), (4, .int (iv v23_4)), (5, .int (iv v23_5))] [] hp23 n 0 0 (fun r9 hp1 n1 => n1 = n ∧ ∃ (B1 : Nat → Int) (De1 : Nat → Int64) (v : Int), Tw (LSt Γ cI cJ s Lk B1 lt lh lr lc De1) hp1 ∧ Rfx 16 0 239 B1 ∧ farP De1 ∧ r9 = some (.int (iv v)) ∧ bfR (Int.toNat x1) (Int.toNat x2) (tlR F T) (hdR F T) (rmR W 1 h) (csR C h) (2 * m) p (dtC De1) (bfN B1) 4000 ∧ cvR (tlR F T) (hdR F T) (rmR W 1 h) (csR C h) (2 * m) (dtC De1) ∧ ((v = 1 ∧ (De1 (Int.toNat x3)).toInt < 1000000000000) ∨ (v = 0 ∧ ¬ (De1 (Int.toNat x3)).toInt < 1000000000000))) := by
    refine lpS _ ?_
    intro k23 ih23 B23 De23 hp23 ht23 v23_4 v23_5 hf23 hm23
    obtain ⟨hf23_0, hf23_1, hf23_2, hf23_3, hf23_4, ha23_5, ha23_6, ha23_7, ha23_8⟩ := hf23
    refine r_iload (pc := 23) dX2_findCheapest_23 rfl ?_
    refine r_iload_n (pc := 25) dX2_findCheapest_25 (i := 1) rfl rfl ?_
    refine t_icmp_ge (pc := 26) (tgt := 162) dX2_findCheapest_26 (by decide) (by omega) (by omega) (fun c26 => ?_) (fun c26 => ?_)
    · have hcv := sn_cvn (by assumption : bsD (Int.toNat x1) (Int.toNat x2) (tlR F T) (hdR F T) (rmR W 1 h) (csR C h) (2 * m) p (dtC De23) (bfN B23) (240 * v23_5) (Int.toNat v23_5)).2 (by omega) (fun j hj => (hTL j hj).1)
      refine r_aload_n (pc := 162) dX2_findCheapest_162 (i := 0) rfl rfl ?_
      refine t_getE (pc := 163) (.ref (s + 8)) ht23 (rd_ov (by omega) (rd_ov (by omega) (rd_ov (by omega) (rd_ov (by omega) (rd_ov (by omega) (rd_ov (by omega) (rd_of (ov_s _ _ _)))))))) fX2_33 dX2_findCheapest_163 rfl ?_
      refine r_iload_n (pc := 166) dX2_findCheapest_166 (i := 3) rfl rfl ?_
      refine t_laldX (pc := 167) (t0 := 1) ht23 (rd_of (ov_s _ _ _)) dX2_findCheapest_167 rfl (by decide) (by omega) ?_
      refine r_ldc2 (pc := 168) (v := 1099511627776) dX2_findCheapest_168 kX2_106 ?_
      have hk168 : (1099511627776 : Int64).toInt = 1099511627776 := by decide
      refine r_lcmp (pc := 171) dX2_findCheapest_171 ?_
      refine t_lif_ge (pc := 172) (tgt := 179) dX2_findCheapest_172 (by decide) (fun c172 => ?_) (fun c172 => ?_)
      · refine r_iconst (pc := 179) (v := iv 0) dX2_findCheapest_179 (by decide) ?_
        exact r_zret (pc := 180) dX2_findCheapest_180 rfl (iv_nar (by omega)) ⟨rfl, B23, De23, _, ht23, by assumption, by assumption, rfl, bf_mono (by assumption : bsD (Int.toNat x1) (Int.toNat x2) (tlR F T) (hdR F T) (rmR W 1 h) (csR C h) (2 * m) p (dtC De23) (bfN B23) (240 * v23_5) (Int.toNat v23_5)).1 (by omega), hcv, Or.inr ⟨rfl, by first | omega | (rcases (by assumption : farP De23) (Int.toNat x3) (by omega) with g9 | g9 <;> omega)⟩⟩
      · refine r_iconst (pc := 175) (v := iv 1) dX2_findCheapest_175 (by decide) ?_
        refine r_goto (pc := 176) (tgt := 180) dX2_findCheapest_176 (by decide) ?_
        exact r_zret (pc := 180) dX2_findCheapest_180 rfl (iv_nar (by omega)) ⟨rfl, B23, De23, _, ht23, by assumption, by assumption, rfl, bf_mono (by assumption : bsD (Int.toNat x1) (Int.toNat x2) (tlR F T) (hdR F T) (rmR W 1 h) (csR C h) (2 * m) p (dtC De23) (bfN B23) (240 * v23_5) (Int.toNat v23_5)).1 (by omega), hcv, Or.inl ⟨rfl, by first | omega | (rcases (by assumption : farP De23) (Int.toNat x3) (by omega) with g9 | g9 <;> omega)⟩⟩
    · refine r_iload (pc := 29) dX2_findCheapest_29 rfl ?_
      refine t_if_eq (pc := 31) (tgt := 162) dX2_findCheapest_31 (by decide) (by omega) (fun c31 => ?_) (fun c31 => ?_)
      · have hcv := (by assumption : v23_4 = 0 → cvR (tlR F T) (hdR F T) (rmR W 1 h) (csR C h) (2 * m) (dtC De23)) (by omega)
        refine r_aload_n (pc := 162) dX2_findCheapest_162 (i := 0) rfl rfl ?_
        refine t_getE (pc := 163) (.ref (s + 8)) ht23 (rd_ov (by omega) (rd_ov (by omega) (rd_ov (by omega) (rd_ov (by omega) (rd_ov (by omega) (rd_ov (by omega) (rd_of (ov_s _ _ _)))))))) fX2_33 dX2_findCheapest_163 rfl ?_
        refine r_iload_n (pc := 166) dX2_findCheapest_166 (i := 3) rfl rfl ?_
        refine t_laldX (pc := 167) (t0 := 1) ht23 (rd_of (ov_s _ _ _)) dX2_findCheapest_167 rfl (by decide) (by omega) ?_
        refine r_ldc2 (pc := 168) (v := 1099511627776) dX2_findCheapest_168 kX2_106 ?_
        have hk168 : (1099511627776 : Int64).toInt = 1099511627776 := by decide
        refine r_lcmp (pc := 171) dX2_findCheapest_171 ?_
        refine t_lif_ge (pc := 172) (tgt := 179) dX2_findCheapest_172 (by decide) (fun c172 => ?_) (fun c172 => ?_)
        · refine r_iconst (pc := 179) (v := iv 0) dX2_findCheapest_179 (by decide) ?_
          exact r_zret (pc := 180) dX2_findCheapest_180 rfl (iv_nar (by omega)) ⟨rfl, B23, De23, _, ht23, by assumption, by assumption, rfl, bf_mono (by assumption : bsD (Int.toNat x1) (Int.toNat x2) (tlR F T) (hdR F T) (rmR W 1 h) (csR C h) (2 * m) p (dtC De23) (bfN B23) (240 * v23_5) (Int.toNat v23_5)).1 (by omega), hcv, Or.inr ⟨rfl, by first | omega | (rcases (by assumption : farP De23) (Int.toNat x3) (by omega) with g9 | g9 <;> omega)⟩⟩
        · refine r_iconst (pc := 175) (v := iv 1) dX2_findCheapest_175 (by decide) ?_
          refine r_goto (pc := 176) (tgt := 180) dX2_findCheapest_176 (by decide) ?_
          exact r_zret (pc := 180) dX2_findCheapest_180 rfl (iv_nar (by omega)) ⟨rfl, B23, De23, _, ht23, by assumption, by assumption, rfl, bf_mono (by assumption : bsD (Int.toNat x1) (Int.toNat x2) (tlR F T) (hdR F T) (rmR W 1 h) (csR C h) (2 * m) p (dtC De23) (bfN B23) (240 * v23_5) (Int.toNat v23_5)).1 (by omega), hcv, Or.inl ⟨rfl, by first | omega | (rcases (by assumption : farP De23) (Int.toNat x3) (by omega) with g9 | g9 <;> omega)⟩⟩
      · refine r_iconst (pc := 34) (v := iv 0) dX2_findCheapest_34 (by decide) ?_
        refine r_istore (pc := 35) (lv' := [(4, .int (iv 0)), (0, .ref s), (1, .int (iv x1)), (3, .int (iv x3)), (5, .int (iv v23_5))]) dX2_findCheapest_35 (by decide) rfl ?_
        refine r_iconst (pc := 37) (v := iv 0) dX2_findCheapest_37 (by decide) ?_
        refine r_istore (pc := 38) (lv' := [(6, .int (iv 0)), (4, .int (iv 0)), (0, .ref s), (1, .int (iv x1)), (3, .int (iv x3)), (5, .int (iv v23_5))]) dX2_findCheapest_38 (by decide) rfl ?_
        have B40 : ∀ k : Nat, ∀ B40 : Nat → Int, ∀ De40 : Nat → Int64, ∀ hp40 : MH, Tw (ov (ov (ov (ov (ov (ov (ov Γ s (tO 2 (flG s Lk))) (s + 2) (xI cI 16 B40)) (s + 4) (xI cI 240 lt)) (s + 5) (xI cI 240 lh)) (s + 6) (xI cI 240 lr)) (s + 7) (xI cI 240 lc)) (s + 8) (xJ cJ 16 De40)) hp40 → ∀  (v40_4 : Int) (v40_6 : Int), 0 ≤ v40_4 ∧ v40_4 ≤ 1 ∧ 0 ≤ v40_6 ∧ v40_6 ≤ 240 ∧ (v40_6 ≤ Lk) ∧ (Rfx 16 0 239 B40) ∧ (farP De40) ∧ (brD (Int.toNat x1) (Int.toNat x2) (tlR F T) (hdR F T) (rmR W 1 h) (csR C h) (2 * m) p (dtC De40) (bfN B40) (240 * v23_5 + v40_6) (Int.toNat v23_5) (Int.toNat v40_6)) ∧ (v40_4 = 0 → chN (tlR F T) (hdR F T) (rmR W 1 h) (csR C h) (dtC De40) (Int.toNat v40_6)) → 240 - v40_6 ≤ (k : Int) → Rn (gG D cI cJ cZ cT lo b L xs) mX2_findCheapest d 40 [(0, .ref s), (1, .int (iv x1)), (3, .int (iv x3)), (4, .int (iv v40_4)), (5, .int (iv v23_5)), (6, .int (iv v40_6))] [] hp40 n 0 0 (fun r9 hp1 n1 => n1 = n ∧ ∃ (B1 : Nat → Int) (De1 : Nat → Int64) (v : Int), Tw (LSt Γ cI cJ s Lk B1 lt lh lr lc De1) hp1 ∧ Rfx 16 0 239 B1 ∧ farP De1 ∧ r9 = some (.int (iv v)) ∧ bfR (Int.toNat x1) (Int.toNat x2) (tlR F T) (hdR F T) (rmR W 1 h) (csR C h) (2 * m) p (dtC De1) (bfN B1) 4000 ∧ cvR (tlR F T) (hdR F T) (rmR W 1 h) (csR C h) (2 * m) (dtC De1) ∧ ((v = 1 ∧ (De1 (Int.toNat x3)).toInt < 1000000000000) ∨ (v = 0 ∧ ¬ (De1 (Int.toNat x3)).toInt < 1000000000000))) := by
          refine lpS _ ?_
          intro k40 ih40 B40 De40 hp40 ht40 v40_4 v40_6 hf40 hm40
          obtain ⟨hf40_0, hf40_1, hf40_2, hf40_3, hf40_4, ha40_5, ha40_6, ha40_7, ha40_8⟩ := hf40
          refine r_iload (pc := 40) dX2_findCheapest_40 rfl ?_
          have hbr := (by assumption : brD (Int.toNat x1) (Int.toNat x2) (tlR F T) (hdR F T) (rmR W 1 h) (csR C h) (2 * m) p (dtC De40) (bfN B40) (240 * v23_5 + v40_6) (Int.toNat v23_5) (Int.toNat v40_6))
          have hfa := (by assumption : farP De40)
          refine r_aload_n (pc := 42) dX2_findCheapest_42 (i := 0) rfl rfl ?_
          refine t_getE (pc := 43) (.int (iv Lk)) ht40 (rd_ov (by omega) (rd_ov (by omega) (rd_ov (by omega) (rd_ov (by omega) (rd_ov (by omega) (rd_ov (by omega) (rd_of (ov_s _ _ _)))))))) fX2_89 dX2_findCheapest_43 rfl ?_
          refine t_icmp_ge (pc := 46) (tgt := 156) dX2_findCheapest_46 (by decide) (by omega) (by omega) (fun c46 => ?_) (fun c46 => ?_)
          · have hbe : bsD (Int.toNat x1) (Int.toNat x2) (tlR F T) (hdR F T) (rmR W 1 h) (csR C h) (2 * m) p (dtC De40) (bfN B40) (240 * (v23_5 + 1)) (Int.toNat (v23_5 + 1)) := by
              rw [show Int.toNat (v23_5 + 1) = Int.toNat v23_5 + 1 by omega]
              exact brd_end hbr (by omega) (by omega)
            have hce : v40_4 = 0 → cvR (tlR F T) (hdR F T) (rmR W 1 h) (csR C h) (2 * m) (dtC De40) := fun g9 => by
              have h9 := (by assumption : v40_4 = 0 → chN (tlR F T) (hdR F T) (rmR W 1 h) (csR C h) (dtC De40) (Int.toNat v40_6)) g9
              rw [show Int.toNat v40_6 = 2 * m by omega] at h9
              exact h9
            refine r_iinc (pc := 156) (v := iv (v23_5 + 1)) (lv' := [(5, .int (iv (v23_5 + 1))), (0, .ref s), (1, .int (iv x1)), (3, .int (iv x3)), (4, .int (iv v40_4)), (6, .int (iv v40_6))]) dX2_findCheapest_156 rfl (iv_add _ _) (by decide) rfl ?_
            refine r_goto (pc := 159) (tgt := 23) dX2_findCheapest_159 (by decide) ?_
            refine Rn.pick (lv' := [(0, .ref s), (1, .int (iv x1)), (3, .int (iv x3)), (4, .int (iv v40_4)), (5, .int (iv (v23_5 + 1)))]) [1, 2, 3, 4, 0] rfl ?_
            exact ih23 (Int.toNat (16 - (v23_5 + 1))) (by omega) B40 De40 _ ht40 v40_4 (v23_5 + 1) ⟨by omega, by omega, by omega, by omega, by omega, by (first | assumption | exact hB0), by (first | exact hfa | exact hfa16), by (first | exact hbe | exact hbs16), by (first | exact hce | (intro g9; exfalso; omega))⟩ (by omega)
          · refine r_aload_n (pc := 49) dX2_findCheapest_49 (i := 0) rfl rfl ?_
            refine t_getE (pc := 50) (.ref (s + 8)) ht40 (rd_ov (by omega) (rd_ov (by omega) (rd_ov (by omega) (rd_ov (by omega) (rd_ov (by omega) (rd_ov (by omega) (rd_of (ov_s _ _ _)))))))) fX2_33 dX2_findCheapest_50 rfl ?_
            refine r_aload_n (pc := 53) dX2_findCheapest_53 (i := 0) rfl rfl ?_
            refine t_getE (pc := 54) (.ref (s + 4)) ht40 (rd_ov (by omega) (rd_ov (by omega) (rd_ov (by omega) (rd_ov (by omega) (rd_ov (by omega) (rd_ov (by omega) (rd_of (ov_s _ _ _)))))))) fX2_21 dX2_findCheapest_54 rfl ?_
            refine r_iload (pc := 57) dX2_findCheapest_57 rfl ?_
            refine t_ialdX (pc := 59) (t0 := 0) ht40 (rd_ov (by omega) (rd_ov (by omega) (rd_ov (by omega) (rd_ov (by omega) (rd_of (ov_s _ _ _)))))) dX2_findCheapest_59 rfl (by decide) (by omega) (fun b5 => ?_)
            have rb5 := (show Rfx 240 0 15 lt by assumption) (Int.toNat v40_6) (by omega)
            refine t_laldX (pc := 60) (t0 := 1) ht40 (rd_of (ov_s _ _ _)) dX2_findCheapest_60 rfl (by decide) (by omega) ?_
            refine r_aload_n (pc := 61) dX2_findCheapest_61 (i := 0) rfl rfl ?_
            refine t_getE (pc := 62) (.ref (s + 7)) ht40 (rd_ov (by omega) (rd_ov (by omega) (rd_ov (by omega) (rd_ov (by omega) (rd_ov (by omega) (rd_ov (by omega) (rd_of (ov_s _ _ _)))))))) fX2_30 dX2_findCheapest_62 rfl ?_
            refine r_iload (pc := 65) dX2_findCheapest_65 rfl ?_
            refine t_ialdX (pc := 67) (t0 := 0) ht40 (rd_ov (by omega) (rd_of (ov_s _ _ _))) dX2_findCheapest_67 rfl (by decide) (by omega) (fun b6 => ?_)
            refine r_i2l (pc := 68) (v := (iv (lc (Int.toNat v40_6))).toInt64) dX2_findCheapest_68 rfl ?_
            refine r_ladd (pc := 69) (v := (De40 (Int.toNat (lt (Int.toNat v40_6)))) + ((iv (lc (Int.toNat v40_6))).toInt64)) dX2_findCheapest_69 rfl ?_
            have hlo := fc_lo hbr hlk (by omega) hTL (by omega)
            have hcb := lk_cb hlk (j := (Int.toNat v40_6)) (by omega)
            have hfk := hfa (Int.toNat (lt (Int.toNat v40_6))) (by omega)
            have hiv := iv_long (x := lc (Int.toNat v40_6)) (by omega)
            have hw9 : ((De40 (Int.toNat (lt (Int.toNat v40_6)))) + ((iv (lc (Int.toNat v40_6))).toInt64)).toInt = (De40 (Int.toNat (lt (Int.toNat v40_6)))).toInt + lc (Int.toNat v40_6) := by rw [l_add (by rcases hfk with g9 | g9 <;> omega), hiv]
            clear hfk
            refine r_lstore (pc := 70) (lv' := [(7, .long ((De40 (Int.toNat (lt (Int.toNat v40_6)))) + ((iv (lc (Int.toNat v40_6))).toInt64))), (0, .ref s), (1, .int (iv x1)), (3, .int (iv x3)), (4, .int (iv v40_4)), (5, .int (iv v23_5)), (6, .int (iv v40_6))]) dX2_findCheapest_70 (by decide) rfl ?_
            refine r_aload_n (pc := 72) dX2_findCheapest_72 (i := 0) rfl rfl ?_
            refine t_getE (pc := 73) (.ref (s + 6)) ht40 (rd_ov (by omega) (rd_ov (by omega) (rd_ov (by omega) (rd_ov (by omega) (rd_ov (by omega) (rd_ov (by omega) (rd_of (ov_s _ _ _)))))))) fX2_27 dX2_findCheapest_73 rfl ?_
            refine r_iload (pc := 76) dX2_findCheapest_76 rfl ?_
            refine t_ialdX (pc := 78) (t0 := 0) ht40 (rd_ov (by omega) (rd_ov (by omega) (rd_of (ov_s _ _ _)))) dX2_findCheapest_78 rfl (by decide) (by omega) (fun b7 => ?_)
            refine t_if_le (pc := 79) (tgt := 150) dX2_findCheapest_79 (by decide) (by omega) (fun c79 => ?_) (fun c79 => ?_)
            · obtain ⟨hbn, hch⟩ := fc_no (w := ((De40 (Int.toNat (lt (Int.toNat v40_6)))) + ((iv (lc (Int.toNat v40_6))).toInt64))) (K1 := 240 * v23_5 + (v40_6 + 1)) hbr hlk hfi (k := (Int.toNat v40_6)) (by omega) (by omega) hTL hfa (by omega) hw9 (Or.inl (by omega))
              refine r_iinc (pc := 150) (v := iv (v40_6 + 1)) (lv' := [(6, .int (iv (v40_6 + 1))), (7, .long ((De40 (Int.toNat (lt (Int.toNat v40_6)))) + ((iv (lc (Int.toNat v40_6))).toInt64))), (0, .ref s), (1, .int (iv x1)), (3, .int (iv x3)), (4, .int (iv v40_4)), (5, .int (iv v23_5))]) dX2_findCheapest_150 rfl (iv_add _ _) (by decide) rfl ?_
              refine r_goto (pc := 153) (tgt := 40) dX2_findCheapest_153 (by decide) ?_
              refine Rn.pick (lv' := [(0, .ref s), (1, .int (iv x1)), (3, .int (iv x3)), (4, .int (iv v40_4)), (5, .int (iv v23_5)), (6, .int (iv (v40_6 + 1)))]) [2, 3, 4, 5, 6, 0] rfl ?_
              exact ih40 (Int.toNat (240 - (v40_6 + 1))) (by omega) B40 De40 _ ht40 v40_4 (v40_6 + 1) ⟨by omega, by omega, by omega, by omega, by omega, by (first | exact hB146 | assumption), by (first | exact hfu | assumption), by (first | (rw [show Int.toNat (v40_6 + 1) = Int.toNat v40_6 + 1 by omega]; exact hbn) | (rw [show 240 * v23_5 + 0 = 240 * v23_5 by omega]; exact brd_go (by assumption))), by (first | (intro g9; exfalso; omega) | (intro g9; rw [show Int.toNat (v40_6 + 1) = Int.toNat v40_6 + 1 by omega]; exact hch ((by assumption : v40_4 = 0 → chN (tlR F T) (hdR F T) (rmR W 1 h) (csR C h) (dtC De40) (Int.toNat v40_6)) g9)) | exact fun _ j hj => absurd hj (Nat.not_lt_zero j))⟩ (by omega)
            · refine r_aload_n (pc := 82) dX2_findCheapest_82 (i := 0) rfl rfl ?_
              refine t_getE (pc := 83) (.ref (s + 8)) ht40 (rd_ov (by omega) (rd_ov (by omega) (rd_ov (by omega) (rd_ov (by omega) (rd_ov (by omega) (rd_ov (by omega) (rd_of (ov_s _ _ _)))))))) fX2_33 dX2_findCheapest_83 rfl ?_
              refine r_aload_n (pc := 86) dX2_findCheapest_86 (i := 0) rfl rfl ?_
              refine t_getE (pc := 87) (.ref (s + 4)) ht40 (rd_ov (by omega) (rd_ov (by omega) (rd_ov (by omega) (rd_ov (by omega) (rd_ov (by omega) (rd_ov (by omega) (rd_of (ov_s _ _ _)))))))) fX2_21 dX2_findCheapest_87 rfl ?_
              refine r_iload (pc := 90) dX2_findCheapest_90 rfl ?_
              refine t_ialdX (pc := 92) (t0 := 0) ht40 (rd_ov (by omega) (rd_ov (by omega) (rd_ov (by omega) (rd_ov (by omega) (rd_of (ov_s _ _ _)))))) dX2_findCheapest_92 rfl (by decide) (by omega) (fun b8 => ?_)
              have rb8 := (show Rfx 240 0 15 lt by assumption) (Int.toNat v40_6) (by omega)
              refine t_laldX (pc := 93) (t0 := 1) ht40 (rd_of (ov_s _ _ _)) dX2_findCheapest_93 rfl (by decide) (by omega) ?_
              refine r_ldc2 (pc := 94) (v := 1099511627776) dX2_findCheapest_94 kX2_106 ?_
              have hk94 : (1099511627776 : Int64).toInt = 1099511627776 := by decide
              refine r_lcmp (pc := 97) dX2_findCheapest_97 ?_
              refine t_lif_ge (pc := 98) (tgt := 150) dX2_findCheapest_98 (by decide) (fun c98 => ?_) (fun c98 => ?_)
              · obtain ⟨hbn, hch⟩ := fc_no (w := ((De40 (Int.toNat (lt (Int.toNat v40_6)))) + ((iv (lc (Int.toNat v40_6))).toInt64))) (K1 := 240 * v23_5 + (v40_6 + 1)) hbr hlk hfi (k := (Int.toNat v40_6)) (by omega) (by omega) hTL hfa (by omega) hw9 (Or.inr (Or.inl (by omega)))
                refine r_iinc (pc := 150) (v := iv (v40_6 + 1)) (lv' := [(6, .int (iv (v40_6 + 1))), (7, .long ((De40 (Int.toNat (lt (Int.toNat v40_6)))) + ((iv (lc (Int.toNat v40_6))).toInt64))), (0, .ref s), (1, .int (iv x1)), (3, .int (iv x3)), (4, .int (iv v40_4)), (5, .int (iv v23_5))]) dX2_findCheapest_150 rfl (iv_add _ _) (by decide) rfl ?_
                refine r_goto (pc := 153) (tgt := 40) dX2_findCheapest_153 (by decide) ?_
                refine Rn.pick (lv' := [(0, .ref s), (1, .int (iv x1)), (3, .int (iv x3)), (4, .int (iv v40_4)), (5, .int (iv v23_5)), (6, .int (iv (v40_6 + 1)))]) [2, 3, 4, 5, 6, 0] rfl ?_
                exact ih40 (Int.toNat (240 - (v40_6 + 1))) (by omega) B40 De40 _ ht40 v40_4 (v40_6 + 1) ⟨by omega, by omega, by omega, by omega, by omega, by (first | exact hB146 | assumption), by (first | exact hfu | assumption), by (first | (rw [show Int.toNat (v40_6 + 1) = Int.toNat v40_6 + 1 by omega]; exact hbn) | (rw [show 240 * v23_5 + 0 = 240 * v23_5 by omega]; exact brd_go (by assumption))), by (first | (intro g9; exfalso; omega) | (intro g9; rw [show Int.toNat (v40_6 + 1) = Int.toNat v40_6 + 1 by omega]; exact hch ((by assumption : v40_4 = 0 → chN (tlR F T) (hdR F T) (rmR W 1 h) (csR C h) (dtC De40) (Int.toNat v40_6)) g9)) | exact fun _ j hj => absurd hj (Nat.not_lt_zero j))⟩ (by omega)
              · refine r_lload (pc := 101) dX2_findCheapest_101 rfl ?_
                refine r_aload_n (pc := 103) dX2_findCheapest_103 (i := 0) rfl rfl ?_
                refine t_getE (pc := 104) (.ref (s + 8)) ht40 (rd_ov (by omega) (rd_ov (by omega) (rd_ov (by omega) (rd_ov (by omega) (rd_ov (by omega) (rd_ov (by omega) (rd_of (ov_s _ _ _)))))))) fX2_33 dX2_findCheapest_104 rfl ?_
                refine r_aload_n (pc := 107) dX2_findCheapest_107 (i := 0) rfl rfl ?_
                refine t_getE (pc := 108) (.ref (s + 5)) ht40 (rd_ov (by omega) (rd_ov (by omega) (rd_ov (by omega) (rd_ov (by omega) (rd_ov (by omega) (rd_ov (by omega) (rd_of (ov_s _ _ _)))))))) fX2_24 dX2_findCheapest_108 rfl ?_
                refine r_iload (pc := 111) dX2_findCheapest_111 rfl ?_
                refine t_ialdX (pc := 113) (t0 := 0) ht40 (rd_ov (by omega) (rd_ov (by omega) (rd_ov (by omega) (rd_of (ov_s _ _ _))))) dX2_findCheapest_113 rfl (by decide) (by omega) (fun b9 => ?_)
                have rb9 := (show Rfx 240 0 15 lh by assumption) (Int.toNat v40_6) (by omega)
                refine t_laldX (pc := 114) (t0 := 1) ht40 (rd_of (ov_s _ _ _)) dX2_findCheapest_114 rfl (by decide) (by omega) ?_
                refine r_lcmp (pc := 115) dX2_findCheapest_115 ?_
                refine t_lif_ge (pc := 116) (tgt := 150) dX2_findCheapest_116 (by decide) (fun c116 => ?_) (fun c116 => ?_)
                · obtain ⟨hbn, hch⟩ := fc_no (w := ((De40 (Int.toNat (lt (Int.toNat v40_6)))) + ((iv (lc (Int.toNat v40_6))).toInt64))) (K1 := 240 * v23_5 + (v40_6 + 1)) hbr hlk hfi (k := (Int.toNat v40_6)) (by omega) (by omega) hTL hfa (by omega) hw9 (Or.inr (Or.inr (by omega)))
                  refine r_iinc (pc := 150) (v := iv (v40_6 + 1)) (lv' := [(6, .int (iv (v40_6 + 1))), (7, .long ((De40 (Int.toNat (lt (Int.toNat v40_6)))) + ((iv (lc (Int.toNat v40_6))).toInt64))), (0, .ref s), (1, .int (iv x1)), (3, .int (iv x3)), (4, .int (iv v40_4)), (5, .int (iv v23_5))]) dX2_findCheapest_150 rfl (iv_add _ _) (by decide) rfl ?_
                  refine r_goto (pc := 153) (tgt := 40) dX2_findCheapest_153 (by decide) ?_
                  refine Rn.pick (lv' := [(0, .ref s), (1, .int (iv x1)), (3, .int (iv x3)), (4, .int (iv v40_4)), (5, .int (iv v23_5)), (6, .int (iv (v40_6 + 1)))]) [2, 3, 4, 5, 6, 0] rfl ?_
                  exact ih40 (Int.toNat (240 - (v40_6 + 1))) (by omega) B40 De40 _ ht40 v40_4 (v40_6 + 1) ⟨by omega, by omega, by omega, by omega, by omega, by (first | exact hB146 | assumption), by (first | exact hfu | assumption), by (first | (rw [show Int.toNat (v40_6 + 1) = Int.toNat v40_6 + 1 by omega]; exact hbn) | (rw [show 240 * v23_5 + 0 = 240 * v23_5 by omega]; exact brd_go (by assumption))), by (first | (intro g9; exfalso; omega) | (intro g9; rw [show Int.toNat (v40_6 + 1) = Int.toNat v40_6 + 1 by omega]; exact hch ((by assumption : v40_4 = 0 → chN (tlR F T) (hdR F T) (rmR W 1 h) (csR C h) (dtC De40) (Int.toNat v40_6)) g9)) | exact fun _ j hj => absurd hj (Nat.not_lt_zero j))⟩ (by omega)
                · obtain ⟨hbu, hfu⟩ := fch_up (w := ((De40 (Int.toNat (lt (Int.toNat v40_6)))) + ((iv (lc (Int.toNat v40_6))).toInt64))) hbr hpt hlk hfi (k := (Int.toNat v40_6)) (by omega) (by omega) hTL hfa (by omega) hw9 (by omega) (by omega) (by omega)
                  refine r_aload_n (pc := 119) dX2_findCheapest_119 (i := 0) rfl rfl ?_
                  refine t_getE (pc := 120) (.ref (s + 8)) ht40 (rd_ov (by omega) (rd_ov (by omega) (rd_ov (by omega) (rd_ov (by omega) (rd_ov (by omega) (rd_ov (by omega) (rd_of (ov_s _ _ _)))))))) fX2_33 dX2_findCheapest_120 rfl ?_
                  refine r_aload_n (pc := 123) dX2_findCheapest_123 (i := 0) rfl rfl ?_
                  refine t_getE (pc := 124) (.ref (s + 5)) ht40 (rd_ov (by omega) (rd_ov (by omega) (rd_ov (by omega) (rd_ov (by omega) (rd_ov (by omega) (rd_ov (by omega) (rd_of (ov_s _ _ _)))))))) fX2_24 dX2_findCheapest_124 rfl ?_
                  refine r_iload (pc := 127) dX2_findCheapest_127 rfl ?_
                  refine t_ialdX (pc := 129) (t0 := 0) ht40 (rd_ov (by omega) (rd_ov (by omega) (rd_ov (by omega) (rd_of (ov_s _ _ _))))) dX2_findCheapest_129 rfl (by decide) (by omega) (fun b10 => ?_)
                  have rb10 := (show Rfx 240 0 15 lh by assumption) (Int.toNat v40_6) (by omega)
                  refine r_lload (pc := 130) dX2_findCheapest_130 rfl ?_
                  refine t_lastX (pc := 132) (t0 := 1) ht40 (ov_s _ _ _) dX2_findCheapest_132 rfl (by decide) (by omega) (fun hp11 ht12 => ?_)
                  rw [ov_ov] at ht12
                  refine r_aload_n (pc := 133) dX2_findCheapest_133 (i := 0) rfl rfl ?_
                  refine t_getE (pc := 134) (.ref (s + 2)) ht12 (rd_ov (by omega) (rd_ov (by omega) (rd_ov (by omega) (rd_ov (by omega) (rd_ov (by omega) (rd_ov (by omega) (rd_of (ov_s _ _ _)))))))) fX2_15 dX2_findCheapest_134 rfl ?_
                  refine r_aload_n (pc := 137) dX2_findCheapest_137 (i := 0) rfl rfl ?_
                  refine t_getE (pc := 138) (.ref (s + 5)) ht12 (rd_ov (by omega) (rd_ov (by omega) (rd_ov (by omega) (rd_ov (by omega) (rd_ov (by omega) (rd_ov (by omega) (rd_of (ov_s _ _ _)))))))) fX2_24 dX2_findCheapest_138 rfl ?_
                  refine r_iload (pc := 141) dX2_findCheapest_141 rfl ?_
                  refine t_ialdX (pc := 143) (t0 := 0) ht12 (rd_ov (by omega) (rd_ov (by omega) (rd_ov (by omega) (rd_of (ov_s _ _ _))))) dX2_findCheapest_143 rfl (by decide) (by omega) (fun b13 => ?_)
                  have rb13 := (show Rfx 240 0 15 lh by assumption) (Int.toNat v40_6) (by omega)
                  refine r_iload (pc := 144) dX2_findCheapest_144 rfl ?_
                  refine t_iastX (pc := 146) (t0 := 0) ht12 (eq_ov (by omega) (eq_ov (by omega) (eq_ov (by omega) (eq_ov (by omega) (eq_ov (by omega) (ov_s _ _ _)))))) dX2_findCheapest_146 rfl (by decide) (by omega) (by omega) (fun hp14 ht15 => ?_)
                  rw [ov_in6 (by omega) (by omega) (by omega) (by omega) (by omega) ] at ht15
                  have hB146 : Rfx 16 0 239 (fup B40 (Int.toNat (lh (Int.toNat v40_6))) v40_6) := Rfx_up (by assumption) (by omega)
                  have hbn : brD (Int.toNat x1) (Int.toNat x2) (tlR F T) (hdR F T) (rmR W 1 h) (csR C h) (2 * m) p (dtC (fuj De40 (Int.toNat (lh (Int.toNat v40_6))) ((De40 (Int.toNat (lt (Int.toNat v40_6)))) + ((iv (lc (Int.toNat v40_6))).toInt64)))) (bfN (fup B40 (Int.toNat (lh (Int.toNat v40_6))) v40_6)) (240 * v23_5 + (v40_6 + 1)) (Int.toNat v23_5) ((Int.toNat v40_6) + 1) := by
                    rw [show ((((Int.toNat v40_6) : Nat) : Int)) = v40_6 by omega, show 240 * v23_5 + v40_6 + 1 = 240 * v23_5 + (v40_6 + 1) by omega] at hbu
                    exact hbu
                  refine r_iconst (pc := 147) (v := iv 1) dX2_findCheapest_147 (by decide) ?_
                  refine r_istore (pc := 148) (lv' := [(4, .int (iv 1)), (7, .long ((De40 (Int.toNat (lt (Int.toNat v40_6)))) + ((iv (lc (Int.toNat v40_6))).toInt64))), (0, .ref s), (1, .int (iv x1)), (3, .int (iv x3)), (5, .int (iv v23_5)), (6, .int (iv v40_6))]) dX2_findCheapest_148 (by decide) rfl ?_
                  refine r_iinc (pc := 150) (v := iv (v40_6 + 1)) (lv' := [(6, .int (iv (v40_6 + 1))), (4, .int (iv 1)), (7, .long ((De40 (Int.toNat (lt (Int.toNat v40_6)))) + ((iv (lc (Int.toNat v40_6))).toInt64))), (0, .ref s), (1, .int (iv x1)), (3, .int (iv x3)), (5, .int (iv v23_5))]) dX2_findCheapest_150 rfl (iv_add _ _) (by decide) rfl ?_
                  refine r_goto (pc := 153) (tgt := 40) dX2_findCheapest_153 (by decide) ?_
                  refine Rn.pick (lv' := [(0, .ref s), (1, .int (iv x1)), (3, .int (iv x3)), (4, .int (iv 1)), (5, .int (iv v23_5)), (6, .int (iv (v40_6 + 1)))]) [3, 4, 5, 1, 6, 0] rfl ?_
                  exact ih40 (Int.toNat (240 - (v40_6 + 1))) (by omega) (fup B40 (Int.toNat (lh (Int.toNat v40_6))) v40_6) (fuj De40 (Int.toNat (lh (Int.toNat v40_6))) ((De40 (Int.toNat (lt (Int.toNat v40_6)))) + ((iv (lc (Int.toNat v40_6))).toInt64))) _ ht15 1 (v40_6 + 1) ⟨by omega, by omega, by omega, by omega, by omega, by (first | exact hB146 | assumption), by (first | exact hfu | assumption), by (first | (rw [show Int.toNat (v40_6 + 1) = Int.toNat v40_6 + 1 by omega]; exact hbn) | (rw [show 240 * v23_5 + 0 = 240 * v23_5 by omega]; exact brd_go (by assumption))), by (first | (intro g9; exfalso; omega) | (intro g9; rw [show Int.toNat (v40_6 + 1) = Int.toNat v40_6 + 1 by omega]; exact hch ((by assumption : v40_4 = 0 → chN (tlR F T) (hdR F T) (rmR W 1 h) (csR C h) (dtC De40) (Int.toNat v40_6)) g9)) | exact fun _ j hj => absurd hj (Nat.not_lt_zero j))⟩ (by omega)
        refine Rn.pick (lv' := [(0, .ref s), (1, .int (iv x1)), (3, .int (iv x3)), (4, .int (iv 0)), (5, .int (iv v23_5)), (6, .int (iv 0))]) [2, 3, 4, 1, 5, 0] rfl ?_
        exact B40 (Int.toNat (240 - 0)) B23 De23 _ ht23 0 0 ⟨by omega, by omega, by omega, by omega, by omega, by (first | exact hB146 | assumption), by (first | exact hfu | assumption), by (first | (rw [show Int.toNat (v40_6 + 1) = Int.toNat v40_6 + 1 by omega]; exact hbn) | (rw [show 240 * v23_5 + 0 = 240 * v23_5 by omega]; exact brd_go (by assumption))), by (first | (intro g9; exfalso; omega) | (intro g9; rw [show Int.toNat (v40_6 + 1) = Int.toNat v40_6 + 1 by omega]; exact hch ((by assumption : v40_4 = 0 → chN (tlR F T) (hdR F T) (rmR W 1 h) (csR C h) (dtC De40) (Int.toNat v40_6)) g9)) | exact fun _ j hj => absurd hj (Nat.not_lt_zero j))⟩ (by omega)
  refine Rn.pick (lv' := [(0, .ref s), (1, .int (iv x1)), (3, .int (iv x3)), (4, .int (iv 1)), (5, .int (iv 0))]) [2, 3, 5, 1, 0] rfl ?_
  exact B23 (Int.toNat (16 - 0)) B (fuj (fun _ => (1099511627776 : Int64)) (Int.toNat x2) (0 : Int64)) _ ht4 1 0 ⟨by omega, by omega, by omega, by omega, by omega, by (first | assumption | exact hB0), by (first | exact hfa | exact hfa16), by (first | exact hbe | exact hbs16), by (first | exact hce | (intro g9; exfalso; omega))⟩ (by omega)
