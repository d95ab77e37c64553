def wyV (sa : Nat → Int) (wo : Nat → Int64) (ln : Nat → Int) (hw : Nat → Int64) (p : Nat) (w : Int) : Int64 := if w = 0 then (iv (sa p)).toInt64 else if w = 1 then wo p else if w = 2 then (iv (ln p)).toInt64 else hw p
def stV (l : Int) (ro : Nat → Int) (b k : Int) : Int := if k < 0 ∨ l ≤ k then -1 else ro (b + k).toNat
/-- ways that are kept, with all that they hold -/
def WHr (Γ : TG) (cI cJ : ClassId) (t wn : Nat) (vs vl vr : Nat → Int) (vo vm : Nat → Int64) : Prop := rd Γ (t + 1) (xI cI wn vs) ∧ rd Γ (t + 2) (xJ cJ wn vo) ∧ rd Γ (t + 3) (xI cI wn vl) ∧ rd Γ (t + 4) (xJ cJ wn vm) ∧ rd Γ (t + 5) (xI cI (wn * wn) vr)
def WH (Γ : TG) (cI cJ cZ : ClassId) (a t : Nat) (N : Int) (sa : Nat → Int) (wo : Nat → Int64) (ln : Nat → Int) (hw : Nat → Int64) (ro : Nat → Int) (i : Int) : Prop := ∃ (wn : Nat) (vs vl vr : Nat → Int) (vo vm : Nat → Int64), TyW Γ cI cJ cZ t wn ∧ a + 84 ≤ t ∧ N = (wn : Int) ∧ WHr Γ cI cJ t wn vs vl vr vo vm ∧ ∀ v : Nat, v < wn → vl v < (wn : Int) ∧ vs v = sh sa (16 * i) v ∧ vo v = sj wo (16 * i) v ∧ vl v = sh ln (16 * i) v ∧ vm v = sj hw (16 * i) v ∧ ∀ k : Nat, (k : Int) < vl v → vr (v * wn + k) = sh ro (256 * i + 16 * (v : Int)) k
def HV (Γ : TG) (cI cJ cZ : ClassId) (a : Nat) (ct : Int) (th : Nat → Option Nat) (so sz sa : Nat → Int) (wo : Nat → Int64) (ln : Nat → Int) (hw : Nat → Int64) (ro : Nat → Int) : Prop := ∀ i : Nat, (i : Int) < ct → so i = 3 → ∃ t : Nat, th i = some t ∧ WH Γ cI cJ cZ a t (sz i) sa wo ln hw ro (i : Int)
theorem wy_lt {m : Nat} {d : Int} {F T W : Nat → Int} {kind : Int} {s : Nat} {n : Int} {u : Nat} {st lg : Int} {wr hm : Int64} {r : Nat → Int} (h : wyP m d F T W kind s n u st wr lg hm r) (h0 : 0 < n) : lg < n := by
  obtain ⟨bd, -, k, k1, k2⟩ := h
  rcases k2 with ⟨-, -, -, a, -⟩ | ⟨-, -, -, -, a, -⟩ | ⟨a0, -, -, -, a, -⟩
  · omega
  · omega
  · rcases k1 with ⟨b, -⟩ | ⟨-, b, -⟩ <;> omega
section WH9
variable {Γ Γ1 : TG} {cI cJ cZ : ClassId} {a t : Nat} {N i ct ct' : Int} {sa ln ro sa' ln' ro' so sz so' sz' : Nat → Int} {wo hw wo' hw' : Nat → Int64} {th th' : Nat → Option Nat}
theorem WHr.ext {wn : Nat} {vs vl vr : Nat → Int} {vo vm : Nat → Int64} (hE : Ext Γ Γ1) (h : WHr Γ cI cJ t wn vs vl vr vo vm) : WHr Γ1 cI cJ t wn vs vl vr vo vm := ⟨rd_ext hE h.1, rd_ext hE h.2.1, rd_ext hE h.2.2.1, rd_ext hE h.2.2.2.1, rd_ext hE h.2.2.2.2⟩
theorem WH.ext (hE : Ext Γ Γ1) (h : WH Γ cI cJ cZ a t N sa wo ln hw ro i) : WH Γ1 cI cJ cZ a t N sa wo ln hw ro i := by
  obtain ⟨wn, vs, vl, vr, vo, vm, h1, h2, h3, h4, h5⟩ := h
  exact ⟨wn, vs, vl, vr, vo, vm, TyW.ext hE h1, h2, h3, h4.ext hE, h5⟩
theorem WH.same (hs : ∀ q : Nat, (q < a + 41 ∨ a + 41 + 43 ≤ q) → Γ q = Γ1 q) (h : WH Γ cI cJ cZ a t N sa wo ln hw ro i) : WH Γ1 cI cJ cZ a t N sa wo ln hw ro i := by
  obtain ⟨wn, vs, vl, vr, vo, vm, h1, h2, h3, h4, h5⟩ := h
  exact ⟨wn, vs, vl, vr, vo, vm, TyW.same hs (by omega) h1, h2, h3, ⟨rd_same (hs _ (by omega)) h4.1, rd_same (hs _ (by omega)) h4.2.1, rd_same (hs _ (by omega)) h4.2.2.1, rd_same (hs _ (by omega)) h4.2.2.2.1, rd_same (hs _ (by omega)) h4.2.2.2.2⟩, h5⟩
theorem WH.to (h : WH Γ cI cJ cZ a t N sa wo ln hw ro i) (hi : 0 ≤ i ∧ i < ct) (e1 : ∀ k : Nat, (k : Int) < 16 * ct → sa' k = sa k ∧ wo' k = wo k ∧ ln' k = ln k ∧ hw' k = hw k) (e2 : ∀ k : Nat, (k : Int) < 256 * ct → ro' k = ro k) : WH Γ cI cJ cZ a t N sa' wo' ln' hw' ro' i := by
  obtain ⟨wn, vs, vl, vr, vo, vm, h1, h2, h3, h4, h5⟩ := h
  have hb := h1.2.2.2.2.2.2
  refine ⟨wn, vs, vl, vr, vo, vm, h1, h2, h3, h4, fun v hv => ?_⟩
  obtain ⟨q0, q1, q2, q3, q4, q5⟩ := h5 v hv
  obtain ⟨g1, g2, g3, g4⟩ := e1 (16 * i + (v : Int)).toNat (by omega)
  exact ⟨q0, q1.trans g1.symm, q2.trans g2.symm, q3.trans g3.symm, q4.trans g4.symm, fun k hk => (q5 k hk).trans (e2 (256 * i + 16 * (v : Int) + (k : Int)).toNat (by omega)).symm⟩
theorem HV.mk (h : HV Γ cI cJ cZ a ct th so sz sa wo ln hw ro) (hE : Ext Γ Γ1) (hc : ∀ i : Nat, (i : Int) < ct' → ((i : Int) < ct ∧ so' i = so i ∧ sz' i = sz i ∧ th' i = th i) ∨ so' i ≠ 3) : HV Γ1 cI cJ cZ a ct' th' so' sz' sa wo ln hw ro := by
  intro i hi h3
  rcases hc i hi with ⟨g1, g2, g3, g4⟩ | g
  · rw [g2] at h3
    obtain ⟨t, e, q⟩ := h i g1 h3
    exact ⟨t, g4.trans e, by rw [g3]; exact q.ext hE⟩
  · exact absurd h3 g
theorem HV.ext (hE : Ext Γ Γ1) (h : HV Γ cI cJ cZ a ct th so sz sa wo ln hw ro) : HV Γ1 cI cJ cZ a ct th so sz sa wo ln hw ro := h.mk hE (fun i hi => Or.inl ⟨hi, rfl, rfl, rfl⟩)
theorem HV.same (hs : ∀ q : Nat, (q < a + 41 ∨ a + 41 + 43 ≤ q) → Γ q = Γ1 q) (h : HV Γ cI cJ cZ a ct th so sz sa wo ln hw ro) : HV Γ1 cI cJ cZ a ct th so sz sa wo ln hw ro := by
  intro i hi h3
  obtain ⟨t, e, q⟩ := h i hi h3
  exact ⟨t, e, q.same hs⟩
theorem HV.drop (h : HV Γ cI cJ cZ a ct th so sz sa wo ln hw ro) : HV Γ cI cJ cZ a (ct - 1) (va_up th (ct - 1).toNat none) so sz sa wo ln hw ro := h.mk (Ext_refl Γ) (fun i hi => Or.inl ⟨by omega, rfl, rfl, va_upo _ _ (by omega)⟩)
theorem HV.upd (h : HV Γ cI cJ cZ a ct th so sz sa wo ln hw ro) (hz : ∀ i : Nat, (i : Int) < ct → sz' i = sz i) : HV Γ cI cJ cZ a ct th so sz' sa wo ln hw ro := h.mk (Ext_refl Γ) (fun i hi => Or.inl ⟨hi, rfl, hz i hi, rfl⟩)
/-- after a call that makes something else than ways -/
theorem mv_X {Γ8 : TG} {cn ct8 cn9 rv8 v8 v9 S : Int} {th8 : Nat → Option Nat} {so9 sz9 : Nat → Int} {Wp : Nat → Prop} {N : Int} (hv : HV Γ cI cJ cZ a cn th so sz sa wo ln hw ro) (h0 : 0 ≤ cn) (hE : Ext Γ Γ8) (e : v8 = v9) (c1 : v8 < 0 → rv8 = v8 ∧ ct8 = cn ∧ th8 = th) (c2 : 0 ≤ v8 → rv8 = 0 ∧ ct8 = cn + 1 ∧ ∃ t, th8 = va_up th cn.toNat (some t) ∧ Wp t) (s1 : v9 < 0 → cn9 = cn ∧ so9 = so ∧ sz9 = sz) (s2 : 0 ≤ v9 → cn9 = cn + 1 ∧ so9 = fup so cn.toNat S ∧ sz9 = fup sz cn.toNat N) (hS : S ≠ 3) : HV Γ8 cI cJ cZ a cn9 th8 so9 sz9 sa wo ln hw ro := by
  subst e
  rcases Int.lt_or_le v8 0 with h | h
  · obtain ⟨a1, a2, a3⟩ := c1 h
    obtain ⟨b1, b2, b3⟩ := s1 h
    subst b1 b2 b3 a3
    exact hv.ext hE
  · obtain ⟨a1, a2, t, a3, a4⟩ := c2 h
    obtain ⟨b1, b2, b3⟩ := s2 h
    subst b1 b2 b3 a3
    refine hv.mk hE (fun i hi => ?_)
    by_cases q : i = cn.toNat
    · right; rw [q, fup_s]; exact hS
    · left; exact ⟨by omega, fup_o _ _ q, fup_o _ _ q, va_upo _ _ q⟩
/-- new ways -/
def WXx (Γ : TG) (cI cJ cZ : ClassId) (a t : Nat) (N : Int) (P : Nat → Int → Int64 → Int → Int64 → (Nat → Int) → Prop) : Prop := ∃ (wn : Nat) (vs vl vr : Nat → Int) (vo vm : Nat → Int64), TyW Γ cI cJ cZ t wn ∧ a + 84 ≤ t ∧ N = (wn : Int) ∧ WHr Γ cI cJ t wn vs vl vr vo vm ∧ ∀ v : Nat, v < wn → P v (vs v) (vo v) (vl v) (vm v) (fun i => vr (v * wn + i))
theorem WXx.wx {P : Nat → Int → Int64 → Int → Int64 → (Nat → Int) → Prop} (h : WXx Γ cI cJ cZ a t N P) : WX Γ cI cJ cZ a t N := by
  obtain ⟨wn, vs, vl, vr, vo, vm, h1, h2, h3, h4, h5⟩ := h
  exact ⟨wn, h1, h2, h3⟩
theorem mv_W {Γ8 : TG} {cn ct8 cn9 rv8 v8 v9 d kind : Int} {m s : Nat} {F T W : Nat → Int} {th8 : Nat → Option Nat} {so9 sz9 sa9 ln9 ro9 : Nat → Int} {wo9 hw9 : Nat → Int64} {N : Int} (hv : HV Γ cI cJ cZ a cn th so sz sa wo ln hw ro) (h0 : 0 ≤ cn) (hE : Ext Γ Γ8) (e : v8 = v9) (c1 : v8 < 0 → rv8 = v8 ∧ ct8 = cn ∧ th8 = th) (c2 : 0 ≤ v8 → rv8 = 0 ∧ ct8 = cn + 1 ∧ ∃ t, th8 = va_up th cn.toNat (some t) ∧ WXx Γ8 cI cJ cZ a t N (fun v => wyP m d F T W kind s N v)) (r1 : v9 < 0 → cn9 = cn ∧ so9 = so ∧ sz9 = sz ∧ sa9 = sa ∧ wo9 = wo ∧ ln9 = ln ∧ hw9 = hw ∧ ro9 = ro) (r2 : 0 ≤ v9 → WNw cn cn9 so sz so9 sz9 N ∧ wsQ m d F T W kind s N cn N sa9 wo9 ln9 hw9 ro9 sa wo ln hw ro) : HV Γ8 cI cJ cZ a cn9 th8 so9 sz9 sa9 wo9 ln9 hw9 ro9 := by
  subst e
  rcases Int.lt_or_le v8 0 with h | h
  · obtain ⟨a1, a2, a3⟩ := c1 h
    obtain ⟨b1, b2, b3, b4, b5, b6, b7, b8⟩ := r1 h
    subst b1 b2 b3 b4 b5 b6 b7 b8 a3
    exact hv.ext hE
  · obtain ⟨a1, a2, t, a3, a4⟩ := c2 h
    obtain ⟨⟨b1, b2, b3⟩, q1, q2, q3⟩ := r2 h
    subst b1 b2 b3 a3
    intro i hi h3
    by_cases q : i = cn.toNat
    · subst q
      refine ⟨t, va_ups _ _ _, ?_⟩
      rw [fup_s, Int.toNat_of_nonneg h0]
      obtain ⟨wn, vs, vl, vr, vo, vm, h1, h2, h3, h4, h5⟩ := a4
      refine ⟨wn, vs, vl, vr, vo, vm, h1, h2, h3, h4, fun v hv => ?_⟩
      exact ⟨by have h9 := wy_lt (h5 v hv) (by omega); omega, wy_uq (h5 v hv) (q1 v (by omega))⟩
    · rw [fup_o _ _ q] at h3
      obtain ⟨t', e', w⟩ := hv i (by omega) h3
      refine ⟨t', by rw [va_upo _ _ q]; exact e', ?_⟩
      rw [fup_o _ _ q]
      exact (w.ext hE).to (ct := cn) (by omega) q2 q3
end WH9
set_option maxHeartbeats 4000000 in
set_option maxRecDepth 100000 in
theorem w_X10_detail {D : va_G} {cI cJ cZ cT : ClassId} {lo b L : Nat} {xs : Nat → Int32} {hp : MH} {n d : Nat} {Γ : TG} {wa gn : Nat} {vs vl vr : Nat → Int} {vo vm : Nat → Int64} {x1 x2 : Int} (hd0 : 0 ≤ d)  (hwO : rd Γ wa (tO 9 [fE (.int (iv (gn : Int))), fE (.ref (wa + 1)), fE (.ref (wa + 2)), fE (.ref (wa + 3)), fE (.ref (wa + 4)), fE (.ref (wa + 5))])) (hWr : WHr Γ cI cJ wa gn vs vl vr vo vm) (hRs : Rfx gn 0 2 vs) (hRl : Rfx gn (-1) ((gn : Int) - 1) vl) (hRr : Rfx (gn * gn) 0 59 vr) (hgn : 1 ≤ gn ∧ gn ≤ 16) (ht : Tw Γ hp) (hx1 : 0 ≤ x1 ∧ x1 < (gn : Int)) (hx2 : 0 ≤ x2 ∧ x2 ≤ 3) : Mt (gG D cI cJ cZ cT lo b L xs) mX10_detail d 0 0 [.ref wa, .int (iv x1), .int (iv x2)] hp n (pJ Γ n (fun r => r = wyV vs vo vl vm (Int.toNat x1) x2)) := by
  refine Mt.of rfl (Nat.le_of_ble_eq_true rfl) ?_
  refine Rn.pick (lv' := [(0, .ref wa), (1, .int (iv x1)), (2, .int (iv x2))]) [0, 1, 2] rfl ?_
  have hsq : gn * gn ≤ 256 := Nat.le_trans (Nat.mul_le_mul (show gn ≤ 16 by omega) (show gn ≤ 16 by omega)) (by decide)
  obtain ⟨hS, hWo, hL, hwM, hwR⟩ := id hWr
  refine r_iload_n (pc := 0) dX10_detail_0 (i := 2) rfl rfl ?_
  by_cases c1 : x2 = 0
  · refine r_tableIn (pc := 1) (off := 27) (tgt := 28) dX10_detail_1 (by rw [iv_toInt (by omega) (by omega)]; omega) (by rw [iv_toInt (by omega) (by omega)]; omega) (by rw [iv_toInt (by omega) (by omega), c1]; decide) (by decide) ?_
    refine r_aload_n (pc := 28) dX10_detail_28 (i := 0) rfl rfl ?_
    refine t_getE (pc := 29) (.ref (wa + 1)) ht hwO fX10_18 dX10_detail_29 rfl ?_
    refine r_iload_n (pc := 32) dX10_detail_32 (i := 1) rfl rfl ?_
    refine t_ialdX (pc := 33) (t0 := 0) ht hS dX10_detail_33 rfl (by omega) (by omega) (fun b2 => ?_)
    have rb2 := (show Rfx gn 0 2 vs by assumption) (Int.toNat x1) (by omega)
    refine r_i2l (pc := 34) (v := (iv (vs (Int.toNat x1))).toInt64) dX10_detail_34 rfl ?_
    exact r_lret (pc := 35) dX10_detail_35 rfl ⟨rfl, ht, _, rfl, by show _ = wyV vs vo vl vm (Int.toNat x1) x2; unfold wyV; (repeat' split) <;> first | rfl | (exfalso; omega)⟩
  by_cases c3 : x2 = 1
  · refine r_tableIn (pc := 1) (off := 35) (tgt := 36) dX10_detail_1 (by rw [iv_toInt (by omega) (by omega)]; omega) (by rw [iv_toInt (by omega) (by omega)]; omega) (by rw [iv_toInt (by omega) (by omega), c3]; decide) (by decide) ?_
    refine r_aload_n (pc := 36) dX10_detail_36 (i := 0) rfl rfl ?_
    refine t_getE (pc := 37) (.ref (wa + 2)) ht hwO fX10_22 dX10_detail_37 rfl ?_
    refine r_iload_n (pc := 40) dX10_detail_40 (i := 1) rfl rfl ?_
    refine t_laldX (pc := 41) (t0 := 1) ht hWo dX10_detail_41 rfl (by omega) (by omega) ?_
    exact r_lret (pc := 42) dX10_detail_42 rfl ⟨rfl, ht, _, rfl, by show _ = wyV vs vo vl vm (Int.toNat x1) x2; unfold wyV; (repeat' split) <;> first | rfl | (exfalso; omega)⟩
  by_cases c4 : x2 = 2
  · refine r_tableIn (pc := 1) (off := 42) (tgt := 43) dX10_detail_1 (by rw [iv_toInt (by omega) (by omega)]; omega) (by rw [iv_toInt (by omega) (by omega)]; omega) (by rw [iv_toInt (by omega) (by omega), c4]; decide) (by decide) ?_
    refine r_aload_n (pc := 43) dX10_detail_43 (i := 0) rfl rfl ?_
    refine t_getE (pc := 44) (.ref (wa + 3)) ht hwO fX10_26 dX10_detail_44 rfl ?_
    refine r_iload_n (pc := 47) dX10_detail_47 (i := 1) rfl rfl ?_
    refine t_ialdX (pc := 48) (t0 := 0) ht hL dX10_detail_48 rfl (by omega) (by omega) (fun b5 => ?_)
    have rb5 := (show Rfx gn (-1) ((gn : Int) - 1) vl by assumption) (Int.toNat x1) (by omega)
    refine r_i2l (pc := 49) (v := (iv (vl (Int.toNat x1))).toInt64) dX10_detail_49 rfl ?_
    exact r_lret (pc := 50) dX10_detail_50 rfl ⟨rfl, ht, _, rfl, by show _ = wyV vs vo vl vm (Int.toNat x1) x2; unfold wyV; (repeat' split) <;> first | rfl | (exfalso; omega)⟩
  refine r_tableOut (pc := 1) (tgt := 51) dX10_detail_1 (by rw [iv_toInt (by omega) (by omega)]; omega) (by decide) ?_
  refine r_aload_n (pc := 51) dX10_detail_51 (i := 0) rfl rfl ?_
  refine t_getE (pc := 52) (.ref (wa + 4)) ht hwO fX10_29 dX10_detail_52 rfl ?_
  refine r_iload_n (pc := 55) dX10_detail_55 (i := 1) rfl rfl ?_
  refine t_laldX (pc := 56) (t0 := 1) ht hwM dX10_detail_56 rfl (by omega) (by omega) ?_
  exact r_lret (pc := 57) dX10_detail_57 rfl ⟨rfl, ht, _, rfl, by show _ = wyV vs vo vl vm (Int.toNat x1) x2; unfold wyV; (repeat' split) <;> first | rfl | (exfalso; omega)⟩
set_option maxHeartbeats 4000000 in
set_option maxRecDepth 100000 in
theorem w_X10_arcOnWay {D : va_G} {cI cJ cZ cT : ClassId} {lo b L : Nat} {xs : Nat → Int32} {hp : MH} {n d : Nat} {Γ : TG} {wa gn : Nat} {vs vl vr : Nat → Int} {vo vm : Nat → Int64} {x1 x2 : Int} (hd0 : 0 ≤ d)  (hwO : rd Γ wa (tO 9 [fE (.int (iv (gn : Int))), fE (.ref (wa + 1)), fE (.ref (wa + 2)), fE (.ref (wa + 3)), fE (.ref (wa + 4)), fE (.ref (wa + 5))])) (hWr : WHr Γ cI cJ wa gn vs vl vr vo vm) (hRs : Rfx gn 0 2 vs) (hRl : Rfx gn (-1) ((gn : Int) - 1) vl) (hRr : Rfx (gn * gn) 0 59 vr) (hgn : 1 ≤ gn ∧ gn ≤ 16) (ht : Tw Γ hp) (hx1 : 0 ≤ x1 ∧ x1 < (gn : Int)) (hx2 : -2147483648 ≤ x2 ∧ x2 ≤ 2147483647) : Mt (gG D cI cJ cZ cT lo b L xs) mX10_arcOnWay d 0 0 [.ref wa, .int (iv x1), .int (iv x2)] hp n (pI Γ n (fun r => (-1 ≤ r ∧ r ≤ 59) ∧ ((x2 < 0 ∨ vl (Int.toNat x1) ≤ x2) → r = -1) ∧ (¬ (x2 < 0 ∨ vl (Int.toNat x1) ≤ x2) → r = vr (Int.toNat (x1 * (gn : Int) + x2))))) := by
  refine Mt.of rfl (Nat.le_of_ble_eq_true rfl) ?_
  refine Rn.pick (lv' := [(0, .ref wa), (1, .int (iv x1)), (2, .int (iv x2))]) [0, 1, 2] rfl ?_
  have hsq : gn * gn ≤ 256 := Nat.le_trans (Nat.mul_le_mul (show gn ≤ 16 by omega) (show gn ≤ 16 by omega)) (by decide)
  obtain ⟨hS, hWo, hL, hwM, hwR⟩ := id hWr
  refine r_iload_n (pc := 0) dX10_arcOnWay_0 (i := 2) rfl rfl ?_
  refine t_if_lt (pc := 1) (tgt := 30) dX10_arcOnWay_1 (by decide) (by omega) (fun c1 => ?_) (fun c1 => ?_)
  · refine r_iconst (pc := 30) (v := iv (-1)) dX10_arcOnWay_30 (by decide) ?_
    exact r_iret (pc := 31) dX10_arcOnWay_31 rfl ⟨rfl, ht, _, rfl, by omega, fun h9 => by first | rfl | (exfalso; omega), fun h9 => by first | rfl | (exfalso; omega)⟩
  · refine r_iload_n (pc := 4) dX10_arcOnWay_4 (i := 2) rfl rfl ?_
    refine r_aload_n (pc := 5) dX10_arcOnWay_5 (i := 0) rfl rfl ?_
    refine t_getE (pc := 6) (.ref (wa + 3)) ht hwO fX10_26 dX10_arcOnWay_6 rfl ?_
    refine r_iload_n (pc := 9) dX10_arcOnWay_9 (i := 1) rfl rfl ?_
    refine t_ialdX (pc := 10) (t0 := 0) ht hL dX10_arcOnWay_10 rfl (by omega) (by omega) (fun b1 => ?_)
    have rb1 := (show Rfx gn (-1) ((gn : Int) - 1) vl by assumption) (Int.toNat x1) (by omega)
    refine t_icmp_ge (pc := 11) (tgt := 30) dX10_arcOnWay_11 (by decide) (by omega) (by omega) (fun c11 => ?_) (fun c11 => ?_)
    · refine r_iconst (pc := 30) (v := iv (-1)) dX10_arcOnWay_30 (by decide) ?_
      exact r_iret (pc := 31) dX10_arcOnWay_31 rfl ⟨rfl, ht, _, rfl, by omega, fun h9 => by first | rfl | (exfalso; omega), fun h9 => by first | rfl | (exfalso; omega)⟩
    · refine r_aload_n (pc := 14) dX10_arcOnWay_14 (i := 0) rfl rfl ?_
      refine t_getE (pc := 15) (.ref (wa + 5)) ht hwO fX10_32 dX10_arcOnWay_15 rfl ?_
      refine r_iload_n (pc := 18) dX10_arcOnWay_18 (i := 1) rfl rfl ?_
      refine r_aload_n (pc := 19) dX10_arcOnWay_19 (i := 0) rfl rfl ?_
      refine t_getE (pc := 20) (.int (iv (gn : Int))) ht hwO fX10_15 dX10_arcOnWay_20 rfl ?_
      have hmul23 := mul_nn (n := gn) (u := x1) (by omega) (by omega)
      refine r_imul (pc := 23) (v := iv (x1 * (gn : Int))) dX10_arcOnWay_23 (iv_mul _ _) ?_
      refine r_iload_n (pc := 24) dX10_arcOnWay_24 (i := 2) rfl rfl ?_
      refine r_iadd (pc := 25) (v := iv ((x1 * (gn : Int)) + x2)) dX10_arcOnWay_25 (iv_add _ _) ?_
      refine t_ialdX (pc := 26) (t0 := 0) ht hwR dX10_arcOnWay_26 rfl (by omega) (by omega) (fun b2 => ?_)
      have rb2 := (show Rfx (gn * gn) 0 59 vr by assumption) (Int.toNat ((x1 * (gn : Int)) + x2)) (by omega)
      refine r_goto (pc := 27) (tgt := 31) dX10_arcOnWay_27 (by decide) ?_
      exact r_iret (pc := 31) dX10_arcOnWay_31 rfl ⟨rfl, ht, _, rfl, by omega, fun h9 => by first | rfl | (exfalso; omega), fun h9 => by first | rfl | (exfalso; omega)⟩
theorem u_waysAtH {D : va_G} {cI cJ cZ cT : ClassId} {lo b L : Nat} {xs : Nat → Int32} {M : MM} {d pc : Nat} {lv : List (Nat × Value)} {st : List Value} {hp : MH} {n kr wr : Nat} {Po : Option Value → MH → Nat → Prop} {Γ : TG} {a : Nat} {ct : Int} {rv : Int} {th : Nat → Option Nat} {dn : Int} {dd : Int} {da : Int} {df : Nat → Int} {dt : Nat → Int} {dw : Nat → Int} {dc : Nat → Int} {kn : Int} {kd : Int} {ka : Int} {kf : Nat → Int} {kt : Nat → Int} {kw : Nat → Int} {kc : Nat → Int} {so sz dr mn fr tt wt co : Nat → Int} {nu : Nat → Int64} {qi qc : Nat → Int} {ix : Nat} {x : Int} (hct : 0 ≤ ct ∧ ct ≤ 120) (hm : HM Γ cI cJ cZ a ct th so sz dr mn fr tt wt co nu qi qc) {sa : Nat → Int} {wo : Nat → Int64} {ln : Nat → Int} {hx5 : Nat → Int64} {ro : Nat → Int} (hv : HV Γ cI cJ cZ a ct th so sz sa wo ln hx5 ro) (ht : Tw (CG Γ cI cJ cZ cT a ct rv th dn dd da df dt dw dc kn kd ka kf kt kw kc) hp) (F : lkK (gG D cI cJ cZ cT lo b L xs) M.1.cls ix mX11_waysAt 1 ∧ Cond.instanceMethod mX11_waysAt.1 ∈ g_ws (gG D cI cJ cZ cT lo b L xs) ∧ Cond.selects RX11 mX11_waysAt.1 mX11_waysAt.1 ∈ g_ws (gG D cI cJ cZ cT lo b L xs) ∧ mX11_waysAt.1.cls = RX11) (hd : decode M.2.1 pc = .ok (.invokevirtual ix, 3)) (hdd : 3 ≤ d) (hst : (st.map fun v => v.category).sum ≤ 8) (hx : -2147483648 ≤ x ∧ x ≤ 2147483647) (k0 : (∀ hp1 : MH, Tw (CG Γ cI cJ cZ cT a ct rv th dn dd da df dt dw dc kn kd ka kf kt kw kc) hp1 → ¬ (0 ≤ x ∧ x < ct ∧ so (Int.toNat x) = 3) → Rn (gG D cI cJ cZ cT lo b L xs) M d (pc + 3) lv (.null :: st) hp1 n kr wr Po)) (k1 : (∀ (hp1 : MH) (t : Nat), Tw (CG Γ cI cJ cZ cT a ct rv th dn dd da df dt dw dc kn kd ka kf kt kw kc) hp1 → (0 ≤ x ∧ x < ct ∧ so (Int.toNat x) = 3) → WH Γ cI cJ cZ a t (sz (Int.toNat x)) sa wo ln hx5 ro x → Rn (gG D cI cJ cZ cT lo b L xs) M d (pc + 3) lv (.ref t :: st) hp1 n kr wr Po)) : Rn (gG D cI cJ cZ cT lo b L xs) M d pc lv (.int (iv x) :: .ref a :: st) hp n kr wr Po := by
  have h0 := CG_obj hct.1 ht
  obtain ⟨f, h1, hf⟩ := CG_th ht
  by_cases hc : 0 ≤ x ∧ x < ct
  · obtain ⟨t, e1, e2⟩ := hm x.toNat (by omega)
    have hft : f x.toNat = some t := (hf _ (by omega)).trans e1
    rw [iv_nI hc.1]
    have ex : ((Int.toNat x : Nat) : Int) = x := Int.toNat_of_nonneg hc.1
    unfold HT at e2
    rw [ex] at e2
    rcases e2 with ⟨es, hT⟩ | ⟨es, hT⟩ | ⟨es, hT⟩ | ⟨es, hT⟩
    · obtain ⟨v0, v1, v2, v3, v4, v5, v6, v7, v8, v9, v10, v11, v12, v13, hob⟩ := ThG_obj ht hT.th
      refine r_callV (pc := pc) (as := [.int (nI x.toNat)]) (st := st) F rfl hd h0 (c_X11_waysAt_X3 (d := d - 1) (by omega) h0 h1 hob (by omega) (by omega) hft) rfl (by omega) hst (Nat.zero_le _) (Nat.zero_le _) rfl (fun r hp1 n1 hq => ?_)
      obtain ⟨rfl, rfl, hfr⟩ := hq
      exact k0 hp1 (Tw_fr ht hfr) (fun h9 => by omega)
    · obtain ⟨v0, v1, hob⟩ := ThC_obj ht hT.th
      refine r_callV (pc := pc) (as := [.int (nI x.toNat)]) (st := st) F rfl hd h0 (c_X11_waysAt_X0 (d := d - 1) (by omega) h0 h1 hob (by omega) (by omega) hft) rfl (by omega) hst (Nat.zero_le _) (Nat.zero_le _) rfl (fun r hp1 n1 hq => ?_)
      obtain ⟨rfl, rfl, hfr⟩ := hq
      exact k0 hp1 (Tw_fr ht hfr) (fun h9 => by omega)
    · obtain ⟨v0, v1, v2, v3, v4, v5, hob⟩ := ThW_obj ht hT.th
      refine r_callV (pc := pc) (as := [.int (nI x.toNat)]) (st := st) F rfl hd h0 (c_X11_waysAt_X10 (d := d - 1) (by omega) h0 h1 hob (by omega) (by omega) hft) rfl (by omega) hst (Nat.zero_le _) (Nat.zero_le _) rfl (fun r hp1 n1 hq => ?_)
      obtain ⟨rfl, rfl, hfr⟩ := hq
      obtain ⟨t9, e9, w9⟩ := hv x.toNat (by omega) es
      obtain rfl := Option.some.inj (e1.symm.trans e9)
      rw [ex] at w9
      exact k1 hp1 t (Tw_fr ht hfr) ⟨hc.1, hc.2, es⟩ w9
    · obtain ⟨v0, v1, v2, v3, hob⟩ := ThQ_obj ht hT.th
      refine r_callV (pc := pc) (as := [.int (nI x.toNat)]) (st := st) F rfl hd h0 (c_X11_waysAt_X5 (d := d - 1) (by omega) h0 h1 hob (by omega) (by omega) hft) rfl (by omega) hst (Nat.zero_le _) (Nat.zero_le _) rfl (fun r hp1 n1 hq => ?_)
      obtain ⟨rfl, rfl, hfr⟩ := hq
      exact k0 hp1 (Tw_fr ht hfr) (fun h9 => by omega)
  · have hno : iv x < 0 ∨ nI ct.toNat ≤ iv x := by
      rw [← iv_nI hct.1]
      have z0 : (0 : Int32) = iv 0 := rfl
      rcases Int.lt_or_le x 0 with h9 | h9
      · left; rw [z0, iv_lt (by omega) (by omega)]; exact h9
      · right; rw [iv_le (by omega) (by omega)]; omega
    refine r_callV (pc := pc) (as := [.int (iv x)]) (st := st) F rfl hd h0 (c_X11_waysAt_n (d := d - 1) (by omega) h0 hno) rfl (by omega) hst (Nat.zero_le _) (Nat.zero_le _) rfl (fun r hp1 n1 hq => ?_)
    obtain ⟨rfl, rfl, hfr⟩ := hq
    exact k0 hp1 (Tw_fr ht hfr) (fun h9 => hc (by omega))
set_option maxHeartbeats 4000000 in
set_option maxRecDepth 100000 in
theorem y3_X11_way {D : va_G} {cI cJ cZ cT : ClassId} {lo b L : Nat} {xs : Nat → Int32} {hp : MH} {n d : Nat} {Γ : TG} {a : Nat} {ct : Int} {rv : Int} {th : Nat → Option Nat} {dn : Int} {dd : Int} {da : Int} {df : Nat → Int} {dt : Nat → Int} {dw : Nat → Int} {dc : Nat → Int} {kn : Int} {kd : Int} {ka : Int} {kf : Nat → Int} {kt : Nat → Int} {kw : Nat → Int} {kc : Nat → Int} {so sz dr mn fr tt wt co : Nat → Int} {nu : Nat → Int64} {qi qc : Nat → Int} {sa : Nat → Int} {wo : Nat → Int64} {ln : Nat → Int} {hx5 : Nat → Int64} {ro : Nat → Int} {x1 x2 x3 : Int} (hd0 : 4 ≤ d) (hk : EK Γ cI cJ cZ a ct th dn dd da df dt dw dc kn kd ka) (hm : HM Γ cI cJ cZ a ct th so sz dr mn fr tt wt co nu qi qc) (hrv : -2147483648 ≤ rv ∧ rv ≤ 2147483647) (hna : a + 84 ≤ n) (ht : Tw (CG Γ cI cJ cZ cT a ct rv th dn dd da df dt dw dc kn kd ka kf kt kw kc) hp) (hx1 : (-2147483648) ≤ x1 ∧ x1 ≤ 2147483647) (hx2 : (-2147483648) ≤ x2 ∧ x2 ≤ 2147483647) (hx3 : (-2147483648) ≤ x3 ∧ x3 ≤ 2147483647) (hhv : HV Γ cI cJ cZ a ct th so sz sa wo ln hx5 ro) : Mt (gG D cI cJ cZ cT lo b L xs) mX11_way d 0 0 [.ref a, .int (iv x1), .int (iv x2), .int (iv x3)] hp n (qA Γ cI cJ cZ cT a dn dd da df dt dw dc n ct th (fun r w9 => ∃ v : Int64, r = some (.long v) ∧ w9 = dn1 ct so x1 3 (x3 < 0 ∨ 3 < x3 ∨ x2 < 0 ∨ (sz (Int.toNat x1)) ≤ x2) ∧ (w9 ≠ 0 → v = 0) ∧ (w9 = 0 → v = wyV sa wo ln hx5 (Int.toNat (16 * x1 + x2)) x3))) := by
  refine Mt.of rfl (Nat.le_of_ble_eq_true rfl) ?_
  refine Rn.pick (lv' := [(0, .ref a), (1, .int (iv x1)), (2, .int (iv x2)), (3, .int (iv x3))]) [0, 1, 2, 3] rfl ?_
  obtain ⟨hct, hth, ⟨hdn, hdd1, hda, har⟩, ⟨hkn, hkd, hka⟩, hsh, hse, hpr, hfl, hsm⟩ := id hk
  refine r_aload_n (pc := 0) dX11_way_0 (i := 0) rfl rfl ?_
  refine r_iconst (pc := 1) (v := iv 0) dX11_way_1 (by decide) ?_
  refine t_putX (pc := 2) (ty := .int) ht CG_0 fX11_19 tyX11 tyX11_ok nmX11 (by decide +kernel) (Or.inl rfl) dX11_way_2 (Nat.le_of_ble_eq_true rfl) rfl rfl rfl (fun hp1 ht2 => ?_)
  have ht3 := RGw_rv ht2
  refine r_aload_n (pc := 5) dX11_way_5 (i := 0) rfl rfl ?_
  refine r_iload_n (pc := 6) dX11_way_6 (i := 1) rfl rfl ?_
  refine u_waysAtH (pc := 7) (x := x1) (st := []) hct hm hhv ht3 kX11_217 dX11_way_7 (by omega) (Nat.le_of_ble_eq_true rfl) (by omega) (fun hp4 ht5 hnow => ?_) (fun hp4 wa ht5 hyew hTw => ?_)
  · refine r_astoreN (pc := 10) (lv' := [(4, .null), (0, .ref a), (1, .int (iv x1)), (2, .int (iv x2)), (3, .int (iv x3))]) dX11_way_10 (by decide) rfl ?_
    refine r_aloadN (pc := 12) dX11_way_12 rfl ?_
    refine r_ifnonnullN (pc := 14) dX11_way_14 ?_
    refine r_aload_n (pc := 17) dX11_way_17 (i := 0) rfl rfl ?_
    refine r_aload_n (pc := 18) dX11_way_18 (i := 0) rfl rfl ?_
    refine r_iload_n (pc := 19) dX11_way_19 (i := 1) rfl rfl ?_
    obtain ⟨fs10, hfs10⟩ := t_obj ht5 (rd_of CG_0)
    refine r_callV (pc := 20) (as := [.int (iv x1)]) (st := [.ref a]) kX11_110 rfl dX11_way_20 hfs10 (uw_X11_whyNot (d := d - 1) (x1 := x1) (by omega)  ht5 (by omega) (by omega) hm) rfl (by omega) (Nat.le_of_ble_eq_true rfl) (Nat.zero_le _) (Nat.zero_le _) rfl (fun r7 hp6 n8 hq9 => ?_)
    obtain ⟨hnn8, bb_12, ht11, hrr7, hhq90, hhq91⟩ := hq9
    subst n8 r7
    have hhq90 : -2 ≤ bb_12 ∧ bb_12 ≤ -1 := hhq90
    have hhq91 : (bb_12 = -1 ∧ ¬ (0 ≤ x1 ∧ x1 < ct)) ∨ (bb_12 = -2 ∧ 0 ≤ x1 ∧ x1 < ct) := hhq91
    change Rn _ _ _ 23 _ [.int (iv bb_12), .ref a] _ _ _ _ _
    obtain ⟨fs17, hfs17⟩ := t_obj ht11 (rd_of CG_0)
    refine r_callV (pc := 23) (as := [.int (iv bb_12)]) (st := []) kX11_203 rfl dX11_way_23 hfs17 (s_X11_deny (d := d - 1) (x1 := bb_12) (by omega)  ht11 (by omega)) rfl (by omega) (Nat.le_of_ble_eq_true rfl) (Nat.zero_le _) (Nat.zero_le _) rfl (fun r14 hp13 n15 hq16 => ?_)
    obtain ⟨hnn15, ht18, hrr14⟩ := hq16
    subst n15 r14
    change Rn _ _ _ 26 _ [.int (iv 0)] _ _ _ _ _
    refine r_i2l (pc := 26) (v := (iv 0).toInt64) dX11_way_26 rfl ?_
    exact r_lret (pc := 27) dX11_way_27 rfl ⟨by omega, Γ, bb_12, kn, kd, ka, kf, kt, kw, kc, (Ext_refl Γ), ht18, hk, by omega, ((iv 0).toInt64), rfl, by exact dn1_r (by omega), by (intro h9; first | rfl | omega | (exfalso; omega)), by (intro h9; first | (exfalso; omega) | exact hwv)⟩
  · obtain ⟨wn, vs, vl, vr, vo, vm, hw, hltw, heNw, hWr9, hWv9⟩ := id hTw
    obtain ⟨hw_O, hw_state, hw_worth, hw_length, hw_many, hw_rows, hw_b⟩ := id hw
    have hWr8 : WHr ((CG Γ cI cJ cZ cT a ct 0 th dn dd da df dt dw dc kn kd ka kf kt kw kc)) cI cJ wa wn vs vl vr vo vm := ⟨rd_CG (by omega) hWr9.1, rd_CG (by omega) hWr9.2.1, rd_CG (by omega) hWr9.2.2.1, rd_CG (by omega) hWr9.2.2.2.1, rd_CG (by omega) hWr9.2.2.2.2⟩
    have hRs9 := rd_rx ht5 hWr8.1 (rd_CG (by omega) hw_state)
    have hRl9 := rd_rx ht5 hWr8.2.2.1 (rd_CG (by omega) hw_length)
    have hRr9 := rd_rx ht5 hWr8.2.2.2.2 (rd_CG (by omega) hw_rows)
    refine r_astore (pc := 10) (lv' := [(4, .ref wa), (0, .ref a), (1, .int (iv x1)), (2, .int (iv x2)), (3, .int (iv x3))]) dX11_way_10 (by decide) rfl ?_
    refine r_aload (pc := 12) dX11_way_12 rfl ?_
    refine r_ifnonnull (pc := 14) (tgt := 28) dX11_way_14 (by decide) ?_
    refine r_iload_n (pc := 28) dX11_way_28 (i := 2) rfl rfl ?_
    refine r_aload (pc := 29) dX11_way_29 rfl ?_
    refine t_getE (pc := 31) (.int (iv (wn : Int))) ht5 (rd_CG (by omega) hw_O) fX11_221 dX11_way_31 rfl ?_
    refine t_callSI (pc := 34) (as := [.int (iv x2), .int (iv (wn : Int))]) (st := []) kX11_74 dX11_way_34 (t_X11_isNode (d := d - 1) (x0 := x2) (x1 := (wn : Int)) (by omega)   ht5 (by omega) (by omega) ) rfl (by omega) (Nat.le_of_ble_eq_true rfl) rfl (fun hp19 y21 ht20 by21 => ?_)
    obtain ⟨by211, by212⟩ := by21
    refine t_if_eq (pc := 37) (tgt := 49) dX11_way_37 (by decide) (by omega) (fun c37 => ?_) (fun c37 => ?_)
    · refine r_aload_n (pc := 49) dX11_way_49 (i := 0) rfl rfl ?_
      refine r_bipush (pc := 50) (v := iv (-3)) dX11_way_50 (by decide) ?_
      obtain ⟨fs26, hfs26⟩ := t_obj ht20 (rd_of CG_0)
      refine r_callV (pc := 52) (as := [.int (iv (-3))]) (st := []) kX11_203 rfl dX11_way_52 hfs26 (s_X11_deny (d := d - 1) (x1 := (-3)) (by omega)  ht20 (by omega)) rfl (by omega) (Nat.le_of_ble_eq_true rfl) (Nat.zero_le _) (Nat.zero_le _) rfl (fun r23 hp22 n24 hq25 => ?_)
      obtain ⟨hnn24, ht27, hrr23⟩ := hq25
      subst n24 r23
      change Rn _ _ _ 55 _ [.int (iv 0)] _ _ _ _ _
      refine r_i2l (pc := 55) (v := (iv 0).toInt64) dX11_way_55 rfl ?_
      exact r_lret (pc := 56) dX11_way_56 rfl ⟨by omega, Γ, (-3), kn, kd, ka, kf, kt, kw, kc, (Ext_refl Γ), ht27, hk, by omega, ((iv 0).toInt64), rfl, by exact dn1_b rfl (by omega) (by omega), by (intro h9; first | rfl | omega | (exfalso; omega)), by (intro h9; first | (exfalso; omega) | exact hwv)⟩
    · refine r_iload_n (pc := 40) dX11_way_40 (i := 3) rfl rfl ?_
      refine t_if_lt (pc := 41) (tgt := 49) dX11_way_41 (by decide) (by omega) (fun c41 => ?_) (fun c41 => ?_)
      · refine r_aload_n (pc := 49) dX11_way_49 (i := 0) rfl rfl ?_
        refine r_bipush (pc := 50) (v := iv (-3)) dX11_way_50 (by decide) ?_
        obtain ⟨fs32, hfs32⟩ := t_obj ht20 (rd_of CG_0)
        refine r_callV (pc := 52) (as := [.int (iv (-3))]) (st := []) kX11_203 rfl dX11_way_52 hfs32 (s_X11_deny (d := d - 1) (x1 := (-3)) (by omega)  ht20 (by omega)) rfl (by omega) (Nat.le_of_ble_eq_true rfl) (Nat.zero_le _) (Nat.zero_le _) rfl (fun r29 hp28 n30 hq31 => ?_)
        obtain ⟨hnn30, ht33, hrr29⟩ := hq31
        subst n30 r29
        change Rn _ _ _ 55 _ [.int (iv 0)] _ _ _ _ _
        refine r_i2l (pc := 55) (v := (iv 0).toInt64) dX11_way_55 rfl ?_
        exact r_lret (pc := 56) dX11_way_56 rfl ⟨by omega, Γ, (-3), kn, kd, ka, kf, kt, kw, kc, (Ext_refl Γ), ht33, hk, by omega, ((iv 0).toInt64), rfl, by exact dn1_b rfl (by omega) (by omega), by (intro h9; first | rfl | omega | (exfalso; omega)), by (intro h9; first | (exfalso; omega) | exact hwv)⟩
      · refine r_iload_n (pc := 44) dX11_way_44 (i := 3) rfl rfl ?_
        refine r_iconst (pc := 45) (v := iv 3) dX11_way_45 (by decide) ?_
        refine t_icmp_le (pc := 46) (tgt := 57) dX11_way_46 (by decide) (by omega) (by omega) (fun c46 => ?_) (fun c46 => ?_)
        · refine r_aload (pc := 57) dX11_way_57 rfl ?_
          refine r_iload_n (pc := 59) dX11_way_59 (i := 2) rfl rfl ?_
          refine r_iload_n (pc := 60) dX11_way_60 (i := 3) rfl rfl ?_
          refine t_callVJ (pc := 61) (as := [.int (iv x2), .int (iv x3)]) (st := []) ht20 (rd_CG (by omega) hw_O) kX11_222 rfl dX11_way_61 (w_X10_detail (d := d - 1) (x1 := x2) (x2 := x3) (by omega) (rd_CG (by omega) hw_O) hWr8 hRs9 hRl9 hRr9 hw_b ht20 (by omega) (by omega)) rfl (by omega) (Nat.le_of_ble_eq_true rfl) rfl (fun hp35 y34 ht36 hdt => ?_)
          obtain ⟨q0, q1, q2, q3, q4, q5⟩ := hWv9 (Int.toNat x2) (by omega)
          have hwv : y34 = wyV sa wo ln hx5 (Int.toNat (16 * x1 + x2)) x3 := by
            have e9 : (16 * x1 + ((Int.toNat x2 : Nat) : Int)).toNat = (16 * x1 + x2).toNat := by omega
            have z1 : vs (Int.toNat x2) = sa (16 * x1 + x2).toNat := by rw [q1]; show sa (16 * x1 + ((Int.toNat x2 : Nat) : Int)).toNat = _; rw [e9]
            have z2 : vo (Int.toNat x2) = wo (16 * x1 + x2).toNat := by rw [q2]; show wo (16 * x1 + ((Int.toNat x2 : Nat) : Int)).toNat = _; rw [e9]
            have z3 : vl (Int.toNat x2) = ln (16 * x1 + x2).toNat := by rw [q3]; show ln (16 * x1 + ((Int.toNat x2 : Nat) : Int)).toNat = _; rw [e9]
            have z4 : vm (Int.toNat x2) = hx5 (16 * x1 + x2).toNat := by rw [q4]; show hx5 (16 * x1 + ((Int.toNat x2 : Nat) : Int)).toNat = _; rw [e9]
            have hdt2 : y34 = wyV vs vo vl vm (Int.toNat x2) x3 := hdt
            rw [hdt2]; unfold wyV; rw [z1, z2, z3, z4]
          exact r_lret (pc := 64) dX11_way_64 rfl ⟨by omega, Γ, 0, kn, kd, ka, kf, kt, kw, kc, (Ext_refl Γ), ht36, hk, by omega, y34, rfl, by exact dn1_m rfl (by omega) (by omega), by (intro h9; first | rfl | omega | (exfalso; omega)), by (intro h9; first | (exfalso; omega) | exact hwv)⟩
        · refine r_aload_n (pc := 49) dX11_way_49 (i := 0) rfl rfl ?_
          refine r_bipush (pc := 50) (v := iv (-3)) dX11_way_50 (by decide) ?_
          obtain ⟨fs41, hfs41⟩ := t_obj ht20 (rd_of CG_0)
          refine r_callV (pc := 52) (as := [.int (iv (-3))]) (st := []) kX11_203 rfl dX11_way_52 hfs41 (s_X11_deny (d := d - 1) (x1 := (-3)) (by omega)  ht20 (by omega)) rfl (by omega) (Nat.le_of_ble_eq_true rfl) (Nat.zero_le _) (Nat.zero_le _) rfl (fun r38 hp37 n39 hq40 => ?_)
          obtain ⟨hnn39, ht42, hrr38⟩ := hq40
          subst n39 r38
          change Rn _ _ _ 55 _ [.int (iv 0)] _ _ _ _ _
          refine r_i2l (pc := 55) (v := (iv 0).toInt64) dX11_way_55 rfl ?_
          exact r_lret (pc := 56) dX11_way_56 rfl ⟨by omega, Γ, (-3), kn, kd, ka, kf, kt, kw, kc, (Ext_refl Γ), ht42, hk, by omega, ((iv 0).toInt64), rfl, by exact dn1_b rfl (by omega) (by omega), by (intro h9; first | rfl | omega | (exfalso; omega)), by (intro h9; first | (exfalso; omega) | exact hwv)⟩
set_option maxHeartbeats 4000000 in
set_option maxRecDepth 100000 in
theorem y3_X11_step {D : va_G} {cI cJ cZ cT : ClassId} {lo b L : Nat} {xs : Nat → Int32} {hp : MH} {n d : Nat} {Γ : TG} {a : Nat} {ct : Int} {rv : Int} {th : Nat → Option Nat} {dn : Int} {dd : Int} {da : Int} {df : Nat → Int} {dt : Nat → Int} {dw : Nat → Int} {dc : Nat → Int} {kn : Int} {kd : Int} {ka : Int} {kf : Nat → Int} {kt : Nat → Int} {kw : Nat → Int} {kc : Nat → Int} {so sz dr mn fr tt wt co : Nat → Int} {nu : Nat → Int64} {qi qc : Nat → Int} {sa : Nat → Int} {wo : Nat → Int64} {ln : Nat → Int} {hx5 : Nat → Int64} {ro : Nat → Int} {x1 x2 x3 : Int} (hd0 : 4 ≤ d) (hk : EK Γ cI cJ cZ a ct th dn dd da df dt dw dc kn kd ka) (hm : HM Γ cI cJ cZ a ct th so sz dr mn fr tt wt co nu qi qc) (hrv : -2147483648 ≤ rv ∧ rv ≤ 2147483647) (hna : a + 84 ≤ n) (ht : Tw (CG Γ cI cJ cZ cT a ct rv th dn dd da df dt dw dc kn kd ka kf kt kw kc) hp) (hx1 : (-2147483648) ≤ x1 ∧ x1 ≤ 2147483647) (hx2 : (-2147483648) ≤ x2 ∧ x2 ≤ 2147483647) (hx3 : (-2147483648) ≤ x3 ∧ x3 ≤ 2147483647) (hhv : HV Γ cI cJ cZ a ct th so sz sa wo ln hx5 ro) : Mt (gG D cI cJ cZ cT lo b L xs) mX11_step d 0 0 [.ref a, .int (iv x1), .int (iv x2), .int (iv x3)] hp n (qA Γ cI cJ cZ cT a dn dd da df dt dw dc n ct th (fun r w9 => ∃ v : Int, r = some (.int (iv v)) ∧ w9 = dn1 ct so x1 3 (¬ (0 ≤ x2 ∧ x2 < (sz (Int.toNat x1)))) ∧ (-2147483648 ≤ v ∧ v ≤ 2147483647) ∧ (w9 ≠ 0 → v = 0) ∧ (w9 = 0 → v = stV (ln (Int.toNat (16 * x1 + x2))) ro (256 * x1 + 16 * x2) x3))) := by
  refine Mt.of rfl (Nat.le_of_ble_eq_true rfl) ?_
  refine Rn.pick (lv' := [(0, .ref a), (1, .int (iv x1)), (2, .int (iv x2)), (3, .int (iv x3))]) [0, 1, 2, 3] rfl ?_
  obtain ⟨hct, hth, ⟨hdn, hdd1, hda, har⟩, ⟨hkn, hkd, hka⟩, hsh, hse, hpr, hfl, hsm⟩ := id hk
  refine r_aload_n (pc := 0) dX11_step_0 (i := 0) rfl rfl ?_
  refine r_iconst (pc := 1) (v := iv 0) dX11_step_1 (by decide) ?_
  refine t_putX (pc := 2) (ty := .int) ht CG_0 fX11_19 tyX11 tyX11_ok nmX11 (by decide +kernel) (Or.inl rfl) dX11_step_2 (Nat.le_of_ble_eq_true rfl) rfl rfl rfl (fun hp1 ht2 => ?_)
  have ht3 := RGw_rv ht2
  refine r_aload_n (pc := 5) dX11_step_5 (i := 0) rfl rfl ?_
  refine r_iload_n (pc := 6) dX11_step_6 (i := 1) rfl rfl ?_
  refine u_waysAtH (pc := 7) (x := x1) (st := []) hct hm hhv ht3 kX11_217 dX11_step_7 (by omega) (Nat.le_of_ble_eq_true rfl) (by omega) (fun hp4 ht5 hnow => ?_) (fun hp4 wa ht5 hyew hTw => ?_)
  · refine r_astoreN (pc := 10) (lv' := [(4, .null), (0, .ref a), (1, .int (iv x1)), (2, .int (iv x2)), (3, .int (iv x3))]) dX11_step_10 (by decide) rfl ?_
    refine r_aloadN (pc := 12) dX11_step_12 rfl ?_
    refine r_ifnonnullN (pc := 14) dX11_step_14 ?_
    refine r_aload_n (pc := 17) dX11_step_17 (i := 0) rfl rfl ?_
    refine r_aload_n (pc := 18) dX11_step_18 (i := 0) rfl rfl ?_
    refine r_iload_n (pc := 19) dX11_step_19 (i := 1) rfl rfl ?_
    obtain ⟨fs10, hfs10⟩ := t_obj ht5 (rd_of CG_0)
    refine r_callV (pc := 20) (as := [.int (iv x1)]) (st := [.ref a]) kX11_110 rfl dX11_step_20 hfs10 (uw_X11_whyNot (d := d - 1) (x1 := x1) (by omega)  ht5 (by omega) (by omega) hm) rfl (by omega) (Nat.le_of_ble_eq_true rfl) (Nat.zero_le _) (Nat.zero_le _) rfl (fun r7 hp6 n8 hq9 => ?_)
    obtain ⟨hnn8, bb_12, ht11, hrr7, hhq90, hhq91⟩ := hq9
    subst n8 r7
    have hhq90 : -2 ≤ bb_12 ∧ bb_12 ≤ -1 := hhq90
    have hhq91 : (bb_12 = -1 ∧ ¬ (0 ≤ x1 ∧ x1 < ct)) ∨ (bb_12 = -2 ∧ 0 ≤ x1 ∧ x1 < ct) := hhq91
    change Rn _ _ _ 23 _ [.int (iv bb_12), .ref a] _ _ _ _ _
    obtain ⟨fs17, hfs17⟩ := t_obj ht11 (rd_of CG_0)
    refine r_callV (pc := 23) (as := [.int (iv bb_12)]) (st := []) kX11_203 rfl dX11_step_23 hfs17 (s_X11_deny (d := d - 1) (x1 := bb_12) (by omega)  ht11 (by omega)) rfl (by omega) (Nat.le_of_ble_eq_true rfl) (Nat.zero_le _) (Nat.zero_le _) rfl (fun r14 hp13 n15 hq16 => ?_)
    obtain ⟨hnn15, ht18, hrr14⟩ := hq16
    subst n15 r14
    change Rn _ _ _ 26 _ [.int (iv 0)] _ _ _ _ _
    exact r_iret (pc := 26) dX11_step_26 rfl ⟨by omega, Γ, bb_12, kn, kd, ka, kf, kt, kw, kc, (Ext_refl Γ), ht18, hk, by omega, 0, rfl, by exact dn1_r (by omega), by omega, by (intro h9; first | rfl | omega | (exfalso; omega)), by (intro h9; first | (exfalso; omega) | exact hwv)⟩
  · obtain ⟨wn, vs, vl, vr, vo, vm, hw, hltw, heNw, hWr9, hWv9⟩ := id hTw
    obtain ⟨hw_O, hw_state, hw_worth, hw_length, hw_many, hw_rows, hw_b⟩ := id hw
    have hWr8 : WHr ((CG Γ cI cJ cZ cT a ct 0 th dn dd da df dt dw dc kn kd ka kf kt kw kc)) cI cJ wa wn vs vl vr vo vm := ⟨rd_CG (by omega) hWr9.1, rd_CG (by omega) hWr9.2.1, rd_CG (by omega) hWr9.2.2.1, rd_CG (by omega) hWr9.2.2.2.1, rd_CG (by omega) hWr9.2.2.2.2⟩
    have hRs9 := rd_rx ht5 hWr8.1 (rd_CG (by omega) hw_state)
    have hRl9 := rd_rx ht5 hWr8.2.2.1 (rd_CG (by omega) hw_length)
    have hRr9 := rd_rx ht5 hWr8.2.2.2.2 (rd_CG (by omega) hw_rows)
    refine r_astore (pc := 10) (lv' := [(4, .ref wa), (0, .ref a), (1, .int (iv x1)), (2, .int (iv x2)), (3, .int (iv x3))]) dX11_step_10 (by decide) rfl ?_
    refine r_aload (pc := 12) dX11_step_12 rfl ?_
    refine r_ifnonnull (pc := 14) (tgt := 27) dX11_step_14 (by decide) ?_
    refine r_iload_n (pc := 27) dX11_step_27 (i := 2) rfl rfl ?_
    refine r_aload (pc := 28) dX11_step_28 rfl ?_
    refine t_getE (pc := 30) (.int (iv (wn : Int))) ht5 (rd_CG (by omega) hw_O) fX11_221 dX11_step_30 rfl ?_
    refine t_callSI (pc := 33) (as := [.int (iv x2), .int (iv (wn : Int))]) (st := []) kX11_74 dX11_step_33 (t_X11_isNode (d := d - 1) (x0 := x2) (x1 := (wn : Int)) (by omega)   ht5 (by omega) (by omega) ) rfl (by omega) (Nat.le_of_ble_eq_true rfl) rfl (fun hp19 y21 ht20 by21 => ?_)
    obtain ⟨by211, by212⟩ := by21
    refine t_if_eq (pc := 36) (tgt := 49) dX11_step_36 (by decide) (by omega) (fun c36 => ?_) (fun c36 => ?_)
    · refine r_aload_n (pc := 49) dX11_step_49 (i := 0) rfl rfl ?_
      refine r_bipush (pc := 50) (v := iv (-3)) dX11_step_50 (by decide) ?_
      obtain ⟨fs26, hfs26⟩ := t_obj ht20 (rd_of CG_0)
      refine r_callV (pc := 52) (as := [.int (iv (-3))]) (st := []) kX11_203 rfl dX11_step_52 hfs26 (s_X11_deny (d := d - 1) (x1 := (-3)) (by omega)  ht20 (by omega)) rfl (by omega) (Nat.le_of_ble_eq_true rfl) (Nat.zero_le _) (Nat.zero_le _) rfl (fun r23 hp22 n24 hq25 => ?_)
      obtain ⟨hnn24, ht27, hrr23⟩ := hq25
      subst n24 r23
      change Rn _ _ _ 55 _ [.int (iv 0)] _ _ _ _ _
      exact r_iret (pc := 55) dX11_step_55 rfl ⟨by omega, Γ, (-3), kn, kd, ka, kf, kt, kw, kc, (Ext_refl Γ), ht27, hk, by omega, 0, rfl, by exact dn1_b rfl (by omega) (by omega), by omega, by (intro h9; first | rfl | omega | (exfalso; omega)), by (intro h9; first | (exfalso; omega) | exact hwv)⟩
    · refine r_aload (pc := 39) dX11_step_39 rfl ?_
      refine r_iload_n (pc := 41) dX11_step_41 (i := 2) rfl rfl ?_
      refine r_iload_n (pc := 42) dX11_step_42 (i := 3) rfl rfl ?_
      refine t_callVI (pc := 43) (as := [.int (iv x2), .int (iv x3)]) (st := []) ht20 (rd_CG (by omega) hw_O) kX11_225 rfl dX11_step_43 (w_X10_arcOnWay (d := d - 1) (x1 := x2) (x2 := x3) (by omega) (rd_CG (by omega) hw_O) hWr8 hRs9 hRl9 hRr9 hw_b ht20 (by omega) (by omega)) rfl (by omega) (Nat.le_of_ble_eq_true rfl) rfl (fun hp29 y28 ht30 hdt => ?_)
      obtain ⟨by28, d1, d2⟩ := hdt
      obtain ⟨q0, q1, q2, q3, q4, q5⟩ := hWv9 (Int.toNat x2) (by omega)
      have hwv : y28 = stV (ln (Int.toNat (16 * x1 + x2))) ro (256 * x1 + 16 * x2) x3 := by
        have e9 : (16 * x1 + ((Int.toNat x2 : Nat) : Int)).toNat = (16 * x1 + x2).toNat := by omega
        have z3 : vl (Int.toNat x2) = ln (16 * x1 + x2).toNat := by rw [q3]; show ln (16 * x1 + ((Int.toNat x2 : Nat) : Int)).toNat = _; rw [e9]
        unfold stV
        rw [← z3]
        by_cases hc : x3 < 0 ∨ vl (Int.toNat x2) ≤ x3
        · rw [if_pos hc]; exact d1 hc
        · rw [if_neg hc, d2 hc, idx_e (by omega) (by omega), q5 (Int.toNat x3) (by omega)]
          show ro (256 * x1 + 16 * ((Int.toNat x2 : Nat) : Int) + ((Int.toNat x3 : Nat) : Int)).toNat = _
          congr 1; omega
      refine r_goto (pc := 46) (tgt := 55) dX11_step_46 (by decide) ?_
      exact r_iret (pc := 55) dX11_step_55 rfl ⟨by omega, Γ, 0, kn, kd, ka, kf, kt, kw, kc, (Ext_refl Γ), ht30, hk, by omega, y28, rfl, by exact dn1_m rfl (by omega) (by omega), by omega, by (intro h9; first | rfl | omega | (exfalso; omega)), by (intro h9; first | (exfalso; omega) | exact hwv)⟩
