def drP : Nat → Int64 → Prop := fun _ v => -10000000000000 ≤ v.toInt ∧ v.toInt ≤ 1000000000000
theorem pr_sw {Γ : TG} {cI cJ cZ : ClassId} {y : Nat} {De : Nat → Int64} {By Ah : Nat → Int} {T : va_E → Prop} : prN (ov Γ (y + 38) T) cI cJ cZ y De By Ah = ov (prN Γ cI cJ cZ y De By Ah) (y + 38) T := by
  show ov (ov (ov (ov Γ (y + 38) T) (y + 39) (xJ cJ 16 De)) (y + 40) (xI cI 16 By)) (y + 41) (xI cZ 16 Ah) = ov (ov (ov (ov Γ (y + 39) (xJ cJ 16 De)) (y + 40) (xI cI 16 By)) (y + 41) (xI cZ 16 Ah)) (y + 38) T
  rw [ov_c Γ T (xJ cJ 16 De) (show y + 38 ≠ y + 39 by omega), ov_c _ T (xI cI 16 By) (show y + 38 ≠ y + 40 by omega), ov_c _ T (xI cZ 16 Ah) (show y + 38 ≠ y + 41 by omega)]
def dtI (De : Nat → Int64) : Nat → Int := fun v => (De v).toInt
theorem bf_mono {n x : Nat} {tl hd rm cs : Nat → Int} {J : Nat} {p D : Nat → Int} {B : Nat → Nat} {T T1 : Int} (h : bfR n x tl hd rm cs J p D B T) (hT : T ≤ T1) : bfR n x tl hd rm cs J p D B T1 := by
  obtain ⟨h1, h2, h3, h4⟩ := h
  refine ⟨h1, fun v hv => ?_, h3, h4⟩
  have q := h2 v hv
  exact ⟨by omega, q.2.1, fun r => by have := q.2.2 r; omega⟩
def brP (n x : Nat) (tl hd rm cs : Nat → Int) (J : Nat) (p : Nat → Int) (De : Nat → Int64) (By Ah : Nat → Int) (T : Int) (r k : Nat) : Prop := bfR n x tl hd rm cs J p (dtI De) (bqR By Ah) T ∧ ∃ (S : Nat → Prop) (f : Nat → Nat) (u0 : Nat), rdR n tl hd rm cs J p (dtI De) S u0 k ∧ ((∀ v, v < n → S v) ∨ (u0 < n ∧ (∀ i, i < r → f i < n ∧ S (f i)) ∧ ∀ i j, i < r → j < r → f i = f j → i = j))
def bsQ (n x : Nat) (tl hd rm cs : Nat → Int) (J : Nat) (p : Nat → Int) (De : Nat → Int64) (By Ah : Nat → Int) (T : Int) (r : Nat) : Prop := bfR n x tl hd rm cs J p (dtI De) (bqR By Ah) T ∧ snR n r tl hd rm cs J p (dtI De)
theorem br_go {n x : Nat} {tl hd rm cs : Nat → Int} {J : Nat} {p : Nat → Int} {De : Nat → Int64} {By Ah : Nat → Int} {T T1 : Int} {r : Nat} (h : bsQ n x tl hd rm cs J p De By Ah T r) (hT : T ≤ T1) : brP n x tl hd rm cs J p De By Ah T1 r 0 := ⟨bf_mono h.1 hT, sn_go h.2⟩
theorem br_mono {n x : Nat} {tl hd rm cs : Nat → Int} {J : Nat} {p : Nat → Int} {De : Nat → Int64} {By Ah : Nat → Int} {T T1 : Int} {r k : Nat} (h : brP n x tl hd rm cs J p De By Ah T r k) (hT : T ≤ T1) : brP n x tl hd rm cs J p De By Ah T1 r k := ⟨bf_mono h.1 hT, h.2⟩
theorem br_end {n x : Nat} {tl hd rm cs : Nat → Int} {J : Nat} {p : Nat → Int} {De : Nat → Int64} {By Ah : Nat → Int} {T T1 : Int} {r k : Nat} (h : brP n x tl hd rm cs J p De By Ah T r k) (hk : k = J) (hT : T ≤ T1) : bsQ n x tl hd rm cs J p De By Ah T1 (r + 1) := by
  subst hk
  obtain ⟨h1, S, f, u0, h2, h3⟩ := h
  exact ⟨bf_mono h1 hT, sn_st h2 h3⟩
theorem dt_up {De : Nat → Int64} {b : Nat} {w : Int64} : dtI (fuj De b w) = fup (dtI De) b w.toInt := by
  funext v
  unfold dtI fuj fup
  split <;> rfl
theorem bq_up {By Ah : Nat → Int} {b : Nat} {k f : Int} : bqR (fup By b k) (fup Ah b f) = bup (bqR By Ah) b (jxR k f) := by
  funext v
  unfold bqR fup bup
  split <;> rfl
theorem br_st {n x : Nat} {tl hd rm cs : Nat → Int} {J : Nat} {p : Nat → Int} {De De1 : Nat → Int64} {By Ah By1 Ah1 : Nat → Int} {T : Int} {r j : Nat} {k f : Int} (h : brP n x tl hd rm cs J p De By Ah T r j) (hp : ptR tl hd rm cs J p) (hj : j < J) (hjk : jxR k f = j) (ht : 0 ≤ tl j ∧ tl j < (n : Int)) (hh : 0 ≤ hd j ∧ hd j < (n : Int)) (hc : -1000 ≤ cs j ∧ cs j ≤ 1000) (hrl : rlP tl hd rm cs j k f De By Ah De1 By1 Ah1) : brP n x tl hd rm cs J p De1 By1 Ah1 (T + 1) r (j + 1) := by
  obtain ⟨h1, S, f0, u0, h2, h3⟩ := h
  rcases hrl with ⟨q1, q2, q3, q4⟩ | ⟨q1, q2, q3, w, q4, q5⟩
  · subst q2 q3 q4
    refine ⟨bf_mono h1 (by omega), S, f0, u0, rd_no h2 (fun a1 a2 a3 => ?_), h3⟩
    unfold rlC at q1
    show (De1 (hd j).toNat).toInt ≤ (De1 (tl j).toNat).toInt + cs j
    have a3' : (De1 (tl j).toNat).toInt < 1000000000000 := a3
    by_cases c : (De1 (tl j).toNat).toInt + cs j < (De1 (hd j).toNat).toInt
    · exact absurd ⟨a1, a3', a2, c⟩ q1
    · omega
  · obtain ⟨r1, r2, r3, r4⟩ := q1
    subst q2 q3 q5
    have e1 : dtI (fuj De (hd j).toNat w) = fup (dtI De) (hd j).toNat (dtI De (tl j).toNat + cs j) := by rw [dt_up, q4]; rfl
    have e2 : bqR (fup By (hd j).toNat k) (fup Ah (hd j).toNat f) = bup (bqR By Ah) (hd j).toNat j := by rw [bq_up, hjk]
    unfold brP
    rw [e1, e2]
    exact ⟨bf_up h1 hp hj ht hh r1 r3 hc r2 r4, S, f0, u0, rd_yes h2 hp hj ht hh r1 r3 r2 r4, h3⟩
theorem bd_st {n x : Nat} {tl hd rm cs : Nat → Int} {J : Nat} {p : Nat → Int} {De De1 : Nat → Int64} {By Ah By1 Ah1 : Nat → Int} {T : Int} {r j : Nat} {k f : Int} (h : brP n x tl hd rm cs J p De By Ah T r j) (hT : T ≤ 5000) (hb : bdP De) (ht : 0 ≤ tl j ∧ tl j < (n : Int)) (hc : -1000 ≤ cs j ∧ cs j ≤ 1000) (hrl : rlP tl hd rm cs j k f De By Ah De1 By1 Ah1) : bdP De1 := by
  have h2 := h.1.2.1 (tl j).toNat (by omega)
  have h2' : -1000 * T ≤ (De (tl j).toNat).toInt ∧ (De (tl j).toNat).toInt ≤ 1000000000000 ∧ ((De (tl j).toNat).toInt < 1000000000000 → (De (tl j).toNat).toInt ≤ 1000 * T) := h2
  rcases hrl with ⟨q1, q2, q3, q4⟩ | ⟨q1, q2, q3, w, q4, q5⟩
  · subst q2; exact hb
  · intro v hv
    rw [q5]
    by_cases e : v = (hd j).toNat
    · subst e
      rw [fuj_s, q4]
      have := h2'.2.2 q1.2.1
      omega
    · rw [fuj_o _ _ e]; exact hb v hv
def diP (n x : Nat) (De : Nat → Int64) (k : Int) : Prop := ∀ i : Nat, (i : Int) < k → (De i).toInt = if i = x then 0 else 1000000000000
theorem di_up {n x : Nat} {De : Nat → Int64} {k : Int} {w : Int64} (h : diP n x De k) (h0 : 0 ≤ k) (hw : w.toInt = if k.toNat = x then 0 else 1000000000000) : diP n x (fuj De k.toNat w) (k + 1) := by
  intro i hi
  by_cases e : i = k.toNat
  · subst e; rw [fuj_s]; exact hw
  · rw [fuj_o _ _ e]; exact h i (by omega)
theorem bs_0 {n x : Nat} {tl hd rm cs : Nat → Int} {J : Nat} {p : Nat → Int} {De : Nat → Int64} {By Ah : Nat → Int} (hx : x < n) (h : ∀ i : Nat, i < n → (De i).toInt = if i = x then 0 else 1000000000000) : bsQ n x tl hd rm cs J p De By Ah 0 0 := by
  have hx0 : (De x).toInt = 0 := by rw [h x hx, if_pos rfl]
  have hb : ∀ v, v < n → v ≠ x → (De v).toInt = 1000000000000 := fun v hv e => by rw [h v hv, if_neg e]
  refine ⟨⟨hx0, fun v hv => ?_, fun v hv e hD => ?_, fun v hv hD => ?_⟩, fun _ => False, fun _ => 0, ⟨fun t u _ _ q => absurd q id, fun j _ _ _ q => absurd q id⟩, Or.inr ⟨fun i hi => by omega, fun i j hi => by omega⟩⟩
  · show -1000 * 0 ≤ (De v).toInt ∧ (De v).toInt ≤ 1000000000000 ∧ ((De v).toInt < 1000000000000 → (De v).toInt ≤ 1000 * 0)
    by_cases e : v = x
    · subst e; omega
    · have := hb v hv e; omega
  · have h1 : (De v).toInt < 1000000000000 := hD
    have := hb v hv e
    omega
  · have h1 : (De v).toInt < 1000000000000 := hD
    by_cases e : v = x
    · exact ⟨0, e⟩
    · have := hb v hv e; omega
theorem wy_of {n x : Nat} {F T Wt Co : Nat → Int} {dr : Int} {m : Nat} {g p D : Nat → Int} {B : Nat → Nat} {t : Int} (h : bfR n x (tlR F T) (hdR F T) (rmR Wt dr g) (csR Co g) (2 * m) p D B t) (hcv : cvR (tlR F T) (hdR F T) (rmR Wt dr g) (csR Co g) (2 * m) D) : wyR n x F T Wt Co dr m g D B := by
  intro u hu hx hD
  obtain ⟨q1, q2, q3, q4, q5, q6, q7, q8⟩ := h.2.2.1 u hu hx hD
  have h2 := hcv (B u) q1 q5 q6 q7
  rw [q2] at h2
  have h3 : ((u : Int)).toNat = u := rfl
  rw [h3] at h2
  exact ⟨q1, q2, q3, q4, q5, q6, q7, by omega⟩
theorem en_tl {Fr To Mn Sz : Nat → Int} {g : Int} (h : enP Fr To Mn Sz g) (hF : Rfx 7260 0 15 Fr) (hT : Rfx 7260 0 15 To) (hg : 0 ≤ g ∧ g ≤ 120) (hM : Mn g.toNat ≤ 60) : ∀ j, j < 2 * (Mn g.toNat).toNat → (0 ≤ tlR (arF Fr g) (arF To g) j ∧ tlR (arF Fr g) (arF To g) j < ((Sz g.toNat).toNat : Int)) ∧ (0 ≤ hdR (arF Fr g) (arF To g) j ∧ hdR (arF Fr g) (arF To g) j < ((Sz g.toNat).toNat : Int)) := by
  intro j hj
  obtain ⟨h1, h2⟩ := h ((j / 2 : Nat) : Int) (by omega) (by omega)
  have h3 := hF (60 * g + ((j / 2 : Nat) : Int)).toNat (by omega)
  have h4 := hT (60 * g + ((j / 2 : Nat) : Int)).toNat (by omega)
  unfold tlR hdR arF
  split <;> omega
theorem cs_all {Co G : Nat → Int} {g : Int} (hC : Rfx 7260 (-1000) 1000 Co) (hg : 0 ≤ g ∧ g ≤ 120) {m : Nat} (hm : m ≤ 60) : ∀ j, j < 2 * m → -1000 ≤ csR (arF Co g) G j ∧ csR (arF Co g) G j ≤ 1000 := by
  intro j hj
  have h1 := hC (60 * g + ((j / 2 : Nat) : Int)).toNat (by omega)
  unfold csR cpR arF
  (repeat' split) <;> omega
theorem fi_0 {Wt : Nat → Int} {dr : Int} {m : Nat} {g : Nat → Int} (h : ∀ k, k < m → g k = 0) : fiR Wt dr m g := by
  intro k hk
  have := cp_nn Wt k
  rw [h k hk]
  omega
theorem pt_0 {F T Wt Co : Nat → Int} {dr : Int} {m : Nat} {g : Nat → Int} (h : ∀ k, k < m → g k = 0) : ptR (tlR F T) (hdR F T) (rmR Wt dr g) (csR Co g) (2 * m) (fun _ => 0) := by
  intro j hj _ _
  have h1 := h (j / 2) (by omega)
  have h2 := cp_nn Co (j / 2)
  show (0 : Int) ≤ csR Co g j + 0
  unfold csR
  rw [h1]
  simp only [Int.lt_irrefl, if_false]
  split <;> omega
def giP (g : Nat → Int) (k : Int) : Prop := ∀ i : Nat, (i : Int) < k → g i = 0
theorem gi_up {g : Nat → Int} {k : Int} (h : giP g k) (h0 : 0 ≤ k) : giP (fup g k.toNat 0) (k + 1) := by
  intro i hi
  by_cases e : i = k.toNat
  · subst e; rw [fup_s]
  · rw [fup_o _ _ e]; exact h i (by omega)
theorem nf_fi {F T W : Nat → Int} {x : Int} {dr g0 : Int} {m : Nat} {g : Nat → Int} (hW : Rfx 7260 (-1000) 1000 W) (hg : 0 ≤ g0 ∧ g0 ≤ 120) (hm : m ≤ 60) (h : fiR (arF W g0) dr m g) : nfR F T x g m ≤ 1000 * (m : Int) := nf_hi m (fun k hk => by
  have h1 := h k hk
  have h2 := cp_hi (W := W) (g := g0) (k := k) hW hg (by omega)
  omega)
theorem jx_1 (k : Int) : jxR k 1 = 2 * k.toNat := by unfold jxR; rw [if_pos (by decide)]
theorem jx_0 (k : Int) : jxR k 0 = 2 * k.toNat + 1 := by unfold jxR; rw [if_neg (by decide)]
theorem rl_B {tl hd rm cs : Nat → Int} {j : Nat} {k f : Int} {De De1 : Nat → Int64} {By Ah By1 Ah1 : Nat → Int} (h : rlP tl hd rm cs j k f De By Ah De1 By1 Ah1) (hB : Rfx 16 0 59 By) (hk : 0 ≤ k ∧ k ≤ 59) : Rfx 16 0 59 By1 := by
  rcases h with ⟨-, -, q, -⟩ | ⟨-, q, -⟩
  · rw [q]; exact hB
  · rw [q]; exact Rfx_up hB hk
theorem rl_A {tl hd rm cs : Nat → Int} {j : Nat} {k f : Int} {De De1 : Nat → Int64} {By Ah By1 Ah1 : Nat → Int} (h : rlP tl hd rm cs j k f De By Ah De1 By1 Ah1) (hA : Rfx 16 0 1 Ah) (hf : 0 ≤ f ∧ f ≤ 1) : Rfx 16 0 1 Ah1 := by
  rcases h with ⟨-, -, -, q⟩ | ⟨-, -, q, -⟩
  · rw [q]; exact hA
  · rw [q]; exact Rfx_up hA hf
theorem bd_up {De : Nat → Int64} {i : Nat} {w : Int64} (h : bdP De) (hw : -10000000000000 ≤ w.toInt ∧ w.toInt ≤ 1000000000000) : bdP (fuj De i w) := by
  intro v hv
  by_cases e : v = i
  · subst e; rw [fuj_s]; exact hw
  · rw [fuj_o _ _ e]; exact h v hv
set_option maxHeartbeats 4000000 in
set_option maxRecDepth 100000 in
theorem t_X12_pricex {D : va_G} {cI cJ cZ cT : ClassId} {lo b L : Nat} {xs : Nat → Int32} {hp : MH} {n d : Nat} {Γ : TG} {y : Nat} {rf cnt nm : Int32} {Fr To Wt Co Dr Mn Sz : Nat → Int} {x1 x2 x3 : Int} (hd0 : 3 ≤ d) (hO : rd Γ y (tO 11 (mdF y rf cnt nm))) (hA_from : rd Γ (y + 5) (xI cI 7260 Fr)) (hR_from : Rfx 7260 0 15 Fr) (hA_to : rd Γ (y + 6) (xI cI 7260 To)) (hR_to : Rfx 7260 0 15 To) (hA_weight : rd Γ (y + 7) (xI cI 7260 Wt)) (hR_weight : Rfx 7260 (-1000) 1000 Wt) (hA_cost : rd Γ (y + 8) (xI cI 7260 Co)) (hR_cost : Rfx 7260 (-1000) 1000 Co) (hA_directs : rd Γ (y + 3) (xI cZ 121 Dr)) (hR_directs : Rfx 121 0 1 Dr) (hA_many : rd Γ (y + 4) (xI cI 121 Mn)) (hR_many : Rfx 121 0 60 Mn) (hA_sizes : rd Γ (y + 2) (xI cI 121 Sz)) (hR_sizes : Rfx 121 0 16 Sz) (hA_gone : Γ (y + 38) = some (tI cI 60 (rg (-1000) 1000))) (hA_dear : Γ (y + 39) = some (tJ cJ 16 drP)) (hA_by : Γ (y + 40) = some (tI cI 16 (rg 0 59))) (hA_ahead : Γ (y + 41) = some (tI cZ 16 (rg 0 1))) (ht : Tw Γ hp) (hx1 : 0 ≤ x1 ∧ x1 ≤ 120) (hx2 : 0 ≤ x2 ∧ x2 ≤ 15) (hx3 : 0 ≤ x3 ∧ x3 ≤ 15) (hEn : enP Fr To Mn Sz x1) (hx5 : x2 < (Sz (Int.toNat x1))) (hy5 : x3 < (Sz (Int.toNat x1))) (hne : x2 ≠ x3) : Mt (gG D cI cJ cZ cT lo b L xs) mX12_price d 0 0 [.ref y, .int (iv x1), .int (iv x2), .int (iv x3)] hp n (pJ Γ n yes64) := by
  refine Mt.of rfl (Nat.le_of_ble_eq_true rfl) ?_
  refine Rn.pick (lv' := [(0, .ref y), (1, .int (iv x1)), (2, .int (iv x2)), (3, .int (iv x3))]) [0, 1, 2, 3] rfl ?_
  have rMn := hR_many (Int.toNat x1) (by omega)
  have rSz := hR_sizes (Int.toNat x1) (by omega)
  obtain ⟨G0, hG0, hta⟩ := ht.openI (rd_of hA_gone)
  obtain ⟨De0, hDe0, htb⟩ := hta.openJ (rd_of (eq_ov (by omega) hA_dear))
  obtain ⟨By0, hBy0, htc⟩ := htb.openI (rd_of (eq_ov (by omega) (eq_ov (by omega) hA_by)))
  obtain ⟨Ah0, hAh0, htd⟩ := htc.openI (rd_of (eq_ov (by omega) (eq_ov (by omega) (eq_ov (by omega) hA_ahead))))
  have hRG0 : Rfx 60 (-1000) 1000 G0 := fun i hi => (hG0 i hi).1
  have hbd0 : bdP De0 := fun i hi => hDe0 i hi
  have hRB0 : Rfx 16 0 59 By0 := fun i hi => (hBy0 i hi).1
  have hRA0 : Rfx 16 0 1 Ah0 := fun i hi => (hAh0 i hi).1
  have hgi0 : giP G0 0 := fun i hi => by omega
  have hTL := en_tl hEn hR_from hR_to (by omega) (by omega)
  refine r_aload_n (pc := 0) dX12_price_0 (i := 0) rfl rfl ?_
  refine t_getE (pc := 1) (.ref (y + 2)) htd (rd_ov (by omega) (rd_ov (by omega) (rd_ov (by omega) (rd_ov (by omega) hO)))) fX12_13 dX12_price_1 rfl ?_
  refine r_iload_n (pc := 4) dX12_price_4 (i := 1) rfl rfl ?_
  refine t_ialdX (pc := 5) (t0 := 0) htd (rd_ov (by omega) (rd_ov (by omega) (rd_ov (by omega) (rd_ov (by omega) hA_sizes)))) dX12_price_5 rfl (by decide) (by omega) (fun b1 => ?_)
  have rb1 := (show Rfx 121 0 16 Sz by assumption) (Int.toNat x1) (by omega)
  refine r_istore (pc := 6) (lv' := [(4, .int (iv (Sz (Int.toNat x1)))), (0, .ref y), (1, .int (iv x1)), (2, .int (iv x2)), (3, .int (iv x3))]) dX12_price_6 (by decide) rfl ?_
  refine r_iconst (pc := 8) (v := iv 0) dX12_price_8 (by decide) ?_
  refine r_istore (pc := 9) (lv' := [(5, .int (iv 0)), (4, .int (iv (Sz (Int.toNat x1)))), (0, .ref y), (1, .int (iv x1)), (2, .int (iv x2)), (3, .int (iv x3))]) dX12_price_9 (by decide) rfl ?_
  have B11 : ∀ k : Nat, ∀ G11 : Nat → Int, ∀ hp11 : MH, Tw (ov (ov (ov (ov Γ (y + 38) (xI cI 60 G11)) (y + 39) (xJ cJ 16 De0)) (y + 40) (xI cI 16 By0)) (y + 41) (xI cZ 16 Ah0)) hp11 → ∀  (v11_5 : Int), 0 ≤ v11_5 ∧ v11_5 ≤ 60 ∧ v11_5 ≤ (Mn (Int.toNat x1)) ∧ giP G11 v11_5 ∧ Rfx 60 (-1000) 1000 G11 → 60 - v11_5 ≤ (k : Int) → Rn (gG D cI cJ cZ cT lo b L xs) mX12_price d 11 [(0, .ref y), (1, .int (iv x1)), (2, .int (iv x2)), (3, .int (iv x3)), (4, .int (iv (Sz (Int.toNat x1)))), (5, .int (iv v11_5))] [] hp11 n 0 0 (pJ Γ n yes64) := by
    refine lpS _ ?_
    intro k11 ih11 G11 hp11 ht11 v11_5 hf11 hm11
    obtain ⟨hf11_0, hf11_1, hf11_2, ha11_3, ha11_4⟩ := hf11
    refine r_iload (pc := 11) dX12_price_11 rfl ?_
    refine r_aload_n (pc := 13) dX12_price_13 (i := 0) rfl rfl ?_
    refine t_getE (pc := 14) (.ref (y + 4)) ht11 (rd_ov (by omega) (rd_ov (by omega) (rd_ov (by omega) (rd_ov (by omega) hO)))) fX12_20 dX12_price_14 rfl ?_
    refine r_iload_n (pc := 17) dX12_price_17 (i := 1) rfl rfl ?_
    refine t_ialdX (pc := 18) (t0 := 0) ht11 (rd_ov (by omega) (rd_ov (by omega) (rd_ov (by omega) (rd_ov (by omega) hA_many)))) dX12_price_18 rfl (by decide) (by omega) (fun b2 => ?_)
    have rb2 := (show Rfx 121 0 60 Mn by assumption) (Int.toNat x1) (by omega)
    refine t_icmp_ge (pc := 19) (tgt := 36) dX12_price_19 (by decide) (by omega) (by omega) (fun c19 => ?_) (fun c19 => ?_)
    · refine r_iconst (pc := 36) (v := iv 1) dX12_price_36 (by decide) ?_
      refine r_istore (pc := 37) (lv' := [(5, .int (iv 1)), (0, .ref y), (1, .int (iv x1)), (2, .int (iv x2)), (3, .int (iv x3)), (4, .int (iv (Sz (Int.toNat x1))))]) dX12_price_37 (by decide) rfl ?_
      have hz37 : ∀ k, k < (Int.toNat (Mn (Int.toNat x1))) → G11 k = 0 := fun k hk => (show giP G11 v11_5 by assumption) k (by omega)
      have hfi37 : fiR (arF Wt x1) (Dr (Int.toNat x1)) (Int.toNat (Mn (Int.toNat x1))) G11 := fi_0 hz37
      have hex37 : ∃ p : Nat → Int, ptR (tlR (arF Fr x1) (arF To x1)) (hdR (arF Fr x1) (arF To x1)) (rmR (arF Wt x1) (Dr (Int.toNat x1)) G11) (csR (arF Co x1) G11) (2 * (Int.toNat (Mn (Int.toNat x1)))) p := ⟨_, pt_0 hz37⟩
      have hnf37 : nfR (arF Fr x1) (arF To x1) (((Int.toNat x2) : Nat) : Int) G11 (Int.toNat (Mn (Int.toNat x1))) ≤ 1000 * (((Int.toNat (Mn (Int.toNat x1))) : Nat) : Int) := nf_fi (dr := (Dr (Int.toNat x1))) hR_weight (by omega) (by omega) hfi37
      have B39 : ∀ k : Nat, ∀ G39 : Nat → Int, ∀ De39 : Nat → Int64, ∀ By39 : Nat → Int, ∀ Ah39 : Nat → Int, ∀ hp39 : MH, Tw (ov (ov (ov (ov Γ (y + 38) (xI cI 60 G39)) (y + 39) (xJ cJ 16 De39)) (y + 40) (xI cI 16 By39)) (y + 41) (xI cZ 16 Ah39)) hp39 → ∀  (v39_5 : Int), 0 ≤ v39_5 ∧ v39_5 ≤ 1 ∧ Rfx 60 (-1000) 1000 G39 ∧ bdP De39 ∧ Rfx 16 0 59 By39 ∧ Rfx 16 0 1 Ah39 ∧ fiR (arF Wt x1) (Dr (Int.toNat x1)) (Int.toNat (Mn (Int.toNat x1))) G39 ∧ (∃ p : Nat → Int, ptR (tlR (arF Fr x1) (arF To x1)) (hdR (arF Fr x1) (arF To x1)) (rmR (arF Wt x1) (Dr (Int.toNat x1)) G39) (csR (arF Co x1) G39) (2 * (Int.toNat (Mn (Int.toNat x1)))) p) ∧ nfR (arF Fr x1) (arF To x1) (((Int.toNat x2) : Nat) : Int) G39 (Int.toNat (Mn (Int.toNat x1))) ≤ 1000 * (((Int.toNat (Mn (Int.toNat x1))) : Nat) : Int) → (2 * (1000 * (((Int.toNat (Mn (Int.toNat x1))) : Nat) : Int) - nfR (arF Fr x1) (arF To x1) (((Int.toNat x2) : Nat) : Int) G39 (Int.toNat (Mn (Int.toNat x1)))) + v39_5) ≤ (k : Int) → Rn (gG D cI cJ cZ cT lo b L xs) mX12_price d 39 [(0, .ref y), (1, .int (iv x1)), (2, .int (iv x2)), (3, .int (iv x3)), (4, .int (iv (Sz (Int.toNat x1)))), (5, .int (iv v39_5))] [] hp39 n 0 0 (pJ Γ n yes64) := by
        refine lpS _ ?_
        intro k39 ih39 G39 De39 By39 Ah39 hp39 ht39 v39_5 hf39 hm39
        obtain ⟨hf39_0, hf39_1, ha39_2, ha39_3, ha39_4, ha39_5, ha39_6, ha39_7, hf39_8⟩ := hf39
        refine r_iload (pc := 39) dX12_price_39 rfl ?_
        refine t_if_eq (pc := 41) (tgt := 169) dX12_price_41 (by decide) (by omega) (fun c41 => ?_) (fun c41 => ?_)
        · refine r_lconst (pc := 169) (v := 0) dX12_price_169 (by decide) ?_
          have hk169 : (0 : Int64).toInt = 0 := by decide
          refine r_lstore (pc := 170) (lv' := [(6, .long (0 : Int64)), (0, .ref y), (1, .int (iv x1)), (2, .int (iv x2)), (3, .int (iv x3)), (4, .int (iv (Sz (Int.toNat x1)))), (5, .int (iv v39_5))]) dX12_price_170 (by decide) rfl ?_
          refine r_iconst (pc := 172) (v := iv 0) dX12_price_172 (by decide) ?_
          refine r_istore (pc := 173) (lv' := [(8, .int (iv 0)), (6, .long (0 : Int64)), (0, .ref y), (1, .int (iv x1)), (2, .int (iv x2)), (3, .int (iv x3)), (4, .int (iv (Sz (Int.toNat x1)))), (5, .int (iv v39_5))]) dX12_price_173 (by decide) rfl ?_
          have B175 : ∀ k : Nat, ∀ hp175 : MH, Tw (ov (ov (ov (ov Γ (y + 38) (xI cI 60 G39)) (y + 39) (xJ cJ 16 De39)) (y + 40) (xI cI 16 By39)) (y + 41) (xI cZ 16 Ah39)) hp175 → ∀  (v175_8 : Int) (w175_6 : Int64), 0 ≤ v175_8 ∧ v175_8 ≤ 60 → 60 - v175_8 ≤ (k : Int) → Rn (gG D cI cJ cZ cT lo b L xs) mX12_price d 175 [(0, .ref y), (1, .int (iv x1)), (6, .long w175_6), (8, .int (iv v175_8))] [] hp175 n 0 0 (pJ Γ n yes64) := by
            refine lpS _ ?_
            intro k175 ih175 hp175 ht175 v175_8 w175_6 hf175 hm175
            refine r_iload (pc := 175) dX12_price_175 rfl ?_
            refine r_aload_n (pc := 177) dX12_price_177 (i := 0) rfl rfl ?_
            refine t_getE (pc := 178) (.ref (y + 4)) ht175 (rd_ov (by omega) (rd_ov (by omega) (rd_ov (by omega) (rd_ov (by omega) hO)))) fX12_20 dX12_price_178 rfl ?_
            refine r_iload_n (pc := 181) dX12_price_181 (i := 1) rfl rfl ?_
            refine t_ialdX (pc := 182) (t0 := 0) ht175 (rd_ov (by omega) (rd_ov (by omega) (rd_ov (by omega) (rd_ov (by omega) hA_many)))) dX12_price_182 rfl (by decide) (by omega) (fun b3 => ?_)
            have rb3 := (show Rfx 121 0 60 Mn by assumption) (Int.toNat x1) (by omega)
            refine t_icmp_ge (pc := 183) (tgt := 261) dX12_price_183 (by decide) (by omega) (by omega) (fun c183 => ?_) (fun c183 => ?_)
            · refine r_lload (pc := 261) dX12_price_261 rfl ?_
              exact r_lret (pc := 263) dX12_price_263 rfl ⟨rfl, Tw.closeI (Tw.closeJ (Tw.closeI (Tw.closeI ht175 (eq_ov (by omega) (eq_ov (by omega) (eq_ov (by omega) hA_ahead))) (show Rfx 16 0 1 Ah39 by assumption)) (eq_ov (by omega) (eq_ov (by omega) hA_by)) (show Rfx 16 0 59 By39 by assumption)) (eq_ov (by omega) hA_dear) (show bdP De39 by assumption)) hA_gone (show Rfx 60 (-1000) 1000 G39 by assumption), _, rfl, trivial⟩
            · refine r_aload_n (pc := 186) dX12_price_186 (i := 0) rfl rfl ?_
              refine t_getE (pc := 187) (.ref (y + 8)) ht175 (rd_ov (by omega) (rd_ov (by omega) (rd_ov (by omega) (rd_ov (by omega) hO)))) fX12_32 dX12_price_187 rfl ?_
              refine r_iload_n (pc := 190) dX12_price_190 (i := 1) rfl rfl ?_
              refine r_iload (pc := 191) dX12_price_191 rfl ?_
              refine t_callSI (pc := 193) (as := [.int (iv x1), .int (iv v175_8)]) (st := [.ref (y + 8)]) kX12_157 dX12_price_193 (t_X12_at1x (d := d - 1) (x1 := x1) (x2 := v175_8) (by omega)  ht175 (by omega) (by omega)) rfl (by omega) (Nat.le_of_ble_eq_true rfl) rfl (fun hp4 y6 ht5 by6 => ?_)
              have ey6 : y6 = 60 * x1 + v175_8 := by6
              subst ey6
              refine t_ialdX (pc := 196) (t0 := 0) ht5 (rd_ov (by omega) (rd_ov (by omega) (rd_ov (by omega) (rd_ov (by omega) hA_cost)))) dX12_price_196 rfl (by decide) (by omega) (fun b7 => ?_)
              have rb7 := (show Rfx 7260 (-1000) 1000 Co by assumption) (Int.toNat (60 * x1 + v175_8)) (by omega)
              have B216 : ∀ hp216 : MH, Tw (ov (ov (ov (ov Γ (y + 38) (xI cI 60 G39)) (y + 39) (xJ cJ 16 De39)) (y + 40) (xI cI 16 By39)) (y + 41) (xI cZ 16 Ah39)) hp216 → ∀  (x216_0 : Int64), True → Rn (gG D cI cJ cZ cT lo b L xs) mX12_price d 216 [(0, .ref y), (1, .int (iv x1)), (6, .long w175_6), (8, .int (iv v175_8))] [.long x216_0] hp216 n 0 0 (pJ Γ n yes64) := by
                intro hp216 ht216 x216_0 hf216
                refine r_lstore (pc := 216) (lv' := [(9, .long x216_0), (0, .ref y), (1, .int (iv x1)), (6, .long w175_6), (8, .int (iv v175_8))]) dX12_price_216 (by decide) rfl ?_
                refine r_lload (pc := 218) dX12_price_218 rfl ?_
                refine r_lload (pc := 220) dX12_price_220 rfl ?_
                refine r_aload_n (pc := 222) dX12_price_222 (i := 0) rfl rfl ?_
                refine t_getE (pc := 223) (.ref (y + 38)) ht216 (rd_ov (by omega) (rd_ov (by omega) (rd_ov (by omega) (rd_ov (by omega) hO)))) fX12_124 dX12_price_223 rfl ?_
                refine r_iload (pc := 226) dX12_price_226 rfl ?_
                refine t_ialdX (pc := 228) (t0 := 0) ht216 (rd_ov (by omega) (rd_ov (by omega) (rd_ov (by omega) (rd_of (ov_s _ _ _))))) dX12_price_228 rfl (by decide) (by omega) (fun b8 => ?_)
                have rb8 := (show Rfx 60 (-1000) 1000 G39 by assumption) (Int.toNat v175_8) (by omega)
                have B250 : ∀ hp250 : MH, Tw (ov (ov (ov (ov Γ (y + 38) (xI cI 60 G39)) (y + 39) (xJ cJ 16 De39)) (y + 40) (xI cI 16 By39)) (y + 41) (xI cZ 16 Ah39)) hp250 → ∀  (u250_2 : Int), (-1000) ≤ u250_2 ∧ u250_2 ≤ 1000 → Rn (gG D cI cJ cZ cT lo b L xs) mX12_price d 250 [(0, .ref y), (1, .int (iv x1)), (8, .int (iv v175_8))] [.int (iv u250_2), .long x216_0, .long w175_6] hp250 n 0 0 (pJ Γ n yes64) := by
                  intro hp250 ht250 u250_2 hf250
                  refine r_i2l (pc := 250) (v := (iv u250_2).toInt64) dX12_price_250 rfl ?_
                  refine r_lmul (pc := 251) (v := x216_0 * ((iv u250_2).toInt64)) dX12_price_251 rfl ?_
                  refine r_ladd (pc := 252) (v := w175_6 + (x216_0 * ((iv u250_2).toInt64))) dX12_price_252 rfl ?_
                  refine r_lstore (pc := 253) (lv' := [(6, .long (w175_6 + (x216_0 * ((iv u250_2).toInt64)))), (0, .ref y), (1, .int (iv x1)), (8, .int (iv v175_8))]) dX12_price_253 (by decide) rfl ?_
                  refine r_iinc (pc := 255) (v := iv (v175_8 + 1)) (lv' := [(8, .int (iv (v175_8 + 1))), (6, .long (w175_6 + (x216_0 * ((iv u250_2).toInt64)))), (0, .ref y), (1, .int (iv x1))]) dX12_price_255 rfl (iv_add _ _) (by decide) rfl ?_
                  refine r_goto (pc := 258) (tgt := 175) dX12_price_258 (by decide) ?_
                  refine Rn.pick (lv' := [(0, .ref y), (1, .int (iv x1)), (6, .long (w175_6 + (x216_0 * ((iv u250_2).toInt64)))), (8, .int (iv (v175_8 + 1)))]) [2, 3, 1, 0] rfl ?_
                  exact ih175 (Int.toNat (60 - (v175_8 + 1))) (by omega) _ ht250 (v175_8 + 1) (w175_6 + (x216_0 * ((iv u250_2).toInt64))) ⟨by omega, by omega⟩ (by omega)
                refine t_if_ge (pc := 229) (tgt := 243) dX12_price_229 (by decide) (by omega) (fun c229 => ?_) (fun c229 => ?_)
                · refine r_aload_n (pc := 243) dX12_price_243 (i := 0) rfl rfl ?_
                  refine t_getE (pc := 244) (.ref (y + 38)) ht216 (rd_ov (by omega) (rd_ov (by omega) (rd_ov (by omega) (rd_ov (by omega) hO)))) fX12_124 dX12_price_244 rfl ?_
                  refine r_iload (pc := 247) dX12_price_247 rfl ?_
                  refine t_ialdX (pc := 249) (t0 := 0) ht216 (rd_ov (by omega) (rd_ov (by omega) (rd_ov (by omega) (rd_of (ov_s _ _ _))))) dX12_price_249 rfl (by decide) (by omega) (fun b9 => ?_)
                  have rb9 := (show Rfx 60 (-1000) 1000 G39 by assumption) (Int.toNat v175_8) (by omega)
                  refine Rn.pick (lv' := [(0, .ref y), (1, .int (iv x1)), (8, .int (iv v175_8))]) [1, 2, 4] rfl ?_
                  exact B250 _ ht216 (G39 (Int.toNat v175_8)) ⟨by omega, by omega⟩
                · refine r_aload_n (pc := 232) dX12_price_232 (i := 0) rfl rfl ?_
                  refine t_getE (pc := 233) (.ref (y + 38)) ht216 (rd_ov (by omega) (rd_ov (by omega) (rd_ov (by omega) (rd_ov (by omega) hO)))) fX12_124 dX12_price_233 rfl ?_
                  refine r_iload (pc := 236) dX12_price_236 rfl ?_
                  refine t_ialdX (pc := 238) (t0 := 0) ht216 (rd_ov (by omega) (rd_ov (by omega) (rd_ov (by omega) (rd_of (ov_s _ _ _))))) dX12_price_238 rfl (by decide) (by omega) (fun b10 => ?_)
                  have rb10 := (show Rfx 60 (-1000) 1000 G39 by assumption) (Int.toNat v175_8) (by omega)
                  refine r_ineg (pc := 239) (v := iv (-(G39 (Int.toNat v175_8)))) dX12_price_239 (iv_neg _) ?_
                  refine r_goto (pc := 240) (tgt := 250) dX12_price_240 (by decide) ?_
                  refine Rn.pick (lv' := [(0, .ref y), (1, .int (iv x1)), (8, .int (iv v175_8))]) [1, 2, 4] rfl ?_
                  exact B250 _ ht216 (-(G39 (Int.toNat v175_8))) ⟨by omega, by omega⟩
              refine t_if_le (pc := 197) (tgt := 215) dX12_price_197 (by decide) (by omega) (fun c197 => ?_) (fun c197 => ?_)
              · refine r_lconst (pc := 215) (v := 0) dX12_price_215 (by decide) ?_
                have hk215 : (0 : Int64).toInt = 0 := by decide
                refine Rn.pick (lv' := [(0, .ref y), (1, .int (iv x1)), (6, .long w175_6), (8, .int (iv v175_8))]) [0, 1, 2, 3] rfl ?_
                exact B216 _ ht5 (0 : Int64) trivial
              · refine r_aload_n (pc := 200) dX12_price_200 (i := 0) rfl rfl ?_
                refine t_getE (pc := 201) (.ref (y + 8)) ht5 (rd_ov (by omega) (rd_ov (by omega) (rd_ov (by omega) (rd_ov (by omega) hO)))) fX12_32 dX12_price_201 rfl ?_
                refine r_iload_n (pc := 204) dX12_price_204 (i := 1) rfl rfl ?_
                refine r_iload (pc := 205) dX12_price_205 rfl ?_
                refine t_callSI (pc := 207) (as := [.int (iv x1), .int (iv v175_8)]) (st := [.ref (y + 8)]) kX12_157 dX12_price_207 (t_X12_at1x (d := d - 1) (x1 := x1) (x2 := v175_8) (by omega)  ht5 (by omega) (by omega)) rfl (by omega) (Nat.le_of_ble_eq_true rfl) rfl (fun hp11 y13 ht12 by13 => ?_)
                have ey13 : y13 = 60 * x1 + v175_8 := by13
                subst ey13
                refine t_ialdX (pc := 210) (t0 := 0) ht12 (rd_ov (by omega) (rd_ov (by omega) (rd_ov (by omega) (rd_ov (by omega) hA_cost)))) dX12_price_210 rfl (by decide) (by omega) (fun b14 => ?_)
                have rb14 := (show Rfx 7260 (-1000) 1000 Co by assumption) (Int.toNat (60 * x1 + v175_8)) (by omega)
                refine r_i2l (pc := 211) (v := (iv (Co (Int.toNat (60 * x1 + v175_8)))).toInt64) dX12_price_211 rfl ?_
                refine r_goto (pc := 212) (tgt := 216) dX12_price_212 (by decide) ?_
                refine Rn.pick (lv' := [(0, .ref y), (1, .int (iv x1)), (6, .long w175_6), (8, .int (iv v175_8))]) [0, 1, 2, 3] rfl ?_
                exact B216 _ ht12 ((iv (Co (Int.toNat (60 * x1 + v175_8)))).toInt64) trivial
          refine Rn.pick (lv' := [(0, .ref y), (1, .int (iv x1)), (6, .long (0 : Int64)), (8, .int (iv 0))]) [2, 3, 1, 0] rfl ?_
          exact B175 (Int.toNat (60 - 0)) _ ht39 0 (0 : Int64) ⟨by omega, by omega⟩ (by omega)
        · refine r_iconst (pc := 44) (v := iv 0) dX12_price_44 (by decide) ?_
          obtain ⟨pp, hpt⟩ := (show ∃ p : Nat → Int, ptR (tlR (arF Fr x1) (arF To x1)) (hdR (arF Fr x1) (arF To x1)) (rmR (arF Wt x1) (Dr (Int.toNat x1)) G39) (csR (arF Co x1) G39) (2 * (Int.toNat (Mn (Int.toNat x1)))) p by assumption)
          have hdi0 : diP (Int.toNat (Sz (Int.toNat x1))) (Int.toNat x2) De39 0 := fun i hi => by omega
          refine r_istore (pc := 45) (lv' := [(6, .int (iv 0)), (0, .ref y), (1, .int (iv x1)), (2, .int (iv x2)), (3, .int (iv x3)), (4, .int (iv (Sz (Int.toNat x1)))), (5, .int (iv v39_5))]) dX12_price_45 (by decide) rfl ?_
          have B47 : ∀ k : Nat, ∀ De47 : Nat → Int64, ∀ hp47 : MH, Tw (ov (ov (ov (ov Γ (y + 38) (xI cI 60 G39)) (y + 39) (xJ cJ 16 De47)) (y + 40) (xI cI 16 By39)) (y + 41) (xI cZ 16 Ah39)) hp47 → ∀  (v47_6 : Int), 0 ≤ v47_6 ∧ v47_6 ≤ 16 ∧ v47_6 ≤ (Sz (Int.toNat x1)) ∧ diP (Int.toNat (Sz (Int.toNat x1))) (Int.toNat x2) De47 v47_6 ∧ bdP De47 → 16 - v47_6 ≤ (k : Int) → Rn (gG D cI cJ cZ cT lo b L xs) mX12_price d 47 [(0, .ref y), (1, .int (iv x1)), (2, .int (iv x2)), (3, .int (iv x3)), (4, .int (iv (Sz (Int.toNat x1)))), (6, .int (iv v47_6))] [] hp47 n 0 0 (pJ Γ n yes64) := by
            refine lpS _ ?_
            intro k47 ih47 De47 hp47 ht47 v47_6 hf47 hm47
            obtain ⟨hf47_0, hf47_1, hf47_2, ha47_3, ha47_4⟩ := hf47
            refine r_iload (pc := 47) dX12_price_47 rfl ?_
            refine r_iload (pc := 49) dX12_price_49 rfl ?_
            refine t_icmp_ge (pc := 51) (tgt := 80) dX12_price_51 (by decide) (by omega) (by omega) (fun c51 => ?_) (fun c51 => ?_)
            · refine r_iconst (pc := 80) (v := iv 0) dX12_price_80 (by decide) ?_
              refine r_istore (pc := 81) (lv' := [(6, .int (iv 0)), (0, .ref y), (1, .int (iv x1)), (2, .int (iv x2)), (3, .int (iv x3)), (4, .int (iv (Sz (Int.toNat x1))))]) dX12_price_81 (by decide) rfl ?_
              have hbs81 : bsQ (Int.toNat (Sz (Int.toNat x1))) (Int.toNat x2) (tlR (arF Fr x1) (arF To x1)) (hdR (arF Fr x1) (arF To x1)) (rmR (arF Wt x1) (Dr (Int.toNat x1)) G39) (csR (arF Co x1) G39) (2 * (Int.toNat (Mn (Int.toNat x1)))) pp De47 By39 Ah39 0 0 := bs_0 (by omega) (fun i hi => (show diP (Int.toNat (Sz (Int.toNat x1))) (Int.toNat x2) De47 v47_6 by assumption) i (by omega))
              have B83 : ∀ k : Nat, ∀ De83 : Nat → Int64, ∀ By83 : Nat → Int, ∀ Ah83 : Nat → Int, ∀ hp83 : MH, Tw (ov (ov (ov (ov Γ (y + 38) (xI cI 60 G39)) (y + 39) (xJ cJ 16 De83)) (y + 40) (xI cI 16 By83)) (y + 41) (xI cZ 16 Ah83)) hp83 → ∀  (v83_6 : Int), 0 ≤ v83_6 ∧ v83_6 ≤ 17 ∧ v83_6 ≤ (Sz (Int.toNat x1)) + 1 ∧ bsQ (Int.toNat (Sz (Int.toNat x1))) (Int.toNat x2) (tlR (arF Fr x1) (arF To x1)) (hdR (arF Fr x1) (arF To x1)) (rmR (arF Wt x1) (Dr (Int.toNat x1)) G39) (csR (arF Co x1) G39) (2 * (Int.toNat (Mn (Int.toNat x1)))) pp De83 By83 Ah83 (120 * v83_6) (Int.toNat v83_6) ∧ bdP De83 ∧ Rfx 16 0 59 By83 ∧ Rfx 16 0 1 Ah83 → 17 - v83_6 ≤ (k : Int) → Rn (gG D cI cJ cZ cT lo b L xs) mX12_price d 83 [(0, .ref y), (1, .int (iv x1)), (2, .int (iv x2)), (3, .int (iv x3)), (4, .int (iv (Sz (Int.toNat x1)))), (6, .int (iv v83_6))] [] hp83 n 0 0 (pJ Γ n yes64) := by
                refine lpS _ ?_
                intro k83 ih83 De83 By83 Ah83 hp83 ht83 v83_6 hf83 hm83
                obtain ⟨hf83_0, hf83_1, hf83_2, ha83_3, ha83_4, ha83_5, ha83_6⟩ := hf83
                refine r_iload (pc := 83) dX12_price_83 rfl ?_
                refine r_iload (pc := 85) dX12_price_85 rfl ?_
                refine r_iconst (pc := 87) (v := iv 1) dX12_price_87 (by decide) ?_
                refine r_iadd (pc := 88) (v := iv ((Sz (Int.toNat x1)) + 1)) dX12_price_88 (iv_add _ _) ?_
                refine t_icmp_ge (pc := 89) (tgt := 134) dX12_price_89 (by decide) (by omega) (by omega) (fun c89 => ?_) (fun c89 => ?_)
                · refine r_aload_n (pc := 134) dX12_price_134 (i := 0) rfl rfl ?_
                  have hbs9 := (show bsQ (Int.toNat (Sz (Int.toNat x1))) (Int.toNat x2) (tlR (arF Fr x1) (arF To x1)) (hdR (arF Fr x1) (arF To x1)) (rmR (arF Wt x1) (Dr (Int.toNat x1)) G39) (csR (arF Co x1) G39) (2 * (Int.toNat (Mn (Int.toNat x1)))) pp De83 By83 Ah83 (120 * v83_6) (Int.toNat v83_6) by assumption)
                  have hcv9 := sn_cv hbs9.2 (by omega) (fun j hj => (hTL j hj).1)
                  refine t_getE (pc := 135) (.ref (y + 39)) ht83 (rd_ov (by omega) (rd_ov (by omega) (rd_ov (by omega) (rd_ov (by omega) hO)))) fX12_127 dX12_price_135 rfl ?_
                  refine r_iload_n (pc := 138) dX12_price_138 (i := 3) rfl rfl ?_
                  refine t_laldX (pc := 139) (t0 := 1) ht83 (rd_ov (by omega) (rd_ov (by omega) (rd_of (ov_s _ _ _)))) dX12_price_139 rfl (by decide) (by omega) ?_
                  refine r_ldc2 (pc := 140) (v := 1000000000000) dX12_price_140 kX12_251 ?_
                  have hk140 : (1000000000000 : Int64).toInt = 1000000000000 := by decide
                  refine r_lcmp (pc := 143) dX12_price_143 ?_
                  have B152 : ∀ hp152 : MH, Tw (ov (ov (ov (ov Γ (y + 38) (xI cI 60 G39)) (y + 39) (xJ cJ 16 De83)) (y + 40) (xI cI 16 By83)) (y + 41) (xI cZ 16 Ah83)) hp152 → ∀  (u152_0 : Int), 0 ≤ u152_0 ∧ u152_0 ≤ 1 ∧ (u152_0 = 1 → (De83 (Int.toNat x3)).toInt < 1000000000000) → Rn (gG D cI cJ cZ cT lo b L xs) mX12_price d 152 [(0, .ref y), (1, .int (iv x1)), (2, .int (iv x2)), (3, .int (iv x3)), (4, .int (iv (Sz (Int.toNat x1))))] [.int (iv u152_0)] hp152 n 0 0 (pJ Γ n yes64) := by
                    intro hp152 ht152 u152_0 hf152
                    refine r_istore (pc := 152) (lv' := [(5, .int (iv u152_0)), (0, .ref y), (1, .int (iv x1)), (2, .int (iv x2)), (3, .int (iv x3)), (4, .int (iv (Sz (Int.toNat x1))))]) dX12_price_152 (by decide) rfl ?_
                    refine r_iload (pc := 154) dX12_price_154 rfl ?_
                    refine t_if_eq (pc := 156) (tgt := 39) dX12_price_156 (by decide) (by omega) (fun c156 => ?_) (fun c156 => ?_)
                    · refine Rn.pick (lv' := [(0, .ref y), (1, .int (iv x1)), (2, .int (iv x2)), (3, .int (iv x3)), (4, .int (iv (Sz (Int.toNat x1)))), (5, .int (iv u152_0))]) [1, 2, 3, 4, 5, 0] rfl ?_
                      exact ih39 (Int.toNat ((2 * (1000 * (((Int.toNat (Mn (Int.toNat x1))) : Nat) : Int) - nfR (arF Fr x1) (arF To x1) (((Int.toNat x2) : Nat) : Int) G39 (Int.toNat (Mn (Int.toNat x1)))) + u152_0))) (by omega) G39 De83 By83 Ah83 _ ht152 u152_0 ⟨by omega, by omega, by assumption, by assumption, by assumption, by assumption, by assumption, by assumption, by omega⟩ (by omega)
                    · refine r_aload_n (pc := 159) dX12_price_159 (i := 0) rfl rfl ?_
                      refine r_iload_n (pc := 160) dX12_price_160 (i := 1) rfl rfl ?_
                      refine r_iload_n (pc := 161) dX12_price_161 (i := 2) rfl rfl ?_
                      refine r_iload_n (pc := 162) dX12_price_162 (i := 3) rfl rfl ?_
                      obtain ⟨jy, hjy⟩ := hbs9.1.2.2.2 (Int.toNat x3) (by omega) (by show (De83 (Int.toNat x3)).toInt < 1000000000000; omega)
                      obtain ⟨j0, -, hj0⟩ := ex_rc _ _ hjy
                      obtain ⟨p1, hp1a, hp1b⟩ := pt_new hbs9.1 (by omega) hpt hcv9 (fun j hj => (hTL j hj).1) (fun j hj => (hTL j hj).2) (cs_all hR_cost (by omega) (by omega))
                      obtain ⟨fs19, hfs19⟩ := t_obj ht152 (rd_ov (by omega) (rd_ov (by omega) (rd_ov (by omega) (rd_ov (by omega) hO))))
                      refine r_callV (pc := 163) (as := [.int (iv x1), .int (iv x2), .int (iv x3)]) (st := []) kX12_376 rfl dX12_price_163 hfs19 (t_X12_pushx (d := d - 1) (Γ := prN Γ cI cJ cZ y De83 By83 Ah83) (x1 := x1) (x2 := x2) (x3 := x3) (Gn := G39) (Co := Co) (Dd := dtI De83) (pp := p1) (j0 := j0) (by omega) (rd_ov (by omega) (rd_ov (by omega) (rd_ov (by omega) hO))) (rd_ov (by omega) (rd_ov (by omega) (rd_ov (by omega) hA_from))) hR_from (rd_ov (by omega) (rd_ov (by omega) (rd_ov (by omega) hA_to))) hR_to (rd_ov (by omega) (rd_ov (by omega) (rd_ov (by omega) hA_weight))) hR_weight (rd_ov (by omega) (rd_ov (by omega) (rd_ov (by omega) hA_directs))) hR_directs (rd_ov (by omega) (rd_ov (by omega) (rd_ov (by omega) hA_many))) hR_many (rd_ov (by omega) (rd_ov (by omega) (rd_ov (by omega) hA_sizes))) hR_sizes (rd_ov (by omega) (rd_of (ov_s _ _ _))) (by assumption) (rd_of (ov_s _ _ _)) (by assumption) (by rw [← pr_sw]; exact ht152) (by omega) (by omega) (by omega) (by assumption) (wy_of hbs9.1 hcv9) hp1b hp1a (by assumption) hj0 (by show (De83 (Int.toNat x3)).toInt < 1000000000000; omega) (by omega) (by omega) (by omega)) rfl (by omega) (Nat.le_of_ble_eq_true rfl) (Nat.zero_le _) (Nat.zero_le _) rfl (fun r16 hp15 n17 hq18 => ?_)
                      obtain ⟨hnn17, hrr16, G163, ht21, hg1, hg2, hg3, hg4⟩ := hq18
                      subst n17 r16
                      change Rn _ _ _ 166 _ [] _ _ _ _ _
                      have ht20 : Tw (prN (ov Γ (y + 38) (xI cI 60 G163)) cI cJ cZ y De83 By83 Ah83) hp15 := by rw [pr_sw]; exact ht21
                      have hex163 : ∃ p : Nat → Int, ptR (tlR (arF Fr x1) (arF To x1)) (hdR (arF Fr x1) (arF To x1)) (rmR (arF Wt x1) (Dr (Int.toNat x1)) G163) (csR (arF Co x1) G163) (2 * (Int.toNat (Mn (Int.toNat x1)))) p := ⟨p1, hg3⟩
                      have hnf163 : nfR (arF Fr x1) (arF To x1) (((Int.toNat x2) : Nat) : Int) G163 (Int.toNat (Mn (Int.toNat x1))) ≤ 1000 * (((Int.toNat (Mn (Int.toNat x1))) : Nat) : Int) := nf_fi (dr := (Dr (Int.toNat x1))) hR_weight (by omega) (by omega) hg2
                      refine r_goto (pc := 166) (tgt := 39) dX12_price_166 (by decide) ?_
                      refine Rn.pick (lv' := [(0, .ref y), (1, .int (iv x1)), (2, .int (iv x2)), (3, .int (iv x3)), (4, .int (iv (Sz (Int.toNat x1)))), (5, .int (iv u152_0))]) [1, 2, 3, 4, 5, 0] rfl ?_
                      exact ih39 (Int.toNat ((2 * (1000 * (((Int.toNat (Mn (Int.toNat x1))) : Nat) : Int) - nfR (arF Fr x1) (arF To x1) (((Int.toNat x2) : Nat) : Int) G163 (Int.toNat (Mn (Int.toNat x1)))) + u152_0))) (by omega) G163 De83 By83 Ah83 _ ht20 u152_0 ⟨by omega, by omega, by assumption, by assumption, by assumption, by assumption, by assumption, by assumption, by omega⟩ (by omega)
                  refine t_lif_ge (pc := 144) (tgt := 151) dX12_price_144 (by decide) (fun c144 => ?_) (fun c144 => ?_)
                  · refine r_iconst (pc := 151) (v := iv 0) dX12_price_151 (by decide) ?_
                    refine Rn.pick (lv' := [(0, .ref y), (1, .int (iv x1)), (2, .int (iv x2)), (3, .int (iv x3)), (4, .int (iv (Sz (Int.toNat x1))))]) [0, 1, 2, 3, 4] rfl ?_
                    exact B152 _ ht83 0 ⟨by omega, by omega, by omega⟩
                  · refine r_iconst (pc := 147) (v := iv 1) dX12_price_147 (by decide) ?_
                    refine r_goto (pc := 148) (tgt := 152) dX12_price_148 (by decide) ?_
                    refine Rn.pick (lv' := [(0, .ref y), (1, .int (iv x1)), (2, .int (iv x2)), (3, .int (iv x3)), (4, .int (iv (Sz (Int.toNat x1))))]) [0, 1, 2, 3, 4] rfl ?_
                    exact B152 _ ht83 1 ⟨by omega, by omega, by omega⟩
                · refine r_iconst (pc := 92) (v := iv 0) dX12_price_92 (by decide) ?_
                  refine r_istore (pc := 93) (lv' := [(7, .int (iv 0)), (0, .ref y), (1, .int (iv x1)), (2, .int (iv x2)), (3, .int (iv x3)), (4, .int (iv (Sz (Int.toNat x1)))), (6, .int (iv v83_6))]) dX12_price_93 (by decide) rfl ?_
                  have B95 : ∀ k : Nat, ∀ De95 : Nat → Int64, ∀ By95 : Nat → Int, ∀ Ah95 : Nat → Int, ∀ hp95 : MH, Tw (ov (ov (ov (ov Γ (y + 38) (xI cI 60 G39)) (y + 39) (xJ cJ 16 De95)) (y + 40) (xI cI 16 By95)) (y + 41) (xI cZ 16 Ah95)) hp95 → ∀  (v95_7 : Int), 0 ≤ v95_7 ∧ v95_7 ≤ 60 ∧ v95_7 ≤ (Mn (Int.toNat x1)) ∧ brP (Int.toNat (Sz (Int.toNat x1))) (Int.toNat x2) (tlR (arF Fr x1) (arF To x1)) (hdR (arF Fr x1) (arF To x1)) (rmR (arF Wt x1) (Dr (Int.toNat x1)) G39) (csR (arF Co x1) G39) (2 * (Int.toNat (Mn (Int.toNat x1)))) pp De95 By95 Ah95 (120 * v83_6 + 2 * v95_7) (Int.toNat v83_6) (2 * Int.toNat v95_7) ∧ bdP De95 ∧ Rfx 16 0 59 By95 ∧ Rfx 16 0 1 Ah95 → 60 - v95_7 ≤ (k : Int) → Rn (gG D cI cJ cZ cT lo b L xs) mX12_price d 95 [(0, .ref y), (1, .int (iv x1)), (2, .int (iv x2)), (3, .int (iv x3)), (4, .int (iv (Sz (Int.toNat x1)))), (6, .int (iv v83_6)), (7, .int (iv v95_7))] [] hp95 n 0 0 (pJ Γ n yes64) := by
                    refine lpS _ ?_
                    intro k95 ih95 De95 By95 Ah95 hp95 ht95 v95_7 hf95 hm95
                    obtain ⟨hf95_0, hf95_1, hf95_2, ha95_3, ha95_4, ha95_5, ha95_6⟩ := hf95
                    refine r_iload (pc := 95) dX12_price_95 rfl ?_
                    refine r_aload_n (pc := 97) dX12_price_97 (i := 0) rfl rfl ?_
                    refine t_getE (pc := 98) (.ref (y + 4)) ht95 (rd_ov (by omega) (rd_ov (by omega) (rd_ov (by omega) (rd_ov (by omega) hO)))) fX12_20 dX12_price_98 rfl ?_
                    refine r_iload_n (pc := 101) dX12_price_101 (i := 1) rfl rfl ?_
                    refine t_ialdX (pc := 102) (t0 := 0) ht95 (rd_ov (by omega) (rd_ov (by omega) (rd_ov (by omega) (rd_ov (by omega) hA_many)))) dX12_price_102 rfl (by decide) (by omega) (fun b22 => ?_)
                    have rb22 := (show Rfx 121 0 60 Mn by assumption) (Int.toNat x1) (by omega)
                    refine t_icmp_ge (pc := 103) (tgt := 128) dX12_price_103 (by decide) (by omega) (by omega) (fun c103 => ?_) (fun c103 => ?_)
                    · refine r_iinc (pc := 128) (v := iv (v83_6 + 1)) (lv' := [(6, .int (iv (v83_6 + 1))), (0, .ref y), (1, .int (iv x1)), (2, .int (iv x2)), (3, .int (iv x3)), (4, .int (iv (Sz (Int.toNat x1)))), (7, .int (iv v95_7))]) dX12_price_128 rfl (iv_add _ _) (by decide) rfl ?_
                      have hbs128 : bsQ (Int.toNat (Sz (Int.toNat x1))) (Int.toNat x2) (tlR (arF Fr x1) (arF To x1)) (hdR (arF Fr x1) (arF To x1)) (rmR (arF Wt x1) (Dr (Int.toNat x1)) G39) (csR (arF Co x1) G39) (2 * (Int.toNat (Mn (Int.toNat x1)))) pp De95 By95 Ah95 (120 * (v83_6 + 1)) (Int.toNat (v83_6 + 1)) := by rw [show Int.toNat (v83_6 + 1) = Int.toNat v83_6 + 1 by omega]; exact br_end (show brP (Int.toNat (Sz (Int.toNat x1))) (Int.toNat x2) (tlR (arF Fr x1) (arF To x1)) (hdR (arF Fr x1) (arF To x1)) (rmR (arF Wt x1) (Dr (Int.toNat x1)) G39) (csR (arF Co x1) G39) (2 * (Int.toNat (Mn (Int.toNat x1)))) pp De95 By95 Ah95 (120 * v83_6 + 2 * v95_7) (Int.toNat v83_6) (2 * Int.toNat v95_7) by assumption) (by omega) (by omega)
                      refine r_goto (pc := 131) (tgt := 83) dX12_price_131 (by decide) ?_
                      refine Rn.pick (lv' := [(0, .ref y), (1, .int (iv x1)), (2, .int (iv x2)), (3, .int (iv x3)), (4, .int (iv (Sz (Int.toNat x1)))), (6, .int (iv (v83_6 + 1)))]) [1, 2, 3, 4, 5, 0] rfl ?_
                      exact ih83 (Int.toNat (17 - (v83_6 + 1))) (by omega) De95 By95 Ah95 _ ht95 (v83_6 + 1) ⟨by omega, by omega, by omega, by (first | assumption | exact hbs81), by assumption, by assumption, by assumption⟩ (by omega)
                    · refine r_aload_n (pc := 106) dX12_price_106 (i := 0) rfl rfl ?_
                      refine r_iload_n (pc := 107) dX12_price_107 (i := 1) rfl rfl ?_
                      refine r_iload (pc := 108) dX12_price_108 rfl ?_
                      refine r_iconst (pc := 110) (v := iv 1) dX12_price_110 (by decide) ?_
                      obtain ⟨fs27, hfs27⟩ := t_obj ht95 (rd_ov (by omega) (rd_ov (by omega) (rd_ov (by omega) (rd_ov (by omega) hO))))
                      refine r_callV (pc := 111) (as := [.int (iv x1), .int (iv v95_7), .int (iv 1)]) (st := []) kX12_372 rfl dX12_price_111 hfs27 (t_X12_relaxx (d := d - 1) (Γ := ov Γ (y + 38) (xI cI 60 G39)) (x1 := x1) (x2 := v95_7) (x3 := 1) (De := De95) (By := By95) (Ah := Ah95) (by omega) (rd_ov (by omega) hO) (rd_ov (by omega) hA_from) hR_from (rd_ov (by omega) hA_to) hR_to (rd_ov (by omega) hA_weight) hR_weight (rd_ov (by omega) hA_cost) hR_cost (rd_ov (by omega) hA_directs) hR_directs (rd_of (ov_s _ _ _)) (by assumption) ht95 (by omega) (by omega) (by omega) (by assumption)) rfl (by omega) (Nat.le_of_ble_eq_true rfl) (Nat.zero_le _) (Nat.zero_le _) rfl (fun r24 hp23 n25 hq26 => ?_)
                      obtain ⟨hnn25, hrr24, De111, By111, Ah111, ht28, hrl111⟩ := hq26
                      subst n25 r24
                      change Rn _ _ _ 114 _ [] _ _ _ _ _
                      rw [jx_1] at hrl111
                      have hen1 := hTL (2 * Int.toNat v95_7) (by omega)
                      have hcs1 := cs_all (G := G39) hR_cost (g := x1) (by omega) (m := (Int.toNat (Mn (Int.toNat x1)))) (by omega) (2 * Int.toNat v95_7) (by omega)
                      have hbb := (show brP (Int.toNat (Sz (Int.toNat x1))) (Int.toNat x2) (tlR (arF Fr x1) (arF To x1)) (hdR (arF Fr x1) (arF To x1)) (rmR (arF Wt x1) (Dr (Int.toNat x1)) G39) (csR (arF Co x1) G39) (2 * (Int.toNat (Mn (Int.toNat x1)))) pp De95 By95 Ah95 (120 * v83_6 + 2 * v95_7) (Int.toNat v83_6) (2 * Int.toNat v95_7) by assumption)
                      have hb1 := br_st hbb hpt (by omega) (jx_1 v95_7) hen1.1 hen1.2 hcs1 hrl111
                      have hd1 := bd_st hbb (by omega) (by assumption) hen1.1 hcs1 hrl111
                      have hRB111 : Rfx 16 0 59 By111 := rl_B hrl111 (by assumption) (by omega)
                      have hRA111 : Rfx 16 0 1 Ah111 := rl_A hrl111 (by assumption) (by omega)
                      refine r_aload_n (pc := 114) dX12_price_114 (i := 0) rfl rfl ?_
                      refine r_iload_n (pc := 115) dX12_price_115 (i := 1) rfl rfl ?_
                      refine r_iload (pc := 116) dX12_price_116 rfl ?_
                      refine r_iconst (pc := 118) (v := iv 0) dX12_price_118 (by decide) ?_
                      obtain ⟨fs33, hfs33⟩ := t_obj ht28 (rd_ov (by omega) (rd_ov (by omega) (rd_ov (by omega) (rd_ov (by omega) hO))))
                      refine r_callV (pc := 119) (as := [.int (iv x1), .int (iv v95_7), .int (iv 0)]) (st := []) kX12_372 rfl dX12_price_119 hfs33 (t_X12_relaxx (d := d - 1) (Γ := ov Γ (y + 38) (xI cI 60 G39)) (x1 := x1) (x2 := v95_7) (x3 := 0) (De := De111) (By := By111) (Ah := Ah111) (by omega) (rd_ov (by omega) hO) (rd_ov (by omega) hA_from) hR_from (rd_ov (by omega) hA_to) hR_to (rd_ov (by omega) hA_weight) hR_weight (rd_ov (by omega) hA_cost) hR_cost (rd_ov (by omega) hA_directs) hR_directs (rd_of (ov_s _ _ _)) (by assumption) ht28 (by omega) (by omega) (by omega) (by assumption)) rfl (by omega) (Nat.le_of_ble_eq_true rfl) (Nat.zero_le _) (Nat.zero_le _) rfl (fun r30 hp29 n31 hq32 => ?_)
                      obtain ⟨hnn31, hrr30, De119, By119, Ah119, ht34, hrl119⟩ := hq32
                      subst n31 r30
                      change Rn _ _ _ 122 _ [] _ _ _ _ _
                      rw [jx_0] at hrl119
                      have hen2 := hTL (2 * Int.toNat v95_7 + 1) (by omega)
                      have hcs2 := cs_all (G := G39) hR_cost (g := x1) (by omega) (m := (Int.toNat (Mn (Int.toNat x1)))) (by omega) (2 * Int.toNat v95_7 + 1) (by omega)
                      have hb2 := br_st hb1 hpt (by omega) (jx_0 v95_7) hen2.1 hen2.2 hcs2 hrl119
                      have hd2 := bd_st hb1 (by omega) hd1 hen2.1 hcs2 hrl119
                      have hRB119 : Rfx 16 0 59 By119 := rl_B hrl119 (by assumption) (by omega)
                      have hRA119 : Rfx 16 0 1 Ah119 := rl_A hrl119 (by assumption) (by omega)
                      refine r_iinc (pc := 122) (v := iv (v95_7 + 1)) (lv' := [(7, .int (iv (v95_7 + 1))), (0, .ref y), (1, .int (iv x1)), (2, .int (iv x2)), (3, .int (iv x3)), (4, .int (iv (Sz (Int.toNat x1)))), (6, .int (iv v83_6))]) dX12_price_122 rfl (iv_add _ _) (by decide) rfl ?_
                      refine r_goto (pc := 125) (tgt := 95) dX12_price_125 (by decide) ?_
                      refine Rn.pick (lv' := [(0, .ref y), (1, .int (iv x1)), (2, .int (iv x2)), (3, .int (iv x3)), (4, .int (iv (Sz (Int.toNat x1)))), (6, .int (iv v83_6)), (7, .int (iv (v95_7 + 1)))]) [1, 2, 3, 4, 5, 6, 0] rfl ?_
                      exact ih95 (Int.toNat (60 - (v95_7 + 1))) (by omega) De119 By119 Ah119 _ ht34 (v95_7 + 1) ⟨by omega, by omega, by omega, by (first | assumption | exact br_go (by assumption) (by omega) | (rw [show 2 * Int.toNat (v95_7 + 1) = 2 * Int.toNat v95_7 + 1 + 1 by omega]; exact br_mono hb2 (by omega))), by assumption, by assumption, by assumption⟩ (by omega)
                  refine Rn.pick (lv' := [(0, .ref y), (1, .int (iv x1)), (2, .int (iv x2)), (3, .int (iv x3)), (4, .int (iv (Sz (Int.toNat x1)))), (6, .int (iv v83_6)), (7, .int (iv 0))]) [1, 2, 3, 4, 5, 6, 0] rfl ?_
                  exact B95 (Int.toNat (60 - 0)) De83 By83 Ah83 _ ht83 0 ⟨by omega, by omega, by omega, by (first | assumption | exact br_go (by assumption) (by omega) | (rw [show 2 * Int.toNat (v95_7 + 1) = 2 * Int.toNat v95_7 + 1 + 1 by omega]; exact br_mono hb2 (by omega))), by assumption, by assumption, by assumption⟩ (by omega)
              refine Rn.pick (lv' := [(0, .ref y), (1, .int (iv x1)), (2, .int (iv x2)), (3, .int (iv x3)), (4, .int (iv (Sz (Int.toNat x1)))), (6, .int (iv 0))]) [1, 2, 3, 4, 5, 0] rfl ?_
              exact B83 (Int.toNat (17 - 0)) De47 By39 Ah39 _ ht47 0 ⟨by omega, by omega, by omega, by (first | assumption | exact hbs81), by assumption, by assumption, by assumption⟩ (by omega)
            · refine r_aload_n (pc := 54) dX12_price_54 (i := 0) rfl rfl ?_
              refine t_getE (pc := 55) (.ref (y + 39)) ht47 (rd_ov (by omega) (rd_ov (by omega) (rd_ov (by omega) (rd_ov (by omega) hO)))) fX12_127 dX12_price_55 rfl ?_
              refine r_iload (pc := 58) dX12_price_58 rfl ?_
              refine r_iload (pc := 60) dX12_price_60 rfl ?_
              refine r_iload_n (pc := 62) dX12_price_62 (i := 2) rfl rfl ?_
              have B73 : ∀ hp73 : MH, Tw (ov (ov (ov (ov Γ (y + 38) (xI cI 60 G39)) (y + 39) (xJ cJ 16 De47)) (y + 40) (xI cI 16 By39)) (y + 41) (xI cZ 16 Ah39)) hp73 → ∀  (x73_2 : Int64), x73_2.toInt = (if Int.toNat v47_6 = (Int.toNat x2) then 0 else 1000000000000) ∧ -1 ≤ x73_2.toInt ∧ x73_2.toInt ≤ 1000000000000 → Rn (gG D cI cJ cZ cT lo b L xs) mX12_price d 73 [(0, .ref y), (1, .int (iv x1)), (2, .int (iv x2)), (3, .int (iv x3)), (4, .int (iv (Sz (Int.toNat x1)))), (6, .int (iv v47_6))] [.long x73_2, .int (iv v47_6), .ref (y + 39)] hp73 n 0 0 (pJ Γ n yes64) := by
                intro hp73 ht73 x73_2 hf73
                obtain ⟨ha73_0, hf73_1, hf73_2⟩ := hf73
                refine t_lastX (pc := 73) (t0 := 1) ht73 (eq_ov (by omega) (eq_ov (by omega) (ov_s _ _ _))) dX12_price_73 rfl (by decide) (by omega) (fun hp35 ht36 => ?_)
                rw [ov_in3 (by omega) (by omega) ] at ht36
                have hdi73 : diP (Int.toNat (Sz (Int.toNat x1))) (Int.toNat x2) (fuj De47 (Int.toNat v47_6) x73_2) (v47_6 + 1) := di_up (by assumption) (by omega) (by assumption)
                have hbd73 : bdP (fuj De47 (Int.toNat v47_6) x73_2) := bd_up (by assumption) (by first | assumption | omega)
                refine r_iinc (pc := 74) (v := iv (v47_6 + 1)) (lv' := [(6, .int (iv (v47_6 + 1))), (0, .ref y), (1, .int (iv x1)), (2, .int (iv x2)), (3, .int (iv x3)), (4, .int (iv (Sz (Int.toNat x1))))]) dX12_price_74 rfl (iv_add _ _) (by decide) rfl ?_
                refine r_goto (pc := 77) (tgt := 47) dX12_price_77 (by decide) ?_
                refine Rn.pick (lv' := [(0, .ref y), (1, .int (iv x1)), (2, .int (iv x2)), (3, .int (iv x3)), (4, .int (iv (Sz (Int.toNat x1)))), (6, .int (iv (v47_6 + 1)))]) [1, 2, 3, 4, 5, 0] rfl ?_
                exact ih47 (Int.toNat (16 - (v47_6 + 1))) (by omega) (fuj De47 (Int.toNat v47_6) x73_2) _ ht36 (v47_6 + 1) ⟨by omega, by omega, by omega, by assumption, by assumption⟩ (by omega)
              refine t_icmp_ne (pc := 63) (tgt := 70) dX12_price_63 (by decide) (by omega) (by omega) (fun c63 => ?_) (fun c63 => ?_)
              · refine r_ldc2 (pc := 70) (v := 1000000000000) dX12_price_70 kX12_251 ?_
                have hk70 : (1000000000000 : Int64).toInt = 1000000000000 := by decide
                refine Rn.pick (lv' := [(0, .ref y), (1, .int (iv x1)), (2, .int (iv x2)), (3, .int (iv x3)), (4, .int (iv (Sz (Int.toNat x1)))), (6, .int (iv v47_6))]) [0, 1, 2, 3, 4, 5] rfl ?_
                exact B73 _ ht47 (1000000000000 : Int64) ⟨by (first | (rw [if_pos (show Int.toNat v47_6 = (Int.toNat x2) by omega)]; omega) | (rw [if_neg (show ¬ Int.toNat v47_6 = (Int.toNat x2) by omega)]; omega)), by omega, by omega⟩
              · refine r_lconst (pc := 66) (v := 0) dX12_price_66 (by decide) ?_
                have hk66 : (0 : Int64).toInt = 0 := by decide
                refine r_goto (pc := 67) (tgt := 73) dX12_price_67 (by decide) ?_
                refine Rn.pick (lv' := [(0, .ref y), (1, .int (iv x1)), (2, .int (iv x2)), (3, .int (iv x3)), (4, .int (iv (Sz (Int.toNat x1)))), (6, .int (iv v47_6))]) [0, 1, 2, 3, 4, 5] rfl ?_
                exact B73 _ ht47 (0 : Int64) ⟨by (first | (rw [if_pos (show Int.toNat v47_6 = (Int.toNat x2) by omega)]; omega) | (rw [if_neg (show ¬ Int.toNat v47_6 = (Int.toNat x2) by omega)]; omega)), by omega, by omega⟩
          refine Rn.pick (lv' := [(0, .ref y), (1, .int (iv x1)), (2, .int (iv x2)), (3, .int (iv x3)), (4, .int (iv (Sz (Int.toNat x1)))), (6, .int (iv 0))]) [1, 2, 3, 4, 5, 0] rfl ?_
          exact B47 (Int.toNat (16 - 0)) De39 _ ht39 0 ⟨by omega, by omega, by omega, by assumption, by assumption⟩ (by omega)
      refine Rn.pick (lv' := [(0, .ref y), (1, .int (iv x1)), (2, .int (iv x2)), (3, .int (iv x3)), (4, .int (iv (Sz (Int.toNat x1)))), (5, .int (iv 1))]) [1, 2, 3, 4, 5, 0] rfl ?_
      exact B39 (Int.toNat ((2 * (1000 * (((Int.toNat (Mn (Int.toNat x1))) : Nat) : Int) - nfR (arF Fr x1) (arF To x1) (((Int.toNat x2) : Nat) : Int) G11 (Int.toNat (Mn (Int.toNat x1)))) + 1))) G11 De0 By0 Ah0 _ ht11 1 ⟨by omega, by omega, by assumption, by assumption, by assumption, by assumption, by assumption, by assumption, by omega⟩ (by omega)
    · refine r_aload_n (pc := 22) dX12_price_22 (i := 0) rfl rfl ?_
      refine t_getE (pc := 23) (.ref (y + 38)) ht11 (rd_ov (by omega) (rd_ov (by omega) (rd_ov (by omega) (rd_ov (by omega) hO)))) fX12_124 dX12_price_23 rfl ?_
      refine r_iload (pc := 26) dX12_price_26 rfl ?_
      refine r_iconst (pc := 28) (v := iv 0) dX12_price_28 (by decide) ?_
      refine t_iastX (pc := 29) (t0 := 0) ht11 (eq_ov (by omega) (eq_ov (by omega) (eq_ov (by omega) (ov_s _ _ _)))) dX12_price_29 rfl (by decide) (by omega) (by omega) (fun hp37 ht38 => ?_)
      rw [ov_in4 (by omega) (by omega) (by omega) ] at ht38
      have hgi29 : giP (fup G11 (Int.toNat v11_5) 0) (v11_5 + 1) := gi_up (by assumption) (by omega)
      have hRG29 : Rfx 60 (-1000) 1000 (fup G11 (Int.toNat v11_5) 0) := Rfx_up (by assumption) (by omega)
      refine r_iinc (pc := 30) (v := iv (v11_5 + 1)) (lv' := [(5, .int (iv (v11_5 + 1))), (0, .ref y), (1, .int (iv x1)), (2, .int (iv x2)), (3, .int (iv x3)), (4, .int (iv (Sz (Int.toNat x1))))]) dX12_price_30 rfl (iv_add _ _) (by decide) rfl ?_
      refine r_goto (pc := 33) (tgt := 11) dX12_price_33 (by decide) ?_
      refine Rn.pick (lv' := [(0, .ref y), (1, .int (iv x1)), (2, .int (iv x2)), (3, .int (iv x3)), (4, .int (iv (Sz (Int.toNat x1)))), (5, .int (iv (v11_5 + 1)))]) [1, 2, 3, 4, 5, 0] rfl ?_
      exact ih11 (Int.toNat (60 - (v11_5 + 1))) (by omega) (fup G11 (Int.toNat v11_5) 0) _ ht38 (v11_5 + 1) ⟨by omega, by omega, by omega, by assumption, by assumption⟩ (by omega)
  refine Rn.pick (lv' := [(0, .ref y), (1, .int (iv x1)), (2, .int (iv x2)), (3, .int (iv x3)), (4, .int (iv (Sz (Int.toNat x1)))), (5, .int (iv 0))]) [2, 3, 4, 5, 1, 0] rfl ?_
  exact B11 (Int.toNat (60 - 0)) G0 _ htd 0 ⟨by omega, by omega, by omega, by assumption, by assumption⟩ (by omega)
