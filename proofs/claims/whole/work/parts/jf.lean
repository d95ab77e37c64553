/-- what a question about one graph is answered with -/
def akB (n m : Nat) (d : Int) (F T W C : Nat → Int) (what x y r : Int) : Prop :=
  (what = 0 → orA m d F T n x.toNat r) ∧ (what = 1 → rgA m d F T r) ∧ (what = 2 → sdA m F T n x.toNat r) ∧
  (what = 3 → clA (fun i j => ¬ joA m F T i j) (((2 ^ n : Nat) : Int) - 1) r) ∧ (what = 4 → clA (joA m F T) (((2 ^ n : Nat) : Int) - 1) r) ∧
  (what = 5 → coA (joA m F T) (Me (((2 ^ n : Nat) : Int) - 1)) r) ∧ (what = 6 → wdA (joA m F T) (Me (((2 ^ n : Nat) : Int) - 1)) r) ∧
  (what = 7 → maA (joA m F T) (Me (((2 ^ n : Nat) : Int) - 1)) r) ∧ (what = 8 → msA (joA m F T) n r ∧ 0 ≤ r) ∧
  (what = 9 → r = trQ (wB m F T) n (bS (2 ^ n - 1)) % 1000000007) ∧ (what = 10 → lwA m F T W (-1) r) ∧ (what = 11 → lwA m F T W x r) ∧
  (what = 12 → mcA m d 0 F T W n x.toNat y.toNat r) ∧ (what = 13 → mcS m d 0 F T W n x.toNat y.toNat r) ∧
  (what = 14 → prcA m d F T W C x.toNat y.toNat r) ∧ (what = 15 → mcA m d 1 F T W n x.toNat y.toNat r)
theorem ak_uq {n m : Nat} {d : Int} {F T W C : Nat → Int} {what x y r q : Int} (hn : n ≤ 16) (hF : ∀ k, k < m → (0 ≤ F k ∧ F k < (n : Int)) ∧ (0 ≤ T k ∧ T k < (n : Int))) (hw : 0 ≤ what ∧ what ≤ 15) (hx : what = 0 ∨ what = 2 → 0 ≤ x ∧ x < (n : Int)) (h : akB n m d F T W C what x y r) (h' : akB n m d F T W C what x y q) : r = q := by
  obtain ⟨a0, a1, a2, a3, a4, a5, a6, a7, a8, a9, a10, a11, a12, a13, a14, a15⟩ := h
  obtain ⟨b0, b1, b2, b3, b4, b5, b6, b7, b8, b9, b10, b11, b12, b13, b14, b15⟩ := h'
  by_cases e0 : what = 0
  · exact or_uq (by have := hx (Or.inl e0); omega) (a0 e0) (b0 e0)
  by_cases e1 : what = 1
  · exact rg_uq (a1 e1) (b1 e1)
  by_cases e2 : what = 2
  · exact sd_uq hF (by have := hx (Or.inr e2); omega) (a2 e2) (b2 e2)
  by_cases e3 : what = 3
  · exact cl_uqn hn (a3 e3) (b3 e3)
  by_cases e4 : what = 4
  · exact cl_uqn hn (a4 e4) (b4 e4)
  by_cases e5 : what = 5
  · exact coa_uq (a5 e5) (b5 e5)
  by_cases e6 : what = 6
  · exact wdt_uq (a6 e6) (b6 e6)
  by_cases e7 : what = 7
  · exact ma_uq (a7 e7) (b7 e7)
  by_cases e8 : what = 8
  · exact ms_uq (a8 e8).2 (b8 e8).2 (a8 e8).1 (b8 e8).1
  by_cases e9 : what = 9
  · rw [a9 e9, b9 e9]
  by_cases e10 : what = 10
  · exact lw_uq (a10 e10) (b10 e10)
  by_cases e11 : what = 11
  · exact lw_uq (a11 e11) (b11 e11)
  by_cases e12 : what = 12
  · exact mc_uq (a12 e12) (b12 e12)
  by_cases e13 : what = 13
  · exact mcs_uq (a13 e13) (b13 e13)
  by_cases e14 : what = 14
  · exact pr_uq (a14 e14) (b14 e14)
  · exact mc_uq (a15 (by omega)) (b15 (by omega))
/-- what a question about two graphs is answered with -/
def alB (N D M N' D' M' : Int) (F T W C F' T' W' C' : Nat → Int) (what x r : Int) : Prop :=
  ((N' = N ∧ D' = D ∧ M' = M) ∧ ∃ im, lxA (isP M.toNat D F T W C F' T' W' C') N im ∧ r = (if what = 17 then im x.toNat else 1)) ∨
  (¬ ((N' = N ∧ D' = D ∧ M' = M) ∧ ∃ im, vaP (isP M.toNat D F T W C F' T' W' C') N im) ∧ r = (if what = 17 then -1 else 0))
theorem al_uq {N D M N' D' M' : Int} {F T W C F' T' W' C' : Nat → Int} {what x r q : Int} (hx : what = 17 → 0 ≤ x ∧ x < N) (h : alB N D M N' D' M' F T W C F' T' W' C' what x r) (h' : alB N D M N' D' M' F T W C F' T' W' C' what x q) : r = q := by
  rcases h with ⟨h1, im, h2, h3⟩ | ⟨h1, h3⟩
  · rcases h' with ⟨g1, im2, g2, g3⟩ | ⟨g1, g3⟩
    · rw [h3, g3]
      by_cases e : what = 17
      · rw [if_pos e, if_pos e]; exact lx_uq h2 g2 _ (by have := hx e; omega)
      · rw [if_neg e, if_neg e]
    · exact absurd ⟨h1, im, h2.1⟩ g1
  · rcases h' with ⟨g1, im2, g2, g3⟩ | ⟨g1, g3⟩
    · exact absurd ⟨g1, im2, g2.1⟩ h1
    · rw [h3, g3]
/-- what ask answers, told by the numbers -/
def akN (sz dr mn fr tt wt co : Nat → Int) (g what x y v : Int) : Prop :=
  (what ≤ 15 → akB (sz g.toNat).toNat (mn g.toNat).toNat (dr g.toNat) (sh fr (60 * g)) (sh tt (60 * g)) (sh wt (60 * g)) (sh co (60 * g)) what x y v) ∧
  (16 ≤ what → alB (sz g.toNat) (dr g.toNat) (mn g.toNat) (sz y.toNat) (dr y.toNat) (mn y.toNat) (sh fr (60 * g)) (sh tt (60 * g)) (sh wt (60 * g)) (sh co (60 * g)) (sh fr (60 * y)) (sh tt (60 * y)) (sh wt (60 * y)) (sh co (60 * y)) what x v)
theorem akn_uq {sz dr mn fr tt wt co : Nat → Int} {g what x y : Int} {v q : Int64} (hn : 0 ≤ sz g.toNat ∧ sz g.toNat ≤ 16) (hF : ∀ k : Nat, (k : Int) < mn g.toNat → (0 ≤ sh fr (60 * g) k ∧ sh fr (60 * g) k < sz g.toNat) ∧ (0 ≤ sh tt (60 * g) k ∧ sh tt (60 * g) k < sz g.toNat)) (hw : 0 ≤ what ∧ what ≤ 17) (hx : what = 0 ∨ what = 2 ∨ what = 17 → 0 ≤ x ∧ x < sz g.toNat) (h : akN sz dr mn fr tt wt co g what x y v.toInt) (h' : akN sz dr mn fr tt wt co g what x y q.toInt) : v = q := by
  refine Int64.toInt_inj.mp ?_
  by_cases e : what ≤ 15
  · refine ak_uq (by omega) (fun k hk => ?_) (by omega) (fun q => ?_) (h.1 e) (h'.1 e)
    · have := hF k (by omega)
      omega
    · have := hx (q.elim Or.inl (fun q => Or.inr (Or.inl q)))
      omega
  · exact al_uq (fun q => hx (Or.inr (Or.inr q))) (h.2 (by omega)) (h'.2 (by omega))
/-- the cells of pairs, opened and closed -/
theorem PrS_op {Γ : TG} {cI cJ cZ : ClassId} {s : Nat} {hp : MH} (hf : TyPairs Γ cI cJ cZ s) (ht : Tw Γ hp) : ∃ (W qd : Int) (mt pa ba Q : Nat → Int), Rfx 16 (-1) 15 mt ∧ Rfx 16 (-1) 15 pa ∧ Rfx 16 0 15 ba ∧ Rfx 16 0 15 Q ∧ (0 ≤ W ∧ W ≤ 16) ∧ (0 ≤ qd ∧ qd ≤ 65535) ∧ Tw (PrS Γ cI s W qd mt pa ba Q) hp := by
  obtain ⟨hO, h1, h2, h3, h4⟩ := hf
  obtain ⟨W, hW0, hW1, t1⟩ := Tw.openF 4 ht (rd_of hO) rfl
  obtain ⟨qd, hq0, hq1, t2⟩ := Tw.openF 5 t1 (rd_of (ov_s _ _ _)) rfl
  rw [ov_ov] at t2
  obtain ⟨mt, hm, t3⟩ := (Tw.ovr t2 (eq_ov (show s + 1 ≠ s by omega) h1)).unI
  obtain ⟨pa, hp1, t4⟩ := (Tw.ovr t3 (eq_ov (show s + 2 ≠ s + 1 by omega) (eq_ov (show s + 2 ≠ s by omega) h2))).unI
  obtain ⟨ba, hb, t5⟩ := (Tw.ovr t4 (eq_ov (show s + 3 ≠ s + 2 by omega) (eq_ov (show s + 3 ≠ s + 1 by omega) (eq_ov (show s + 3 ≠ s by omega) h3)))).unI
  obtain ⟨Q, hQ, t6⟩ := (Tw.ovr t5 (eq_ov (show s + 4 ≠ s + 3 by omega) (eq_ov (show s + 4 ≠ s + 2 by omega) (eq_ov (show s + 4 ≠ s + 1 by omega) (eq_ov (show s + 4 ≠ s by omega) h4))))).unI
  exact ⟨W, qd, mt, pa, ba, Q, fun i hi => (hm i hi).1, fun i hi => (hp1 i hi).1, fun i hi => (hb i hi).1, fun i hi => (hQ i hi).1, ⟨hW0, hW1⟩, ⟨hq0, hq1⟩, t6⟩
theorem PrS_cl {Γ : TG} {cI cJ cZ : ClassId} {s : Nat} {hp : MH} {W qd : Int} {mt pa ba Q : Nat → Int} (hf : TyPairs Γ cI cJ cZ s) (hm : Rfx 16 (-1) 15 mt) (hp1 : Rfx 16 (-1) 15 pa) (hb : Rfx 16 0 15 ba) (hQ : Rfx 16 0 15 Q) (hW : 0 ≤ W ∧ W ≤ 16) (hq : 0 ≤ qd ∧ qd ≤ 65535) (ht : Tw (PrS Γ cI s W qd mt pa ba Q) hp) : Tw Γ hp := by
  obtain ⟨h0, h1, h2, h3, h4⟩ := hf
  have t1 := Tw.closeI ht (eq_ov (by omega) (eq_ov (by omega) (eq_ov (by omega) (eq_ov (by omega) h4)))) hQ
  have t2 := Tw.closeI t1 (eq_ov (by omega) (eq_ov (by omega) (eq_ov (by omega) h3))) hb
  have t3 := Tw.closeI t2 (eq_ov (by omega) (eq_ov (by omega) h2)) hp1
  have t4 := Tw.closeI t3 (eq_ov (by omega) h1) hm
  exact Tw.weak t4 h0 (fun e he => tO_close (Fs := [fE (.ref (s + 1)), fE (.ref (s + 2)), fE (.ref (s + 3)), fE (.ref (s + 4)), fI 0 16, fI 0 65535]) (k := 4) (w := .int (iv W)) rfl ⟨W, rfl, hW.1, hW.2⟩ e (tO_close (Fs := [fE (.ref (s + 1)), fE (.ref (s + 2)), fE (.ref (s + 3)), fE (.ref (s + 4)), fE (.int (iv W)), fI 0 65535]) (k := 5) (w := .int (iv qd)) rfl ⟨qd, rfl, hq.1, hq.2⟩ e he))
