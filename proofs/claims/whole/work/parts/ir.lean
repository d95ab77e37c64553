theorem xI_ex {cA : ClassId} {N : Nat} {f g : Nat → Int} (h : ∀ i, i < N → f i = g i) : xI cA N f = xI cA N g := by
  funext e
  exact propext ⟨fun q => tI_imp (fun i v hi hv => hv.trans (h i hi)) e q, fun q => tI_imp (fun i v hi hv => hv.trans (h i hi).symm) e q⟩
theorem ba_id {Γ : TG} {cI : ClassId} {s : Nat} {W qd i : Int} {mt pa ba Q : Nat → Int} {hp : MH} (h : idR ba i) (hi : 16 ≤ i) (ht : Tw (PrS Γ cI s W qd mt pa ba Q) hp) : Tw (PrS Γ cI s W qd mt pa (fun y => (y : Int)) Q) hp := by
  have e : xI cI 16 ba = xI cI 16 (fun y => (y : Int)) := xI_ex (fun j hj => h j (by omega))
  have t0 : Tw (ov (ov (ov (ov (ov Γ s (tO 4 (prG9 s W qd))) (s + 1) (xI cI 16 mt)) (s + 2) (xI cI 16 pa)) (s + 3) (xI cI 16 ba)) (s + 4) (xI cI 16 Q)) hp := ht
  rw [e] at t0
  exact t0
section SR
variable {R : Nat → Nat → Prop} {S : Nat → Prop} {mt pa ba Q : Nat → Int} {W qd i u : Int} {root : Nat}
theorem sr_0 (hM : vmP R S mt) (hr : S root) (hm : mt root < 0) (hp : ∀ x, pa x < 0) (hb : ∀ x : Nat, ba x = (x : Int)) (hq : quI Q W qd) (hqr : ∀ x, Me qd x ↔ x = root) : srI R S mt pa ba Q W qd root 0 0 := ⟨bm_0 hM hr hm hp hb hqr, hq, fun j hj => by omega, fun w hw => by omega⟩
/-- the next neighbour, with whatever a step has changed -/
theorem sr_st {pa1 ba1 Q1 : Nat → Int} {W1 qd1 : Int} (h : srI R S mt pa ba Q W qd root i u) (hi : 0 ≤ i ∧ i < W) (hu : 0 ≤ u) (hI : ∃ rk L, bmI R S mt pa1 ba1 (fun x => Me qd1 x) root rk L) (hq1 : quI Q1 W1 qd1) (hm : moP Q Q1 W W1 qd qd1 ba ba1 pa pa1) (hok : S u.toNat → R (Q i.toNat).toNat u.toNat → u.toNat ≠ (Q i.toNat).toNat → okN Q1 qd1 ba1 pa1 (Q i.toNat).toNat u.toNat (i + 1)) : srI R S mt pa1 ba1 Q1 W1 qd1 root i (u + 1) := by
  obtain ⟨h1, h2, h3, h4⟩ := h
  have eQ : ∀ j : Nat, (j : Int) < W → Q1 j = Q j := hm.2.1
  refine ⟨hI, hq1, fun j hj w hw hR hne => ?_, fun w hw hS hR hne => ?_⟩
  · rw [eQ j (by omega)] at hR hne ⊢
    exact ok_mo h2 hq1 hm (by omega) (h3 j hj w hw hR hne)
  · rw [eQ i.toNat (by omega)] at hR hne ⊢
    by_cases c : (w : Int) < u
    · exact ok_mo h2 hq1 hm (by omega) (h4 w c hS hR hne)
    · have e : w = u.toNat := by omega
      rw [e] at hS hR hne ⊢
      exact hok hS hR hne
theorem sr_v (h : srI R S mt pa ba Q W qd root i u) (hi : 0 ≤ i ∧ i < W) : Me qd (Q i.toNat).toNat ∧ (((Q i.toNat).toNat : Nat) : Int) = Q i.toNat := by
  have h1 := h.2.1.2.1 i.toNat (by omega)
  have e : (((Q i.toNat).toNat : Nat) : Int) = Q i.toNat := by omega
  exact ⟨(h.2.1.2.2.1 _).mpr ⟨i.toNat, by omega, e.symm⟩, e⟩
theorem ok_be {rk : Nat → Nat} {L : Nat → List Nat} {b : Int} {v w : Nat} (hI : bmI R S mt pa ba (fun x => Me qd x) root rk L) (hv : Me qd v) (e : ba w = ba v) : okN Q qd ba pa v w b := Or.inl ⟨Classical.byContradiction (fun g => by
  obtain ⟨c, c1, c2, -⟩ := hI.2.2.1.1 v hv
  have h1 := hI.2.2.1.2 w g
  rw [show c = w by omega] at c2
  exact g c2), Or.inl e⟩
theorem ok_mt {rk : Nat → Nat} {L : Nat → List Nat} {b : Int} {v w : Nat} (hI : bmI R S mt pa ba (fun x => Me qd x) root rk L) (hv : Me qd v) (e : mt v = (w : Int)) : okN Q qd ba pa v w b := by
  have ew : mN mt v = w := by unfold mN; omega
  have hr := bm_n0 hI hv e
  by_cases c : ba v = (v : Int)
  · have h1 := hI.2.2.2.2.1 v hv c hr
    obtain ⟨z, z1, -⟩ := hI.2.2.2.2.2.1 v hv hr
    rw [ew] at h1 z1
    exact Or.inr ⟨h1, by omega⟩
  · obtain ⟨-, h2, h3⟩ := hI.2.2.2.1 v hv c
    rw [ew] at h2 h3
    exact Or.inl ⟨h2, Or.inl h3⟩
/-- a new node and its partner -/
theorem sr_add {rk : Nat → Nat} {L : Nat → List Nat} {Q1 : Nat → Int} {W1 qd1 : Int} {v w : Nat} (hI : bmI R S mt pa ba (fun x => Me qd x) root rk L) (hv : Me qd v) (hw : S w) (hn : ¬ Me qd w) (hp : pa w < 0) (hm : 0 ≤ mt w) (hR : R v w) (he : ∀ y, Me qd1 y ↔ Me qd y ∨ y = mN mt w) (hW : W ≤ W1) (hQ : ∀ j : Nat, (j : Int) < W → Q1 j = Q j) : (∃ rk L, bmI R S mt (fup pa w (v : Int)) ba (fun x => Me qd1 x) root rk L) ∧ moP Q Q1 W W1 qd qd1 ba ba pa (fup pa w (v : Int)) ∧ ∀ b, okN Q1 qd1 ba (fup pa w (v : Int)) v w b := by
  refine ⟨bm_add hI hv hw hn hp hm hR he, ⟨hW, hQ, fun x hx => (he x).mpr (Or.inl hx), fun _ _ e => e, fun x hx => ?_⟩, fun b => Or.inr ⟨fun g => ?_, ?_⟩⟩
  · by_cases c : x = w
    · rw [show fup pa w (v : Int) x = (v : Int) from if_pos c]; omega
    · rw [show fup pa w (v : Int) x = pa x from if_neg c]; exact hx
  · rcases (he w).mp g with q | q
    · exact hn q
    · exact (bm_mt hI hw hm).2.2.2.1 q.symm
  · rw [show fup pa w (v : Int) w = (v : Int) from if_pos rfl]; omega
end SR
