def inV (Fr To Dr : Nat → Int) (g e v : Int) : Int := if To (60 * g + e).toNat = v then Fr (60 * g + e).toNat else if Dr g.toNat = 0 ∧ Fr (60 * g + e).toNat = v then To (60 * g + e).toNat else -1
def gsP (Wt : Nat → Int) (g e kind : Int) (bound : Int64) : Prop := kind ≠ 2 ∨ bound.toInt ≤ Wt (60 * g + e).toNat
def wkV (Wt : Nat → Int) (g e kind : Int) : Int := if kind = 0 then Wt (60 * g + e).toNat else 0
def laQ (Fr To Dr Wt : Nat → Int) (Bs : Nat → Int64) (g kind : Int) (bound : Int64) (e v q : Int) (b : Int64) : Prop := 0 ≤ inV Fr To Dr g e v ∧ gsP Wt g e kind bound ∧ (Bs (16 * (q - 1) + inV Fr To Dr g e v).toNat).toInt < 1000000000000 ∧ (Bs (16 * (q - 1) + inV Fr To Dr g e v).toNat + (iv (wkV Wt g e kind)).toInt64).toInt = b.toInt
def laP (Fr To Dr Wt : Nat → Int) (Bs : Nat → Int64) (g kind : Int) (bound : Int64) (e v q : Int) : Prop := laQ Fr To Dr Wt Bs g kind bound e v q (Bs (16 * q + v).toNat)
theorem inV_r {Fr To Dr : Nat → Int} {g e v : Int} (hF : Rfx 7260 0 15 Fr) (hT : Rfx 7260 0 15 To) (hg : 0 ≤ g ∧ g ≤ 120) (he : 0 ≤ e ∧ e ≤ 59) : -1 ≤ inV Fr To Dr g e v ∧ inV Fr To Dr g e v ≤ 15 := by
  have h1 := hF (60 * g + e).toNat (by omega)
  have h2 := hT (60 * g + e).toNat (by omega)
  unfold inV
  (repeat' split) <;> omega
def dpP (Fr To Dr Wt : Nat → Int) (Bs : Nat → Int64) (g kind : Int) (bound : Int64) (m n K V : Int) : Prop := ∀ k v : Int, 1 ≤ k → 0 ≤ v → v < n → (k < K ∨ (k = K ∧ v < V)) → (Bs (16 * k + v).toNat).toInt < 1000000000000 → ∃ e : Int, 0 ≤ e ∧ e < m ∧ laP Fr To Dr Wt Bs g kind bound e v k
def bxP (Fr To Dr Wt : Nat → Int) (Bs : Nat → Int64) (g kind : Int) (bound : Int64) (E v q : Int) (b : Int64) : Prop := b.toInt < 1000000000000 → ∃ e : Int, 0 ≤ e ∧ e < E ∧ laQ Fr To Dr Wt Bs g kind bound e v q b
theorem laQ_fuj {Fr To Dr Wt : Nat → Int} {Bs : Nat → Int64} {g kind : Int} {bound : Int64} {e v q : Int} {b b1 : Int64} {i : Nat} (h : laQ Fr To Dr Wt Bs g kind bound e v q b) (hi : (16 * (q - 1) + inV Fr To Dr g e v).toNat ≠ i) : laQ Fr To Dr Wt (fuj Bs i b1) g kind bound e v q b := by
  unfold laQ at h ⊢
  have e1 : fuj Bs i b1 (16 * (q - 1) + inV Fr To Dr g e v).toNat = Bs (16 * (q - 1) + inV Fr To Dr g e v).toNat := by simp [fuj, hi]
  rw [e1]; exact h
theorem dp_up {Fr To Dr Wt : Nat → Int} {Bs : Nat → Int64} {g kind : Int} {bound : Int64} {m n K V : Int} {b : Int64} (hF : Rfx 7260 0 15 Fr) (hT : Rfx 7260 0 15 To) (hg : 0 ≤ g ∧ g ≤ 120) (hm : m ≤ 60) (hK : 0 ≤ K ∧ K ≤ 16 ∧ 0 ≤ V ∧ V < n ∧ n ≤ 16) (h : dpP Fr To Dr Wt Bs g kind bound m n K V) (hb : 1 ≤ K → bxP Fr To Dr Wt Bs g kind bound m V K b) : dpP Fr To Dr Wt (fuj Bs (16 * K + V).toNat b) g kind bound m n K (V + 1) := by
  intro k v h1 h2 h3 h4 h5
  by_cases hc : k = K ∧ v = V
  · obtain ⟨rfl, rfl⟩ := hc
    have e1 : fuj Bs (16 * k + v).toNat b (16 * k + v).toNat = b := by simp [fuj]
    rw [e1] at h5
    obtain ⟨e, q1, q2, q3⟩ := hb h1 h5
    refine ⟨e, q1, q2, ?_⟩
    have r := inV_r (Dr := Dr) (v := v) hF hT hg (show 0 ≤ e ∧ e ≤ 59 by omega)
    unfold laP
    rw [e1]
    exact laQ_fuj q3 (by omega)
  · have hne : (16 * k + v).toNat ≠ (16 * K + V).toNat := by omega
    have e1 : fuj Bs (16 * K + V).toNat b (16 * k + v).toNat = Bs (16 * k + v).toNat := by simp [fuj, hne]
    rw [e1] at h5
    obtain ⟨e, q1, q2, q3⟩ := h k v h1 h2 h3 (by omega) h5
    refine ⟨e, q1, q2, ?_⟩
    have r := inV_r (Dr := Dr) (v := v) hF hT hg (show 0 ≤ e ∧ e ≤ 59 by omega)
    unfold laP at q3 ⊢
    rw [e1]
    exact laQ_fuj q3 (by omega)
theorem dp_row {Fr To Dr Wt : Nat → Int} {Bs : Nat → Int64} {g kind : Int} {bound : Int64} {m n K V : Int} (h : dpP Fr To Dr Wt Bs g kind bound m n K V) (hV : n ≤ V) : dpP Fr To Dr Wt Bs g kind bound m n (K + 1) 0 := by
  intro k v h1 h2 h3 h4 h5
  exact h k v h1 h2 h3 (by omega) h5
theorem dp_0 (Fr To Dr Wt : Nat → Int) (Bs : Nat → Int64) (g kind : Int) (bound : Int64) (m n : Int) : dpP Fr To Dr Wt Bs g kind bound m n 0 0 := by
  intro k v h1 h2 h3 h4 h5
  omega
theorem bxq_0 {Fr To Dr Wt : Nat → Int} {Bs : Nat → Int64} {g kind : Int} {bound : Int64} {v q : Int} {b : Int64} (h : 1000000000000 ≤ b.toInt) : bxP Fr To Dr Wt Bs g kind bound 0 v q b := fun h1 => by omega
theorem bxq_st {Fr To Dr Wt : Nat → Int} {Bs : Nat → Int64} {g kind : Int} {bound : Int64} {E v q : Int} {b : Int64} (h : bxP Fr To Dr Wt Bs g kind bound E v q b) : bxP Fr To Dr Wt Bs g kind bound (E + 1) v q b := fun h1 => by
  obtain ⟨e, q1, q2, q3⟩ := h h1
  exact ⟨e, q1, by omega, q3⟩
theorem bxq_new {Fr To Dr Wt : Nat → Int} {Bs : Nat → Int64} {g kind : Int} {bound : Int64} {E v q : Int} {b : Int64} (hE : 0 ≤ E) (h : laQ Fr To Dr Wt Bs g kind bound E v q b) : bxP Fr To Dr Wt Bs g kind bound (E + 1) v q b := fun _ => ⟨E, hE, by omega, h⟩
def pS (Γ : TG) (cJ : ClassId) (y n : Nat) (Q : (Nat → Int64) → Prop) : Option Value → MH → Nat → Prop := fun r hp1 n1 => n1 = n ∧ r = none ∧ ∃ Bs : Nat → Int64, Tw (ov Γ (y + 27) (xJ cJ 272 Bs)) hp1 ∧ Q Bs
def enP (Fr To Mn Sz : Nat → Int) (g : Int) : Prop := ∀ e : Int, 0 ≤ e → e < Mn g.toNat → Fr (60 * g + e).toNat < Sz g.toNat ∧ To (60 * g + e).toNat < Sz g.toNat
theorem inV_n {Fr To Dr Mn Sz : Nat → Int} {g e v : Int} (h : enP Fr To Mn Sz g) (he : 0 ≤ e ∧ e < Mn g.toNat) (h0 : 0 ≤ inV Fr To Dr g e v) : inV Fr To Dr g e v < Sz g.toNat := by
  obtain ⟨h1, h2⟩ := h e he.1 he.2
  unfold inV at h0 ⊢
  revert h0
  (repeat' split) <;> omega
def lxP (Fr To Dr Wt : Nat → Int) (Bs : Nat → Int64) (g kind : Int) (bound : Int64) (m E v q : Int) : Prop := ∃ e : Int, E ≤ e ∧ e < m ∧ laP Fr To Dr Wt Bs g kind bound e v q
theorem lx_st {Fr To Dr Wt : Nat → Int} {Bs : Nat → Int64} {g kind : Int} {bound : Int64} {m E v q : Int} (h : lxP Fr To Dr Wt Bs g kind bound m E v q) (hn : ¬ laP Fr To Dr Wt Bs g kind bound E v q) : lxP Fr To Dr Wt Bs g kind bound m (E + 1) v q := by
  obtain ⟨e, h1, h2, h3⟩ := h
  refine ⟨e, ?_, h2, h3⟩
  have : e ≠ E := fun h => hn (h ▸ h3)
  omega
theorem lx_lt {Fr To Dr Wt : Nat → Int} {Bs : Nat → Int64} {g kind : Int} {bound : Int64} {m E v q : Int} (h : lxP Fr To Dr Wt Bs g kind bound m E v q) : E < m := by
  obtain ⟨e, h1, h2, h3⟩ := h
  omega
theorem lx_0 {Fr To Dr Wt : Nat → Int} {Bs : Nat → Int64} {g kind : Int} {bound : Int64} {m n K v q : Int} (h : dpP Fr To Dr Wt Bs g kind bound m n K 0) (h1 : 1 ≤ q) (h2 : 0 ≤ v ∧ v < n) (h3 : q < K) (h4 : (Bs (16 * q + v).toNat).toInt < 1000000000000) : lxP Fr To Dr Wt Bs g kind bound m 0 v q := by
  obtain ⟨e, q1, q2, q3⟩ := h q v h1 h2.1 h2.2 (Or.inl h3) h4
  exact ⟨e, q1, q2, q3⟩
theorem la_in {Fr To Dr Wt : Nat → Int} {Bs : Nat → Int64} {g kind : Int} {bound : Int64} {e v q : Int} (h : laP Fr To Dr Wt Bs g kind bound e v q) : 0 ≤ inV Fr To Dr g e v ∧ (Bs (16 * (q - 1) + inV Fr To Dr g e v).toNat).toInt < 1000000000000 := by
  unfold laP laQ at h
  exact ⟨h.1, h.2.2.1⟩
set_option maxHeartbeats 4000000 in
set_option maxRecDepth 100000 in
theorem t_X12_at1x {D : va_G} {cI cJ cZ cT : ClassId} {lo b L : Nat} {xs : Nat → Int32} {hp : MH} {n d : Nat} {Γ : TG} {x1 x2 : Int} (hd0 : 0 ≤ d) (ht : Tw Γ hp) (hx1 : 0 ≤ x1 ∧ x1 ≤ 120) (hx2 : 0 ≤ x2 ∧ x2 ≤ 59) : Mt (gG D cI cJ cZ cT lo b L xs) mX12_at1 d 0 0 [.int (iv x1), .int (iv x2)] hp n (pI Γ n (fun r => r = 60 * x1 + x2)) := by
  refine Mt.of rfl (Nat.le_of_ble_eq_true rfl) ?_
  refine Rn.pick (lv' := [(0, .int (iv x1)), (1, .int (iv x2))]) [0, 1] rfl ?_
  refine r_bipush (pc := 0) (v := iv 60) dX12_at1_0 (by decide) ?_
  refine r_iload_n (pc := 2) dX12_at1_2 (i := 0) rfl rfl ?_
  refine r_imul (pc := 3) (v := iv (60 * x1)) dX12_at1_3 (iv_mul _ _) ?_
  refine r_iload_n (pc := 4) dX12_at1_4 (i := 1) rfl rfl ?_
  refine r_iadd (pc := 5) (v := iv ((60 * x1) + x2)) dX12_at1_5 (iv_add _ _) ?_
  exact r_iret (pc := 6) dX12_at1_6 rfl ⟨rfl, ht, _, rfl, rfl⟩
set_option maxHeartbeats 4000000 in
set_option maxRecDepth 100000 in
theorem t_X12_intox {D : va_G} {cI cJ cZ cT : ClassId} {lo b L : Nat} {xs : Nat → Int32} {hp : MH} {n d : Nat} {Γ : TG} {y : Nat} {rf cnt nm : Int32} {Fr To Dr : Nat → Int} {x1 x2 x3 : Int} (hd0 : 1 ≤ d) (hO : rd Γ y (tO 11 (mdF y rf cnt nm))) (hA_from : rd Γ (y + 5) (xI cI 7260 Fr)) (hR_from : Rfx 7260 0 15 Fr) (hA_to : rd Γ (y + 6) (xI cI 7260 To)) (hR_to : Rfx 7260 0 15 To) (hA_directs : rd Γ (y + 3) (xI cZ 121 Dr)) (hR_directs : Rfx 121 0 1 Dr) (ht : Tw Γ hp) (hx1 : 0 ≤ x1 ∧ x1 ≤ 120) (hx2 : 0 ≤ x2 ∧ x2 ≤ 59) (hx3 : 0 ≤ x3 ∧ x3 ≤ 15) : Mt (gG D cI cJ cZ cT lo b L xs) mX12_into d 0 0 [.ref y, .int (iv x1), .int (iv x2), .int (iv x3)] hp n (pI Γ n (fun r => r = inV Fr To Dr x1 x2 x3)) := by
  refine Mt.of rfl (Nat.le_of_ble_eq_true rfl) ?_
  refine Rn.pick (lv' := [(0, .ref y), (1, .int (iv x1)), (2, .int (iv x2)), (3, .int (iv x3))]) [0, 1, 2, 3] rfl ?_
  refine r_iload_n (pc := 0) dX12_into_0 (i := 1) rfl rfl ?_
  refine r_iload_n (pc := 1) dX12_into_1 (i := 2) rfl rfl ?_
  refine t_callSI (pc := 2) (as := [.int (iv x1), .int (iv x2)]) (st := []) kX12_157 dX12_into_2 (t_X12_at1x (d := d - 1) (x1 := x1) (x2 := x2) (by omega)  ht (by omega) (by omega)) rfl (by omega) (Nat.le_of_ble_eq_true rfl) rfl (fun hp1 y3 ht2 by3 => ?_)
  have ey3 : y3 = 60 * x1 + x2 := by3
  subst ey3
  refine r_istore (pc := 5) (lv' := [(4, .int (iv (60 * x1 + x2))), (0, .ref y), (1, .int (iv x1)), (2, .int (iv x2)), (3, .int (iv x3))]) dX12_into_5 (by decide) rfl ?_
  refine r_aload_n (pc := 7) dX12_into_7 (i := 0) rfl rfl ?_
  refine t_getE (pc := 8) (.ref (y + 6)) ht2 hO fX12_26 dX12_into_8 rfl ?_
  refine r_iload (pc := 11) dX12_into_11 rfl ?_
  refine t_ialdX (pc := 13) (t0 := 0) ht2 hA_to dX12_into_13 rfl (by decide) (by omega) (fun b4 => ?_)
  have rb4 := (show Rfx 7260 0 15 To by assumption) (Int.toNat (60 * x1 + x2)) (by omega)
  refine r_iload_n (pc := 14) dX12_into_14 (i := 3) rfl rfl ?_
  refine t_icmp_ne (pc := 15) (tgt := 28) dX12_into_15 (by decide) (by omega) (by omega) (fun c15 => ?_) (fun c15 => ?_)
  · refine r_aload_n (pc := 28) dX12_into_28 (i := 0) rfl rfl ?_
    refine t_getE (pc := 29) (.ref (y + 3)) ht2 hO fX12_16 dX12_into_29 rfl ?_
    refine r_iload_n (pc := 32) dX12_into_32 (i := 1) rfl rfl ?_
    refine t_zaldX (pc := 33) (t0 := 2) ht2 hA_directs dX12_into_33 rfl (by decide) (by omega) (fun b5 => ?_)
    have rb5 := (show Rfx 121 0 1 Dr by assumption) (Int.toNat x1) (by omega)
    refine t_if_ne (pc := 34) (tgt := 58) dX12_into_34 (by decide) (by omega) (fun c34 => ?_) (fun c34 => ?_)
    · refine r_iconst (pc := 58) (v := iv (-1)) dX12_into_58 (by decide) ?_
      exact r_iret (pc := 59) dX12_into_59 rfl ⟨rfl, ht2, _, rfl, by show _ = inV Fr To Dr x1 x2 x3; unfold inV; (repeat' split) <;> omega⟩
    · refine r_aload_n (pc := 37) dX12_into_37 (i := 0) rfl rfl ?_
      refine t_getE (pc := 38) (.ref (y + 5)) ht2 hO fX12_23 dX12_into_38 rfl ?_
      refine r_iload (pc := 41) dX12_into_41 rfl ?_
      refine t_ialdX (pc := 43) (t0 := 0) ht2 hA_from dX12_into_43 rfl (by decide) (by omega) (fun b6 => ?_)
      have rb6 := (show Rfx 7260 0 15 Fr by assumption) (Int.toNat (60 * x1 + x2)) (by omega)
      refine r_iload_n (pc := 44) dX12_into_44 (i := 3) rfl rfl ?_
      refine t_icmp_ne (pc := 45) (tgt := 58) dX12_into_45 (by decide) (by omega) (by omega) (fun c45 => ?_) (fun c45 => ?_)
      · refine r_iconst (pc := 58) (v := iv (-1)) dX12_into_58 (by decide) ?_
        exact r_iret (pc := 59) dX12_into_59 rfl ⟨rfl, ht2, _, rfl, by show _ = inV Fr To Dr x1 x2 x3; unfold inV; (repeat' split) <;> omega⟩
      · refine r_aload_n (pc := 48) dX12_into_48 (i := 0) rfl rfl ?_
        refine t_getE (pc := 49) (.ref (y + 6)) ht2 hO fX12_26 dX12_into_49 rfl ?_
        refine r_iload (pc := 52) dX12_into_52 rfl ?_
        refine t_ialdX (pc := 54) (t0 := 0) ht2 hA_to dX12_into_54 rfl (by decide) (by omega) (fun b7 => ?_)
        have rb7 := (show Rfx 7260 0 15 To by assumption) (Int.toNat (60 * x1 + x2)) (by omega)
        refine r_goto (pc := 55) (tgt := 59) dX12_into_55 (by decide) ?_
        exact r_iret (pc := 59) dX12_into_59 rfl ⟨rfl, ht2, _, rfl, by show _ = inV Fr To Dr x1 x2 x3; unfold inV; (repeat' split) <;> omega⟩
  · refine r_aload_n (pc := 18) dX12_into_18 (i := 0) rfl rfl ?_
    refine t_getE (pc := 19) (.ref (y + 5)) ht2 hO fX12_23 dX12_into_19 rfl ?_
    refine r_iload (pc := 22) dX12_into_22 rfl ?_
    refine t_ialdX (pc := 24) (t0 := 0) ht2 hA_from dX12_into_24 rfl (by decide) (by omega) (fun b8 => ?_)
    have rb8 := (show Rfx 7260 0 15 Fr by assumption) (Int.toNat (60 * x1 + x2)) (by omega)
    refine r_goto (pc := 25) (tgt := 59) dX12_into_25 (by decide) ?_
    exact r_iret (pc := 59) dX12_into_59 rfl ⟨rfl, ht2, _, rfl, by show _ = inV Fr To Dr x1 x2 x3; unfold inV; (repeat' split) <;> omega⟩
set_option maxHeartbeats 4000000 in
set_option maxRecDepth 100000 in
theorem t_X12_goesx {D : va_G} {cI cJ cZ cT : ClassId} {lo b L : Nat} {xs : Nat → Int32} {hp : MH} {n d : Nat} {Γ : TG} {y : Nat} {rf cnt nm : Int32} {Wt : Nat → Int} {x1 x2 x3 : Int} {j4 : Int64} (hd0 : 1 ≤ d) (hO : rd Γ y (tO 11 (mdF y rf cnt nm))) (hA_weight : rd Γ (y + 7) (xI cI 7260 Wt)) (hR_weight : Rfx 7260 (-1000) 1000 Wt) (ht : Tw Γ hp) (hx1 : 0 ≤ x1 ∧ x1 ≤ 120) (hx2 : 0 ≤ x2 ∧ x2 ≤ 59) (hx3 : 0 ≤ x3 ∧ x3 ≤ 2) : Mt (gG D cI cJ cZ cT lo b L xs) mX12_goes d 0 0 [.ref y, .int (iv x1), .int (iv x2), .int (iv x3), .long j4] hp n (pI Γ n (fun r => (0 ≤ r ∧ r ≤ 1) ∧ (r = 1 ↔ gsP Wt x1 x2 x3 j4))) := by
  refine Mt.of rfl (Nat.le_of_ble_eq_true rfl) ?_
  refine Rn.pick (lv' := [(0, .ref y), (1, .int (iv x1)), (2, .int (iv x2)), (3, .int (iv x3)), (4, .long j4)]) [0, 1, 2, 3, 4] rfl ?_
  refine r_iload_n (pc := 0) dX12_goes_0 (i := 3) rfl rfl ?_
  refine r_iconst (pc := 1) (v := iv 2) dX12_goes_1 (by decide) ?_
  refine t_icmp_ne (pc := 2) (tgt := 22) dX12_goes_2 (by decide) (by omega) (by omega) (fun c2 => ?_) (fun c2 => ?_)
  · refine r_iconst (pc := 22) (v := iv 1) dX12_goes_22 (by decide) ?_
    refine r_goto (pc := 23) (tgt := 27) dX12_goes_23 (by decide) ?_
    exact r_zret (pc := 27) dX12_goes_27 rfl (iv_nar (by omega)) ⟨rfl, ht, _, rfl, by omega, by unfold gsP; omega⟩
  · refine r_aload_n (pc := 5) dX12_goes_5 (i := 0) rfl rfl ?_
    refine t_getE (pc := 6) (.ref (y + 7)) ht hO fX12_29 dX12_goes_6 rfl ?_
    refine r_iload_n (pc := 9) dX12_goes_9 (i := 1) rfl rfl ?_
    refine r_iload_n (pc := 10) dX12_goes_10 (i := 2) rfl rfl ?_
    refine t_callSI (pc := 11) (as := [.int (iv x1), .int (iv x2)]) (st := [.ref (y + 7)]) kX12_157 dX12_goes_11 (t_X12_at1x (d := d - 1) (x1 := x1) (x2 := x2) (by omega)  ht (by omega) (by omega)) rfl (by omega) (Nat.le_of_ble_eq_true rfl) rfl (fun hp1 y3 ht2 by3 => ?_)
    have ey3 : y3 = 60 * x1 + x2 := by3
    subst ey3
    refine t_ialdX (pc := 14) (t0 := 0) ht2 hA_weight dX12_goes_14 rfl (by decide) (by omega) (fun b4 => ?_)
    have rb4 := (show Rfx 7260 (-1000) 1000 Wt by assumption) (Int.toNat (60 * x1 + x2)) (by omega)
    refine r_i2l (pc := 15) (v := (iv (Wt (Int.toNat (60 * x1 + x2)))).toInt64) dX12_goes_15 rfl ?_
    have hl9 := iv_long (x := Wt (Int.toNat (60 * x1 + x2))) (by omega)
    refine r_lload (pc := 16) dX12_goes_16 rfl ?_
    refine r_lcmp (pc := 18) dX12_goes_18 ?_
    refine t_lif_lt (pc := 19) (tgt := 26) dX12_goes_19 (by decide) (fun c19 => ?_) (fun c19 => ?_)
    · refine r_iconst (pc := 26) (v := iv 0) dX12_goes_26 (by decide) ?_
      exact r_zret (pc := 27) dX12_goes_27 rfl (iv_nar (by omega)) ⟨rfl, ht2, _, rfl, by omega, by unfold gsP; omega⟩
    · refine r_iconst (pc := 22) (v := iv 1) dX12_goes_22 (by decide) ?_
      refine r_goto (pc := 23) (tgt := 27) dX12_goes_23 (by decide) ?_
      exact r_zret (pc := 27) dX12_goes_27 rfl (iv_nar (by omega)) ⟨rfl, ht2, _, rfl, by omega, by unfold gsP; omega⟩
set_option maxHeartbeats 4000000 in
set_option maxRecDepth 100000 in
theorem t_X12_isLastx {D : va_G} {cI cJ cZ cT : ClassId} {lo b L : Nat} {xs : Nat → Int32} {hp : MH} {n d : Nat} {Γ : TG} {y : Nat} {rf cnt nm : Int32} {Fr To Dr Wt : Nat → Int} {Bs : Nat → Int64} {x1 x2 x4 x5 x6 : Int} {j3 : Int64} (hd0 : 2 ≤ d) (hO : rd Γ y (tO 11 (mdF y rf cnt nm))) (hA_from : rd Γ (y + 5) (xI cI 7260 Fr)) (hR_from : Rfx 7260 0 15 Fr) (hA_to : rd Γ (y + 6) (xI cI 7260 To)) (hR_to : Rfx 7260 0 15 To) (hA_directs : rd Γ (y + 3) (xI cZ 121 Dr)) (hR_directs : Rfx 121 0 1 Dr) (hA_weight : rd Γ (y + 7) (xI cI 7260 Wt)) (hR_weight : Rfx 7260 (-1000) 1000 Wt) (hA_best : rd Γ (y + 27) (xJ cJ 272 Bs)) (ht : Tw Γ hp) (hx1 : 0 ≤ x1 ∧ x1 ≤ 120) (hx2 : 0 ≤ x2 ∧ x2 ≤ 2) (hx4 : 0 ≤ x4 ∧ x4 ≤ 59) (hx5 : 0 ≤ x5 ∧ x5 ≤ 15) (hx6 : 1 ≤ x6 ∧ x6 ≤ 16) : Mt (gG D cI cJ cZ cT lo b L xs) mX12_isLast d 0 0 [.ref y, .int (iv x1), .int (iv x2), .long j3, .int (iv x4), .int (iv x5), .int (iv x6)] hp n (pI Γ n (fun r => (0 ≤ r ∧ r ≤ 1) ∧ (r = 1 ↔ laP Fr To Dr Wt Bs x1 x2 j3 x4 x5 x6))) := by
  refine Mt.of rfl (Nat.le_of_ble_eq_true rfl) ?_
  refine Rn.pick (lv' := [(0, .ref y), (1, .int (iv x1)), (2, .int (iv x2)), (3, .long j3), (5, .int (iv x4)), (6, .int (iv x5)), (7, .int (iv x6))]) [0, 1, 2, 3, 4, 5, 6] rfl ?_
  refine r_aload_n (pc := 0) dX12_isLast_0 (i := 0) rfl rfl ?_
  refine r_iload_n (pc := 1) dX12_isLast_1 (i := 1) rfl rfl ?_
  refine r_iload (pc := 2) dX12_isLast_2 rfl ?_
  refine r_iload (pc := 4) dX12_isLast_4 rfl ?_
  refine t_callVI (pc := 6) (as := [.int (iv x1), .int (iv x4), .int (iv x5)]) (st := []) ht hO kX12_253 rfl dX12_isLast_6 (t_X12_intox (d := d - 1) (x1 := x1) (x2 := x4) (x3 := x5) (by omega) hO hA_from (show Rfx 7260 0 15 Fr by assumption) hA_to (show Rfx 7260 0 15 To by assumption) hA_directs (show Rfx 121 0 1 Dr by assumption) ht (by omega) (by omega) (by omega)) rfl (by omega) (Nat.le_of_ble_eq_true rfl) rfl (fun hp1 y3 ht2 by3 => ?_)
  have ey3 : y3 = inV Fr To Dr x1 x4 x5 := by3
  subst ey3
  have ry3 := inV_r (Fr := Fr) (To := To) (Dr := Dr) (g := x1) (e := x4) (v := x5) (by assumption) (by assumption) (by omega) (by omega)
  refine r_istore (pc := 9) (lv' := [(8, .int (iv (inV Fr To Dr x1 x4 x5))), (0, .ref y), (1, .int (iv x1)), (2, .int (iv x2)), (3, .long j3), (5, .int (iv x4)), (6, .int (iv x5)), (7, .int (iv x6))]) dX12_isLast_9 (by decide) rfl ?_
  refine r_iload (pc := 11) dX12_isLast_11 rfl ?_
  refine t_if_lt (pc := 13) (tgt := 107) dX12_isLast_13 (by decide) (by omega) (fun c13 => ?_) (fun c13 => ?_)
  · refine r_iconst (pc := 107) (v := iv 0) dX12_isLast_107 (by decide) ?_
    exact r_zret (pc := 108) dX12_isLast_108 rfl (iv_nar (by omega)) ⟨rfl, ht2, _, rfl, by omega, fun h9 => by omega, fun h9 => by unfold laP laQ at h9; obtain ⟨h1, h2, h3, h4⟩ := h9; first | omega | (have h5 := hgo.mpr h2; omega) | (unfold wkV at h4; first | (rw [if_pos (show x2 = 0 by omega)] at h4; omega) | (rw [if_neg (show ¬ x2 = 0 by omega)] at h4; omega))⟩
  · refine r_aload_n (pc := 16) dX12_isLast_16 (i := 0) rfl rfl ?_
    refine r_iload_n (pc := 17) dX12_isLast_17 (i := 1) rfl rfl ?_
    refine r_iload (pc := 18) dX12_isLast_18 rfl ?_
    refine r_iload_n (pc := 20) dX12_isLast_20 (i := 2) rfl rfl ?_
    refine r_lload_n (pc := 21) dX12_isLast_21 (i := 3) rfl rfl ?_
    refine t_callVI (pc := 22) (as := [.int (iv x1), .int (iv x4), .int (iv x2), .long j3]) (st := []) ht2 hO kX12_256 rfl dX12_isLast_22 (t_X12_goesx (d := d - 1) (x1 := x1) (x2 := x4) (x3 := x2) (j4 := j3) (by omega) hO hA_weight (show Rfx 7260 (-1000) 1000 Wt by assumption) ht2 (by omega) (by omega) (by omega)) rfl (by omega) (Nat.le_of_ble_eq_true rfl) rfl (fun hp4 y6 ht5 by6 => ?_)
    obtain ⟨by61, hgo⟩ := by6
    refine t_if_eq (pc := 25) (tgt := 107) dX12_isLast_25 (by decide) (by omega) (fun c25 => ?_) (fun c25 => ?_)
    · refine r_iconst (pc := 107) (v := iv 0) dX12_isLast_107 (by decide) ?_
      exact r_zret (pc := 108) dX12_isLast_108 rfl (iv_nar (by omega)) ⟨rfl, ht5, _, rfl, by omega, fun h9 => by omega, fun h9 => by unfold laP laQ at h9; obtain ⟨h1, h2, h3, h4⟩ := h9; first | omega | (have h5 := hgo.mpr h2; omega) | (unfold wkV at h4; first | (rw [if_pos (show x2 = 0 by omega)] at h4; omega) | (rw [if_neg (show ¬ x2 = 0 by omega)] at h4; omega))⟩
    · refine r_aload_n (pc := 28) dX12_isLast_28 (i := 0) rfl rfl ?_
      refine t_getE (pc := 29) (.ref (y + 27)) ht5 hO fX12_91 dX12_isLast_29 rfl ?_
      refine r_bipush (pc := 32) (v := iv 16) dX12_isLast_32 (by decide) ?_
      refine r_iload (pc := 34) dX12_isLast_34 rfl ?_
      refine r_iconst (pc := 36) (v := iv 1) dX12_isLast_36 (by decide) ?_
      refine r_isub (pc := 37) (v := iv (x6 - 1)) dX12_isLast_37 (iv_sub _ _) ?_
      refine r_imul (pc := 38) (v := iv (16 * (x6 - 1))) dX12_isLast_38 (iv_mul _ _) ?_
      refine r_iload (pc := 39) dX12_isLast_39 rfl ?_
      refine r_iadd (pc := 41) (v := iv ((16 * (x6 - 1)) + (inV Fr To Dr x1 x4 x5))) dX12_isLast_41 (iv_add _ _) ?_
      refine t_laldX (pc := 42) (t0 := 1) ht5 hA_best dX12_isLast_42 rfl (by decide) (by omega) ?_
      refine r_ldc2 (pc := 43) (v := 1000000000000) dX12_isLast_43 kX12_251 ?_
      have hk43 : (1000000000000 : Int64).toInt = 1000000000000 := by decide
      refine r_lcmp (pc := 46) dX12_isLast_46 ?_
      refine t_lif_ge (pc := 47) (tgt := 107) dX12_isLast_47 (by decide) (fun c47 => ?_) (fun c47 => ?_)
      · refine r_iconst (pc := 107) (v := iv 0) dX12_isLast_107 (by decide) ?_
        exact r_zret (pc := 108) dX12_isLast_108 rfl (iv_nar (by omega)) ⟨rfl, ht5, _, rfl, by omega, fun h9 => by omega, fun h9 => by unfold laP laQ at h9; obtain ⟨h1, h2, h3, h4⟩ := h9; first | omega | (have h5 := hgo.mpr h2; omega) | (unfold wkV at h4; first | (rw [if_pos (show x2 = 0 by omega)] at h4; omega) | (rw [if_neg (show ¬ x2 = 0 by omega)] at h4; omega))⟩
      · refine r_aload_n (pc := 50) dX12_isLast_50 (i := 0) rfl rfl ?_
        refine t_getE (pc := 51) (.ref (y + 27)) ht5 hO fX12_91 dX12_isLast_51 rfl ?_
        refine r_bipush (pc := 54) (v := iv 16) dX12_isLast_54 (by decide) ?_
        refine r_iload (pc := 56) dX12_isLast_56 rfl ?_
        refine r_iconst (pc := 58) (v := iv 1) dX12_isLast_58 (by decide) ?_
        refine r_isub (pc := 59) (v := iv (x6 - 1)) dX12_isLast_59 (iv_sub _ _) ?_
        refine r_imul (pc := 60) (v := iv (16 * (x6 - 1))) dX12_isLast_60 (iv_mul _ _) ?_
        refine r_iload (pc := 61) dX12_isLast_61 rfl ?_
        refine r_iadd (pc := 63) (v := iv ((16 * (x6 - 1)) + (inV Fr To Dr x1 x4 x5))) dX12_isLast_63 (iv_add _ _) ?_
        refine t_laldX (pc := 64) (t0 := 1) ht5 hA_best dX12_isLast_64 rfl (by decide) (by omega) ?_
        refine r_iload_n (pc := 65) dX12_isLast_65 (i := 2) rfl rfl ?_
        refine t_if_ne (pc := 66) (tgt := 83) dX12_isLast_66 (by decide) (by omega) (fun c66 => ?_) (fun c66 => ?_)
        · refine r_iconst (pc := 83) (v := iv 0) dX12_isLast_83 (by decide) ?_
          refine r_i2l (pc := 84) (v := (iv 0).toInt64) dX12_isLast_84 rfl ?_
          refine r_ladd (pc := 85) (v := (Bs (Int.toNat ((16 * (x6 - 1)) + (inV Fr To Dr x1 x4 x5)))) + ((iv 0).toInt64)) dX12_isLast_85 rfl ?_
          refine r_aload_n (pc := 86) dX12_isLast_86 (i := 0) rfl rfl ?_
          refine t_getE (pc := 87) (.ref (y + 27)) ht5 hO fX12_91 dX12_isLast_87 rfl ?_
          refine r_bipush (pc := 90) (v := iv 16) dX12_isLast_90 (by decide) ?_
          refine r_iload (pc := 92) dX12_isLast_92 rfl ?_
          refine r_imul (pc := 94) (v := iv (16 * x6)) dX12_isLast_94 (iv_mul _ _) ?_
          refine r_iload (pc := 95) dX12_isLast_95 rfl ?_
          refine r_iadd (pc := 97) (v := iv ((16 * x6) + x5)) dX12_isLast_97 (iv_add _ _) ?_
          refine t_laldX (pc := 98) (t0 := 1) ht5 hA_best dX12_isLast_98 rfl (by decide) (by omega) ?_
          refine r_lcmp (pc := 99) dX12_isLast_99 ?_
          refine t_lif_ne (pc := 100) (tgt := 107) dX12_isLast_100 (by decide) (fun c100 => ?_) (fun c100 => ?_)
          · refine r_iconst (pc := 107) (v := iv 0) dX12_isLast_107 (by decide) ?_
            exact r_zret (pc := 108) dX12_isLast_108 rfl (iv_nar (by omega)) ⟨rfl, ht5, _, rfl, by omega, fun h9 => by omega, fun h9 => by unfold laP laQ at h9; obtain ⟨h1, h2, h3, h4⟩ := h9; first | omega | (have h5 := hgo.mpr h2; omega) | (unfold wkV at h4; first | (rw [if_pos (show x2 = 0 by omega)] at h4; omega) | (rw [if_neg (show ¬ x2 = 0 by omega)] at h4; omega))⟩
          · refine r_iconst (pc := 103) (v := iv 1) dX12_isLast_103 (by decide) ?_
            refine r_goto (pc := 104) (tgt := 108) dX12_isLast_104 (by decide) ?_
            exact r_zret (pc := 108) dX12_isLast_108 rfl (iv_nar (by omega)) ⟨rfl, ht5, _, rfl, by omega, fun _ => by unfold laP laQ; exact ⟨by omega, hgo.mp (by omega), by omega, by (unfold wkV; first | (rw [if_pos (show x2 = 0 by omega)]; omega) | (rw [if_neg (show ¬ x2 = 0 by omega)]; omega))⟩, fun _ => rfl⟩
        · refine r_aload_n (pc := 69) dX12_isLast_69 (i := 0) rfl rfl ?_
          refine t_getE (pc := 70) (.ref (y + 7)) ht5 hO fX12_29 dX12_isLast_70 rfl ?_
          refine r_iload_n (pc := 73) dX12_isLast_73 (i := 1) rfl rfl ?_
          refine r_iload (pc := 74) dX12_isLast_74 rfl ?_
          refine t_callSI (pc := 76) (as := [.int (iv x1), .int (iv x4)]) (st := [.ref (y + 7), .long (Bs (Int.toNat ((16 * (x6 - 1)) + (inV Fr To Dr x1 x4 x5))))]) kX12_157 dX12_isLast_76 (t_X12_at1x (d := d - 1) (x1 := x1) (x2 := x4) (by omega)  ht5 (by omega) (by omega)) rfl (by omega) (Nat.le_of_ble_eq_true rfl) rfl (fun hp7 y9 ht8 by9 => ?_)
          have ey9 : y9 = 60 * x1 + x4 := by9
          subst ey9
          refine t_ialdX (pc := 79) (t0 := 0) ht8 hA_weight dX12_isLast_79 rfl (by decide) (by omega) (fun b10 => ?_)
          have rb10 := (show Rfx 7260 (-1000) 1000 Wt by assumption) (Int.toNat (60 * x1 + x4)) (by omega)
          refine r_goto (pc := 80) (tgt := 84) dX12_isLast_80 (by decide) ?_
          refine r_i2l (pc := 84) (v := (iv (Wt (Int.toNat (60 * x1 + x4)))).toInt64) dX12_isLast_84 rfl ?_
          refine r_ladd (pc := 85) (v := (Bs (Int.toNat ((16 * (x6 - 1)) + (inV Fr To Dr x1 x4 x5)))) + ((iv (Wt (Int.toNat (60 * x1 + x4)))).toInt64)) dX12_isLast_85 rfl ?_
          refine r_aload_n (pc := 86) dX12_isLast_86 (i := 0) rfl rfl ?_
          refine t_getE (pc := 87) (.ref (y + 27)) ht8 hO fX12_91 dX12_isLast_87 rfl ?_
          refine r_bipush (pc := 90) (v := iv 16) dX12_isLast_90 (by decide) ?_
          refine r_iload (pc := 92) dX12_isLast_92 rfl ?_
          refine r_imul (pc := 94) (v := iv (16 * x6)) dX12_isLast_94 (iv_mul _ _) ?_
          refine r_iload (pc := 95) dX12_isLast_95 rfl ?_
          refine r_iadd (pc := 97) (v := iv ((16 * x6) + x5)) dX12_isLast_97 (iv_add _ _) ?_
          refine t_laldX (pc := 98) (t0 := 1) ht8 hA_best dX12_isLast_98 rfl (by decide) (by omega) ?_
          refine r_lcmp (pc := 99) dX12_isLast_99 ?_
          refine t_lif_ne (pc := 100) (tgt := 107) dX12_isLast_100 (by decide) (fun c100 => ?_) (fun c100 => ?_)
          · refine r_iconst (pc := 107) (v := iv 0) dX12_isLast_107 (by decide) ?_
            exact r_zret (pc := 108) dX12_isLast_108 rfl (iv_nar (by omega)) ⟨rfl, ht8, _, rfl, by omega, fun h9 => by omega, fun h9 => by unfold laP laQ at h9; obtain ⟨h1, h2, h3, h4⟩ := h9; first | omega | (have h5 := hgo.mpr h2; omega) | (unfold wkV at h4; first | (rw [if_pos (show x2 = 0 by omega)] at h4; omega) | (rw [if_neg (show ¬ x2 = 0 by omega)] at h4; omega))⟩
          · refine r_iconst (pc := 103) (v := iv 1) dX12_isLast_103 (by decide) ?_
            refine r_goto (pc := 104) (tgt := 108) dX12_isLast_104 (by decide) ?_
            exact r_zret (pc := 108) dX12_isLast_108 rfl (iv_nar (by omega)) ⟨rfl, ht8, _, rfl, by omega, fun _ => by unfold laP laQ; exact ⟨by omega, hgo.mp (by omega), by omega, by (unfold wkV; first | (rw [if_pos (show x2 = 0 by omega)]; omega) | (rw [if_neg (show ¬ x2 = 0 by omega)]; omega))⟩, fun _ => rfl⟩
set_option maxHeartbeats 4000000 in
set_option maxRecDepth 100000 in
theorem t_X12_spreadx {D : va_G} {cI cJ cZ cT : ClassId} {lo b L : Nat} {xs : Nat → Int32} {hp : MH} {n d : Nat} {Γ : TG} {y : Nat} {rf cnt nm : Int32} {Fr To Dr Wt Mn Sz : Nat → Int} {x1 x2 x3 x4 : Int} {j5 : Int64} (hd0 : 2 ≤ d) (hO : rd Γ y (tO 11 (mdF y rf cnt nm))) (hA_from : rd Γ (y + 5) (xI cI 7260 Fr)) (hR_from : Rfx 7260 0 15 Fr) (hA_to : rd Γ (y + 6) (xI cI 7260 To)) (hR_to : Rfx 7260 0 15 To) (hA_directs : rd Γ (y + 3) (xI cZ 121 Dr)) (hR_directs : Rfx 121 0 1 Dr) (hA_weight : rd Γ (y + 7) (xI cI 7260 Wt)) (hR_weight : Rfx 7260 (-1000) 1000 Wt) (hA_many : rd Γ (y + 4) (xI cI 121 Mn)) (hR_many : Rfx 121 0 60 Mn) (hA_sizes : rd Γ (y + 2) (xI cI 121 Sz)) (hR_sizes : Rfx 121 0 16 Sz) (hA_best : rd Γ (y + 27) (tJ cJ 272 anyJ)) (hA_ways1 : Γ (y + 28) = some (tJ cJ 272 anyJ)) (ht : Tw Γ hp) (hx1 : 0 ≤ x1 ∧ x1 ≤ 120) (hx2 : 0 ≤ x2 ∧ x2 ≤ 2) (hx3 : 0 ≤ x3 ∧ x3 ≤ 15) (hx4 : 0 ≤ x4 ∧ x4 ≤ 16) : Mt (gG D cI cJ cZ cT lo b L xs) mX12_spread d 0 0 [.ref y, .int (iv x1), .int (iv x2), .int (iv x3), .int (iv x4), .long j5] hp n (pS Γ cJ y n (fun Bs => dpP Fr To Dr Wt Bs x1 x2 j5 (Mn (Int.toNat x1)) (Sz (Int.toNat x1)) (x4 + 1) 0)) := by
  refine Mt.of rfl (Nat.le_of_ble_eq_true rfl) ?_
  refine Rn.pick (lv' := [(0, .ref y), (1, .int (iv x1)), (2, .int (iv x2)), (3, .int (iv x3)), (4, .int (iv x4)), (5, .long j5)]) [0, 1, 2, 3, 4, 5] rfl ?_
  have rMn := hR_many (Int.toNat x1) (by omega)
  have rSz := hR_sizes (Int.toNat x1) (by omega)
  obtain ⟨Bs0, -, ht0⟩ := ht.openJ hA_best
  have hD0 : dpP Fr To Dr Wt Bs0 x1 x2 j5 (Mn (Int.toNat x1)) (Sz (Int.toNat x1)) 0 0 := dp_0 _ _ _ _ _ _ _ _ _ _
  refine r_aload_n (pc := 0) dX12_spread_0 (i := 0) rfl rfl ?_
  refine t_getE (pc := 1) (.ref (y + 2)) ht0 (rd_ov (by omega) hO) fX12_13 dX12_spread_1 rfl ?_
  refine r_iload_n (pc := 4) dX12_spread_4 (i := 1) rfl rfl ?_
  refine t_ialdX (pc := 5) (t0 := 0) ht0 (rd_ov (by omega) hA_sizes) dX12_spread_5 rfl (by decide) (by omega) (fun b1 => ?_)
  have rb1 := (show Rfx 121 0 16 Sz by assumption) (Int.toNat x1) (by omega)
  refine r_istore (pc := 6) (lv' := [(7, .int (iv (Sz (Int.toNat x1)))), (0, .ref y), (1, .int (iv x1)), (2, .int (iv x2)), (3, .int (iv x3)), (4, .int (iv x4)), (5, .long j5)]) dX12_spread_6 (by decide) rfl ?_
  refine r_iconst (pc := 8) (v := iv 0) dX12_spread_8 (by decide) ?_
  refine r_istore (pc := 9) (lv' := [(8, .int (iv 0)), (7, .int (iv (Sz (Int.toNat x1)))), (0, .ref y), (1, .int (iv x1)), (2, .int (iv x2)), (3, .int (iv x3)), (4, .int (iv x4)), (5, .long j5)]) dX12_spread_9 (by decide) rfl ?_
  have B11 : ∀ k : Nat, ∀ Bs11 : Nat → Int64, ∀ hp11 : MH, Tw (ov Γ (y + 27) (xJ cJ 272 Bs11)) hp11 → ∀  (v11_8 : Int), 0 ≤ v11_8 ∧ v11_8 ≤ 17 ∧ v11_8 ≤ x4 + 1 ∧ dpP Fr To Dr Wt Bs11 x1 x2 j5 (Mn (Int.toNat x1)) (Sz (Int.toNat x1)) v11_8 0 → 17 - v11_8 ≤ (k : Int) → Rn (gG D cI cJ cZ cT lo b L xs) mX12_spread d 11 [(0, .ref y), (1, .int (iv x1)), (2, .int (iv x2)), (3, .int (iv x3)), (4, .int (iv x4)), (5, .long j5), (7, .int (iv (Sz (Int.toNat x1)))), (8, .int (iv v11_8))] [] hp11 n 0 0 (pS Γ cJ y n (fun Bs => dpP Fr To Dr Wt Bs x1 x2 j5 (Mn (Int.toNat x1)) (Sz (Int.toNat x1)) (x4 + 1) 0)) := by
    refine lpS _ ?_
    intro k11 ih11 Bs11 hp11 ht11 v11_8 hf11 hm11
    obtain ⟨hf11_0, hf11_1, hf11_2, ha11_3⟩ := hf11
    refine r_iload (pc := 11) dX12_spread_11 rfl ?_
    refine r_iload (pc := 13) dX12_spread_13 rfl ?_
    refine t_icmp_gt (pc := 15) (tgt := 269) dX12_spread_15 (by decide) (by omega) (by omega) (fun c15 => ?_) (fun c15 => ?_)
    · exact r_vret (pc := 269) dX12_spread_269 rfl ⟨rfl, rfl, Bs11, ht11, by have e9 : v11_8 = x4 + 1 := (by omega); show dpP Fr To Dr Wt Bs11 x1 x2 j5 (Mn (Int.toNat x1)) (Sz (Int.toNat x1)) (x4 + 1) 0; rw [← e9]; assumption⟩
    · refine r_iconst (pc := 18) (v := iv 0) dX12_spread_18 (by decide) ?_
      refine r_istore (pc := 19) (lv' := [(9, .int (iv 0)), (0, .ref y), (1, .int (iv x1)), (2, .int (iv x2)), (3, .int (iv x3)), (4, .int (iv x4)), (5, .long j5), (7, .int (iv (Sz (Int.toNat x1)))), (8, .int (iv v11_8))]) dX12_spread_19 (by decide) rfl ?_
      have B21 : ∀ k : Nat, ∀ Bs21 : Nat → Int64, ∀ hp21 : MH, Tw (ov Γ (y + 27) (xJ cJ 272 Bs21)) hp21 → ∀  (v21_9 : Int), 0 ≤ v21_9 ∧ v21_9 ≤ 16 ∧ dpP Fr To Dr Wt Bs21 x1 x2 j5 (Mn (Int.toNat x1)) (Sz (Int.toNat x1)) v11_8 v21_9 → 16 - v21_9 ≤ (k : Int) → Rn (gG D cI cJ cZ cT lo b L xs) mX12_spread d 21 [(0, .ref y), (1, .int (iv x1)), (2, .int (iv x2)), (3, .int (iv x3)), (4, .int (iv x4)), (5, .long j5), (7, .int (iv (Sz (Int.toNat x1)))), (8, .int (iv v11_8)), (9, .int (iv v21_9))] [] hp21 n 0 0 (pS Γ cJ y n (fun Bs => dpP Fr To Dr Wt Bs x1 x2 j5 (Mn (Int.toNat x1)) (Sz (Int.toNat x1)) (x4 + 1) 0)) := by
        refine lpS _ ?_
        intro k21 ih21 Bs21 hp21 ht21 v21_9 hf21 hm21
        obtain ⟨hf21_0, hf21_1, ha21_2⟩ := hf21
        refine r_iload (pc := 21) dX12_spread_21 rfl ?_
        refine r_iload (pc := 23) dX12_spread_23 rfl ?_
        refine t_icmp_ge (pc := 25) (tgt := 263) dX12_spread_25 (by decide) (by omega) (by omega) (fun c25 => ?_) (fun c25 => ?_)
        · refine r_iinc (pc := 263) (v := iv (v11_8 + 1)) (lv' := [(8, .int (iv (v11_8 + 1))), (0, .ref y), (1, .int (iv x1)), (2, .int (iv x2)), (3, .int (iv x3)), (4, .int (iv x4)), (5, .long j5), (7, .int (iv (Sz (Int.toNat x1)))), (9, .int (iv v21_9))]) dX12_spread_263 rfl (iv_add _ _) (by decide) rfl ?_
          have hD263 : dpP Fr To Dr Wt Bs21 x1 x2 j5 (Mn (Int.toNat x1)) (Sz (Int.toNat x1)) (v11_8 + 1) 0 := dp_row (by assumption) (by omega)
          refine r_goto (pc := 266) (tgt := 11) dX12_spread_266 (by decide) ?_
          refine Rn.pick (lv' := [(0, .ref y), (1, .int (iv x1)), (2, .int (iv x2)), (3, .int (iv x3)), (4, .int (iv x4)), (5, .long j5), (7, .int (iv (Sz (Int.toNat x1)))), (8, .int (iv (v11_8 + 1)))]) [1, 2, 3, 4, 5, 6, 7, 0] rfl ?_
          exact ih11 (Int.toNat (17 - (v11_8 + 1))) (by omega) Bs21 _ ht21 (v11_8 + 1) ⟨by omega, by omega, by omega, by assumption⟩ (by omega)
        · refine r_iload (pc := 28) dX12_spread_28 rfl ?_
          have B46 : ∀ hp46 : MH, Tw (ov Γ (y + 27) (xJ cJ 272 Bs21)) hp46 → ∀  (x46_0 : Int64), (1 ≤ v11_8 → 1000000000000 ≤ x46_0.toInt) → Rn (gG D cI cJ cZ cT lo b L xs) mX12_spread d 46 [(0, .ref y), (1, .int (iv x1)), (2, .int (iv x2)), (3, .int (iv x3)), (4, .int (iv x4)), (5, .long j5), (7, .int (iv (Sz (Int.toNat x1)))), (8, .int (iv v11_8)), (9, .int (iv v21_9))] [.long x46_0] hp46 n 0 0 (pS Γ cJ y n (fun Bs => dpP Fr To Dr Wt Bs x1 x2 j5 (Mn (Int.toNat x1)) (Sz (Int.toNat x1)) (x4 + 1) 0)) := by
            intro hp46 ht46 x46_0 hf46
            refine r_lstore (pc := 46) (lv' := [(10, .long x46_0), (0, .ref y), (1, .int (iv x1)), (2, .int (iv x2)), (3, .int (iv x3)), (4, .int (iv x4)), (5, .long j5), (7, .int (iv (Sz (Int.toNat x1)))), (8, .int (iv v11_8)), (9, .int (iv v21_9))]) dX12_spread_46 (by decide) rfl ?_
            refine r_iload (pc := 48) dX12_spread_48 rfl ?_
            have B64 : ∀ hp64 : MH, Tw (ov Γ (y + 27) (xJ cJ 272 Bs21)) hp64 → ∀  (x64_0 : Int64), True → Rn (gG D cI cJ cZ cT lo b L xs) mX12_spread d 64 [(0, .ref y), (1, .int (iv x1)), (2, .int (iv x2)), (3, .int (iv x3)), (4, .int (iv x4)), (5, .long j5), (7, .int (iv (Sz (Int.toNat x1)))), (8, .int (iv v11_8)), (9, .int (iv v21_9)), (10, .long x46_0)] [.long x64_0] hp64 n 0 0 (pS Γ cJ y n (fun Bs => dpP Fr To Dr Wt Bs x1 x2 j5 (Mn (Int.toNat x1)) (Sz (Int.toNat x1)) (x4 + 1) 0)) := by
              intro hp64 ht64 x64_0 hf64
              refine r_lstore (pc := 64) (lv' := [(12, .long x64_0), (0, .ref y), (1, .int (iv x1)), (2, .int (iv x2)), (3, .int (iv x3)), (4, .int (iv x4)), (5, .long j5), (7, .int (iv (Sz (Int.toNat x1)))), (8, .int (iv v11_8)), (9, .int (iv v21_9)), (10, .long x46_0)]) dX12_spread_64 (by decide) rfl ?_
              refine r_iconst (pc := 66) (v := iv 0) dX12_spread_66 (by decide) ?_
              refine r_istore (pc := 67) (lv' := [(14, .int (iv 0)), (12, .long x64_0), (0, .ref y), (1, .int (iv x1)), (2, .int (iv x2)), (3, .int (iv x3)), (4, .int (iv x4)), (5, .long j5), (7, .int (iv (Sz (Int.toNat x1)))), (8, .int (iv v11_8)), (9, .int (iv v21_9)), (10, .long x46_0)]) dX12_spread_67 (by decide) rfl ?_
              have B69 : ∀ k : Nat, ∀ hp69 : MH, Tw (ov Γ (y + 27) (xJ cJ 272 Bs21)) hp69 → ∀  (v69_14 : Int) (w69_10 : Int64) (w69_12 : Int64), 0 ≤ v69_14 ∧ v69_14 ≤ 60 ∧ v69_14 ≤ (Mn (Int.toNat x1)) ∧ (1 ≤ v11_8 → bxP Fr To Dr Wt Bs21 x1 x2 j5 v69_14 v21_9 v11_8 w69_10) → 60 - v69_14 ≤ (k : Int) → Rn (gG D cI cJ cZ cT lo b L xs) mX12_spread d 69 [(0, .ref y), (1, .int (iv x1)), (2, .int (iv x2)), (3, .int (iv x3)), (4, .int (iv x4)), (5, .long j5), (7, .int (iv (Sz (Int.toNat x1)))), (8, .int (iv v11_8)), (9, .int (iv v21_9)), (10, .long w69_10), (12, .long w69_12), (14, .int (iv v69_14))] [] hp69 n 0 0 (pS Γ cJ y n (fun Bs => dpP Fr To Dr Wt Bs x1 x2 j5 (Mn (Int.toNat x1)) (Sz (Int.toNat x1)) (x4 + 1) 0)) := by
                refine lpS _ ?_
                intro k69 ih69 hp69 ht69 v69_14 w69_10 w69_12 hf69 hm69
                obtain ⟨hf69_0, hf69_1, hf69_2, ha69_3⟩ := hf69
                refine r_iload (pc := 69) dX12_spread_69 rfl ?_
                refine r_aload_n (pc := 71) dX12_spread_71 (i := 0) rfl rfl ?_
                refine t_getE (pc := 72) (.ref (y + 4)) ht69 (rd_ov (by omega) hO) fX12_20 dX12_spread_72 rfl ?_
                refine r_iload_n (pc := 75) dX12_spread_75 (i := 1) rfl rfl ?_
                refine t_ialdX (pc := 76) (t0 := 0) ht69 (rd_ov (by omega) hA_many) dX12_spread_76 rfl (by decide) (by omega) (fun b2 => ?_)
                have rb2 := (show Rfx 121 0 60 Mn by assumption) (Int.toNat x1) (by omega)
                have B227 : ∀ hp227 : MH, Tw (ov Γ (y + 27) (xJ cJ 272 Bs21)) hp227 → (1 ≤ v11_8 → bxP Fr To Dr Wt Bs21 x1 x2 j5 (Mn (Int.toNat x1)) v21_9 v11_8 w69_10) → Rn (gG D cI cJ cZ cT lo b L xs) mX12_spread d 227 [(0, .ref y), (1, .int (iv x1)), (2, .int (iv x2)), (3, .int (iv x3)), (4, .int (iv x4)), (5, .long j5), (7, .int (iv (Sz (Int.toNat x1)))), (8, .int (iv v11_8)), (9, .int (iv v21_9)), (10, .long w69_10), (12, .long w69_12)] [] hp227 n 0 0 (pS Γ cJ y n (fun Bs => dpP Fr To Dr Wt Bs x1 x2 j5 (Mn (Int.toNat x1)) (Sz (Int.toNat x1)) (x4 + 1) 0)) := by
                  intro hp227 ht227 hf227
                  have ha227_0 := hf227
                  refine r_aload_n (pc := 227) dX12_spread_227 (i := 0) rfl rfl ?_
                  refine t_getE (pc := 228) (.ref (y + 27)) ht227 (rd_ov (by omega) hO) fX12_91 dX12_spread_228 rfl ?_
                  refine r_bipush (pc := 231) (v := iv 16) dX12_spread_231 (by decide) ?_
                  refine r_iload (pc := 233) dX12_spread_233 rfl ?_
                  refine r_imul (pc := 235) (v := iv (16 * v11_8)) dX12_spread_235 (iv_mul _ _) ?_
                  refine r_iload (pc := 236) dX12_spread_236 rfl ?_
                  refine r_iadd (pc := 238) (v := iv ((16 * v11_8) + v21_9)) dX12_spread_238 (iv_add _ _) ?_
                  refine r_lload (pc := 239) dX12_spread_239 rfl ?_
                  refine t_lastX (pc := 241) (t0 := 1) ht227 (ov_s _ _ _) dX12_spread_241 rfl (by decide) (by omega) (fun hp3 ht4 => ?_)
                  rw [ov_ov] at ht4
                  have hD241 : dpP Fr To Dr Wt (fuj Bs21 (Int.toNat ((16 * v11_8) + v21_9)) w69_10) x1 x2 j5 (Mn (Int.toNat x1)) (Sz (Int.toNat x1)) v11_8 (v21_9 + 1) := dp_up (by assumption) (by assumption) (by omega) (by omega) (by omega) (by assumption) (by assumption)
                  refine r_aload_n (pc := 242) dX12_spread_242 (i := 0) rfl rfl ?_
                  refine t_getE (pc := 243) (.ref (y + 28)) ht4 (rd_ov (by omega) hO) fX12_94 dX12_spread_243 rfl ?_
                  refine r_bipush (pc := 246) (v := iv 16) dX12_spread_246 (by decide) ?_
                  refine r_iload (pc := 248) dX12_spread_248 rfl ?_
                  refine r_imul (pc := 250) (v := iv (16 * v11_8)) dX12_spread_250 (iv_mul _ _) ?_
                  refine r_iload (pc := 251) dX12_spread_251 rfl ?_
                  refine r_iadd (pc := 253) (v := iv ((16 * v11_8) + v21_9)) dX12_spread_253 (iv_add _ _) ?_
                  refine r_lload (pc := 254) dX12_spread_254 rfl ?_
                  refine t_last (pc := 256) (t0 := 1) ht4 (eq_ov (by omega) hA_ways1) dX12_spread_256 rfl (by decide) (by omega) trivial (fun hp5 ht6 => ?_)
                  refine r_iinc (pc := 257) (v := iv (v21_9 + 1)) (lv' := [(9, .int (iv (v21_9 + 1))), (0, .ref y), (1, .int (iv x1)), (2, .int (iv x2)), (3, .int (iv x3)), (4, .int (iv x4)), (5, .long j5), (7, .int (iv (Sz (Int.toNat x1)))), (8, .int (iv v11_8)), (10, .long w69_10), (12, .long w69_12)]) dX12_spread_257 rfl (iv_add _ _) (by decide) rfl ?_
                  refine r_goto (pc := 260) (tgt := 21) dX12_spread_260 (by decide) ?_
                  refine Rn.pick (lv' := [(0, .ref y), (1, .int (iv x1)), (2, .int (iv x2)), (3, .int (iv x3)), (4, .int (iv x4)), (5, .long j5), (7, .int (iv (Sz (Int.toNat x1)))), (8, .int (iv v11_8)), (9, .int (iv (v21_9 + 1)))]) [1, 2, 3, 4, 5, 6, 7, 8, 0] rfl ?_
                  exact ih21 (Int.toNat (16 - (v21_9 + 1))) (by omega) (fuj Bs21 (Int.toNat ((16 * v11_8) + v21_9)) w69_10) _ ht6 (v21_9 + 1) ⟨by omega, by omega, by assumption⟩ (by omega)
                refine t_icmp_ge (pc := 77) (tgt := 227) dX12_spread_77 (by decide) (by omega) (by omega) (fun c77 => ?_) (fun c77 => ?_)
                · refine Rn.pick (lv' := [(0, .ref y), (1, .int (iv x1)), (2, .int (iv x2)), (3, .int (iv x3)), (4, .int (iv x4)), (5, .long j5), (7, .int (iv (Sz (Int.toNat x1)))), (8, .int (iv v11_8)), (9, .int (iv v21_9)), (10, .long w69_10), (12, .long w69_12)]) [0, 1, 2, 3, 4, 5, 6, 7, 8, 9, 10] rfl ?_
                  exact B227 _ ht69 (by (first | (intro h9; exfalso; omega) | (intro h9; have e9 : v69_14 = (Mn (Int.toNat x1)) := (by omega); rw [← e9]; exact (show (1 : Int) ≤ _ → bxP _ _ _ _ _ _ _ _ _ _ _ _ by assumption) h9)))
                · refine r_iload (pc := 80) dX12_spread_80 rfl ?_
                  refine t_if_le (pc := 82) (tgt := 227) dX12_spread_82 (by decide) (by omega) (fun c82 => ?_) (fun c82 => ?_)
                  · refine Rn.pick (lv' := [(0, .ref y), (1, .int (iv x1)), (2, .int (iv x2)), (3, .int (iv x3)), (4, .int (iv x4)), (5, .long j5), (7, .int (iv (Sz (Int.toNat x1)))), (8, .int (iv v11_8)), (9, .int (iv v21_9)), (10, .long w69_10), (12, .long w69_12)]) [0, 1, 2, 3, 4, 5, 6, 7, 8, 9, 10] rfl ?_
                    exact B227 _ ht69 (by (first | (intro h9; exfalso; omega) | (intro h9; have e9 : v69_14 = (Mn (Int.toNat x1)) := (by omega); rw [← e9]; exact (show (1 : Int) ≤ _ → bxP _ _ _ _ _ _ _ _ _ _ _ _ by assumption) h9)))
                  · refine r_aload_n (pc := 85) dX12_spread_85 (i := 0) rfl rfl ?_
                    refine r_iload_n (pc := 86) dX12_spread_86 (i := 1) rfl rfl ?_
                    refine r_iload (pc := 87) dX12_spread_87 rfl ?_
                    refine r_iload (pc := 89) dX12_spread_89 rfl ?_
                    refine t_callVI (pc := 91) (as := [.int (iv x1), .int (iv v69_14), .int (iv v21_9)]) (st := []) ht69 (rd_ov (by omega) hO) kX12_253 rfl dX12_spread_91 (t_X12_intox (d := d - 1) (x1 := x1) (x2 := v69_14) (x3 := v21_9) (by omega) (rd_ov (by omega) hO) (rd_ov (by omega) hA_from) (show Rfx 7260 0 15 Fr by assumption) (rd_ov (by omega) hA_to) (show Rfx 7260 0 15 To by assumption) (rd_ov (by omega) hA_directs) (show Rfx 121 0 1 Dr by assumption) ht69 (by omega) (by omega) (by omega)) rfl (by omega) (Nat.le_of_ble_eq_true rfl) rfl (fun hp7 y9 ht8 by9 => ?_)
                    have ey9 : y9 = inV Fr To Dr x1 v69_14 v21_9 := by9
                    subst ey9
                    have ry9 := inV_r (Fr := Fr) (To := To) (Dr := Dr) (g := x1) (e := v69_14) (v := v21_9) (by assumption) (by assumption) (by omega) (by omega)
                    refine r_istore (pc := 94) (lv' := [(15, .int (iv (inV Fr To Dr x1 v69_14 v21_9))), (0, .ref y), (1, .int (iv x1)), (2, .int (iv x2)), (3, .int (iv x3)), (4, .int (iv x4)), (5, .long j5), (7, .int (iv (Sz (Int.toNat x1)))), (8, .int (iv v11_8)), (9, .int (iv v21_9)), (10, .long w69_10), (12, .long w69_12), (14, .int (iv v69_14))]) dX12_spread_94 (by decide) rfl ?_
                    refine r_iload (pc := 96) dX12_spread_96 rfl ?_
                    have B221 : ∀ hp221 : MH, Tw (ov Γ (y + 27) (xJ cJ 272 Bs21)) hp221 → ∀  (w221_10 : Int64) (w221_12 : Int64), (1 ≤ v11_8 → bxP Fr To Dr Wt Bs21 x1 x2 j5 (v69_14 + 1) v21_9 v11_8 w221_10) → Rn (gG D cI cJ cZ cT lo b L xs) mX12_spread d 221 [(0, .ref y), (1, .int (iv x1)), (2, .int (iv x2)), (3, .int (iv x3)), (4, .int (iv x4)), (5, .long j5), (7, .int (iv (Sz (Int.toNat x1)))), (8, .int (iv v11_8)), (9, .int (iv v21_9)), (10, .long w221_10), (12, .long w221_12), (14, .int (iv v69_14))] [] hp221 n 0 0 (pS Γ cJ y n (fun Bs => dpP Fr To Dr Wt Bs x1 x2 j5 (Mn (Int.toNat x1)) (Sz (Int.toNat x1)) (x4 + 1) 0)) := by
                      intro hp221 ht221 w221_10 w221_12 hf221
                      have ha221_0 := hf221
                      refine r_iinc (pc := 221) (v := iv (v69_14 + 1)) (lv' := [(14, .int (iv (v69_14 + 1))), (0, .ref y), (1, .int (iv x1)), (2, .int (iv x2)), (3, .int (iv x3)), (4, .int (iv x4)), (5, .long j5), (7, .int (iv (Sz (Int.toNat x1)))), (8, .int (iv v11_8)), (9, .int (iv v21_9)), (10, .long w221_10), (12, .long w221_12)]) dX12_spread_221 rfl (iv_add _ _) (by decide) rfl ?_
                      refine r_goto (pc := 224) (tgt := 69) dX12_spread_224 (by decide) ?_
                      refine Rn.pick (lv' := [(0, .ref y), (1, .int (iv x1)), (2, .int (iv x2)), (3, .int (iv x3)), (4, .int (iv x4)), (5, .long j5), (7, .int (iv (Sz (Int.toNat x1)))), (8, .int (iv v11_8)), (9, .int (iv v21_9)), (10, .long w221_10), (12, .long w221_12), (14, .int (iv (v69_14 + 1)))]) [1, 2, 3, 4, 5, 6, 7, 8, 9, 10, 11, 0] rfl ?_
                      exact ih69 (Int.toNat (60 - (v69_14 + 1))) (by omega) _ ht221 (v69_14 + 1) w221_10 w221_12 ⟨by omega, by omega, by omega, by (first | assumption | exact fun h9 => bxq_0 (by omega))⟩ (by omega)
                    refine t_if_lt (pc := 98) (tgt := 221) dX12_spread_98 (by decide) (by omega) (fun c98 => ?_) (fun c98 => ?_)
                    · refine Rn.pick (lv' := [(0, .ref y), (1, .int (iv x1)), (2, .int (iv x2)), (3, .int (iv x3)), (4, .int (iv x4)), (5, .long j5), (7, .int (iv (Sz (Int.toNat x1)))), (8, .int (iv v11_8)), (9, .int (iv v21_9)), (10, .long w69_10), (12, .long w69_12), (14, .int (iv v69_14))]) [1, 2, 3, 4, 5, 6, 7, 8, 9, 10, 11, 12] rfl ?_
                      exact B221 _ ht8 w69_10 w69_12 (by (first | assumption | exact fun h9 => bxq_st ((show (1 : Int) ≤ _ → bxP _ _ _ _ _ _ _ _ _ _ _ _ by assumption) h9)))
                    · refine r_aload_n (pc := 101) dX12_spread_101 (i := 0) rfl rfl ?_
                      refine r_iload_n (pc := 102) dX12_spread_102 (i := 1) rfl rfl ?_
                      refine r_iload (pc := 103) dX12_spread_103 rfl ?_
                      refine r_iload_n (pc := 105) dX12_spread_105 (i := 2) rfl rfl ?_
                      refine r_lload (pc := 106) dX12_spread_106 rfl ?_
                      refine t_callVI (pc := 108) (as := [.int (iv x1), .int (iv v69_14), .int (iv x2), .long j5]) (st := []) ht8 (rd_ov (by omega) hO) kX12_256 rfl dX12_spread_108 (t_X12_goesx (d := d - 1) (x1 := x1) (x2 := v69_14) (x3 := x2) (j4 := j5) (by omega) (rd_ov (by omega) hO) (rd_ov (by omega) hA_weight) (show Rfx 7260 (-1000) 1000 Wt by assumption) ht8 (by omega) (by omega) (by omega)) rfl (by omega) (Nat.le_of_ble_eq_true rfl) rfl (fun hp10 y12 ht11 by12 => ?_)
                      obtain ⟨by121, hgo⟩ := by12
                      refine t_if_eq (pc := 111) (tgt := 221) dX12_spread_111 (by decide) (by omega) (fun c111 => ?_) (fun c111 => ?_)
                      · refine Rn.pick (lv' := [(0, .ref y), (1, .int (iv x1)), (2, .int (iv x2)), (3, .int (iv x3)), (4, .int (iv x4)), (5, .long j5), (7, .int (iv (Sz (Int.toNat x1)))), (8, .int (iv v11_8)), (9, .int (iv v21_9)), (10, .long w69_10), (12, .long w69_12), (14, .int (iv v69_14))]) [1, 2, 3, 4, 5, 6, 7, 8, 9, 10, 11, 12] rfl ?_
                        exact B221 _ ht11 w69_10 w69_12 (by (first | assumption | exact fun h9 => bxq_st ((show (1 : Int) ≤ _ → bxP _ _ _ _ _ _ _ _ _ _ _ _ by assumption) h9)))
                      · refine r_aload_n (pc := 114) dX12_spread_114 (i := 0) rfl rfl ?_
                        refine t_getE (pc := 115) (.ref (y + 27)) ht11 (rd_ov (by omega) hO) fX12_91 dX12_spread_115 rfl ?_
                        refine r_bipush (pc := 118) (v := iv 16) dX12_spread_118 (by decide) ?_
                        refine r_iload (pc := 120) dX12_spread_120 rfl ?_
                        refine r_iconst (pc := 122) (v := iv 1) dX12_spread_122 (by decide) ?_
                        refine r_isub (pc := 123) (v := iv (v11_8 - 1)) dX12_spread_123 (iv_sub _ _) ?_
                        refine r_imul (pc := 124) (v := iv (16 * (v11_8 - 1))) dX12_spread_124 (iv_mul _ _) ?_
                        refine r_iload (pc := 125) dX12_spread_125 rfl ?_
                        refine r_iadd (pc := 127) (v := iv ((16 * (v11_8 - 1)) + (inV Fr To Dr x1 v69_14 v21_9))) dX12_spread_127 (iv_add _ _) ?_
                        refine t_laldX (pc := 128) (t0 := 1) ht11 (rd_of (ov_s _ _ _)) dX12_spread_128 rfl (by decide) (by omega) ?_
                        refine r_ldc2 (pc := 129) (v := 1000000000000) dX12_spread_129 kX12_251 ?_
                        have hk129 : (1000000000000 : Int64).toInt = 1000000000000 := by decide
                        refine r_lcmp (pc := 132) dX12_spread_132 ?_
                        refine t_lif_ge (pc := 133) (tgt := 221) dX12_spread_133 (by decide) (fun c133 => ?_) (fun c133 => ?_)
                        · refine Rn.pick (lv' := [(0, .ref y), (1, .int (iv x1)), (2, .int (iv x2)), (3, .int (iv x3)), (4, .int (iv x4)), (5, .long j5), (7, .int (iv (Sz (Int.toNat x1)))), (8, .int (iv v11_8)), (9, .int (iv v21_9)), (10, .long w69_10), (12, .long w69_12), (14, .int (iv v69_14))]) [1, 2, 3, 4, 5, 6, 7, 8, 9, 10, 11, 12] rfl ?_
                          exact B221 _ ht11 w69_10 w69_12 (by (first | assumption | exact fun h9 => bxq_st ((show (1 : Int) ≤ _ → bxP _ _ _ _ _ _ _ _ _ _ _ _ by assumption) h9)))
                        · refine r_aload_n (pc := 136) dX12_spread_136 (i := 0) rfl rfl ?_
                          refine t_getE (pc := 137) (.ref (y + 27)) ht11 (rd_ov (by omega) hO) fX12_91 dX12_spread_137 rfl ?_
                          refine r_bipush (pc := 140) (v := iv 16) dX12_spread_140 (by decide) ?_
                          refine r_iload (pc := 142) dX12_spread_142 rfl ?_
                          refine r_iconst (pc := 144) (v := iv 1) dX12_spread_144 (by decide) ?_
                          refine r_isub (pc := 145) (v := iv (v11_8 - 1)) dX12_spread_145 (iv_sub _ _) ?_
                          refine r_imul (pc := 146) (v := iv (16 * (v11_8 - 1))) dX12_spread_146 (iv_mul _ _) ?_
                          refine r_iload (pc := 147) dX12_spread_147 rfl ?_
                          refine r_iadd (pc := 149) (v := iv ((16 * (v11_8 - 1)) + (inV Fr To Dr x1 v69_14 v21_9))) dX12_spread_149 (iv_add _ _) ?_
                          refine t_laldX (pc := 150) (t0 := 1) ht11 (rd_of (ov_s _ _ _)) dX12_spread_150 rfl (by decide) (by omega) ?_
                          refine r_iload_n (pc := 151) dX12_spread_151 (i := 2) rfl rfl ?_
                          have B170 : ∀ hp170 : MH, Tw (ov Γ (y + 27) (xJ cJ 272 Bs21)) hp170 → ∀  (u170_1 : Int), (-1000) ≤ u170_1 ∧ u170_1 ≤ 1000 ∧ wkV Wt x1 v69_14 x2 = u170_1 → Rn (gG D cI cJ cZ cT lo b L xs) mX12_spread d 170 [(0, .ref y), (1, .int (iv x1)), (2, .int (iv x2)), (3, .int (iv x3)), (4, .int (iv x4)), (5, .long j5), (7, .int (iv (Sz (Int.toNat x1)))), (8, .int (iv v11_8)), (9, .int (iv v21_9)), (10, .long w69_10), (12, .long w69_12), (14, .int (iv v69_14)), (15, .int (iv (inV Fr To Dr x1 v69_14 v21_9)))] [.int (iv u170_1), .long (Bs21 (Int.toNat ((16 * (v11_8 - 1)) + (inV Fr To Dr x1 v69_14 v21_9))))] hp170 n 0 0 (pS Γ cJ y n (fun Bs => dpP Fr To Dr Wt Bs x1 x2 j5 (Mn (Int.toNat x1)) (Sz (Int.toNat x1)) (x4 + 1) 0)) := by
                            intro hp170 ht170 u170_1 hf170
                            obtain ⟨hf170_0, hf170_1, ha170_2⟩ := hf170
                            refine r_i2l (pc := 170) (v := (iv u170_1).toInt64) dX12_spread_170 rfl ?_
                            refine r_ladd (pc := 171) (v := (Bs21 (Int.toNat ((16 * (v11_8 - 1)) + (inV Fr To Dr x1 v69_14 v21_9)))) + ((iv u170_1).toInt64)) dX12_spread_171 rfl ?_
                            refine r_lstore (pc := 172) (lv' := [(16, .long ((Bs21 (Int.toNat ((16 * (v11_8 - 1)) + (inV Fr To Dr x1 v69_14 v21_9)))) + ((iv u170_1).toInt64))), (0, .ref y), (1, .int (iv x1)), (2, .int (iv x2)), (3, .int (iv x3)), (4, .int (iv x4)), (5, .long j5), (7, .int (iv (Sz (Int.toNat x1)))), (8, .int (iv v11_8)), (9, .int (iv v21_9)), (10, .long w69_10), (12, .long w69_12), (14, .int (iv v69_14)), (15, .int (iv (inV Fr To Dr x1 v69_14 v21_9)))]) dX12_spread_172 (by decide) rfl ?_
                            have hw9 : wkV Wt x1 v69_14 x2 = u170_1 := by omega
                            have hln : laQ Fr To Dr Wt Bs21 x1 x2 j5 v69_14 v21_9 v11_8 ((Bs21 (Int.toNat ((16 * (v11_8 - 1)) + (inV Fr To Dr x1 v69_14 v21_9)))) + ((iv u170_1).toInt64)) := by unfold laQ; rw [hw9]; exact ⟨by omega, hgo.mp (by omega), by omega, rfl⟩
                            refine r_lload (pc := 174) dX12_spread_174 rfl ?_
                            refine r_lload (pc := 176) dX12_spread_176 rfl ?_
                            refine r_lcmp (pc := 178) dX12_spread_178 ?_
                            have B189 : ∀ hp189 : MH, Tw (ov Γ (y + 27) (xJ cJ 272 Bs21)) hp189 → ∀  (w189_10 : Int64) (w189_12 : Int64), (1 ≤ v11_8 → bxP Fr To Dr Wt Bs21 x1 x2 j5 (v69_14 + 1) v21_9 v11_8 w189_10) → Rn (gG D cI cJ cZ cT lo b L xs) mX12_spread d 189 [(0, .ref y), (1, .int (iv x1)), (2, .int (iv x2)), (3, .int (iv x3)), (4, .int (iv x4)), (5, .long j5), (7, .int (iv (Sz (Int.toNat x1)))), (8, .int (iv v11_8)), (9, .int (iv v21_9)), (10, .long w189_10), (12, .long w189_12), (14, .int (iv v69_14)), (15, .int (iv (inV Fr To Dr x1 v69_14 v21_9))), (16, .long ((Bs21 (Int.toNat ((16 * (v11_8 - 1)) + (inV Fr To Dr x1 v69_14 v21_9)))) + ((iv u170_1).toInt64)))] [] hp189 n 0 0 (pS Γ cJ y n (fun Bs => dpP Fr To Dr Wt Bs x1 x2 j5 (Mn (Int.toNat x1)) (Sz (Int.toNat x1)) (x4 + 1) 0)) := by
                              intro hp189 ht189 w189_10 w189_12 hf189
                              have ha189_0 := hf189
                              refine r_lload (pc := 189) dX12_spread_189 rfl ?_
                              refine r_lload (pc := 191) dX12_spread_191 rfl ?_
                              refine r_lload (pc := 193) dX12_spread_193 rfl ?_
                              refine r_lcmp (pc := 195) dX12_spread_195 ?_
                              have B218 : ∀ hp218 : MH, Tw (ov Γ (y + 27) (xJ cJ 272 Bs21)) hp218 → ∀  (x218_1 : Int64), True → Rn (gG D cI cJ cZ cT lo b L xs) mX12_spread d 218 [(0, .ref y), (1, .int (iv x1)), (2, .int (iv x2)), (3, .int (iv x3)), (4, .int (iv x4)), (5, .long j5), (7, .int (iv (Sz (Int.toNat x1)))), (8, .int (iv v11_8)), (9, .int (iv v21_9)), (10, .long w189_10), (14, .int (iv v69_14))] [.long x218_1, .long w189_12] hp218 n 0 0 (pS Γ cJ y n (fun Bs => dpP Fr To Dr Wt Bs x1 x2 j5 (Mn (Int.toNat x1)) (Sz (Int.toNat x1)) (x4 + 1) 0)) := by
                                intro hp218 ht218 x218_1 hf218
                                refine r_ladd (pc := 218) (v := w189_12 + x218_1) dX12_spread_218 rfl ?_
                                refine r_lstore (pc := 219) (lv' := [(12, .long (w189_12 + x218_1)), (0, .ref y), (1, .int (iv x1)), (2, .int (iv x2)), (3, .int (iv x3)), (4, .int (iv x4)), (5, .long j5), (7, .int (iv (Sz (Int.toNat x1)))), (8, .int (iv v11_8)), (9, .int (iv v21_9)), (10, .long w189_10), (14, .int (iv v69_14))]) dX12_spread_219 (by decide) rfl ?_
                                refine Rn.pick (lv' := [(0, .ref y), (1, .int (iv x1)), (2, .int (iv x2)), (3, .int (iv x3)), (4, .int (iv x4)), (5, .long j5), (7, .int (iv (Sz (Int.toNat x1)))), (8, .int (iv v11_8)), (9, .int (iv v21_9)), (10, .long w189_10), (12, .long (w189_12 + x218_1)), (14, .int (iv v69_14))]) [1, 2, 3, 4, 5, 6, 7, 8, 9, 10, 0, 11] rfl ?_
                                exact B221 _ ht218 w189_10 (w189_12 + x218_1) (by (first | assumption | exact fun h9 => bxq_st ((show (1 : Int) ≤ _ → bxP _ _ _ _ _ _ _ _ _ _ _ _ by assumption) h9)))
                              refine t_lif_ne (pc := 196) (tgt := 217) dX12_spread_196 (by decide) (fun c196 => ?_) (fun c196 => ?_)
                              · refine r_lconst (pc := 217) (v := 0) dX12_spread_217 (by decide) ?_
                                have hk217 : (0 : Int64).toInt = 0 := by decide
                                refine Rn.pick (lv' := [(0, .ref y), (1, .int (iv x1)), (2, .int (iv x2)), (3, .int (iv x3)), (4, .int (iv x4)), (5, .long j5), (7, .int (iv (Sz (Int.toNat x1)))), (8, .int (iv v11_8)), (9, .int (iv v21_9)), (10, .long w189_10), (14, .int (iv v69_14))]) [0, 1, 2, 3, 4, 5, 6, 7, 8, 9, 11] rfl ?_
                                exact B218 _ ht189 (0 : Int64) trivial
                              · refine r_aload_n (pc := 199) dX12_spread_199 (i := 0) rfl rfl ?_
                                refine t_getE (pc := 200) (.ref (y + 28)) ht189 (rd_ov (by omega) hO) fX12_94 dX12_spread_200 rfl ?_
                                refine r_bipush (pc := 203) (v := iv 16) dX12_spread_203 (by decide) ?_
                                refine r_iload (pc := 205) dX12_spread_205 rfl ?_
                                refine r_iconst (pc := 207) (v := iv 1) dX12_spread_207 (by decide) ?_
                                refine r_isub (pc := 208) (v := iv (v11_8 - 1)) dX12_spread_208 (iv_sub _ _) ?_
                                refine r_imul (pc := 209) (v := iv (16 * (v11_8 - 1))) dX12_spread_209 (iv_mul _ _) ?_
                                refine r_iload (pc := 210) dX12_spread_210 rfl ?_
                                refine r_iadd (pc := 212) (v := iv ((16 * (v11_8 - 1)) + (inV Fr To Dr x1 v69_14 v21_9))) dX12_spread_212 (iv_add _ _) ?_
                                refine t_lald (pc := 213) (t0 := 1) ht189 (rd_ov (by omega) (rd_of hA_ways1)) dX12_spread_213 rfl (by decide) (by omega) (fun w13 _ => ?_)
                                refine r_goto (pc := 214) (tgt := 218) dX12_spread_214 (by decide) ?_
                                refine Rn.pick (lv' := [(0, .ref y), (1, .int (iv x1)), (2, .int (iv x2)), (3, .int (iv x3)), (4, .int (iv x4)), (5, .long j5), (7, .int (iv (Sz (Int.toNat x1)))), (8, .int (iv v11_8)), (9, .int (iv v21_9)), (10, .long w189_10), (14, .int (iv v69_14))]) [0, 1, 2, 3, 4, 5, 6, 7, 8, 9, 11] rfl ?_
                                exact B218 _ ht189 w13 trivial
                            refine t_lif_ge (pc := 179) (tgt := 189) dX12_spread_179 (by decide) (fun c179 => ?_) (fun c179 => ?_)
                            · refine Rn.pick (lv' := [(0, .ref y), (1, .int (iv x1)), (2, .int (iv x2)), (3, .int (iv x3)), (4, .int (iv x4)), (5, .long j5), (7, .int (iv (Sz (Int.toNat x1)))), (8, .int (iv v11_8)), (9, .int (iv v21_9)), (10, .long w69_10), (12, .long w69_12), (14, .int (iv v69_14)), (15, .int (iv (inV Fr To Dr x1 v69_14 v21_9))), (16, .long ((Bs21 (Int.toNat ((16 * (v11_8 - 1)) + (inV Fr To Dr x1 v69_14 v21_9)))) + ((iv u170_1).toInt64)))]) [1, 2, 3, 4, 5, 6, 7, 8, 9, 10, 11, 12, 13, 0] rfl ?_
                              exact B189 _ ht170 w69_10 w69_12 (by (first | exact fun h9 => bxq_st ((show (1 : Int) ≤ _ → bxP _ _ _ _ _ _ _ _ _ _ _ _ by assumption) h9) | exact fun h9 => bxq_new (by omega) hln))
                            · refine r_lload (pc := 182) dX12_spread_182 rfl ?_
                              refine r_lstore (pc := 184) (lv' := [(10, .long ((Bs21 (Int.toNat ((16 * (v11_8 - 1)) + (inV Fr To Dr x1 v69_14 v21_9)))) + ((iv u170_1).toInt64))), (16, .long ((Bs21 (Int.toNat ((16 * (v11_8 - 1)) + (inV Fr To Dr x1 v69_14 v21_9)))) + ((iv u170_1).toInt64))), (0, .ref y), (1, .int (iv x1)), (2, .int (iv x2)), (3, .int (iv x3)), (4, .int (iv x4)), (5, .long j5), (7, .int (iv (Sz (Int.toNat x1)))), (8, .int (iv v11_8)), (9, .int (iv v21_9)), (12, .long w69_12), (14, .int (iv v69_14)), (15, .int (iv (inV Fr To Dr x1 v69_14 v21_9)))]) dX12_spread_184 (by decide) rfl ?_
                              refine r_lconst (pc := 186) (v := 0) dX12_spread_186 (by decide) ?_
                              have hk186 : (0 : Int64).toInt = 0 := by decide
                              refine r_lstore (pc := 187) (lv' := [(12, .long (0 : Int64)), (10, .long ((Bs21 (Int.toNat ((16 * (v11_8 - 1)) + (inV Fr To Dr x1 v69_14 v21_9)))) + ((iv u170_1).toInt64))), (16, .long ((Bs21 (Int.toNat ((16 * (v11_8 - 1)) + (inV Fr To Dr x1 v69_14 v21_9)))) + ((iv u170_1).toInt64))), (0, .ref y), (1, .int (iv x1)), (2, .int (iv x2)), (3, .int (iv x3)), (4, .int (iv x4)), (5, .long j5), (7, .int (iv (Sz (Int.toNat x1)))), (8, .int (iv v11_8)), (9, .int (iv v21_9)), (14, .int (iv v69_14)), (15, .int (iv (inV Fr To Dr x1 v69_14 v21_9)))]) dX12_spread_187 (by decide) rfl ?_
                              refine Rn.pick (lv' := [(0, .ref y), (1, .int (iv x1)), (2, .int (iv x2)), (3, .int (iv x3)), (4, .int (iv x4)), (5, .long j5), (7, .int (iv (Sz (Int.toNat x1)))), (8, .int (iv v11_8)), (9, .int (iv v21_9)), (10, .long ((Bs21 (Int.toNat ((16 * (v11_8 - 1)) + (inV Fr To Dr x1 v69_14 v21_9)))) + ((iv u170_1).toInt64))), (12, .long (0 : Int64)), (14, .int (iv v69_14)), (15, .int (iv (inV Fr To Dr x1 v69_14 v21_9))), (16, .long ((Bs21 (Int.toNat ((16 * (v11_8 - 1)) + (inV Fr To Dr x1 v69_14 v21_9)))) + ((iv u170_1).toInt64)))]) [3, 4, 5, 6, 7, 8, 9, 10, 11, 1, 0, 12, 13, 2] rfl ?_
                              exact B189 _ ht170 ((Bs21 (Int.toNat ((16 * (v11_8 - 1)) + (inV Fr To Dr x1 v69_14 v21_9)))) + ((iv u170_1).toInt64)) (0 : Int64) (by (first | exact fun h9 => bxq_st ((show (1 : Int) ≤ _ → bxP _ _ _ _ _ _ _ _ _ _ _ _ by assumption) h9) | exact fun h9 => bxq_new (by omega) hln))
                          refine t_if_ne (pc := 152) (tgt := 169) dX12_spread_152 (by decide) (by omega) (fun c152 => ?_) (fun c152 => ?_)
                          · refine r_iconst (pc := 169) (v := iv 0) dX12_spread_169 (by decide) ?_
                            refine Rn.pick (lv' := [(0, .ref y), (1, .int (iv x1)), (2, .int (iv x2)), (3, .int (iv x3)), (4, .int (iv x4)), (5, .long j5), (7, .int (iv (Sz (Int.toNat x1)))), (8, .int (iv v11_8)), (9, .int (iv v21_9)), (10, .long w69_10), (12, .long w69_12), (14, .int (iv v69_14)), (15, .int (iv (inV Fr To Dr x1 v69_14 v21_9)))]) [1, 2, 3, 4, 5, 6, 7, 8, 9, 10, 11, 12, 0] rfl ?_
                            exact B170 _ ht11 0 ⟨by omega, by omega, by (unfold wkV; split <;> omega)⟩
                          · refine r_aload_n (pc := 155) dX12_spread_155 (i := 0) rfl rfl ?_
                            refine t_getE (pc := 156) (.ref (y + 7)) ht11 (rd_ov (by omega) hO) fX12_29 dX12_spread_156 rfl ?_
                            refine r_iload_n (pc := 159) dX12_spread_159 (i := 1) rfl rfl ?_
                            refine r_iload (pc := 160) dX12_spread_160 rfl ?_
                            refine t_callSI (pc := 162) (as := [.int (iv x1), .int (iv v69_14)]) (st := [.ref (y + 7), .long (Bs21 (Int.toNat ((16 * (v11_8 - 1)) + (inV Fr To Dr x1 v69_14 v21_9))))]) kX12_157 dX12_spread_162 (t_X12_at1x (d := d - 1) (x1 := x1) (x2 := v69_14) (by omega)  ht11 (by omega) (by omega)) rfl (by omega) (Nat.le_of_ble_eq_true rfl) rfl (fun hp14 y16 ht15 by16 => ?_)
                            have ey16 : y16 = 60 * x1 + v69_14 := by16
                            subst ey16
                            refine t_ialdX (pc := 165) (t0 := 0) ht15 (rd_ov (by omega) hA_weight) dX12_spread_165 rfl (by decide) (by omega) (fun b17 => ?_)
                            have rb17 := (show Rfx 7260 (-1000) 1000 Wt by assumption) (Int.toNat (60 * x1 + v69_14)) (by omega)
                            refine r_goto (pc := 166) (tgt := 170) dX12_spread_166 (by decide) ?_
                            refine Rn.pick (lv' := [(0, .ref y), (1, .int (iv x1)), (2, .int (iv x2)), (3, .int (iv x3)), (4, .int (iv x4)), (5, .long j5), (7, .int (iv (Sz (Int.toNat x1)))), (8, .int (iv v11_8)), (9, .int (iv v21_9)), (10, .long w69_10), (12, .long w69_12), (14, .int (iv v69_14)), (15, .int (iv (inV Fr To Dr x1 v69_14 v21_9)))]) [1, 2, 3, 4, 5, 6, 7, 8, 9, 10, 11, 12, 0] rfl ?_
                            exact B170 _ ht15 (Wt (Int.toNat (60 * x1 + v69_14))) ⟨by omega, by omega, by (unfold wkV; split <;> omega)⟩
              refine Rn.pick (lv' := [(0, .ref y), (1, .int (iv x1)), (2, .int (iv x2)), (3, .int (iv x3)), (4, .int (iv x4)), (5, .long j5), (7, .int (iv (Sz (Int.toNat x1)))), (8, .int (iv v11_8)), (9, .int (iv v21_9)), (10, .long x46_0), (12, .long x64_0), (14, .int (iv 0))]) [2, 3, 4, 5, 6, 7, 8, 9, 10, 11, 1, 0] rfl ?_
              exact B69 (Int.toNat (60 - 0)) _ ht64 0 x46_0 x64_0 ⟨by omega, by omega, by omega, by (first | assumption | exact fun h9 => bxq_0 (by omega))⟩ (by omega)
            have B63 : ∀ hp63 : MH, Tw (ov Γ (y + 27) (xJ cJ 272 Bs21)) hp63 → True → Rn (gG D cI cJ cZ cT lo b L xs) mX12_spread d 63 [(0, .ref y), (1, .int (iv x1)), (2, .int (iv x2)), (3, .int (iv x3)), (4, .int (iv x4)), (5, .long j5), (7, .int (iv (Sz (Int.toNat x1)))), (8, .int (iv v11_8)), (9, .int (iv v21_9)), (10, .long x46_0)] [] hp63 n 0 0 (pS Γ cJ y n (fun Bs => dpP Fr To Dr Wt Bs x1 x2 j5 (Mn (Int.toNat x1)) (Sz (Int.toNat x1)) (x4 + 1) 0)) := by
              intro hp63 ht63 hf63
              refine r_lconst (pc := 63) (v := 0) dX12_spread_63 (by decide) ?_
              have hk63 : (0 : Int64).toInt = 0 := by decide
              refine Rn.pick (lv' := [(0, .ref y), (1, .int (iv x1)), (2, .int (iv x2)), (3, .int (iv x3)), (4, .int (iv x4)), (5, .long j5), (7, .int (iv (Sz (Int.toNat x1)))), (8, .int (iv v11_8)), (9, .int (iv v21_9)), (10, .long x46_0)]) [0, 1, 2, 3, 4, 5, 6, 7, 8, 9] rfl ?_
              exact B64 _ ht63 (0 : Int64) trivial
            refine t_if_ne (pc := 50) (tgt := 63) dX12_spread_50 (by decide) (by omega) (fun c50 => ?_) (fun c50 => ?_)
            · refine Rn.pick (lv' := [(0, .ref y), (1, .int (iv x1)), (2, .int (iv x2)), (3, .int (iv x3)), (4, .int (iv x4)), (5, .long j5), (7, .int (iv (Sz (Int.toNat x1)))), (8, .int (iv v11_8)), (9, .int (iv v21_9)), (10, .long x46_0)]) [1, 2, 3, 4, 5, 6, 7, 8, 9, 0] rfl ?_
              exact B63 _ ht46 trivial
            · refine r_iload (pc := 53) dX12_spread_53 rfl ?_
              refine r_iload_n (pc := 55) dX12_spread_55 (i := 3) rfl rfl ?_
              refine t_icmp_ne (pc := 56) (tgt := 63) dX12_spread_56 (by decide) (by omega) (by omega) (fun c56 => ?_) (fun c56 => ?_)
              · refine Rn.pick (lv' := [(0, .ref y), (1, .int (iv x1)), (2, .int (iv x2)), (3, .int (iv x3)), (4, .int (iv x4)), (5, .long j5), (7, .int (iv (Sz (Int.toNat x1)))), (8, .int (iv v11_8)), (9, .int (iv v21_9)), (10, .long x46_0)]) [1, 2, 3, 4, 5, 6, 7, 8, 9, 0] rfl ?_
                exact B63 _ ht46 trivial
              · refine r_lconst (pc := 59) (v := 1) dX12_spread_59 (by decide) ?_
                have hk59 : (1 : Int64).toInt = 1 := by decide
                refine r_goto (pc := 60) (tgt := 64) dX12_spread_60 (by decide) ?_
                refine Rn.pick (lv' := [(0, .ref y), (1, .int (iv x1)), (2, .int (iv x2)), (3, .int (iv x3)), (4, .int (iv x4)), (5, .long j5), (7, .int (iv (Sz (Int.toNat x1)))), (8, .int (iv v11_8)), (9, .int (iv v21_9)), (10, .long x46_0)]) [1, 2, 3, 4, 5, 6, 7, 8, 9, 0] rfl ?_
                exact B64 _ ht46 (1 : Int64) trivial
          have B43 : ∀ hp43 : MH, Tw (ov Γ (y + 27) (xJ cJ 272 Bs21)) hp43 → True → Rn (gG D cI cJ cZ cT lo b L xs) mX12_spread d 43 [(0, .ref y), (1, .int (iv x1)), (2, .int (iv x2)), (3, .int (iv x3)), (4, .int (iv x4)), (5, .long j5), (7, .int (iv (Sz (Int.toNat x1)))), (8, .int (iv v11_8)), (9, .int (iv v21_9))] [] hp43 n 0 0 (pS Γ cJ y n (fun Bs => dpP Fr To Dr Wt Bs x1 x2 j5 (Mn (Int.toNat x1)) (Sz (Int.toNat x1)) (x4 + 1) 0)) := by
            intro hp43 ht43 hf43
            refine r_ldc2 (pc := 43) (v := 1000000000000) dX12_spread_43 kX12_251 ?_
            have hk43 : (1000000000000 : Int64).toInt = 1000000000000 := by decide
            refine Rn.pick (lv' := [(0, .ref y), (1, .int (iv x1)), (2, .int (iv x2)), (3, .int (iv x3)), (4, .int (iv x4)), (5, .long j5), (7, .int (iv (Sz (Int.toNat x1)))), (8, .int (iv v11_8)), (9, .int (iv v21_9))]) [0, 1, 2, 3, 4, 5, 6, 7, 8] rfl ?_
            exact B46 _ ht43 (1000000000000 : Int64) (by omega)
          refine t_if_ne (pc := 30) (tgt := 43) dX12_spread_30 (by decide) (by omega) (fun c30 => ?_) (fun c30 => ?_)
          · refine Rn.pick (lv' := [(0, .ref y), (1, .int (iv x1)), (2, .int (iv x2)), (3, .int (iv x3)), (4, .int (iv x4)), (5, .long j5), (7, .int (iv (Sz (Int.toNat x1)))), (8, .int (iv v11_8)), (9, .int (iv v21_9))]) [0, 1, 2, 3, 4, 5, 6, 7, 8] rfl ?_
            exact B43 _ ht21 trivial
          · refine r_iload (pc := 33) dX12_spread_33 rfl ?_
            refine r_iload_n (pc := 35) dX12_spread_35 (i := 3) rfl rfl ?_
            refine t_icmp_ne (pc := 36) (tgt := 43) dX12_spread_36 (by decide) (by omega) (by omega) (fun c36 => ?_) (fun c36 => ?_)
            · refine Rn.pick (lv' := [(0, .ref y), (1, .int (iv x1)), (2, .int (iv x2)), (3, .int (iv x3)), (4, .int (iv x4)), (5, .long j5), (7, .int (iv (Sz (Int.toNat x1)))), (8, .int (iv v11_8)), (9, .int (iv v21_9))]) [0, 1, 2, 3, 4, 5, 6, 7, 8] rfl ?_
              exact B43 _ ht21 trivial
            · refine r_lconst (pc := 39) (v := 0) dX12_spread_39 (by decide) ?_
              have hk39 : (0 : Int64).toInt = 0 := by decide
              refine r_goto (pc := 40) (tgt := 46) dX12_spread_40 (by decide) ?_
              refine Rn.pick (lv' := [(0, .ref y), (1, .int (iv x1)), (2, .int (iv x2)), (3, .int (iv x3)), (4, .int (iv x4)), (5, .long j5), (7, .int (iv (Sz (Int.toNat x1)))), (8, .int (iv v11_8)), (9, .int (iv v21_9))]) [0, 1, 2, 3, 4, 5, 6, 7, 8] rfl ?_
              exact B46 _ ht21 (0 : Int64) (by omega)
      refine Rn.pick (lv' := [(0, .ref y), (1, .int (iv x1)), (2, .int (iv x2)), (3, .int (iv x3)), (4, .int (iv x4)), (5, .long j5), (7, .int (iv (Sz (Int.toNat x1)))), (8, .int (iv v11_8)), (9, .int (iv 0))]) [1, 2, 3, 4, 5, 6, 7, 8, 0] rfl ?_
      exact B21 (Int.toNat (16 - 0)) Bs11 _ ht11 0 ⟨by omega, by omega, by assumption⟩ (by omega)
  refine Rn.pick (lv' := [(0, .ref y), (1, .int (iv x1)), (2, .int (iv x2)), (3, .int (iv x3)), (4, .int (iv x4)), (5, .long j5), (7, .int (iv (Sz (Int.toNat x1)))), (8, .int (iv 0))]) [2, 3, 4, 5, 6, 7, 1, 0] rfl ?_
  exact B11 (Int.toNat (17 - 0)) Bs0 _ ht0 0 ⟨by omega, by omega, by omega, by assumption⟩ (by omega)
set_option maxHeartbeats 4000000 in
set_option maxRecDepth 100000 in
theorem t_X12_fillx {D : va_G} {cI cJ cZ cT : ClassId} {lo b L : Nat} {xs : Nat → Int32} {hp : MH} {n d : Nat} {Γ : TG} {y : Nat} {rf cnt nm : Int32} {Fr To Dr Wt Mn Sz : Nat → Int} {x1 x2 x3 x4 x5 : Int} {j6 : Int64} (hd0 : 4 ≤ d) (hO : rd Γ y (tO 11 (mdF y rf cnt nm))) (hA_from : rd Γ (y + 5) (xI cI 7260 Fr)) (hR_from : Rfx 7260 0 15 Fr) (hA_to : rd Γ (y + 6) (xI cI 7260 To)) (hR_to : Rfx 7260 0 15 To) (hA_directs : rd Γ (y + 3) (xI cZ 121 Dr)) (hR_directs : Rfx 121 0 1 Dr) (hA_weight : rd Γ (y + 7) (xI cI 7260 Wt)) (hR_weight : Rfx 7260 (-1000) 1000 Wt) (hA_many : rd Γ (y + 4) (xI cI 121 Mn)) (hR_many : Rfx 121 0 60 Mn) (hA_sizes : rd Γ (y + 2) (xI cI 121 Sz)) (hR_sizes : Rfx 121 0 16 Sz) (hA_state : Γ (y + 10) = some (tI cI 1936 (rg 0 2))) (hA_worth : Γ (y + 11) = some (tJ cJ 1936 anyJ)) (hA_long1 : Γ (y + 12) = some (tI cI 1936 (rg (-1) 15))) (hA_howMany : Γ (y + 13) = some (tJ cJ 1936 anyJ)) (hA_rows : Γ (y + 14) = some (tI cI 30976 (rg 0 59))) (hA_best : Γ (y + 27) = some (tJ cJ 272 anyJ)) (hA_ways1 : Γ (y + 28) = some (tJ cJ 272 anyJ)) (hA_round : Γ (y + 29) = some (tJ cJ 16 anyJ)) (hA_round2 : Γ (y + 30) = some (tJ cJ 16 anyJ)) (ht : Tw Γ hp) (hx1 : 0 ≤ x1 ∧ x1 ≤ 119) (hx2 : 0 ≤ x2 ∧ x2 ≤ 120) (hx3 : 0 ≤ x3 ∧ x3 ≤ 2) (hx4 : 0 ≤ x4 ∧ x4 ≤ 15) (hx5 : 0 ≤ x5 ∧ x5 ≤ 15) (hEn : enP Fr To Mn Sz x2) (hv : x5 < (Sz (Int.toNat x2))) (hs : x4 < (Sz (Int.toNat x2))) : Mt (gG D cI cJ cZ cT lo b L xs) mX12_fill d 0 0 [.ref y, .int (iv x1), .int (iv x2), .int (iv x3), .int (iv x4), .int (iv x5), .long j6] hp n (pV Γ n) := by
  refine Mt.of rfl (Nat.le_of_ble_eq_true rfl) ?_
  refine Rn.pick (lv' := [(0, .ref y), (1, .int (iv x1)), (2, .int (iv x2)), (3, .int (iv x3)), (4, .int (iv x4)), (5, .int (iv x5)), (6, .long j6)]) [0, 1, 2, 3, 4, 5, 6] rfl ?_
  have rMn := hR_many (Int.toNat x2) (by omega)
  have rSz := hR_sizes (Int.toNat x2) (by omega)
  refine r_aload_n (pc := 0) dX12_fill_0 (i := 0) rfl rfl ?_
  refine t_getE (pc := 1) (.ref (y + 2)) ht hO fX12_13 dX12_fill_1 rfl ?_
  refine r_iload_n (pc := 4) dX12_fill_4 (i := 2) rfl rfl ?_
  refine t_ialdX (pc := 5) (t0 := 0) ht hA_sizes dX12_fill_5 rfl (by decide) (by omega) (fun b1 => ?_)
  have rb1 := (show Rfx 121 0 16 Sz by assumption) (Int.toNat x2) (by omega)
  refine r_istore (pc := 6) (lv' := [(8, .int (iv (Sz (Int.toNat x2)))), (0, .ref y), (1, .int (iv x1)), (2, .int (iv x2)), (3, .int (iv x3)), (4, .int (iv x4)), (5, .int (iv x5)), (6, .long j6)]) dX12_fill_6 (by decide) rfl ?_
  refine r_bipush (pc := 8) (v := iv 16) dX12_fill_8 (by decide) ?_
  refine r_iload_n (pc := 10) dX12_fill_10 (i := 1) rfl rfl ?_
  refine r_imul (pc := 11) (v := iv (16 * x1)) dX12_fill_11 (iv_mul _ _) ?_
  refine r_iload (pc := 12) dX12_fill_12 rfl ?_
  refine r_iadd (pc := 14) (v := iv ((16 * x1) + x5)) dX12_fill_14 (iv_add _ _) ?_
  refine r_istore (pc := 15) (lv' := [(9, .int (iv ((16 * x1) + x5))), (8, .int (iv (Sz (Int.toNat x2)))), (0, .ref y), (1, .int (iv x1)), (2, .int (iv x2)), (3, .int (iv x3)), (4, .int (iv x4)), (5, .int (iv x5)), (6, .long j6)]) dX12_fill_15 (by decide) rfl ?_
  refine r_aload_n (pc := 17) dX12_fill_17 (i := 0) rfl rfl ?_
  refine t_getE (pc := 18) (.ref (y + 10)) ht hO fX12_39 dX12_fill_18 rfl ?_
  refine r_iload (pc := 21) dX12_fill_21 rfl ?_
  refine r_iconst (pc := 23) (v := iv 0) dX12_fill_23 (by decide) ?_
  refine t_iastR (pc := 24) (t0 := 0) ht hA_state dX12_fill_24 rfl (by decide) (by decide) (by omega) (by omega) (fun hp2 ht3 => ?_)
  refine r_aload_n (pc := 25) dX12_fill_25 (i := 0) rfl rfl ?_
  refine t_getE (pc := 26) (.ref (y + 11)) ht3 hO fX12_42 dX12_fill_26 rfl ?_
  refine r_iload (pc := 29) dX12_fill_29 rfl ?_
  refine r_lconst (pc := 31) (v := 0) dX12_fill_31 (by decide) ?_
  have hk31 : (0 : Int64).toInt = 0 := by decide
  refine t_last (pc := 32) (t0 := 1) ht3 hA_worth dX12_fill_32 rfl (by decide) (by omega) trivial (fun hp4 ht5 => ?_)
  refine r_aload_n (pc := 33) dX12_fill_33 (i := 0) rfl rfl ?_
  refine t_getE (pc := 34) (.ref (y + 12)) ht5 hO fX12_45 dX12_fill_34 rfl ?_
  refine r_iload (pc := 37) dX12_fill_37 rfl ?_
  refine r_iconst (pc := 39) (v := iv (-1)) dX12_fill_39 (by decide) ?_
  refine t_iastR (pc := 40) (t0 := 0) ht5 hA_long1 dX12_fill_40 rfl (by decide) (by decide) (by omega) (by omega) (fun hp6 ht7 => ?_)
  refine r_aload_n (pc := 41) dX12_fill_41 (i := 0) rfl rfl ?_
  refine t_getE (pc := 42) (.ref (y + 13)) ht7 hO fX12_48 dX12_fill_42 rfl ?_
  refine r_iload (pc := 45) dX12_fill_45 rfl ?_
  refine r_lconst (pc := 47) (v := 0) dX12_fill_47 (by decide) ?_
  have hk47 : (0 : Int64).toInt = 0 := by decide
  refine t_last (pc := 48) (t0 := 1) ht7 hA_howMany dX12_fill_48 rfl (by decide) (by omega) trivial (fun hp8 ht9 => ?_)
  refine r_aload_n (pc := 49) dX12_fill_49 (i := 0) rfl rfl ?_
  refine r_iload_n (pc := 50) dX12_fill_50 (i := 2) rfl rfl ?_
  refine r_iload_n (pc := 51) dX12_fill_51 (i := 3) rfl rfl ?_
  refine r_iload (pc := 52) dX12_fill_52 rfl ?_
  refine r_iload (pc := 54) dX12_fill_54 rfl ?_
  refine r_lload (pc := 56) dX12_fill_56 rfl ?_
  obtain ⟨fs14, hfs14⟩ := t_obj ht9 hO
  refine r_callV (pc := 58) (as := [.int (iv x2), .int (iv x3), .int (iv x4), .int (iv (Sz (Int.toNat x2))), .long j6]) (st := []) kX12_272 rfl dX12_fill_58 hfs14 (t_X12_spreadx (d := d - 1) (x1 := x2) (x2 := x3) (x3 := x4) (x4 := Sz (Int.toNat x2)) (j5 := j6) (by omega) hO hA_from (show Rfx 7260 0 15 Fr by assumption) hA_to (show Rfx 7260 0 15 To by assumption) hA_directs (show Rfx 121 0 1 Dr by assumption) hA_weight (show Rfx 7260 (-1000) 1000 Wt by assumption) hA_many (show Rfx 121 0 60 Mn by assumption) hA_sizes (show Rfx 121 0 16 Sz by assumption) (rd_of hA_best) hA_ways1 ht9 (by omega) (by omega) (by omega) (by omega)) rfl (by omega) (Nat.le_of_ble_eq_true rfl) (Nat.zero_le _) (Nat.zero_le _) rfl (fun r11 hp10 n12 hq13 => ?_)
  obtain ⟨hnn12, hrr11, Bs1, ht15, hD⟩ := hq13
  subst n12 r11
  change Rn _ _ _ 61 _ [] _ _ _ _ _
  refine r_iconst (pc := 61) (v := iv (-1)) dX12_fill_61 (by decide) ?_
  refine r_istore (pc := 62) (lv' := [(10, .int (iv (-1))), (9, .int (iv ((16 * x1) + x5))), (8, .int (iv (Sz (Int.toNat x2)))), (0, .ref y), (1, .int (iv x1)), (2, .int (iv x2)), (3, .int (iv x3)), (4, .int (iv x4)), (5, .int (iv x5)), (6, .long j6)]) dX12_fill_62 (by decide) rfl ?_
  refine r_iconst (pc := 64) (v := iv 0) dX12_fill_64 (by decide) ?_
  refine r_istore (pc := 65) (lv' := [(11, .int (iv 0)), (10, .int (iv (-1))), (9, .int (iv ((16 * x1) + x5))), (8, .int (iv (Sz (Int.toNat x2)))), (0, .ref y), (1, .int (iv x1)), (2, .int (iv x2)), (3, .int (iv x3)), (4, .int (iv x4)), (5, .int (iv x5)), (6, .long j6)]) dX12_fill_65 (by decide) rfl ?_
  have B67 : ∀ k : Nat, ∀ hp67 : MH, Tw (ov Γ (y + 27) (xJ cJ 272 Bs1)) hp67 → ∀  (v67_10 : Int) (v67_11 : Int), (-1) ≤ v67_10 ∧ v67_10 ≤ 15 ∧ 0 ≤ v67_11 ∧ v67_11 ≤ 16 ∧ v67_11 ≤ (Sz (Int.toNat x2)) ∧ v67_10 < v67_11 ∧ (0 ≤ v67_10 → (Bs1 (Int.toNat (16 * v67_10 + x5))).toInt < 1000000000000) → 16 - v67_11 ≤ (k : Int) → Rn (gG D cI cJ cZ cT lo b L xs) mX12_fill d 67 [(0, .ref y), (1, .int (iv x1)), (2, .int (iv x2)), (3, .int (iv x3)), (4, .int (iv x4)), (5, .int (iv x5)), (6, .long j6), (8, .int (iv (Sz (Int.toNat x2)))), (9, .int (iv ((16 * x1) + x5))), (10, .int (iv v67_10)), (11, .int (iv v67_11))] [] hp67 n 0 0 (pV Γ n) := by
    refine lpS _ ?_
    intro k67 ih67 hp67 ht67 v67_10 v67_11 hf67 hm67
    refine r_iload (pc := 67) dX12_fill_67 rfl ?_
    refine r_iload (pc := 69) dX12_fill_69 rfl ?_
    refine t_icmp_ge (pc := 71) (tgt := 136) dX12_fill_71 (by decide) (by omega) (by omega) (fun c71 => ?_) (fun c71 => ?_)
    · refine r_iload (pc := 136) dX12_fill_136 rfl ?_
      refine t_if_ge (pc := 138) (tgt := 142) dX12_fill_138 (by decide) (by omega) (fun c138 => ?_) (fun c138 => ?_)
      · refine r_iload_n (pc := 142) dX12_fill_142 (i := 3) rfl rfl ?_
        have B167 : ∀ hp167 : MH, Tw (ov Γ (y + 27) (xJ cJ 272 Bs1)) hp167 → True → Rn (gG D cI cJ cZ cT lo b L xs) mX12_fill d 167 [(0, .ref y), (1, .int (iv x1)), (2, .int (iv x2)), (3, .int (iv x3)), (5, .int (iv x5)), (6, .long j6), (9, .int (iv ((16 * x1) + x5))), (10, .int (iv v67_10))] [] hp167 n 0 0 (pV Γ n) := by
          intro hp167 ht167 hf167
          refine r_aload_n (pc := 167) dX12_fill_167 (i := 0) rfl rfl ?_
          refine t_getE (pc := 168) (.ref (y + 10)) ht167 (rd_ov (by omega) hO) fX12_39 dX12_fill_168 rfl ?_
          refine r_iload (pc := 171) dX12_fill_171 rfl ?_
          refine r_iconst (pc := 173) (v := iv 1) dX12_fill_173 (by decide) ?_
          refine t_iastR (pc := 174) (t0 := 0) ht167 (eq_ov (by omega) hA_state) dX12_fill_174 rfl (by decide) (by decide) (by omega) (by omega) (fun hp16 ht17 => ?_)
          refine r_aload_n (pc := 175) dX12_fill_175 (i := 0) rfl rfl ?_
          refine t_getE (pc := 176) (.ref (y + 11)) ht17 (rd_ov (by omega) hO) fX12_42 dX12_fill_176 rfl ?_
          refine r_iload (pc := 179) dX12_fill_179 rfl ?_
          refine r_iload_n (pc := 181) dX12_fill_181 (i := 3) rfl rfl ?_
          have B214 : ∀ hp214 : MH, Tw (ov Γ (y + 27) (xJ cJ 272 Bs1)) hp214 → ∀  (x214_2 : Int64), True → Rn (gG D cI cJ cZ cT lo b L xs) mX12_fill d 214 [(0, .ref y), (1, .int (iv x1)), (2, .int (iv x2)), (3, .int (iv x3)), (5, .int (iv x5)), (6, .long j6), (9, .int (iv ((16 * x1) + x5))), (10, .int (iv v67_10))] [.long x214_2, .int (iv ((16 * x1) + x5)), .ref (y + 11)] hp214 n 0 0 (pV Γ n) := by
            intro hp214 ht214 x214_2 hf214
            refine t_last (pc := 214) (t0 := 1) ht214 (eq_ov (by omega) hA_worth) dX12_fill_214 rfl (by decide) (by omega) trivial (fun hp18 ht19 => ?_)
            refine r_aload_n (pc := 215) dX12_fill_215 (i := 0) rfl rfl ?_
            refine t_getE (pc := 216) (.ref (y + 12)) ht19 (rd_ov (by omega) hO) fX12_45 dX12_fill_216 rfl ?_
            refine r_iload (pc := 219) dX12_fill_219 rfl ?_
            refine r_iload (pc := 221) dX12_fill_221 rfl ?_
            refine t_iastR (pc := 223) (t0 := 0) ht19 (eq_ov (by omega) hA_long1) dX12_fill_223 rfl (by decide) (by decide) (by omega) (by omega) (fun hp20 ht21 => ?_)
            refine r_aload_n (pc := 224) dX12_fill_224 (i := 0) rfl rfl ?_
            refine t_getE (pc := 225) (.ref (y + 13)) ht21 (rd_ov (by omega) hO) fX12_48 dX12_fill_225 rfl ?_
            refine r_iload (pc := 228) dX12_fill_228 rfl ?_
            refine r_aload_n (pc := 230) dX12_fill_230 (i := 0) rfl rfl ?_
            refine t_getE (pc := 231) (.ref (y + 28)) ht21 (rd_ov (by omega) hO) fX12_94 dX12_fill_231 rfl ?_
            refine r_bipush (pc := 234) (v := iv 16) dX12_fill_234 (by decide) ?_
            refine r_iload (pc := 236) dX12_fill_236 rfl ?_
            refine r_imul (pc := 238) (v := iv (16 * v67_10)) dX12_fill_238 (iv_mul _ _) ?_
            refine r_iload (pc := 239) dX12_fill_239 rfl ?_
            refine r_iadd (pc := 241) (v := iv ((16 * v67_10) + x5)) dX12_fill_241 (iv_add _ _) ?_
            refine t_lald (pc := 242) (t0 := 1) ht21 (rd_ov (by omega) (rd_of hA_ways1)) dX12_fill_242 rfl (by decide) (by omega) (fun w22 _ => ?_)
            refine t_last (pc := 243) (t0 := 1) ht21 (eq_ov (by omega) hA_howMany) dX12_fill_243 rfl (by decide) (by omega) trivial (fun hp23 ht24 => ?_)
            refine r_iload (pc := 244) dX12_fill_244 rfl ?_
            refine r_istore (pc := 246) (lv' := [(11, .int (iv x5)), (0, .ref y), (1, .int (iv x1)), (2, .int (iv x2)), (3, .int (iv x3)), (5, .int (iv x5)), (6, .long j6), (9, .int (iv ((16 * x1) + x5))), (10, .int (iv v67_10))]) dX12_fill_246 (by decide) rfl ?_
            refine r_iload (pc := 248) dX12_fill_248 rfl ?_
            refine r_istore (pc := 250) (lv' := [(12, .int (iv v67_10)), (11, .int (iv x5)), (0, .ref y), (1, .int (iv x1)), (2, .int (iv x2)), (3, .int (iv x3)), (5, .int (iv x5)), (6, .long j6), (9, .int (iv ((16 * x1) + x5))), (10, .int (iv v67_10))]) dX12_fill_250 (by decide) rfl ?_
            have B252 : ∀ k : Nat, ∀ hp252 : MH, Tw (ov Γ (y + 27) (xJ cJ 272 Bs1)) hp252 → ∀  (v252_11 : Int) (v252_12 : Int), 0 ≤ v252_11 ∧ v252_11 ≤ 15 ∧ 0 ≤ v252_12 ∧ v252_12 ≤ 15 ∧ v252_12 ≤ v67_10 ∧ v252_11 < (Sz (Int.toNat x2)) ∧ (1 ≤ v252_12 → (Bs1 (Int.toNat (16 * v252_12 + v252_11))).toInt < 1000000000000) ∧ v252_12 < (Sz (Int.toNat x2)) → v252_12 - 0 ≤ (k : Int) → Rn (gG D cI cJ cZ cT lo b L xs) mX12_fill d 252 [(0, .ref y), (1, .int (iv x1)), (2, .int (iv x2)), (3, .int (iv x3)), (5, .int (iv x5)), (6, .long j6), (11, .int (iv v252_11)), (12, .int (iv v252_12))] [] hp252 n 0 0 (pV Γ n) := by
              refine lpS _ ?_
              intro k252 ih252 hp252 ht252 v252_11 v252_12 hf252 hm252
              refine r_iload (pc := 252) dX12_fill_252 rfl ?_
              refine t_if_le (pc := 254) (tgt := 323) dX12_fill_254 (by decide) (by omega) (fun c254 => ?_) (fun c254 => ?_)
              · exact r_vret (pc := 323) dX12_fill_323 rfl ⟨rfl, (Tw.closeJ ht252 hA_best (fun _ _ => trivial)), rfl⟩
              · refine r_iconst (pc := 257) (v := iv 0) dX12_fill_257 (by decide) ?_
                refine r_istore (pc := 258) (lv' := [(13, .int (iv 0)), (0, .ref y), (1, .int (iv x1)), (2, .int (iv x2)), (3, .int (iv x3)), (5, .int (iv x5)), (6, .long j6), (11, .int (iv v252_11)), (12, .int (iv v252_12))]) dX12_fill_258 (by decide) rfl ?_
                have hx258 : lxP Fr To Dr Wt Bs1 x2 x3 j6 (Mn (Int.toNat x2)) 0 v252_11 v252_12 := lx_0 hD (by omega) (by omega) (by omega) (by omega)
                have B260 : ∀ k : Nat, ∀ hp260 : MH, Tw (ov Γ (y + 27) (xJ cJ 272 Bs1)) hp260 → ∀  (v260_13 : Int), 0 ≤ v260_13 ∧ v260_13 ≤ 59 ∧ lxP Fr To Dr Wt Bs1 x2 x3 j6 (Mn (Int.toNat x2)) v260_13 v252_11 v252_12 → (Mn (Int.toNat x2)) - v260_13 ≤ (k : Int) → Rn (gG D cI cJ cZ cT lo b L xs) mX12_fill d 260 [(0, .ref y), (1, .int (iv x1)), (2, .int (iv x2)), (3, .int (iv x3)), (5, .int (iv x5)), (6, .long j6), (11, .int (iv v252_11)), (12, .int (iv v252_12)), (13, .int (iv v260_13))] [] hp260 n 0 0 (pV Γ n) := by
                  refine lpS _ ?_
                  intro k260 ih260 hp260 ht260 v260_13 hf260 hm260
                  obtain ⟨hf260_0, hf260_1, ha260_2⟩ := hf260
                  refine r_aload_n (pc := 260) dX12_fill_260 (i := 0) rfl rfl ?_
                  refine r_iload_n (pc := 261) dX12_fill_261 (i := 2) rfl rfl ?_
                  refine r_iload_n (pc := 262) dX12_fill_262 (i := 3) rfl rfl ?_
                  refine r_lload (pc := 263) dX12_fill_263 rfl ?_
                  refine r_iload (pc := 265) dX12_fill_265 rfl ?_
                  refine r_iload (pc := 267) dX12_fill_267 rfl ?_
                  refine r_iload (pc := 269) dX12_fill_269 rfl ?_
                  have hlt9 : v260_13 < (Mn (Int.toNat x2)) := lx_lt (by assumption)
                  refine t_callVI (pc := 271) (as := [.int (iv x2), .int (iv x3), .long j6, .int (iv v260_13), .int (iv v252_11), .int (iv v252_12)]) (st := []) ht260 (rd_ov (by omega) hO) kX12_279 rfl dX12_fill_271 (t_X12_isLastx (d := d - 1) (x1 := x2) (x2 := x3) (j3 := j6) (x4 := v260_13) (x5 := v252_11) (x6 := v252_12) (by omega) (rd_ov (by omega) hO) (rd_ov (by omega) hA_from) (show Rfx 7260 0 15 Fr by assumption) (rd_ov (by omega) hA_to) (show Rfx 7260 0 15 To by assumption) (rd_ov (by omega) hA_directs) (show Rfx 121 0 1 Dr by assumption) (rd_ov (by omega) hA_weight) (show Rfx 7260 (-1000) 1000 Wt by assumption) (rd_of (ov_s _ _ _)) ht260 (by omega) (by omega) (by omega) (by omega) (by omega)) rfl (by omega) (Nat.le_of_ble_eq_true rfl) rfl (fun hp25 y27 ht26 by27 => ?_)
                  obtain ⟨by271, hla⟩ := by27
                  refine t_if_ne (pc := 274) (tgt := 283) dX12_fill_274 (by decide) (by omega) (fun c274 => ?_) (fun c274 => ?_)
                  · refine r_aload_n (pc := 283) dX12_fill_283 (i := 0) rfl rfl ?_
                    obtain ⟨hi9, hb9⟩ := la_in (hla.mp (by omega))
                    have hn9 := inV_n hEn (by omega) hi9
                    refine t_getE (pc := 284) (.ref (y + 14)) ht26 (rd_ov (by omega) hO) fX12_51 dX12_fill_284 rfl ?_
                    refine r_sipush (pc := 287) (v := iv 256) dX12_fill_287 (by decide) ?_
                    refine r_iload_n (pc := 290) dX12_fill_290 (i := 1) rfl rfl ?_
                    refine r_imul (pc := 291) (v := iv (256 * x1)) dX12_fill_291 (iv_mul _ _) ?_
                    refine r_bipush (pc := 292) (v := iv 16) dX12_fill_292 (by decide) ?_
                    refine r_iload (pc := 294) dX12_fill_294 rfl ?_
                    refine r_imul (pc := 296) (v := iv (16 * x5)) dX12_fill_296 (iv_mul _ _) ?_
                    refine r_iadd (pc := 297) (v := iv ((256 * x1) + (16 * x5))) dX12_fill_297 (iv_add _ _) ?_
                    refine r_iload (pc := 298) dX12_fill_298 rfl ?_
                    refine r_iadd (pc := 300) (v := iv (((256 * x1) + (16 * x5)) + v252_12)) dX12_fill_300 (iv_add _ _) ?_
                    refine r_iconst (pc := 301) (v := iv 1) dX12_fill_301 (by decide) ?_
                    refine r_isub (pc := 302) (v := iv ((((256 * x1) + (16 * x5)) + v252_12) - 1)) dX12_fill_302 (iv_sub _ _) ?_
                    refine r_iload (pc := 303) dX12_fill_303 rfl ?_
                    refine t_iastR (pc := 305) (t0 := 0) ht26 (eq_ov (by omega) hA_rows) dX12_fill_305 rfl (by decide) (by decide) (by omega) (by omega) (fun hp28 ht29 => ?_)
                    refine r_aload_n (pc := 306) dX12_fill_306 (i := 0) rfl rfl ?_
                    refine r_iload_n (pc := 307) dX12_fill_307 (i := 2) rfl rfl ?_
                    refine r_iload (pc := 308) dX12_fill_308 rfl ?_
                    refine r_iload (pc := 310) dX12_fill_310 rfl ?_
                    refine t_callVI (pc := 312) (as := [.int (iv x2), .int (iv v260_13), .int (iv v252_11)]) (st := []) ht29 (rd_ov (by omega) hO) kX12_253 rfl dX12_fill_312 (t_X12_intox (d := d - 1) (x1 := x2) (x2 := v260_13) (x3 := v252_11) (by omega) (rd_ov (by omega) hO) (rd_ov (by omega) hA_from) (show Rfx 7260 0 15 Fr by assumption) (rd_ov (by omega) hA_to) (show Rfx 7260 0 15 To by assumption) (rd_ov (by omega) hA_directs) (show Rfx 121 0 1 Dr by assumption) ht29 (by omega) (by omega) (by omega)) rfl (by omega) (Nat.le_of_ble_eq_true rfl) rfl (fun hp30 y32 ht31 by32 => ?_)
                    have ey32 : y32 = inV Fr To Dr x2 v260_13 v252_11 := by32
                    subst ey32
                    have ry32 := inV_r (Fr := Fr) (To := To) (Dr := Dr) (g := x2) (e := v260_13) (v := v252_11) (by assumption) (by assumption) (by omega) (by omega)
                    refine r_istore (pc := 315) (lv' := [(11, .int (iv (inV Fr To Dr x2 v260_13 v252_11))), (0, .ref y), (1, .int (iv x1)), (2, .int (iv x2)), (3, .int (iv x3)), (5, .int (iv x5)), (6, .long j6), (12, .int (iv v252_12)), (13, .int (iv v260_13))]) dX12_fill_315 (by decide) rfl ?_
                    refine r_iinc (pc := 317) (v := iv (v252_12 - 1)) (lv' := [(12, .int (iv (v252_12 - 1))), (11, .int (iv (inV Fr To Dr x2 v260_13 v252_11))), (0, .ref y), (1, .int (iv x1)), (2, .int (iv x2)), (3, .int (iv x3)), (5, .int (iv x5)), (6, .long j6), (13, .int (iv v260_13))]) dX12_fill_317 rfl ((iv_add _ _).trans (congrArg iv (show v252_12 + (-1) = v252_12 - 1 by omega))) (by decide) rfl ?_
                    refine r_goto (pc := 320) (tgt := 252) dX12_fill_320 (by decide) ?_
                    refine Rn.pick (lv' := [(0, .ref y), (1, .int (iv x1)), (2, .int (iv x2)), (3, .int (iv x3)), (5, .int (iv x5)), (6, .long j6), (11, .int (iv (inV Fr To Dr x2 v260_13 v252_11))), (12, .int (iv (v252_12 - 1)))]) [2, 3, 4, 5, 6, 7, 1, 0] rfl ?_
                    exact ih252 (Int.toNat ((v252_12 - 1) - 0)) (by omega) _ ht31 (inV Fr To Dr x2 v260_13 v252_11) (v252_12 - 1) ⟨by omega, by omega, by omega, by omega, by omega, by omega, by omega, by omega⟩ (by omega)
                  · refine r_iinc (pc := 277) (v := iv (v260_13 + 1)) (lv' := [(13, .int (iv (v260_13 + 1))), (0, .ref y), (1, .int (iv x1)), (2, .int (iv x2)), (3, .int (iv x3)), (5, .int (iv x5)), (6, .long j6), (11, .int (iv v252_11)), (12, .int (iv v252_12))]) dX12_fill_277 rfl (iv_add _ _) (by decide) rfl ?_
                    have hx277 : lxP Fr To Dr Wt Bs1 x2 x3 j6 (Mn (Int.toNat x2)) (v260_13 + 1) v252_11 v252_12 := lx_st (by assumption) (fun h9 => by have h8 := hla.mpr h9; omega)
                    have hlt277 := lx_lt hx277
                    refine r_goto (pc := 280) (tgt := 260) dX12_fill_280 (by decide) ?_
                    refine Rn.pick (lv' := [(0, .ref y), (1, .int (iv x1)), (2, .int (iv x2)), (3, .int (iv x3)), (5, .int (iv x5)), (6, .long j6), (11, .int (iv v252_11)), (12, .int (iv v252_12)), (13, .int (iv (v260_13 + 1)))]) [1, 2, 3, 4, 5, 6, 7, 8, 0] rfl ?_
                    exact ih260 (Int.toNat ((Mn (Int.toNat x2)) - (v260_13 + 1))) (by omega) _ ht26 (v260_13 + 1) ⟨by omega, by omega, by assumption⟩ (by omega)
                refine Rn.pick (lv' := [(0, .ref y), (1, .int (iv x1)), (2, .int (iv x2)), (3, .int (iv x3)), (5, .int (iv x5)), (6, .long j6), (11, .int (iv v252_11)), (12, .int (iv v252_12)), (13, .int (iv 0))]) [1, 2, 3, 4, 5, 6, 7, 8, 0] rfl ?_
                exact B260 (Int.toNat ((Mn (Int.toNat x2)) - 0)) _ ht252 0 ⟨by omega, by omega, by assumption⟩ (by omega)
            refine Rn.pick (lv' := [(0, .ref y), (1, .int (iv x1)), (2, .int (iv x2)), (3, .int (iv x3)), (5, .int (iv x5)), (6, .long j6), (11, .int (iv x5)), (12, .int (iv v67_10))]) [2, 3, 4, 5, 6, 7, 1, 0] rfl ?_
            exact B252 (Int.toNat (v67_10 - 0)) _ ht24 x5 v67_10 ⟨by omega, by omega, by omega, by omega, by omega, by omega, by omega, by omega⟩ (by omega)
          refine t_if_ne (pc := 182) (tgt := 201) dX12_fill_182 (by decide) (by omega) (fun c182 => ?_) (fun c182 => ?_)
          · refine r_iload_n (pc := 201) dX12_fill_201 (i := 3) rfl rfl ?_
            refine r_iconst (pc := 202) (v := iv 1) dX12_fill_202 (by decide) ?_
            refine t_icmp_ne (pc := 203) (tgt := 212) dX12_fill_203 (by decide) (by omega) (by omega) (fun c203 => ?_) (fun c203 => ?_)
            · refine r_lload (pc := 212) dX12_fill_212 rfl ?_
              refine Rn.pick (lv' := [(0, .ref y), (1, .int (iv x1)), (2, .int (iv x2)), (3, .int (iv x3)), (5, .int (iv x5)), (6, .long j6), (9, .int (iv ((16 * x1) + x5))), (10, .int (iv v67_10))]) [0, 1, 2, 3, 4, 5, 6, 7] rfl ?_
              exact B214 _ ht17 j6 trivial
            · refine r_iload (pc := 206) dX12_fill_206 rfl ?_
              refine r_i2l (pc := 208) (v := (iv v67_10).toInt64) dX12_fill_208 rfl ?_
              refine r_goto (pc := 209) (tgt := 214) dX12_fill_209 (by decide) ?_
              refine Rn.pick (lv' := [(0, .ref y), (1, .int (iv x1)), (2, .int (iv x2)), (3, .int (iv x3)), (5, .int (iv x5)), (6, .long j6), (9, .int (iv ((16 * x1) + x5))), (10, .int (iv v67_10))]) [0, 1, 2, 3, 4, 5, 6, 7] rfl ?_
              exact B214 _ ht17 ((iv v67_10).toInt64) trivial
          · refine r_aload_n (pc := 185) dX12_fill_185 (i := 0) rfl rfl ?_
            refine t_getE (pc := 186) (.ref (y + 27)) ht17 (rd_ov (by omega) hO) fX12_91 dX12_fill_186 rfl ?_
            refine r_bipush (pc := 189) (v := iv 16) dX12_fill_189 (by decide) ?_
            refine r_iload (pc := 191) dX12_fill_191 rfl ?_
            refine r_imul (pc := 193) (v := iv (16 * v67_10)) dX12_fill_193 (iv_mul _ _) ?_
            refine r_iload (pc := 194) dX12_fill_194 rfl ?_
            refine r_iadd (pc := 196) (v := iv ((16 * v67_10) + x5)) dX12_fill_196 (iv_add _ _) ?_
            refine t_laldX (pc := 197) (t0 := 1) ht17 (rd_of (ov_s _ _ _)) dX12_fill_197 rfl (by decide) (by omega) ?_
            refine r_goto (pc := 198) (tgt := 214) dX12_fill_198 (by decide) ?_
            refine Rn.pick (lv' := [(0, .ref y), (1, .int (iv x1)), (2, .int (iv x2)), (3, .int (iv x3)), (5, .int (iv x5)), (6, .long j6), (9, .int (iv ((16 * x1) + x5))), (10, .int (iv v67_10))]) [0, 1, 2, 3, 4, 5, 6, 7] rfl ?_
            exact B214 _ ht17 (Bs1 (Int.toNat ((16 * v67_10) + x5))) trivial
        refine t_if_ne (pc := 143) (tgt := 167) dX12_fill_143 (by decide) (by omega) (fun c143 => ?_) (fun c143 => ?_)
        · refine Rn.pick (lv' := [(0, .ref y), (1, .int (iv x1)), (2, .int (iv x2)), (3, .int (iv x3)), (5, .int (iv x5)), (6, .long j6), (9, .int (iv ((16 * x1) + x5))), (10, .int (iv v67_10))]) [0, 1, 2, 3, 5, 6, 8, 9] rfl ?_
          exact B167 _ ht67 trivial
        · refine r_aload_n (pc := 146) dX12_fill_146 (i := 0) rfl rfl ?_
          refine r_iload_n (pc := 147) dX12_fill_147 (i := 2) rfl rfl ?_
          refine r_iload (pc := 148) dX12_fill_148 rfl ?_
          refine r_iload (pc := 150) dX12_fill_150 rfl ?_
          refine t_callVR (pc := 152) (as := [.int (iv x2), .int (iv x4), .int (iv x5)]) (st := []) ht67 (rd_ov (by omega) hO) kX12_276 rfl dX12_fill_152 (t_X12_isEndless (d := d - 1) (x1 := x2) (x2 := x4) (x3 := x5) (by omega) (rd_ov (by omega) hO) (rd_xr (rd_ov (by omega) hA_sizes) (show Rfx 121 0 16 Sz by assumption)) (rd_xr (rd_ov (by omega) hA_directs) (show Rfx 121 0 1 Dr by assumption)) (rd_xr (rd_ov (by omega) hA_many) (show Rfx 121 0 60 Mn by assumption)) (rd_xr (rd_ov (by omega) hA_from) (show Rfx 7260 0 15 Fr by assumption)) (rd_xr (rd_ov (by omega) hA_to) (show Rfx 7260 0 15 To by assumption)) (rd_xr (rd_ov (by omega) hA_weight) (show Rfx 7260 (-1000) 1000 Wt by assumption)) (eq_ov (by omega) hA_round) (eq_ov (by omega) hA_round2) ht67 (by omega) (by omega) (by omega)) rfl (by omega) (Nat.le_of_ble_eq_true rfl) rfl (fun hp33 y35 ht34 by35 => ?_)
          refine t_if_eq (pc := 155) (tgt := 167) dX12_fill_155 (by decide) (by omega) (fun c155 => ?_) (fun c155 => ?_)
          · refine Rn.pick (lv' := [(0, .ref y), (1, .int (iv x1)), (2, .int (iv x2)), (3, .int (iv x3)), (5, .int (iv x5)), (6, .long j6), (9, .int (iv ((16 * x1) + x5))), (10, .int (iv v67_10))]) [0, 1, 2, 3, 5, 6, 8, 9] rfl ?_
            exact B167 _ ht34 trivial
          · refine r_aload_n (pc := 158) dX12_fill_158 (i := 0) rfl rfl ?_
            refine t_getE (pc := 159) (.ref (y + 10)) ht34 (rd_ov (by omega) hO) fX12_39 dX12_fill_159 rfl ?_
            refine r_iload (pc := 162) dX12_fill_162 rfl ?_
            refine r_iconst (pc := 164) (v := iv 2) dX12_fill_164 (by decide) ?_
            refine t_iastR (pc := 165) (t0 := 0) ht34 (eq_ov (by omega) hA_state) dX12_fill_165 rfl (by decide) (by decide) (by omega) (by omega) (fun hp36 ht37 => ?_)
            exact r_vret (pc := 166) dX12_fill_166 rfl ⟨rfl, (Tw.closeJ ht37 hA_best (fun _ _ => trivial)), rfl⟩
      · exact r_vret (pc := 141) dX12_fill_141 rfl ⟨rfl, (Tw.closeJ ht67 hA_best (fun _ _ => trivial)), rfl⟩
    · refine r_aload_n (pc := 74) dX12_fill_74 (i := 0) rfl rfl ?_
      refine t_getE (pc := 75) (.ref (y + 27)) ht67 (rd_ov (by omega) hO) fX12_91 dX12_fill_75 rfl ?_
      refine r_bipush (pc := 78) (v := iv 16) dX12_fill_78 (by decide) ?_
      refine r_iload (pc := 80) dX12_fill_80 rfl ?_
      refine r_imul (pc := 82) (v := iv (16 * v67_11)) dX12_fill_82 (iv_mul _ _) ?_
      refine r_iload (pc := 83) dX12_fill_83 rfl ?_
      refine r_iadd (pc := 85) (v := iv ((16 * v67_11) + x5)) dX12_fill_85 (iv_add _ _) ?_
      refine t_laldX (pc := 86) (t0 := 1) ht67 (rd_of (ov_s _ _ _)) dX12_fill_86 rfl (by decide) (by omega) ?_
      refine r_lstore (pc := 87) (lv' := [(12, .long (Bs1 (Int.toNat ((16 * v67_11) + x5)))), (0, .ref y), (1, .int (iv x1)), (2, .int (iv x2)), (3, .int (iv x3)), (4, .int (iv x4)), (5, .int (iv x5)), (6, .long j6), (8, .int (iv (Sz (Int.toNat x2)))), (9, .int (iv ((16 * x1) + x5))), (10, .int (iv v67_10)), (11, .int (iv v67_11))]) dX12_fill_87 (by decide) rfl ?_
      refine r_lload (pc := 89) dX12_fill_89 rfl ?_
      refine r_ldc2 (pc := 91) (v := 1000000000000) dX12_fill_91 kX12_251 ?_
      have hk91 : (1000000000000 : Int64).toInt = 1000000000000 := by decide
      refine r_lcmp (pc := 94) dX12_fill_94 ?_
      have B130 : ∀ hp130 : MH, Tw (ov Γ (y + 27) (xJ cJ 272 Bs1)) hp130 → ∀  (v130_10 : Int), (-1) ≤ v130_10 ∧ v130_10 ≤ 15 ∧ v130_10 ≤ v67_11 ∧ (0 ≤ v130_10 → (Bs1 (Int.toNat (16 * v130_10 + x5))).toInt < 1000000000000) → Rn (gG D cI cJ cZ cT lo b L xs) mX12_fill d 130 [(0, .ref y), (1, .int (iv x1)), (2, .int (iv x2)), (3, .int (iv x3)), (4, .int (iv x4)), (5, .int (iv x5)), (6, .long j6), (8, .int (iv (Sz (Int.toNat x2)))), (9, .int (iv ((16 * x1) + x5))), (10, .int (iv v130_10)), (11, .int (iv v67_11))] [] hp130 n 0 0 (pV Γ n) := by
        intro hp130 ht130 v130_10 hf130
        refine r_iinc (pc := 130) (v := iv (v67_11 + 1)) (lv' := [(11, .int (iv (v67_11 + 1))), (0, .ref y), (1, .int (iv x1)), (2, .int (iv x2)), (3, .int (iv x3)), (4, .int (iv x4)), (5, .int (iv x5)), (6, .long j6), (8, .int (iv (Sz (Int.toNat x2)))), (9, .int (iv ((16 * x1) + x5))), (10, .int (iv v130_10))]) dX12_fill_130 rfl (iv_add _ _) (by decide) rfl ?_
        refine r_goto (pc := 133) (tgt := 67) dX12_fill_133 (by decide) ?_
        refine Rn.pick (lv' := [(0, .ref y), (1, .int (iv x1)), (2, .int (iv x2)), (3, .int (iv x3)), (4, .int (iv x4)), (5, .int (iv x5)), (6, .long j6), (8, .int (iv (Sz (Int.toNat x2)))), (9, .int (iv ((16 * x1) + x5))), (10, .int (iv v130_10)), (11, .int (iv (v67_11 + 1)))]) [1, 2, 3, 4, 5, 6, 7, 8, 9, 10, 0] rfl ?_
        exact ih67 (Int.toNat (16 - (v67_11 + 1))) (by omega) _ ht130 v130_10 (v67_11 + 1) ⟨by omega, by omega, by omega, by omega, by omega, by omega, by omega⟩ (by omega)
      refine t_lif_ge (pc := 95) (tgt := 130) dX12_fill_95 (by decide) (fun c95 => ?_) (fun c95 => ?_)
      · refine Rn.pick (lv' := [(0, .ref y), (1, .int (iv x1)), (2, .int (iv x2)), (3, .int (iv x3)), (4, .int (iv x4)), (5, .int (iv x5)), (6, .long j6), (8, .int (iv (Sz (Int.toNat x2)))), (9, .int (iv ((16 * x1) + x5))), (10, .int (iv v67_10)), (11, .int (iv v67_11))]) [1, 2, 3, 4, 5, 6, 7, 8, 9, 10, 11] rfl ?_
        exact B130 _ ht67 v67_10 ⟨by omega, by omega, by omega, by omega⟩
      · refine r_iload (pc := 98) dX12_fill_98 rfl ?_
        have B126 : ∀ hp126 : MH, Tw (ov Γ (y + 27) (xJ cJ 272 Bs1)) hp126 → True → Rn (gG D cI cJ cZ cT lo b L xs) mX12_fill d 126 [(0, .ref y), (1, .int (iv x1)), (2, .int (iv x2)), (3, .int (iv x3)), (4, .int (iv x4)), (5, .int (iv x5)), (6, .long j6), (8, .int (iv (Sz (Int.toNat x2)))), (9, .int (iv ((16 * x1) + x5))), (11, .int (iv v67_11))] [] hp126 n 0 0 (pV Γ n) := by
          intro hp126 ht126 hf126
          refine r_iload (pc := 126) dX12_fill_126 rfl ?_
          refine r_istore (pc := 128) (lv' := [(10, .int (iv v67_11)), (0, .ref y), (1, .int (iv x1)), (2, .int (iv x2)), (3, .int (iv x3)), (4, .int (iv x4)), (5, .int (iv x5)), (6, .long j6), (8, .int (iv (Sz (Int.toNat x2)))), (9, .int (iv ((16 * x1) + x5))), (11, .int (iv v67_11))]) dX12_fill_128 (by decide) rfl ?_
          refine Rn.pick (lv' := [(0, .ref y), (1, .int (iv x1)), (2, .int (iv x2)), (3, .int (iv x3)), (4, .int (iv x4)), (5, .int (iv x5)), (6, .long j6), (8, .int (iv (Sz (Int.toNat x2)))), (9, .int (iv ((16 * x1) + x5))), (10, .int (iv v67_11)), (11, .int (iv v67_11))]) [1, 2, 3, 4, 5, 6, 7, 8, 9, 0, 10] rfl ?_
          exact B130 _ ht126 v67_11 ⟨by omega, by omega, by omega, by omega⟩
        refine t_if_lt (pc := 100) (tgt := 126) dX12_fill_100 (by decide) (by omega) (fun c100 => ?_) (fun c100 => ?_)
        · refine Rn.pick (lv' := [(0, .ref y), (1, .int (iv x1)), (2, .int (iv x2)), (3, .int (iv x3)), (4, .int (iv x4)), (5, .int (iv x5)), (6, .long j6), (8, .int (iv (Sz (Int.toNat x2)))), (9, .int (iv ((16 * x1) + x5))), (11, .int (iv v67_11))]) [1, 2, 3, 4, 5, 6, 7, 8, 9, 11] rfl ?_
          exact B126 _ ht67 trivial
        · refine r_iload_n (pc := 103) dX12_fill_103 (i := 3) rfl rfl ?_
          refine t_if_ne (pc := 104) (tgt := 130) dX12_fill_104 (by decide) (by omega) (fun c104 => ?_) (fun c104 => ?_)
          · refine Rn.pick (lv' := [(0, .ref y), (1, .int (iv x1)), (2, .int (iv x2)), (3, .int (iv x3)), (4, .int (iv x4)), (5, .int (iv x5)), (6, .long j6), (8, .int (iv (Sz (Int.toNat x2)))), (9, .int (iv ((16 * x1) + x5))), (10, .int (iv v67_10)), (11, .int (iv v67_11))]) [1, 2, 3, 4, 5, 6, 7, 8, 9, 10, 11] rfl ?_
            exact B130 _ ht67 v67_10 ⟨by omega, by omega, by omega, by omega⟩
          · refine r_lload (pc := 107) dX12_fill_107 rfl ?_
            refine r_aload_n (pc := 109) dX12_fill_109 (i := 0) rfl rfl ?_
            refine t_getE (pc := 110) (.ref (y + 27)) ht67 (rd_ov (by omega) hO) fX12_91 dX12_fill_110 rfl ?_
            refine r_bipush (pc := 113) (v := iv 16) dX12_fill_113 (by decide) ?_
            refine r_iload (pc := 115) dX12_fill_115 rfl ?_
            refine r_imul (pc := 117) (v := iv (16 * v67_10)) dX12_fill_117 (iv_mul _ _) ?_
            refine r_iload (pc := 118) dX12_fill_118 rfl ?_
            refine r_iadd (pc := 120) (v := iv ((16 * v67_10) + x5)) dX12_fill_120 (iv_add _ _) ?_
            refine t_laldX (pc := 121) (t0 := 1) ht67 (rd_of (ov_s _ _ _)) dX12_fill_121 rfl (by decide) (by omega) ?_
            refine r_lcmp (pc := 122) dX12_fill_122 ?_
            refine t_lif_ge (pc := 123) (tgt := 130) dX12_fill_123 (by decide) (fun c123 => ?_) (fun c123 => ?_)
            · refine Rn.pick (lv' := [(0, .ref y), (1, .int (iv x1)), (2, .int (iv x2)), (3, .int (iv x3)), (4, .int (iv x4)), (5, .int (iv x5)), (6, .long j6), (8, .int (iv (Sz (Int.toNat x2)))), (9, .int (iv ((16 * x1) + x5))), (10, .int (iv v67_10)), (11, .int (iv v67_11))]) [1, 2, 3, 4, 5, 6, 7, 8, 9, 10, 11] rfl ?_
              exact B130 _ ht67 v67_10 ⟨by omega, by omega, by omega, by omega⟩
            · refine Rn.pick (lv' := [(0, .ref y), (1, .int (iv x1)), (2, .int (iv x2)), (3, .int (iv x3)), (4, .int (iv x4)), (5, .int (iv x5)), (6, .long j6), (8, .int (iv (Sz (Int.toNat x2)))), (9, .int (iv ((16 * x1) + x5))), (11, .int (iv v67_11))]) [1, 2, 3, 4, 5, 6, 7, 8, 9, 11] rfl ?_
              exact B126 _ ht67 trivial
  refine Rn.pick (lv' := [(0, .ref y), (1, .int (iv x1)), (2, .int (iv x2)), (3, .int (iv x3)), (4, .int (iv x4)), (5, .int (iv x5)), (6, .long j6), (8, .int (iv (Sz (Int.toNat x2)))), (9, .int (iv ((16 * x1) + x5))), (10, .int (iv (-1))), (11, .int (iv 0))]) [4, 5, 6, 7, 8, 9, 10, 3, 2, 1, 0] rfl ?_
  exact B67 (Int.toNat (16 - 0)) _ ht15 (-1) 0 ⟨by omega, by omega, by omega, by omega, by omega, by omega, by omega⟩ (by omega)
