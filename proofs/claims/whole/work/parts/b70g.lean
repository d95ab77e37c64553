theorem cp_len {F T W C : Nat → Int} {s : Int} : ∀ {k : Nat}, (acc (cpE F T W C s) k).length = k := by
  intro k
  induction k with
  | zero => rfl
  | succ k ih => show (acc _ k ++ [_]).length = k + 1; rw [List.length_append, ih]; rfl
theorem cp_get {F T W C : Nat → Int} {s : Int} : ∀ {k j : Nat}, j < k → (acc (cpE F T W C s) k)[j]? = some (F j + s, T j + s, W j, C j) := by
  intro k
  induction k with
  | zero => intro j hj; omega
  | succ k ih =>
    intro j hj
    show (acc _ k ++ [_])[j]? = _
    by_cases e : j = k
    · subst e
      rw [List.getElem?_append_right (by rw [cp_len]; exact Nat.le_refl _), cp_len, Nat.sub_self]; rfl
    · rw [List.getElem?_append_left (by rw [cp_len]; omega)]; exact ih (by omega)
theorem dq_PL {dn dd da : Int} {df dt dw dc sz dr mn fr tt wt co : Nat → Int} (h : DQ dn dd da df dt dw dc sz dr mn fr tt wt co) (h0 : 0 ≤ da) : PL (acc (cpE (sh fr 7200) (sh tt 7200) (sh wt 7200) (sh co 7200) 0) (Int.toNat (mn 120))) da df dt dw dc := by
  obtain ⟨h1, h2, h3, h4⟩ := h
  refine ⟨by rw [cp_len]; omega, fun k e he => ?_⟩
  have hk : k < Int.toNat (mn 120) := by
    have h9 := (List.getElem?_eq_some_iff.mp he).1
    rw [cp_len] at h9; exact h9
  rw [cp_get hk] at he
  obtain rfl := Option.some.inj he
  obtain ⟨q1, q2, q3, q4⟩ := h4 k (by omega)
  have e7 : (7200 + (k : Int)).toNat = 7200 + k := by omega
  refine ⟨?_, ?_, ?_, ?_⟩
  · show df k = fr (7200 + (k : Int)).toNat + 0
    rw [e7, Int.add_zero]; exact q1
  · show dt k = tt (7200 + (k : Int)).toNat + 0
    rw [e7, Int.add_zero]; exact q2
  · show dw k = wt (7200 + (k : Int)).toNat
    rw [e7]; exact q3
  · show dc k = co (7200 + (k : Int)).toNat
    rw [e7]; exact q4
theorem rnC_eq {m : Nat} {d : Int} {F T W : Nat → Int} {kind j own : Int} {c c' : Nat → Int64} {n : Int} (h : eqB c c' n) (hF : ∀ k, k < m → (0 ≤ F k ∧ F k < n) ∧ (0 ≤ T k ∧ T k < n)) : ∀ r : Nat, eqB (rnC m d F T W kind j own c r) (rnC m d F T W kind j own c' r) n := by
  intro r
  induction r with
  | zero => exact h
  | succ r ih => intro u hu; exact hdV_eq ih hu hF
/-- what a call that makes something leaves -/
def qM (Γ : TG) (cI cJ cZ cT : ClassId) (a : Nat) (dn dd da : Int) (df dt dw dc : Nat → Int) (n : Nat) (ct : Int) (th : Nat → Option Nat) (A : Int) (W : TG → Nat → Prop) : Option Value → MH → Nat → Prop := fun r hp1 n1 => n ≤ n1 ∧ ∃ (Γ1 : TG) (ct1 rv1 : Int) (th1 : Nat → Option Nat) (kn kd ka : Int) (kf kt kw kc : Nat → Int) (v : Int), Ext Γ Γ1 ∧ Tw (CG Γ1 cI cJ cZ cT a ct1 rv1 th1 dn dd da df dt dw dc kn kd ka kf kt kw kc) hp1 ∧ EK Γ1 cI cJ cZ a ct1 th1 dn dd da df dt dw dc kn kd ka ∧ r = some (.int (iv v)) ∧ v = A ∧ (-4 ≤ v ∧ v ≤ 119) ∧ (v < 0 → rv1 = v ∧ ct1 = ct ∧ th1 = th) ∧ (0 ≤ v → rv1 = 0 ∧ ct1 = ct + 1 ∧ ∃ t, th1 = va_up th ct.toNat (some t) ∧ W Γ1 t)
/-- what a call that asks leaves -/
def qA (Γ : TG) (cI cJ cZ cT : ClassId) (a : Nat) (dn dd da : Int) (df dt dw dc : Nat → Int) (n : Nat) (ct : Int) (th : Nat → Option Nat) (P : Option Value → Int → Prop) : Option Value → MH → Nat → Prop := fun r hp1 n1 => n ≤ n1 ∧ ∃ (Γ1 : TG) (rv1 : Int) (kn kd ka : Int) (kf kt kw kc : Nat → Int), Ext Γ Γ1 ∧ Tw (CG Γ1 cI cJ cZ cT a ct rv1 th dn dd da df dt dw dc kn kd ka kf kt kw kc) hp1 ∧ EK Γ1 cI cJ cZ a ct th dn dd da df dt dw dc kn kd ka ∧ (-2147483648 ≤ rv1 ∧ rv1 ≤ 2147483647) ∧ P r rv1
theorem WG_mk {Γ : TG} {cI cJ cZ : ClassId} {a t : Nat} {N D n1 d1 k1 : Int} {l : List A4} {f1 t1 w1 c1 : Nat → Int} (h : GX Γ cI cJ cZ a t n1 d1 k1 f1 t1 w1 c1) (hp : PL l k1 f1 t1 w1 c1) (hN : n1 = N) (hD : d1 = D) : WG Γ cI cJ cZ a N D l t := by
  subst hN; subst hD
  have e := hp.1
  subst e
  exact ⟨f1, t1, w1, c1, h, hp⟩
theorem WQ_mk {Γ : TG} {cI cJ cZ : ClassId} {a t gn z : Nat} {N : Int} {E E' : Nat → Nat → Prop} {vu vo : Nat → Int} {hp : MH} (ht : Tw Γ hp) (h1 : TyP Γ cI cJ cZ t (t + 1) (t + 2) gn z) (hl : a + 84 ≤ t) (h2 : rd Γ (t + 1) (xI cI gn vu)) (h3 : rd Γ (t + 2) (xI cI gn vo)) (h4 : nuP2 E vu gn) (h5 : (z : Int) = (cnP (fsP E) gn : Int)) (h6 : mbS vu gn (gn : Int) vo) (hN : N = (gn : Int)) (hE : E' = E) : WQ Γ cI cJ cZ a N E' t := by
  subst hE; subst hN
  exact ⟨(z : Int), vu, ⟨t + 1, t + 2, gn, z, vo, h1, by omega, h2, h3, rd_rx ht h2 h1.2.1, rd_rx ht h3 h1.2.2.1, h6, rfl, rfl⟩, h4, h5⟩
theorem lo_CG {Γ : TG} {cI cJ cZ cT : ClassId} {a : Nat} {ct : Int} {rv : Int} {th : Nat → Option Nat} {dn : Int} {dd : Int} {da : Int} {df : Nat → Int} {dt : Nat → Int} {dw : Nat → Int} {dc : Nat → Int} {kn : Int} {kd : Int} {ka : Int} {kf : Nat → Int} {kt : Nat → Int} {kw : Nat → Int} {kc : Nat → Int} {n : Nat} (h : ∀ (q : Nat) (T : va_E → Prop), (CG Γ cI cJ cZ cT a ct rv th dn dd da df dt dw dc kn kd ka kf kt kw kc) q = some T → q < n) (hn : a + 14 ≤ n) : ∀ (q : Nat) (T : va_E → Prop), Γ q = some T → q < n := by
  intro q T hq
  by_cases hr : a ≤ q ∧ q < a + 14
  · omega
  · exact h q T (by rw [CG_o (by omega)]; exact hq)
theorem rd_unCG {Γ : TG} {cI cJ cZ cT : ClassId} {a : Nat} {ct : Int} {rv : Int} {th : Nat → Option Nat} {dn : Int} {dd : Int} {da : Int} {df : Nat → Int} {dt : Nat → Int} {dw : Nat → Int} {dc : Nat → Int} {kn : Int} {kd : Int} {ka : Int} {kf : Nat → Int} {kt : Nat → Int} {kw : Nat → Int} {kc : Nat → Int} {q : Nat} {T : va_E → Prop} (hq : a + 14 ≤ q) (h : rd (CG Γ cI cJ cZ cT a ct rv th dn dd da df dt dw dc kn kd ka kf kt kw kc) q T) : rd Γ q T := by
  obtain ⟨T0, h0, h1⟩ := h
  exact ⟨T0, by rw [CG_o (by omega)] at h0; exact h0, h1⟩
theorem WQ_un {Γ : TG} {cI cJ cZ cT : ClassId} {a : Nat} {ct : Int} {rv : Int} {th : Nat → Option Nat} {dn : Int} {dd : Int} {da : Int} {df : Nat → Int} {dt : Nat → Int} {dw : Nat → Int} {dc : Nat → Int} {kn : Int} {kd : Int} {ka : Int} {kf : Nat → Int} {kt : Nat → Int} {kw : Nat → Int} {kc : Nat → Int} {N : Int} {E : Nat → Nat → Prop} {t : Nat} (hn : True) (h : WQ (CG Γ cI cJ cZ cT a ct rv th dn dd da df dt dw dc kn kd ka kf kt kw kc) cI cJ cZ a N E t) : WQ Γ cI cJ cZ a N E t := by
  obtain ⟨Z, q, ⟨rN, rO, rn, rz, vo, h1, h2, h3, h4, h5⟩, h6⟩ := h
  exact ⟨Z, q, ⟨rN, rO, rn, rz, vo, ⟨rd_unCG (by omega) h1.1, rd_unCG (by omega) h1.2.1, rd_unCG (by omega) h1.2.2.1, h1.2.2.2⟩, h2, rd_unCG (by omega) h3, rd_unCG (by omega) h4, h5⟩, h6⟩
theorem c_X5_initx_n {D : va_G} {cI cJ cZ cT : ClassId} {lo b L : Nat} {xs : Nat → Int32} {hp : MH} {d : Nat} {Γ : TG} {ga : Nat} {gF : Nat} {gT : Nat} {gW : Nat} {gC : Nat} {gTl : Nat} {gHd : Nat} {gBy : Nat} {gOu : Nat} {gIn : Nat} {gJo : Nat} {gn : Nat} {gm : Nat} {gq : Nat} {gdr : Int} {F T W C Tl Hd By Ou In Jo : Nat → Int} {pa : Nat} {x2 : Int} {nuc : Nat → Int64} (hd0 : 3 ≤ d) (hg : TyG Γ cI cJ cZ ga gF gT gW gC gTl gHd gBy gOu gIn gJo gn gm gq gdr) (hxg : XG Γ cI gF gT gW gC gTl gHd gBy gOu gIn gJo gn gm gq F T W C Tl Hd By Ou In Jo) (h0 : hp pa = some (.inr (5, [.int 0, .int 0, .null, .null]))) (hlo : ∀ (q : Nat) (T : va_E → Prop), Γ q = some T → q < pa) (ht : Tw Γ hp) (hx2 : 0 ≤ x2 ∧ x2 ≤ 3) (hou9 : rwP Ou gn (stP gm gdr F T)) (hin9 : rwP In gn (fun i j => stP gm gdr F T j i)) (hjo : rwP Jo gn (joX gm F T (fun _ => True))) : Mt (gG D cI cJ cZ cT lo b L xs) mX5_init d 3 (gn + gn + gn) [.ref pa, .ref ga, .int (iv x2), .null] hp (pa + 1) (pPx Γ cI cJ cZ pa gn (pa + 1) (ptE gm gdr F T nuc x2)) := by
  rcases (show x2 ≤ 1 ∨ x2 = 2 ∨ x2 = 3 by omega) with h9 | h9 | h9
  · exact c_X5_initx_01 (by omega) hg hxg h0 hlo ht (by omega) hou9 hin9 hjo
  · exact c_X5_initx_2 (by omega) hg hxg h0 hlo ht (by omega) hou9 hin9 hjo
  · exact c_X5_initx_3 (by omega) hg hxg h0 hlo ht (by omega) hou9 hin9 hjo
set_option maxHeartbeats 4000000 in
set_option maxRecDepth 100000 in
theorem y_X11_view {D : va_G} {cI cJ cZ cT : ClassId} {lo b L : Nat} {xs : Nat → Int32} {hp : MH} {n d : Nat} {Γ : TG} {a : Nat} {ct : Int} {rv : Int} {th : Nat → Option Nat} {dn : Int} {dd : Int} {da : Int} {df : Nat → Int} {dt : Nat → Int} {dw : Nat → Int} {dc : Nat → Int} {kn : Int} {kd : Int} {ka : Int} {kf : Nat → Int} {kt : Nat → Int} {kw : Nat → Int} {kc : Nat → Int} {so sz dr mn fr tt wt co : Nat → Int} {nu : Nat → Int64} {qi qc : Nat → Int} {x1 x2 x3 : Int} (hd0 : 5 ≤ d) (hk : EK Γ cI cJ cZ a ct th dn dd da df dt dw dc kn kd ka) (hm : HM Γ cI cJ cZ a ct th so sz dr mn fr tt wt co nu qi qc) (hrv : -2147483648 ≤ rv ∧ rv ≤ 2147483647) (hna : a + 84 ≤ n) (ht : Tw (CG Γ cI cJ cZ cT a ct rv th dn dd da df dt dw dc kn kd ka kf kt kw kc) hp) (hx1 : (-2147483648) ≤ x1 ∧ x1 ≤ 2147483647) (hx2 : (-2147483648) ≤ x2 ∧ x2 ≤ 2147483647) (hx3 : (-2147483648) ≤ x3 ∧ x3 ≤ 2147483647) : Mt (gG D cI cJ cZ cT lo b L xs) mX11_view d 11 662 [.ref a, .int (iv x1), .int (iv x2), .int (iv x3)] hp n (qM Γ cI cJ cZ cT a dn dd da df dt dw dc n ct th (an1 ct so x1 1 (x2 < 0 ∨ 7 < x2 ∨ (x2 = 4 ∧ (x3 ≤ 0 ∨ ((2 ^ (Int.toNat (sz (Int.toNat x1))) : Nat) : Int) ≤ x3)) ∨ (x2 = 7 ∧ ((mn (Int.toNat x1)) = 0 ∨ 16 < (mn (Int.toNat x1))))) (60 < (((vwL (Int.toNat (sz (Int.toNat x1))) (Int.toNat (mn (Int.toNat x1))) (dr (Int.toNat x1)) (sh fr (60 * x1)) (sh tt (60 * x1)) (sh wt (60 * x1)) (sh co (60 * x1)) x2 x3)).length : Int) ∨ ct = 120)) (fun Γ1 t => WG Γ1 cI cJ cZ a (if x2 = 4 then bcI x3 16 else if x2 = 7 then (mn (Int.toNat x1)) else (sz (Int.toNat x1))) (if x2 = 1 then 0 else (dr (Int.toNat x1))) (vwL (Int.toNat (sz (Int.toNat x1))) (Int.toNat (mn (Int.toNat x1))) (dr (Int.toNat x1)) (sh fr (60 * x1)) (sh tt (60 * x1)) (sh wt (60 * x1)) (sh co (60 * x1)) x2 x3) t)) := by
  refine Mt.of rfl (Nat.le_of_ble_eq_true rfl) ?_
  refine Rn.pick (lv' := [(0, .ref a), (1, .int (iv x1)), (2, .int (iv x2)), (3, .int (iv x3))]) [0, 1, 2, 3] rfl ?_
  obtain ⟨hct, hth, ⟨hdn, hdd1, hda, har⟩, ⟨hkn, hkd, hka⟩, hsh, hse, hpr, hfl, hsm⟩ := id hk
  refine r_aload_n (pc := 0) dX11_view_0 (i := 0) rfl rfl ?_
  refine r_iconst (pc := 1) (v := iv 0) dX11_view_1 (by decide) ?_
  refine t_putX (pc := 2) (ty := .int) ht CG_0 fX11_19 tyX11 tyX11_ok nmX11 (by decide +kernel) (Or.inl rfl) dX11_view_2 (Nat.le_of_ble_eq_true rfl) rfl rfl rfl (fun hp1 ht2 => ?_)
  have ht3 := RGw_rv ht2
  refine r_aload_n (pc := 5) dX11_view_5 (i := 0) rfl rfl ?_
  refine r_iload_n (pc := 6) dX11_view_6 (i := 1) rfl rfl ?_
  refine u_graphAt (pc := 7) (x := x1) (st := []) hct hm ht3 kX11_106 dX11_view_7 (by omega) (Nat.le_of_ble_eq_true rfl) (by omega) (fun hp4 ht5 hnog => ?_) (fun hp4 ga ht5 hyeg hTg => ?_)
  · refine r_astoreN (pc := 10) (lv' := [(4, .null), (0, .ref a), (1, .int (iv x1)), (2, .int (iv x2)), (3, .int (iv x3))]) dX11_view_10 (by decide) rfl ?_
    refine r_aloadN (pc := 12) dX11_view_12 rfl ?_
    refine r_ifnonnullN (pc := 14) dX11_view_14 ?_
    refine r_aload_n (pc := 17) dX11_view_17 (i := 0) rfl rfl ?_
    refine r_aload_n (pc := 18) dX11_view_18 (i := 0) rfl rfl ?_
    refine r_iload_n (pc := 19) dX11_view_19 (i := 1) rfl rfl ?_
    obtain ⟨fs10, hfs10⟩ := t_obj ht5 (rd_of CG_0)
    refine r_callV (pc := 20) (as := [.int (iv x1)]) (st := [.ref a]) kX11_110 rfl dX11_view_20 hfs10 (uw_X11_whyNot (d := d - 1) (x1 := x1) (by omega)  ht5 (by omega) (by omega) hm) rfl (by omega) (Nat.le_of_ble_eq_true rfl) (Nat.zero_le _) (Nat.zero_le _) rfl (fun r7 hp6 n8 hq9 => ?_)
    obtain ⟨hnn8, bb_12, ht11, hrr7, hhq90, hhq91⟩ := hq9
    subst n8 r7
    have hhq90 : -2 ≤ bb_12 ∧ bb_12 ≤ -1 := hhq90
    have hhq91 : (bb_12 = -1 ∧ ¬ (0 ≤ x1 ∧ x1 < ct)) ∨ (bb_12 = -2 ∧ 0 ≤ x1 ∧ x1 < ct) := hhq91
    change Rn _ _ _ 23 _ [.int (iv bb_12), .ref a] _ _ _ _ _
    obtain ⟨fs17, hfs17⟩ := t_obj ht11 (rd_of CG_0)
    refine r_callV (pc := 23) (as := [.int (iv bb_12)]) (st := []) kX11_82 rfl dX11_view_23 hfs17 (s_X11_refuse (d := d - 1) (x1 := bb_12) (by omega)  ht11 (by omega)) rfl (by omega) (Nat.le_of_ble_eq_true rfl) (Nat.zero_le _) (Nat.zero_le _) rfl (fun r14 hp13 n15 hq16 => ?_)
    obtain ⟨hnn15, ht18, hrr14⟩ := hq16
    subst n15 r14
    change Rn _ _ _ 26 _ [.int (iv bb_12)] _ _ _ _ _
    exact r_iret (pc := 26) dX11_view_26 rfl ⟨by omega, Γ, ct, bb_12, th, kn, kd, ka, kf, kt, kw, kc, bb_12, (Ext_refl Γ), ht18, hk, rfl, by exact an1_r (by omega), by omega, fun h9 => ⟨by omega, rfl, rfl⟩, fun h9 => absurd h9 (by omega)⟩
  · obtain ⟨gF, gT, gW, gC, gTl, gHd, gBy, gOu, gIn, gJo, gn, gm, gq, gdr, Tl, Hd, By, Ou, In, Jo, gpos, hg, hltg, hxg, hgog, houg, hing, hjog, heNg, heDg, heMg⟩ := id hTg
    have hfNg : Int.toNat (sz (Int.toNat x1)) = gn := by omega
    have hfMg : Int.toNat (mn (Int.toNat x1)) = gm := by omega
    obtain ⟨hg_O, hg_from, hg_to, hg_weight, hg_cost, hg_tail, hg_head, hg_by, hg_out, hg_in, hg_joined, hg_b⟩ := id hg
    refine r_astore (pc := 10) (lv' := [(4, .ref ga), (0, .ref a), (1, .int (iv x1)), (2, .int (iv x2)), (3, .int (iv x3))]) dX11_view_10 (by decide) rfl ?_
    refine r_aload (pc := 12) dX11_view_12 rfl ?_
    refine r_ifnonnull (pc := 14) (tgt := 27) dX11_view_14 (by decide) ?_
    refine r_aload (pc := 27) dX11_view_27 rfl ?_
    refine r_iload_n (pc := 29) dX11_view_29 (i := 2) rfl rfl ?_
    refine r_iload_n (pc := 30) dX11_view_30 (i := 3) rfl rfl ?_
    refine t_callSI (pc := 31) (as := [.ref ga, .int (iv x2), .int (iv x3)]) (st := []) kX11_113 dX11_view_31 (c_X1_isViewx (d := d - 1) (x1 := x2) (x2 := x3) (by omega) (TyG.cg (by omega) hg) (XG.cg (by omega) hxg) ht5 (by omega) (by omega) ) rfl (by omega) (Nat.le_of_ble_eq_true rfl) rfl (fun hp20 y19 ht21 by19 => ?_)
    have fy19 : ((0 ≤ y19 ∧ y19 ≤ 1) ∧ (y19 = 1 ↔ ¬ (x2 < 0 ∨ 7 < x2 ∨ (x2 = 4 ∧ (x3 ≤ 0 ∨ ((2 ^ gn : Nat) : Int) ≤ x3)) ∨ (x2 = 7 ∧ ((gm : Int) = 0 ∨ 16 < (gm : Int)))))) := by19
    have hp2 : 2 ^ (Int.toNat (sz (Int.toNat x1))) = 2 ^ gn := by rw [hfNg]
    have mp5 : 1 ≤ 2 ^ gn := Nat.one_le_two_pow
    have mq5 : 2 ^ gn ≤ 2 ^ 16 := Nat.pow_le_pow_right (by omega) (by omega)
    have hvi := fy19
    refine t_if_ne (pc := 34) (tgt := 44) dX11_view_34 (by decide) (by omega) (fun c34 => ?_) (fun c34 => ?_)
    · refine r_aload_n (pc := 44) dX11_view_44 (i := 0) rfl rfl ?_
      obtain ⟨fs26, hfs26⟩ := t_obj ht21 (rd_of CG_0)
      refine r_callV (pc := 45) (as := []) (st := []) kX11_93 rfl dX11_view_45 hfs26 (s_X11_isFull (d := d - 1)  (by omega)  ht21  (by omega)) rfl (by omega) (Nat.le_of_ble_eq_true rfl) (Nat.zero_le _) (Nat.zero_le _) rfl (fun r23 hp22 n24 hq25 => ?_)
      obtain ⟨hnn24, bb_28, ht27, hrr23, hhq250⟩ := hq25
      subst n24 r23
      have hhq250 : (bb_28 = 1 ∧ 120 ≤ ct) ∨ (bb_28 = 0 ∧ ct < 120) := hhq250
      change Rn _ _ _ 48 _ [.int (iv bb_28)] _ _ _ _ _
      refine t_if_ne (pc := 48) (tgt := 65) dX11_view_48 (by decide) (by omega) (fun c48 => ?_) (fun c48 => ?_)
      · refine r_aload_n (pc := 65) dX11_view_65 (i := 0) rfl rfl ?_
        refine r_bipush (pc := 66) (v := iv (-4)) dX11_view_66 (by decide) ?_
        obtain ⟨fs33, hfs33⟩ := t_obj ht27 (rd_of CG_0)
        refine r_callV (pc := 68) (as := [.int (iv (-4))]) (st := []) kX11_82 rfl dX11_view_68 hfs33 (s_X11_refuse (d := d - 1) (x1 := (-4)) (by omega)  ht27 (by omega)) rfl (by omega) (Nat.le_of_ble_eq_true rfl) (Nat.zero_le _) (Nat.zero_le _) rfl (fun r30 hp29 n31 hq32 => ?_)
        obtain ⟨hnn31, ht34, hrr30⟩ := hq32
        subst n31 r30
        change Rn _ _ _ 71 _ [.int (iv (-4))] _ _ _ _ _
        exact r_iret (pc := 71) dX11_view_71 rfl ⟨by omega, Γ, ct, (-4), th, kn, kd, ka, kf, kt, kw, kc, (-4), (Ext_refl Γ), ht34, hk, rfl, by exact an1_m (hdQ_y (by omega)).symm (by omega) (by omega), by omega, fun h9 => ⟨by omega, rfl, rfl⟩, fun h9 => absurd h9 (by omega)⟩
      · refine r_aload_n (pc := 51) dX11_view_51 (i := 0) rfl rfl ?_
        refine t_getE (pc := 52) (.ref (a + 8)) ht27 (rd_of CG_0) fX11_29 dX11_view_52 rfl ?_
        refine r_aload (pc := 55) dX11_view_55 rfl ?_
        refine r_iload_n (pc := 57) dX11_view_57 (i := 2) rfl rfl ?_
        refine r_iload_n (pc := 58) dX11_view_58 (i := 3) rfl rfl ?_
        obtain ⟨lt9, hlt9, hd9⟩ := DX_op (Tw_eq (Γ1 := DG (CG Γ cI cJ cZ cT a ct 0 th dn dd da df dt dw dc kn kd ka kf kt kw kc) cI cJ cZ cT (a + 8) kn kd ka kf kt kw kc) CG_sk.symm ht27)
        obtain ⟨fs40, hfs40⟩ := t_obj hd9 (rd_of DX_0)
        refine r_callV (pc := 59) (as := [.ref ga, .int (iv x2), .int (iv x3)]) (st := []) kX11_117 rfl dX11_view_59 hfs40 (d_X1_draw (d := d - 1) (x2 := x2) (x3 := x3) (by omega) (TyG.cg (by omega) hg) (by omega) (by omega) (by omega) (by omega) hd9 (by omega) (by omega) hlt9 (XG.cg (by omega) hxg) hgog (by omega)) rfl (by omega) (Nat.le_of_ble_eq_true rfl) (Nat.zero_le _) (Nat.zero_le _) rfl (fun r35 hp36 n37 hq38 => ?_)
        obtain ⟨hnn37, kn9, kd9, ka9, kf9, kt9, kw9, kc9, lt8, bb9, ht39, hrr35, hq1, hq2, hq3, hq4, hq5, hq6, hq7, hq8⟩ := hq38
        subst n37 r35
        have ht39 := DX_cl ht39 hq5
        rw [CG_sk] at ht39
        have hvw : (vwL (Int.toNat (sz (Int.toNat x1))) (Int.toNat (mn (Int.toNat x1))) (dr (Int.toNat x1)) (sh fr (60 * x1)) (sh tt (60 * x1)) (sh wt (60 * x1)) (sh co (60 * x1)) x2 x3) = vwL gn gm gdr (sh fr (60 * x1)) (sh tt (60 * x1)) (sh wt (60 * x1)) (sh co (60 * x1)) x2 x3 := by rw [hfNg, hfMg, heDg]
        rw [← hvw] at hq6
        have hl1 : bb9 = 0 → 60 < (((vwL (Int.toNat (sz (Int.toNat x1))) (Int.toNat (mn (Int.toNat x1))) (dr (Int.toNat x1)) (sh fr (60 * x1)) (sh tt (60 * x1)) (sh wt (60 * x1)) (sh co (60 * x1)) x2 x3)).length : Int) := fun h9 => by
          rcases Int.lt_or_le 60 (((vwL (Int.toNat (sz (Int.toNat x1))) (Int.toNat (mn (Int.toNat x1))) (dr (Int.toNat x1)) (sh fr (60 * x1)) (sh tt (60 * x1)) (sh wt (60 * x1)) (sh co (60 * x1)) x2 x3)).length : Int) with h8 | h8
          · exact h8
          · have h7 := (hq6.1 h8).1
            omega
        have hl2 : bb9 = 1 → (((vwL (Int.toNat (sz (Int.toNat x1))) (Int.toNat (mn (Int.toNat x1))) (dr (Int.toNat x1)) (sh fr (60 * x1)) (sh tt (60 * x1)) (sh wt (60 * x1)) (sh co (60 * x1)) x2 x3)).length : Int) ≤ 60 := fun h9 => by
          rcases Int.lt_or_le 60 (((vwL (Int.toNat (sz (Int.toNat x1))) (Int.toNat (mn (Int.toNat x1))) (dr (Int.toNat x1)) (sh fr (60 * x1)) (sh tt (60 * x1)) (sh wt (60 * x1)) (sh co (60 * x1)) x2 x3)).length : Int) with h8 | h8
          · have h7 := hq6.2 h8
            omega
          · exact h8
        have hb9 : bb9 = 0 ∨ bb9 = 1 := by
          rcases Int.lt_or_le 60 (((vwL (Int.toNat (sz (Int.toNat x1))) (Int.toNat (mn (Int.toNat x1))) (dr (Int.toNat x1)) (sh fr (60 * x1)) (sh tt (60 * x1)) (sh wt (60 * x1)) (sh co (60 * x1)) x2 x3)).length : Int) with h8 | h8
          · have h7 := hq6.2 h8
            omega
          · have h7 := (hq6.1 h8).1
            omega
        have hb01 : 0 ≤ bb9 ∧ bb9 ≤ 1 := by omega
        change Rn _ _ _ 62 _ [.int (iv bb9)] _ _ _ _ _
        refine t_if_ne (pc := 62) (tgt := 72) dX11_view_62 (by decide) (by omega) (fun c62 => ?_) (fun c62 => ?_)
        · refine r_aload_n (pc := 72) dX11_view_72 (i := 0) rfl rfl ?_
          refine Rn.bd (fun bd9 => ?_)
          refine w_new (pc := 73) (fs := [.int 0, .int 0, .int 0, .null, .null, .null, .null, .int 0, .null, .null, .null, .null, .null, .null]) nX11_97 tyX3 tyX3_ok (by decide +kernel) dX11_view_73 (by omega) (by omega) (fun hpN hN1 hN2 hN3 => ?_)
          have htN := Tw_fr ht39 hN2
          refine r_dup (pc := 76) dX11_view_76 rfl ?_
          refine r_aload_n (pc := 77) dX11_view_77 (i := 0) rfl rfl ?_
          refine t_getE (pc := 78) (.ref (a + 8)) htN (rd_of CG_0) fX11_29 dX11_view_78 rfl ?_
          refine u_initG_sk (pc := 81) (st := [.ref n, .ref a]) ht39 bd9 hna hN2 hN1 (by omega) (by omega) (by omega) (by assumption) kX11_99 dX11_view_81 (by omega) (Nat.le_of_ble_eq_true rfl) (by omega) (by omega) (fun hp2 Γ2 wr2 hE2 ht2 hGX => ?_)
          have hg := TyG.ext hE2 hg
          obtain ⟨hg_O, hg_from, hg_to, hg_weight, hg_cost, hg_tail, hg_head, hg_by, hg_out, hg_in, hg_joined, hg_b⟩ := id hg
          have hxg := XG.ext hE2 hxg
          have hse := TySets.ext hE2 hse
          have hsh := TyShape.ext hE2 hsh
          have hfl := TyFlows.ext hE2 hfl
          have hth2 := hGX.th
          obtain ⟨Fs9, hv9, hl9⟩ := ThG_rd hth2
          obtain ⟨fs46, hfs46⟩ := t_obj ht2 (rd_of CG_0)
          refine r_callV (pc := 84) (as := [.ref n]) (st := []) kX11_102 rfl dX11_view_84 hfs46 (t_X11_keep (d := d - 1) (r0 := (RX3, TX3, 14)) (by omega) (by omega) (rd_CG (by omega) hv9) rfl (show (RX3, "GraphEngine$Thing") ∈ cas by decide +kernel) ht2) rfl (by omega) (Nat.le_of_ble_eq_true rfl) (Nat.zero_le _) (Nat.zero_le _) rfl (fun r41 hp42 n43 hq44 => ?_)
          obtain ⟨hnn43, ht45, hrr41⟩ := hq44
          subst n43 r41
          change Rn _ _ _ 87 _ [.int (iv ct)] _ _ _ _ _
          exact r_iret (pc := 87) dX11_view_87 rfl ⟨by omega, Γ2, (ct + 1), 0, (va_up th (ct).toNat (some n)), kn9, kd9, ka9, kf9, kt9, kw9, kc9, ct, (Ext_tr (Ext_refl Γ) hE2), ht45, (EK.keep (EK.ext hE2 (EK.sk hk hq1 hq2 hq3)) (by omega) (Or.inl hth2)), rfl, by exact an1_m (hdQ_n (by omega)).symm (by omega) (by omega), by omega, fun h9 => absurd h9 (by omega), fun _ => ⟨by omega, rfl, n, rfl, WG_mk hGX (hq6.1 (hl2 (by omega))).2 (by rw [heMg, heNg]; exact hq7) (by rw [heDg]; exact hq8)⟩⟩
        · refine r_aload_n (pc := 65) dX11_view_65 (i := 0) rfl rfl ?_
          refine r_bipush (pc := 66) (v := iv (-4)) dX11_view_66 (by decide) ?_
          obtain ⟨fs51, hfs51⟩ := t_obj ht39 (rd_of CG_0)
          refine r_callV (pc := 68) (as := [.int (iv (-4))]) (st := []) kX11_82 rfl dX11_view_68 hfs51 (s_X11_refuse (d := d - 1) (x1 := (-4)) (by omega)  ht39 (by omega)) rfl (by omega) (Nat.le_of_ble_eq_true rfl) (Nat.zero_le _) (Nat.zero_le _) rfl (fun r48 hp47 n49 hq50 => ?_)
          obtain ⟨hnn49, ht52, hrr48⟩ := hq50
          subst n49 r48
          change Rn _ _ _ 71 _ [.int (iv (-4))] _ _ _ _ _
          exact r_iret (pc := 71) dX11_view_71 rfl ⟨by omega, Γ, ct, (-4), th, kn9, kd9, ka9, kf9, kt9, kw9, kc9, (-4), (Ext_refl Γ), ht52, (EK.sk hk hq1 hq2 hq3), rfl, by exact an1_m (hdQ_y (by omega)).symm (by omega) (by omega), by omega, fun h9 => ⟨by omega, rfl, rfl⟩, fun h9 => absurd h9 (by omega)⟩
    · refine r_aload_n (pc := 37) dX11_view_37 (i := 0) rfl rfl ?_
      refine r_bipush (pc := 38) (v := iv (-3)) dX11_view_38 (by decide) ?_
      obtain ⟨fs57, hfs57⟩ := t_obj ht21 (rd_of CG_0)
      refine r_callV (pc := 40) (as := [.int (iv (-3))]) (st := []) kX11_82 rfl dX11_view_40 hfs57 (s_X11_refuse (d := d - 1) (x1 := (-3)) (by omega)  ht21 (by omega)) rfl (by omega) (Nat.le_of_ble_eq_true rfl) (Nat.zero_le _) (Nat.zero_le _) rfl (fun r54 hp53 n55 hq56 => ?_)
      obtain ⟨hnn55, ht58, hrr54⟩ := hq56
      subst n55 r54
      change Rn _ _ _ 43 _ [.int (iv (-3))] _ _ _ _ _
      exact r_iret (pc := 43) dX11_view_43 rfl ⟨by omega, Γ, ct, (-3), th, kn, kd, ka, kf, kt, kw, kc, (-3), (Ext_refl Γ), ht58, hk, rfl, by exact an1_b (by omega) (by omega) (by omega), by omega, fun h9 => ⟨by omega, rfl, rfl⟩, fun h9 => absurd h9 (by omega)⟩
