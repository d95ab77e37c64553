def grL (cI : ClassId) (n N m Q : Nat) (kd : Int) (F T W C Tl Hd By Ou In Jo : Nat → Int) : List (va_E → Prop) := [tO 3 [fE (.int (iv (N : Int))), fE (.int (iv kd)), fE (.int (iv (m : Int))), fE (.ref (n + 1)), fE (.ref (n + 2)), fE (.ref (n + 3)), fE (.ref (n + 4)), fE (.int (iv (Q : Int))), fE (.ref (n + 8)), fE (.ref (n + 9)), fE (.ref (n + 10)), fE (.ref (n + 5)), fE (.ref (n + 6)), fE (.ref (n + 7))], xI cI m F, xI cI m T, xI cI m W, xI cI m C, xI cI N Ou, xI cI N In, xI cI N Jo, xI cI Q Tl, xI cI Q Hd, xI cI Q By]
theorem mk_G {Γ : TG} {cI cJ cZ : ClassId} {a n N m Q : Nat} {kd : Int} {F T W C Tl Hd By Ou In Jo : Nat → Int} (h : ∀ (j : Nat) (T9 : va_E → Prop), (grL cI n N m Q kd F T W C Tl Hd By Ou In Jo)[j]? = some T9 → Γ (n + j) = some T9) (hn : a + 84 ≤ n) (hN : 1 ≤ N ∧ N ≤ 16) (hm : m ≤ 60) (hQ : Q ≤ 120) (hd : 0 ≤ kd ∧ kd ≤ 1) (rF : Rfx m 0 ((N : Int) - 1) F) (rT : Rfx m 0 ((N : Int) - 1) T) (rW : Rfx m (-1000) 1000 W) (rC : Rfx m (-1000) 1000 C) (rTl : Rfx Q 0 ((N : Int) - 1) Tl) (rHd : Rfx Q 0 ((N : Int) - 1) Hd) (rBy : Rfx Q 0 ((m : Int) - 1) By) (rOu : Rfx N 0 65535 Ou) (rIn : Rfx N 0 65535 In) (rJo : Rfx N 0 65535 Jo) (hou : ∀ k : Nat, k < Q → Me (Ou (Tl k).toNat) (Hd k).toNat) : ThG Γ cI cJ cZ a n := by
  have e0 : Γ n = some (tO 3 [fE (.int (iv (N : Int))), fE (.int (iv kd)), fE (.int (iv (m : Int))), fE (.ref (n + 1)), fE (.ref (n + 2)), fE (.ref (n + 3)), fE (.ref (n + 4)), fE (.int (iv (Q : Int))), fE (.ref (n + 8)), fE (.ref (n + 9)), fE (.ref (n + 10)), fE (.ref (n + 5)), fE (.ref (n + 6)), fE (.ref (n + 7))]) := h 0 _ rfl
  have eF : Γ (n + 1) = some (xI cI m F) := h 1 _ rfl
  have eT : Γ (n + 2) = some (xI cI m T) := h 2 _ rfl
  have eW : Γ (n + 3) = some (xI cI m W) := h 3 _ rfl
  have eC : Γ (n + 4) = some (xI cI m C) := h 4 _ rfl
  have eOu : Γ (n + 5) = some (xI cI N Ou) := h 5 _ rfl
  have eIn : Γ (n + 6) = some (xI cI N In) := h 6 _ rfl
  have eJo : Γ (n + 7) = some (xI cI N Jo) := h 7 _ rfl
  have eTl : Γ (n + 8) = some (xI cI Q Tl) := h 8 _ rfl
  have eHd : Γ (n + 9) = some (xI cI Q Hd) := h 9 _ rfl
  have eBy : Γ (n + 10) = some (xI cI Q By) := h 10 _ rfl
  exact ⟨n + 1, n + 2, n + 3, n + 4, n + 8, n + 9, n + 10, n + 5, n + 6, n + 7, N, m, Q, kd, F, T, W, C, Tl, Hd, By, Ou, In, Jo, ⟨rd_of e0, rd_xr (rd_of eF) rF, rd_xr (rd_of eT) rT, rd_xr (rd_of eW) rW, rd_xr (rd_of eC) rC, rd_xr (rd_of eTl) rTl, rd_xr (rd_of eHd) rHd, rd_xr (rd_of eBy) rBy, rd_xr (rd_of eOu) rOu, rd_xr (rd_of eIn) rIn, rd_xr (rd_of eJo) rJo, by omega⟩, by omega, ⟨⟨rd_of eF, rd_of eT, rd_of eW, rd_of eC, rd_of eTl, rd_of eHd, rd_of eBy, rd_of eOu, rd_of eIn, rd_of eJo⟩, ⟨rF, rT, rW, rC, rTl, rHd, rBy, rOu, rIn, rJo⟩, hou⟩⟩
set_option maxHeartbeats 4000000 in
set_option maxRecDepth 100000 in
theorem t_initG_dr {D : va_G} {cI cJ cZ cT : ClassId} {lo b L : Nat} {xs : Nat → Int32} {M : MM} {d pc : Nat} {lv : List (Nat × Value)} {st : List Value} {hp : MH} {n kr wr : Nat} {Po : Option Value → MH → Nat → Prop} {hp1 : MH} {Γ : TG} {a : Nat} {ct : Int} {rv : Int} {th : Nat → Option Nat} {dn : Int} {dd : Int} {da : Int} {df : Nat → Int} {dt : Nat → Int} {dw : Nat → Int} {dc : Nat → Int} {kn : Int} {kd : Int} {ka : Int} {kf : Nat → Int} {kt : Nat → Int} {kw : Nat → Int} {kc : Nat → Int} {ix : Nat} (ht : Tw (CG Γ cI cJ cZ cT a ct rv th dn dd da df dt dw dc kn kd ka kf kt kw kc) hp) (bd : ∀ (q : Nat) (e : va_E), hp q = some e → q < n) (hn : a + 84 ≤ n) (hk1 : ∀ (q : Nat) (e : va_E), hp q = some e → hp1 q = some e) (h1 : hp1 n = some (.inr (3, [.int 0, .int 0, .int 0, .null, .null, .null, .null, .int 0, .null, .null, .null, .null, .null, .null]))) (hkn : 1 ≤ dn ∧ dn ≤ 16) (hkd : 0 ≤ dd ∧ dd ≤ 1) (hka : 0 ≤ da ∧ da ≤ 60) (hr : arP df dt dw dc da dn) (F : lkK (gG D cI cJ cZ cT lo b L xs) M.1.cls ix mX3_init 1 ∧ Cond.instanceMethod mX3_init.1 ∈ g_ws (gG D cI cJ cZ cT lo b L xs) ∧ mX3_init.1.name = "<init>" ∧ mX3_init.2.2.2 = none) (hd : decode M.2.1 pc = .ok (.invokespecial ix, 3)) (hdd : 3 ≤ d) (hst : (st.map fun v => v.category).sum ≤ 8) (hkr : 10 ≤ kr) (hwr : 648 ≤ wr) (kk : ∀ (hp2 : MH) (Γ2 : TG) (wr2 : Nat), Ext Γ Γ2 → Tw (CG Γ2 cI cJ cZ cT a ct rv th dn dd da df dt dw dc kn kd ka kf kt kw kc) hp2 → ThG Γ2 cI cJ cZ a n → Rn (gG D cI cJ cZ cT lo b L xs) M d (pc + 3) lv st hp2 (n + 1 + 10) (kr - 10) wr2 Po) : Rn (gG D cI cJ cZ cT lo b L xs) M d pc lv (.ref (a + 2) :: .ref n :: st) hp1 (n + 1) kr wr Po := by
  obtain ⟨N, rfl⟩ := Int.eq_ofNat_of_zero_le (show 0 ≤ dn by omega)
  obtain ⟨m, rfl⟩ := Int.eq_ofNat_of_zero_le (show 0 ≤ da by omega)
  have ht1 := Tw_fr ht hk1
  obtain ⟨e8, g8, g9⟩ := ht1 _ _ (CG_e 2 (by decide) rfl)
  have g10 := tO_ex (vs := [.int (iv (N : Int)), .int (iv dd), .int (iv (m : Int)), .ref (a + 2 + 1), .ref (a + 2 + 2), .ref (a + 2 + 3), .ref (a + 2 + 4), .ref (a + 2 + 5)]) g9
  subst g10
  obtain ⟨_, q1, f1, rfl, r1⟩ := ht1 _ _ (CG_e 3 (by decide) rfl)
  obtain ⟨_, q2, f2, rfl, r2⟩ := ht1 _ _ (CG_e 4 (by decide) rfl)
  obtain ⟨_, q3, f3, rfl, r3⟩ := ht1 _ _ (CG_e 5 (by decide) rfl)
  obtain ⟨_, q4, f4, rfl, r4⟩ := ht1 _ _ (CG_e 6 (by decide) rfl)
  have hq : iv dd = bI (decide (dd = 1)) := by
    rcases (show dd = 0 ∨ dd = 1 by omega) with h9 | h9 <;> rw [h9] <;> decide
  rw [hq, ← nI_iv N, ← nI_iv m] at g8
  have s1 : ∀ i, i < 60 → (f1 i).toInt = df i := r1
  have s2 : ∀ i, i < 60 → (f2 i).toInt = dt i := r2
  have s3 : ∀ i, i < 60 → (f3 i).toInt = dw i := r3
  have s4 : ∀ i, i < 60 → (f4 i).toInt = dc i := r4
  have hv : ∀ i, i < m → (0 ≤ (f1 i).toInt ∧ (f1 i).toInt < (N : Int)) ∧ (0 ≤ (f2 i).toInt ∧ (f2 i).toInt < (N : Int)) ∧ (-1000 ≤ (f3 i).toInt ∧ (f3 i).toInt ≤ 1000) ∧ (-1000 ≤ (f4 i).toInt ∧ (f4 i).toInt ≤ 1000) := by
    intro i hi
    have h9 := hr (i : Int) (by omega) (by omega)
    rw [Int.toNat_natCast] at h9
    rw [s1 i (by omega), s2 i (by omega), s3 i (by omega), s4 i (by omega)]
    exact h9
  have nu : ∀ (x : Int32), 0 ≤ x.toInt → x.toInt < (N : Int) → ∃ u, u < N ∧ x = nI u := by
    intro x h8 h9
    exact ⟨x.toInt.toNat, by omega, by rw [← iv_nI h8, iv_of]⟩
  have hgl := gc_le (decide (dd = 1)) f1 f2 m
  refine r_callI (pc := pc) (as := [.ref (a + 2)]) (st := st) F hd (c_X3_init (d := d - 1) (by omega) h1 g8 q1 q2 q3 q4 (by omega) (by omega) (by omega) (fun i hi => ⟨nu _ (hv i hi).1.1 (hv i hi).1.2, nu _ (hv i hi).2.1.1 (hv i hi).2.1.2⟩)) rfl (by omega) hst (by omega) (by omega) rfl (fun r hp2 n2 hq2 => ?_)
  obtain ⟨rfl, rfl, b0, b1, b2, b3, b4, b5, b6, b7, b8, b9, b10, hfr⟩ := hq2
  rw [nI_iv N, nI_iv m, nI_iv (m + gc (decide (dd = 1)) f1 f2 m), ← hq] at b0
  have hL : ∀ (j : Nat) (T9 : va_E → Prop), (grL cI n N m (m + gc (decide (dd = 1)) f1 f2 m) dd (fun i => (f1 i).toInt) (fun i => (f2 i).toInt) (fun i => (f3 i).toInt) (fun i => (f4 i).toInt) (fun i => (goF (decide (dd = 1)) f1 f2 f1 f2 m i).toInt) (fun i => (goF (decide (dd = 1)) f1 f2 f2 f1 m i).toInt) (fun i => (goF (decide (dd = 1)) f1 f2 nI nI m i).toInt) (fun i => (nbF (ndF (goF (decide (dd = 1)) f1 f2 f1 f2 m)) (ndF (goF (decide (dd = 1)) f1 f2 f2 f1 m)) (m + gc (decide (dd = 1)) f1 f2 m) i).toInt) (fun i => (nbF (ndF (goF (decide (dd = 1)) f1 f2 f2 f1 m)) (ndF (goF (decide (dd = 1)) f1 f2 f1 f2 m)) (m + gc (decide (dd = 1)) f1 f2 m) i).toInt) (fun i => (joF (ndF (goF (decide (dd = 1)) f1 f2 f1 f2 m)) (ndF (goF (decide (dd = 1)) f1 f2 f2 f1 m)) (m + gc (decide (dd = 1)) f1 f2 m) i).toInt))[j]? = some T9 → ∃ e, hp2 (n + j) = some e ∧ T9 e := by
    intro j T9 hj
    match j, hj with
    | 0, hj =>
      obtain rfl := Option.some.inj hj
      exact ⟨_, b0, tO_mk (vs := [.int (iv (N : Int)), .int (iv dd), .int (iv (m : Int)), .ref (n + 1), .ref (n + 2), .ref (n + 3), .ref (n + 4), .int (iv ((m + gc (decide (dd = 1)) f1 f2 m : Nat) : Int)), .ref (n + 8), .ref (n + 9), .ref (n + 10), .ref (n + 5), .ref (n + 6), .ref (n + 7)])⟩
    | 1, hj =>
      obtain rfl := Option.some.inj hj
      exact ⟨_, b1, _, rfl, fun _ _ => rfl⟩
    | 2, hj =>
      obtain rfl := Option.some.inj hj
      exact ⟨_, b2, _, rfl, fun _ _ => rfl⟩
    | 3, hj =>
      obtain rfl := Option.some.inj hj
      exact ⟨_, b3, _, rfl, fun _ _ => rfl⟩
    | 4, hj =>
      obtain rfl := Option.some.inj hj
      exact ⟨_, b4, _, rfl, fun _ _ => rfl⟩
    | 5, hj =>
      obtain rfl := Option.some.inj hj
      exact ⟨_, b5, _, rfl, fun _ _ => rfl⟩
    | 6, hj =>
      obtain rfl := Option.some.inj hj
      exact ⟨_, b6, _, rfl, fun _ _ => rfl⟩
    | 7, hj =>
      obtain rfl := Option.some.inj hj
      exact ⟨_, b7, _, rfl, fun _ _ => rfl⟩
    | 8, hj =>
      obtain rfl := Option.some.inj hj
      exact ⟨_, b8, _, rfl, fun _ _ => rfl⟩
    | 9, hj =>
      obtain rfl := Option.some.inj hj
      exact ⟨_, b9, _, rfl, fun _ _ => rfl⟩
    | 10, hj =>
      obtain rfl := Option.some.inj hj
      exact ⟨_, b10, _, rfl, fun _ _ => rfl⟩
    | j + 11, hj => exact absurd (List.getElem?_eq_some_iff.mp hj).1 (by show ¬ (j + 11 < 11); omega)
  obtain ⟨Γ2, hE, ht2, hΓ⟩ := new_CG ht bd (by omega) (fun q e h9 => hfr q e (hk1 q e h9) (by have h8 := bd q e h9; omega)) hL
  have rTl : ∀ k, k < (m + gc (decide (dd = 1)) f1 f2 m) → 0 ≤ (goF (decide (dd = 1)) f1 f2 f1 f2 m k).toInt ∧ (goF (decide (dd = 1)) f1 f2 f1 f2 m k).toInt ≤ (N : Int) - 1 := goF_all (P := fun v => 0 ≤ v.toInt ∧ v.toInt ≤ (N : Int) - 1) m (fun i hi => by have h9 := hv i hi; omega)
  have rHd : ∀ k, k < (m + gc (decide (dd = 1)) f1 f2 m) → 0 ≤ (goF (decide (dd = 1)) f1 f2 f2 f1 m k).toInt ∧ (goF (decide (dd = 1)) f1 f2 f2 f1 m k).toInt ≤ (N : Int) - 1 := goF_all (P := fun v => 0 ≤ v.toInt ∧ v.toInt ≤ (N : Int) - 1) m (fun i hi => by have h9 := hv i hi; omega)
  have rBy : ∀ k, k < (m + gc (decide (dd = 1)) f1 f2 m) → 0 ≤ (goF (decide (dd = 1)) f1 f2 nI nI m k).toInt ∧ (goF (decide (dd = 1)) f1 f2 nI nI m k).toInt ≤ (m : Int) - 1 := goF_all (P := fun v => 0 ≤ v.toInt ∧ v.toInt ≤ (m : Int) - 1) m (fun i hi => by have e9 : (nI i).toInt = (i : Int) := (by rw [nI_iv, iv_toInt (by omega) (by omega)]); rw [e9]; omega)
  have bTl : ∀ k, k < (m + gc (decide (dd = 1)) f1 f2 m) → ndF (goF (decide (dd = 1)) f1 f2 f1 f2 m) k < 16 := fun k hk => by
    have h9 := rTl k hk
    show (goF (decide (dd = 1)) f1 f2 f1 f2 m k).toInt.toNat < 16
    omega
  have bHd : ∀ k, k < (m + gc (decide (dd = 1)) f1 f2 m) → ndF (goF (decide (dd = 1)) f1 f2 f2 f1 m) k < 16 := fun k hk => by
    have h9 := rHd k hk
    show (goF (decide (dd = 1)) f1 f2 f2 f1 m k).toInt.toNat < 16
    omega
  have zr : ∀ x : Int32, (∃ z : Int, x = iv z ∧ 0 ≤ z ∧ z ≤ 65535) → 0 ≤ x.toInt ∧ x.toInt ≤ 65535 := by
    rintro x ⟨z, rfl, h8, h9⟩
    rw [iv_toInt (by omega) (by omega)]; exact ⟨h8, h9⟩
  refine kk hp2 Γ2 _ hE ht2 (mk_G hΓ hn (by omega) (by omega) (by omega) hkd (fun i hi => ?_) (fun i hi => ?_) (fun i hi => (hv i hi).2.2.1) (fun i hi => (hv i hi).2.2.2) rTl rHd rBy (fun i _ => zr _ (nbF_r _ bHd i)) (fun i _ => zr _ (nbF_r _ bTl i)) (fun i _ => zr _ (joF_r _ (fun j hj => ⟨bTl j hj, bHd j hj⟩) i)) (fun k hk => nbF_me _ bHd k hk))
  · have h9 := (hv i hi).1
    show 0 ≤ (f1 i).toInt ∧ (f1 i).toInt ≤ (N : Int) - 1
    omega
  · have h9 := (hv i hi).2.1
    show 0 ≤ (f2 i).toInt ∧ (f2 i).toInt ≤ (N : Int) - 1
    omega
set_option maxHeartbeats 4000000 in
set_option maxRecDepth 100000 in
theorem t_initG_sk {D : va_G} {cI cJ cZ cT : ClassId} {lo b L : Nat} {xs : Nat → Int32} {M : MM} {d pc : Nat} {lv : List (Nat × Value)} {st : List Value} {hp : MH} {n kr wr : Nat} {Po : Option Value → MH → Nat → Prop} {hp1 : MH} {Γ : TG} {a : Nat} {ct : Int} {rv : Int} {th : Nat → Option Nat} {dn : Int} {dd : Int} {da : Int} {df : Nat → Int} {dt : Nat → Int} {dw : Nat → Int} {dc : Nat → Int} {kn : Int} {kd : Int} {ka : Int} {kf : Nat → Int} {kt : Nat → Int} {kw : Nat → Int} {kc : Nat → Int} {ix : Nat} (ht : Tw (CG Γ cI cJ cZ cT a ct rv th dn dd da df dt dw dc kn kd ka kf kt kw kc) hp) (bd : ∀ (q : Nat) (e : va_E), hp q = some e → q < n) (hn : a + 84 ≤ n) (hk1 : ∀ (q : Nat) (e : va_E), hp q = some e → hp1 q = some e) (h1 : hp1 n = some (.inr (3, [.int 0, .int 0, .int 0, .null, .null, .null, .null, .int 0, .null, .null, .null, .null, .null, .null]))) (hkn : 1 ≤ kn ∧ kn ≤ 16) (hkd : 0 ≤ kd ∧ kd ≤ 1) (hka : 0 ≤ ka ∧ ka ≤ 60) (hr : arP kf kt kw kc ka kn) (F : lkK (gG D cI cJ cZ cT lo b L xs) M.1.cls ix mX3_init 1 ∧ Cond.instanceMethod mX3_init.1 ∈ g_ws (gG D cI cJ cZ cT lo b L xs) ∧ mX3_init.1.name = "<init>" ∧ mX3_init.2.2.2 = none) (hd : decode M.2.1 pc = .ok (.invokespecial ix, 3)) (hdd : 3 ≤ d) (hst : (st.map fun v => v.category).sum ≤ 8) (hkr : 10 ≤ kr) (hwr : 648 ≤ wr) (kk : ∀ (hp2 : MH) (Γ2 : TG) (wr2 : Nat), Ext Γ Γ2 → Tw (CG Γ2 cI cJ cZ cT a ct rv th dn dd da df dt dw dc kn kd ka kf kt kw kc) hp2 → ThG Γ2 cI cJ cZ a n → Rn (gG D cI cJ cZ cT lo b L xs) M d (pc + 3) lv st hp2 (n + 1 + 10) (kr - 10) wr2 Po) : Rn (gG D cI cJ cZ cT lo b L xs) M d pc lv (.ref (a + 8) :: .ref n :: st) hp1 (n + 1) kr wr Po := by
  obtain ⟨N, rfl⟩ := Int.eq_ofNat_of_zero_le (show 0 ≤ kn by omega)
  obtain ⟨m, rfl⟩ := Int.eq_ofNat_of_zero_le (show 0 ≤ ka by omega)
  have ht1 := Tw_fr ht hk1
  obtain ⟨e8, g8, g9⟩ := ht1 _ _ (CG_e 8 (by decide) rfl)
  have g10 := tO_ex (vs := [.int (iv (N : Int)), .int (iv kd), .int (iv (m : Int)), .ref (a + 8 + 1), .ref (a + 8 + 2), .ref (a + 8 + 3), .ref (a + 8 + 4), .ref (a + 8 + 5)]) g9
  subst g10
  obtain ⟨_, q1, f1, rfl, r1⟩ := ht1 _ _ (CG_e 9 (by decide) rfl)
  obtain ⟨_, q2, f2, rfl, r2⟩ := ht1 _ _ (CG_e 10 (by decide) rfl)
  obtain ⟨_, q3, f3, rfl, r3⟩ := ht1 _ _ (CG_e 11 (by decide) rfl)
  obtain ⟨_, q4, f4, rfl, r4⟩ := ht1 _ _ (CG_e 12 (by decide) rfl)
  have hq : iv kd = bI (decide (kd = 1)) := by
    rcases (show kd = 0 ∨ kd = 1 by omega) with h9 | h9 <;> rw [h9] <;> decide
  rw [hq, ← nI_iv N, ← nI_iv m] at g8
  have s1 : ∀ i, i < 60 → (f1 i).toInt = kf i := r1
  have s2 : ∀ i, i < 60 → (f2 i).toInt = kt i := r2
  have s3 : ∀ i, i < 60 → (f3 i).toInt = kw i := r3
  have s4 : ∀ i, i < 60 → (f4 i).toInt = kc i := r4
  have hv : ∀ i, i < m → (0 ≤ (f1 i).toInt ∧ (f1 i).toInt < (N : Int)) ∧ (0 ≤ (f2 i).toInt ∧ (f2 i).toInt < (N : Int)) ∧ (-1000 ≤ (f3 i).toInt ∧ (f3 i).toInt ≤ 1000) ∧ (-1000 ≤ (f4 i).toInt ∧ (f4 i).toInt ≤ 1000) := by
    intro i hi
    have h9 := hr (i : Int) (by omega) (by omega)
    rw [Int.toNat_natCast] at h9
    rw [s1 i (by omega), s2 i (by omega), s3 i (by omega), s4 i (by omega)]
    exact h9
  have nu : ∀ (x : Int32), 0 ≤ x.toInt → x.toInt < (N : Int) → ∃ u, u < N ∧ x = nI u := by
    intro x h8 h9
    exact ⟨x.toInt.toNat, by omega, by rw [← iv_nI h8, iv_of]⟩
  have hgl := gc_le (decide (kd = 1)) f1 f2 m
  refine r_callI (pc := pc) (as := [.ref (a + 8)]) (st := st) F hd (c_X3_init (d := d - 1) (by omega) h1 g8 q1 q2 q3 q4 (by omega) (by omega) (by omega) (fun i hi => ⟨nu _ (hv i hi).1.1 (hv i hi).1.2, nu _ (hv i hi).2.1.1 (hv i hi).2.1.2⟩)) rfl (by omega) hst (by omega) (by omega) rfl (fun r hp2 n2 hq2 => ?_)
  obtain ⟨rfl, rfl, b0, b1, b2, b3, b4, b5, b6, b7, b8, b9, b10, hfr⟩ := hq2
  rw [nI_iv N, nI_iv m, nI_iv (m + gc (decide (kd = 1)) f1 f2 m), ← hq] at b0
  have hL : ∀ (j : Nat) (T9 : va_E → Prop), (grL cI n N m (m + gc (decide (kd = 1)) f1 f2 m) kd (fun i => (f1 i).toInt) (fun i => (f2 i).toInt) (fun i => (f3 i).toInt) (fun i => (f4 i).toInt) (fun i => (goF (decide (kd = 1)) f1 f2 f1 f2 m i).toInt) (fun i => (goF (decide (kd = 1)) f1 f2 f2 f1 m i).toInt) (fun i => (goF (decide (kd = 1)) f1 f2 nI nI m i).toInt) (fun i => (nbF (ndF (goF (decide (kd = 1)) f1 f2 f1 f2 m)) (ndF (goF (decide (kd = 1)) f1 f2 f2 f1 m)) (m + gc (decide (kd = 1)) f1 f2 m) i).toInt) (fun i => (nbF (ndF (goF (decide (kd = 1)) f1 f2 f2 f1 m)) (ndF (goF (decide (kd = 1)) f1 f2 f1 f2 m)) (m + gc (decide (kd = 1)) f1 f2 m) i).toInt) (fun i => (joF (ndF (goF (decide (kd = 1)) f1 f2 f1 f2 m)) (ndF (goF (decide (kd = 1)) f1 f2 f2 f1 m)) (m + gc (decide (kd = 1)) f1 f2 m) i).toInt))[j]? = some T9 → ∃ e, hp2 (n + j) = some e ∧ T9 e := by
    intro j T9 hj
    match j, hj with
    | 0, hj =>
      obtain rfl := Option.some.inj hj
      exact ⟨_, b0, tO_mk (vs := [.int (iv (N : Int)), .int (iv kd), .int (iv (m : Int)), .ref (n + 1), .ref (n + 2), .ref (n + 3), .ref (n + 4), .int (iv ((m + gc (decide (kd = 1)) f1 f2 m : Nat) : Int)), .ref (n + 8), .ref (n + 9), .ref (n + 10), .ref (n + 5), .ref (n + 6), .ref (n + 7)])⟩
    | 1, hj =>
      obtain rfl := Option.some.inj hj
      exact ⟨_, b1, _, rfl, fun _ _ => rfl⟩
    | 2, hj =>
      obtain rfl := Option.some.inj hj
      exact ⟨_, b2, _, rfl, fun _ _ => rfl⟩
    | 3, hj =>
      obtain rfl := Option.some.inj hj
      exact ⟨_, b3, _, rfl, fun _ _ => rfl⟩
    | 4, hj =>
      obtain rfl := Option.some.inj hj
      exact ⟨_, b4, _, rfl, fun _ _ => rfl⟩
    | 5, hj =>
      obtain rfl := Option.some.inj hj
      exact ⟨_, b5, _, rfl, fun _ _ => rfl⟩
    | 6, hj =>
      obtain rfl := Option.some.inj hj
      exact ⟨_, b6, _, rfl, fun _ _ => rfl⟩
    | 7, hj =>
      obtain rfl := Option.some.inj hj
      exact ⟨_, b7, _, rfl, fun _ _ => rfl⟩
    | 8, hj =>
      obtain rfl := Option.some.inj hj
      exact ⟨_, b8, _, rfl, fun _ _ => rfl⟩
    | 9, hj =>
      obtain rfl := Option.some.inj hj
      exact ⟨_, b9, _, rfl, fun _ _ => rfl⟩
    | 10, hj =>
      obtain rfl := Option.some.inj hj
      exact ⟨_, b10, _, rfl, fun _ _ => rfl⟩
    | j + 11, hj => exact absurd (List.getElem?_eq_some_iff.mp hj).1 (by show ¬ (j + 11 < 11); omega)
  obtain ⟨Γ2, hE, ht2, hΓ⟩ := new_CG ht bd (by omega) (fun q e h9 => hfr q e (hk1 q e h9) (by have h8 := bd q e h9; omega)) hL
  have rTl : ∀ k, k < (m + gc (decide (kd = 1)) f1 f2 m) → 0 ≤ (goF (decide (kd = 1)) f1 f2 f1 f2 m k).toInt ∧ (goF (decide (kd = 1)) f1 f2 f1 f2 m k).toInt ≤ (N : Int) - 1 := goF_all (P := fun v => 0 ≤ v.toInt ∧ v.toInt ≤ (N : Int) - 1) m (fun i hi => by have h9 := hv i hi; omega)
  have rHd : ∀ k, k < (m + gc (decide (kd = 1)) f1 f2 m) → 0 ≤ (goF (decide (kd = 1)) f1 f2 f2 f1 m k).toInt ∧ (goF (decide (kd = 1)) f1 f2 f2 f1 m k).toInt ≤ (N : Int) - 1 := goF_all (P := fun v => 0 ≤ v.toInt ∧ v.toInt ≤ (N : Int) - 1) m (fun i hi => by have h9 := hv i hi; omega)
  have rBy : ∀ k, k < (m + gc (decide (kd = 1)) f1 f2 m) → 0 ≤ (goF (decide (kd = 1)) f1 f2 nI nI m k).toInt ∧ (goF (decide (kd = 1)) f1 f2 nI nI m k).toInt ≤ (m : Int) - 1 := goF_all (P := fun v => 0 ≤ v.toInt ∧ v.toInt ≤ (m : Int) - 1) m (fun i hi => by have e9 : (nI i).toInt = (i : Int) := (by rw [nI_iv, iv_toInt (by omega) (by omega)]); rw [e9]; omega)
  have bTl : ∀ k, k < (m + gc (decide (kd = 1)) f1 f2 m) → ndF (goF (decide (kd = 1)) f1 f2 f1 f2 m) k < 16 := fun k hk => by
    have h9 := rTl k hk
    show (goF (decide (kd = 1)) f1 f2 f1 f2 m k).toInt.toNat < 16
    omega
  have bHd : ∀ k, k < (m + gc (decide (kd = 1)) f1 f2 m) → ndF (goF (decide (kd = 1)) f1 f2 f2 f1 m) k < 16 := fun k hk => by
    have h9 := rHd k hk
    show (goF (decide (kd = 1)) f1 f2 f2 f1 m k).toInt.toNat < 16
    omega
  have zr : ∀ x : Int32, (∃ z : Int, x = iv z ∧ 0 ≤ z ∧ z ≤ 65535) → 0 ≤ x.toInt ∧ x.toInt ≤ 65535 := by
    rintro x ⟨z, rfl, h8, h9⟩
    rw [iv_toInt (by omega) (by omega)]; exact ⟨h8, h9⟩
  refine kk hp2 Γ2 _ hE ht2 (mk_G hΓ hn (by omega) (by omega) (by omega) hkd (fun i hi => ?_) (fun i hi => ?_) (fun i hi => (hv i hi).2.2.1) (fun i hi => (hv i hi).2.2.2) rTl rHd rBy (fun i _ => zr _ (nbF_r _ bHd i)) (fun i _ => zr _ (nbF_r _ bTl i)) (fun i _ => zr _ (joF_r _ (fun j hj => ⟨bTl j hj, bHd j hj⟩) i)) (fun k hk => nbF_me _ bHd k hk))
  · have h9 := (hv i hi).1
    show 0 ≤ (f1 i).toInt ∧ (f1 i).toInt ≤ (N : Int) - 1
    omega
  · have h9 := (hv i hi).2.1
    show 0 ≤ (f2 i).toInt ∧ (f2 i).toInt ≤ (N : Int) - 1
    omega
set_option maxHeartbeats 4000000 in
theorem t_initC {D : va_G} {cI cJ cZ cT : ClassId} {lo b L : Nat} {xs : Nat → Int32} {M : MM} {d pc : Nat} {lv : List (Nat × Value)} {st : List Value} {hp : MH} {n kr wr : Nat} {Po : Option Value → MH → Nat → Prop} {hp1 : MH} {Γ : TG} {a : Nat} {ct : Int} {rv : Int} {th : Nat → Option Nat} {dn : Int} {dd : Int} {da : Int} {df : Nat → Int} {dt : Nat → Int} {dw : Nat → Int} {dc : Nat → Int} {kn : Int} {kd : Int} {ka : Int} {kf : Nat → Int} {kt : Nat → Int} {kw : Nat → Int} {kc : Nat → Int} {ix N : Nat} {x : Int} (ht : Tw (CG Γ cI cJ cZ cT a ct rv th dn dd da df dt dw dc kn kd ka kf kt kw kc) hp) (bd : ∀ (q : Nat) (e : va_E), hp q = some e → q < n) (hn : a + 84 ≤ n) (hk1 : ∀ (q : Nat) (e : va_E), hp q = some e → hp1 q = some e) (h1 : hp1 n = some (.inr (0, [.int 0, .null]))) (hx : x = (N : Int)) (hN : 1 ≤ N ∧ N ≤ 16) (F : lkK (gG D cI cJ cZ cT lo b L xs) M.1.cls ix mX0_init 1 ∧ Cond.instanceMethod mX0_init.1 ∈ g_ws (gG D cI cJ cZ cT lo b L xs) ∧ mX0_init.1.name = "<init>" ∧ mX0_init.2.2.2 = none) (hd : decode M.2.1 pc = .ok (.invokespecial ix, 3)) (hdd : 2 ≤ d) (hst : (st.map fun v => v.category).sum ≤ 8) (hkr : 1 ≤ kr) (hwr : N ≤ wr) (kk : ∀ (hp2 : MH) (Γ2 : TG), Ext Γ Γ2 → Tw (CG Γ2 cI cJ cZ cT a ct rv th dn dd da df dt dw dc kn kd ka kf kt kw kc) hp2 → TyCw Γ2 cI cJ cZ n (n + 1) N → Rn (gG D cI cJ cZ cT lo b L xs) M d (pc + 3) lv st hp2 (n + 2) (kr - 1) (wr - N) Po) : Rn (gG D cI cJ cZ cT lo b L xs) M d pc lv (.int (iv x) :: .ref n :: st) hp1 (n + 1) kr wr Po := by
  rw [hx, ← nI_iv]
  refine r_callI (pc := pc) (as := [.int (nI N)]) (st := st) F hd (c_X0_init (d := d - 1) (by omega) h1 (by omega)) rfl (by omega) hst (by omega) (by omega) rfl (fun r hp2 n2 hq2 => ?_)
  obtain ⟨rfl, rfl, b0, b1, hfr⟩ := hq2
  rw [nI_iv] at b0
  have hL : ∀ (j : Nat) (T9 : va_E → Prop), [tO 0 [fE (.int (iv (N : Int))), fE (.ref (n + 1))], tJ cJ N anyJ][j]? = some T9 → ∃ e, hp2 (n + j) = some e ∧ T9 e := by
    intro j T9 hj
    match j, hj with
    | 0, hj =>
      obtain rfl := Option.some.inj hj
      exact ⟨_, b0, tO_mk (vs := [.int (iv (N : Int)), .ref (n + 1)])⟩
    | 1, hj =>
      obtain rfl := Option.some.inj hj
      exact ⟨_, b1, _, rfl, fun _ _ => trivial⟩
    | j + 2, hj => exact absurd (List.getElem?_eq_some_iff.mp hj).1 (by show ¬ (j + 2 < 2); omega)
  obtain ⟨Γ2, hE, ht2, hΓ⟩ := new_CG ht bd (by omega) (fun q e h9 => hfr q e (hk1 q e h9) (by have h8 := bd q e h9; omega)) hL
  have e0 : Γ2 n = some (tO 0 [fE (.int (iv (N : Int))), fE (.ref (n + 1))]) := hΓ 0 _ rfl
  have e1 : Γ2 (n + 1) = some (tJ cJ N anyJ) := hΓ 1 _ rfl
  exact kk hp2 Γ2 hE ht2 ⟨rd_of e0, e1, hN⟩
theorem TyCw.rd {Γ : TG} {cI cJ cZ : ClassId} {a M n : Nat} (h : TyCw Γ cI cJ cZ a M n) : TyC Γ cI cJ cZ a M n := ⟨h.1, rd_of h.2.1, h.2.2⟩
theorem ThG_rd {Γ : TG} {cI cJ cZ : ClassId} {a t : Nat} (h : ThG Γ cI cJ cZ a t) : ∃ Fs : List (Value → Prop), rd Γ t (tO 3 Fs) ∧ a + 84 ≤ t := by
  obtain ⟨gF, gT, gW, gC, gTl, gHd, gBy, gOu, gIn, gJo, gn, gm, gq, gdr, fF, fT, fW, fC, fTl, fHd, fBy, fOu, fIn, fJo, h1, h2, h5⟩ := h
  exact ⟨_, h1.1, by omega⟩
theorem ThC_rd {Γ : TG} {cI cJ cZ : ClassId} {a t : Nat} (h : ThC Γ cI cJ cZ a t) : ∃ Fs : List (Value → Prop), rd Γ t (tO 0 Fs) ∧ a + 84 ≤ t := by
  obtain ⟨cM, cn, h1, h2⟩ := h
  exact ⟨_, h1.1, by omega⟩
theorem ThW_rd {Γ : TG} {cI cJ cZ : ClassId} {a t : Nat} (h : ThW Γ cI cJ cZ a t) : ∃ Fs : List (Value → Prop), rd Γ t (tO 9 Fs) ∧ a + 84 ≤ t := by
  obtain ⟨wn, h1, h2⟩ := h
  exact ⟨_, h1.1, by omega⟩
theorem ThQ_rd {Γ : TG} {cI cJ cZ : ClassId} {a t : Nat} (h : ThQ Γ cI cJ cZ a t) : ∃ Fs : List (Value → Prop), rd Γ t (tO 5 Fs) ∧ a + 84 ≤ t := by
  obtain ⟨pN, pO, pn, pz, h1, h2⟩ := h
  exact ⟨_, h1.1, by omega⟩
set_option maxHeartbeats 4000000 in
set_option maxRecDepth 100000 in
theorem t_X11_isNode {D : va_G} {cI cJ cZ cT : ClassId} {lo b L : Nat} {xs : Nat → Int32} {hp : MH} {n d : Nat} {Γ : TG}  {x0 x1 : Int} (hd0 : 0 ≤ d)  (ht : Tw Γ hp) (hx0 : (-2147483648) ≤ x0 ∧ x0 ≤ 2147483647) (hx1 : (-2147483648) ≤ x1 ∧ x1 ≤ 2147483647) : Mt (gG D cI cJ cZ cT lo b L xs) mX11_isNode d 0 0 [.int (iv x0), .int (iv x1)] hp n (pI Γ n (fun r => (0 ≤ r ∧ r ≤ 1) ∧ ((r = 1 ∧ 0 ≤ x0 ∧ x0 < x1) ∨ (r = 0 ∧ ¬ (0 ≤ x0 ∧ x0 < x1))))) := by
  refine Mt.of rfl (Nat.le_of_ble_eq_true rfl) ?_
  refine Rn.pick (lv' := [(0, .int (iv x0)), (1, .int (iv x1))]) [0, 1] rfl ?_
  refine r_iload_n (pc := 0) dX11_isNode_0 (i := 0) rfl rfl ?_
  refine t_if_lt (pc := 1) (tgt := 13) dX11_isNode_1 (by decide) (by omega) (fun c1 => ?_) (fun c1 => ?_)
  · refine r_iconst (pc := 13) (v := iv 0) dX11_isNode_13 (by decide) ?_
    exact r_zret (pc := 14) dX11_isNode_14 rfl (iv_nar (by omega)) ⟨rfl, ht, _, rfl, by omega, by omega⟩
  · refine r_iload_n (pc := 4) dX11_isNode_4 (i := 0) rfl rfl ?_
    refine r_iload_n (pc := 5) dX11_isNode_5 (i := 1) rfl rfl ?_
    refine t_icmp_ge (pc := 6) (tgt := 13) dX11_isNode_6 (by decide) (by omega) (by omega) (fun c6 => ?_) (fun c6 => ?_)
    · refine r_iconst (pc := 13) (v := iv 0) dX11_isNode_13 (by decide) ?_
      exact r_zret (pc := 14) dX11_isNode_14 rfl (iv_nar (by omega)) ⟨rfl, ht, _, rfl, by omega, by omega⟩
    · refine r_iconst (pc := 9) (v := iv 1) dX11_isNode_9 (by decide) ?_
      refine r_goto (pc := 10) (tgt := 14) dX11_isNode_10 (by decide) ?_
      exact r_zret (pc := 14) dX11_isNode_14 rfl (iv_nar (by omega)) ⟨rfl, ht, _, rfl, by omega, by omega⟩
set_option maxHeartbeats 4000000 in
set_option maxRecDepth 100000 in
theorem t_X11_isWeight {D : va_G} {cI cJ cZ cT : ClassId} {lo b L : Nat} {xs : Nat → Int32} {hp : MH} {n d : Nat} {Γ : TG}  {x0 : Int} (hd0 : 0 ≤ d)  (ht : Tw Γ hp) (hx0 : (-2147483648) ≤ x0 ∧ x0 ≤ 2147483647) : Mt (gG D cI cJ cZ cT lo b L xs) mX11_isWeight d 0 0 [.int (iv x0)] hp n (pI Γ n (fun r => (0 ≤ r ∧ r ≤ 1) ∧ ((r = 1 ∧ -1000 ≤ x0 ∧ x0 ≤ 1000) ∨ (r = 0 ∧ ¬ (-1000 ≤ x0 ∧ x0 ≤ 1000))))) := by
  refine Mt.of rfl (Nat.le_of_ble_eq_true rfl) ?_
  refine Rn.pick (lv' := [(0, .int (iv x0))]) [0] rfl ?_
  refine r_iload_n (pc := 0) dX11_isWeight_0 (i := 0) rfl rfl ?_
  refine r_sipush (pc := 1) (v := iv (-1000)) dX11_isWeight_1 (by decide) ?_
  refine t_icmp_lt (pc := 4) (tgt := 18) dX11_isWeight_4 (by decide) (by omega) (by omega) (fun c4 => ?_) (fun c4 => ?_)
  · refine r_iconst (pc := 18) (v := iv 0) dX11_isWeight_18 (by decide) ?_
    exact r_zret (pc := 19) dX11_isWeight_19 rfl (iv_nar (by omega)) ⟨rfl, ht, _, rfl, by omega, by omega⟩
  · refine r_iload_n (pc := 7) dX11_isWeight_7 (i := 0) rfl rfl ?_
    refine r_sipush (pc := 8) (v := iv 1000) dX11_isWeight_8 (by decide) ?_
    refine t_icmp_gt (pc := 11) (tgt := 18) dX11_isWeight_11 (by decide) (by omega) (by omega) (fun c11 => ?_) (fun c11 => ?_)
    · refine r_iconst (pc := 18) (v := iv 0) dX11_isWeight_18 (by decide) ?_
      exact r_zret (pc := 19) dX11_isWeight_19 rfl (iv_nar (by omega)) ⟨rfl, ht, _, rfl, by omega, by omega⟩
    · refine r_iconst (pc := 14) (v := iv 1) dX11_isWeight_14 (by decide) ?_
      refine r_goto (pc := 15) (tgt := 19) dX11_isWeight_15 (by decide) ?_
      exact r_zret (pc := 19) dX11_isWeight_19 rfl (iv_nar (by omega)) ⟨rfl, ht, _, rfl, by omega, by omega⟩
def q_X11_refuse (Γ : TG) (cI cJ cZ cT : ClassId) (a : Nat) (n : Nat) (ct : Int) (rv : Int) (th : Nat → Option Nat) (dn : Int) (dd : Int) (da : Int) (df : Nat → Int) (dt : Nat → Int) (dw : Nat → Int) (dc : Nat → Int) (kn : Int) (kd : Int) (ka : Int) (kf : Nat → Int) (kt : Nat → Int) (kw : Nat → Int) (kc : Nat → Int) (x1 : Int) : Option Value → MH → Nat → Prop := fun r hp1 n1 => n1 = n ∧ Tw (CG Γ cI cJ cZ cT a ct x1 th dn dd da df dt dw dc kn kd ka kf kt kw kc) hp1 ∧ r = some (.int (iv x1))
set_option maxHeartbeats 4000000 in
set_option maxRecDepth 100000 in
theorem s_X11_refuse {D : va_G} {cI cJ cZ cT : ClassId} {lo b L : Nat} {xs : Nat → Int32} {hp : MH} {n d : Nat} {Γ : TG} {a : Nat} {ct : Int} {rv : Int} {th : Nat → Option Nat} {dn : Int} {dd : Int} {da : Int} {df : Nat → Int} {dt : Nat → Int} {dw : Nat → Int} {dc : Nat → Int} {kn : Int} {kd : Int} {ka : Int} {kf : Nat → Int} {kt : Nat → Int} {kw : Nat → Int} {kc : Nat → Int}  {x1 : Int} (hd0 : 0 ≤ d)  (ht : Tw (CG Γ cI cJ cZ cT a ct rv th dn dd da df dt dw dc kn kd ka kf kt kw kc) hp) (hx1 : (-2147483648) ≤ x1 ∧ x1 ≤ 2147483647) : Mt (gG D cI cJ cZ cT lo b L xs) mX11_refuse d 0 0 [.ref a, .int (iv x1)] hp n (q_X11_refuse Γ cI cJ cZ cT a n ct rv th dn dd da df dt dw dc kn kd ka kf kt kw kc x1) := by
  refine Mt.of rfl (Nat.le_of_ble_eq_true rfl) ?_
  refine Rn.pick (lv' := [(0, .ref a), (1, .int (iv x1))]) [0, 1] rfl ?_
  refine r_aload_n (pc := 0) dX11_refuse_0 (i := 0) rfl rfl ?_
  refine r_iload_n (pc := 1) dX11_refuse_1 (i := 1) rfl rfl ?_
  refine t_putX (pc := 2) (ty := .int) ht CG_0 fX11_19 tyX11 tyX11_ok nmX11 (by decide +kernel) (Or.inl rfl) dX11_refuse_2 (Nat.le_of_ble_eq_true rfl) rfl rfl rfl (fun hp1 ht2 => ?_)
  have ht3 := RGw_rv ht2
  refine r_iload_n (pc := 5) dX11_refuse_5 (i := 1) rfl rfl ?_
  exact r_iret (pc := 6) dX11_refuse_6 rfl ⟨rfl, ht3, rfl⟩
def q_X11_deny (Γ : TG) (cI cJ cZ cT : ClassId) (a : Nat) (n : Nat) (ct : Int) (rv : Int) (th : Nat → Option Nat) (dn : Int) (dd : Int) (da : Int) (df : Nat → Int) (dt : Nat → Int) (dw : Nat → Int) (dc : Nat → Int) (kn : Int) (kd : Int) (ka : Int) (kf : Nat → Int) (kt : Nat → Int) (kw : Nat → Int) (kc : Nat → Int) (x1 : Int) : Option Value → MH → Nat → Prop := fun r hp1 n1 => n1 = n ∧ Tw (CG Γ cI cJ cZ cT a ct x1 th dn dd da df dt dw dc kn kd ka kf kt kw kc) hp1 ∧ r = some (.int (iv 0))
set_option maxHeartbeats 4000000 in
set_option maxRecDepth 100000 in
theorem s_X11_deny {D : va_G} {cI cJ cZ cT : ClassId} {lo b L : Nat} {xs : Nat → Int32} {hp : MH} {n d : Nat} {Γ : TG} {a : Nat} {ct : Int} {rv : Int} {th : Nat → Option Nat} {dn : Int} {dd : Int} {da : Int} {df : Nat → Int} {dt : Nat → Int} {dw : Nat → Int} {dc : Nat → Int} {kn : Int} {kd : Int} {ka : Int} {kf : Nat → Int} {kt : Nat → Int} {kw : Nat → Int} {kc : Nat → Int}  {x1 : Int} (hd0 : 0 ≤ d)  (ht : Tw (CG Γ cI cJ cZ cT a ct rv th dn dd da df dt dw dc kn kd ka kf kt kw kc) hp) (hx1 : (-2147483648) ≤ x1 ∧ x1 ≤ 2147483647) : Mt (gG D cI cJ cZ cT lo b L xs) mX11_deny d 0 0 [.ref a, .int (iv x1)] hp n (q_X11_deny Γ cI cJ cZ cT a n ct rv th dn dd da df dt dw dc kn kd ka kf kt kw kc x1) := by
  refine Mt.of rfl (Nat.le_of_ble_eq_true rfl) ?_
  refine Rn.pick (lv' := [(0, .ref a), (1, .int (iv x1))]) [0, 1] rfl ?_
  refine r_aload_n (pc := 0) dX11_deny_0 (i := 0) rfl rfl ?_
  refine r_iload_n (pc := 1) dX11_deny_1 (i := 1) rfl rfl ?_
  refine t_putX (pc := 2) (ty := .int) ht CG_0 fX11_19 tyX11 tyX11_ok nmX11 (by decide +kernel) (Or.inl rfl) dX11_deny_2 (Nat.le_of_ble_eq_true rfl) rfl rfl rfl (fun hp1 ht2 => ?_)
  have ht3 := RGw_rv ht2
  refine r_iconst (pc := 5) (v := iv 0) dX11_deny_5 (by decide) ?_
  exact r_iret (pc := 6) dX11_deny_6 rfl ⟨rfl, ht3, rfl⟩
def q_X11_isFull (Γ : TG) (cI cJ cZ cT : ClassId) (a : Nat) (n : Nat) (ct : Int) (rv : Int) (th : Nat → Option Nat) (dn : Int) (dd : Int) (da : Int) (df : Nat → Int) (dt : Nat → Int) (dw : Nat → Int) (dc : Nat → Int) (kn : Int) (kd : Int) (ka : Int) (kf : Nat → Int) (kt : Nat → Int) (kw : Nat → Int) (kc : Nat → Int) : Option Value → MH → Nat → Prop := fun r hp1 n1 => n1 = n ∧ ∃ (bb : Int), Tw (CG Γ cI cJ cZ cT a ct rv th dn dd da df dt dw dc kn kd ka kf kt kw kc) hp1 ∧ r = some (.int (iv bb)) ∧ ((bb = 1 ∧ 120 ≤ ct) ∨ (bb = 0 ∧ ct < 120))
set_option maxHeartbeats 4000000 in
set_option maxRecDepth 100000 in
theorem s_X11_isFull {D : va_G} {cI cJ cZ cT : ClassId} {lo b L : Nat} {xs : Nat → Int32} {hp : MH} {n d : Nat} {Γ : TG} {a : Nat} {ct : Int} {rv : Int} {th : Nat → Option Nat} {dn : Int} {dd : Int} {da : Int} {df : Nat → Int} {dt : Nat → Int} {dw : Nat → Int} {dc : Nat → Int} {kn : Int} {kd : Int} {ka : Int} {kf : Nat → Int} {kt : Nat → Int} {kw : Nat → Int} {kc : Nat → Int}  (hd0 : 0 ≤ d)  (ht : Tw (CG Γ cI cJ cZ cT a ct rv th dn dd da df dt dw dc kn kd ka kf kt kw kc) hp)  (hct : 0 ≤ ct ∧ ct ≤ 120) : Mt (gG D cI cJ cZ cT lo b L xs) mX11_isFull d 0 0 [.ref a] hp n (q_X11_isFull Γ cI cJ cZ cT a n ct rv th dn dd da df dt dw dc kn kd ka kf kt kw kc) := by
  refine Mt.of rfl (Nat.le_of_ble_eq_true rfl) ?_
  refine Rn.pick (lv' := [(0, .ref a)]) [0] rfl ?_
  refine r_aload_n (pc := 0) dX11_isFull_0 (i := 0) rfl rfl ?_
  refine t_getE (pc := 1) (.int (iv ct)) ht (rd_of CG_0) fX11_15 dX11_isFull_1 rfl ?_
  refine r_bipush (pc := 4) (v := iv 120) dX11_isFull_4 (by decide) ?_
  refine t_icmp_lt (pc := 6) (tgt := 13) dX11_isFull_6 (by decide) (by omega) (by omega) (fun c6 => ?_) (fun c6 => ?_)
  · refine r_iconst (pc := 13) (v := iv 0) dX11_isFull_13 (by decide) ?_
    exact r_zret (pc := 14) dX11_isFull_14 rfl (iv_nar (by omega)) ⟨rfl, 0, ht, rfl, (by omega)⟩
  · refine r_iconst (pc := 9) (v := iv 1) dX11_isFull_9 (by decide) ?_
    refine r_goto (pc := 10) (tgt := 14) dX11_isFull_10 (by decide) ?_
    exact r_zret (pc := 14) dX11_isFull_14 rfl (iv_nar (by omega)) ⟨rfl, 1, ht, rfl, (by omega)⟩
def q_X11_whyNot (Γ : TG) (cI cJ cZ cT : ClassId) (a : Nat) (n : Nat) (ct : Int) (rv : Int) (th : Nat → Option Nat) (dn : Int) (dd : Int) (da : Int) (df : Nat → Int) (dt : Nat → Int) (dw : Nat → Int) (dc : Nat → Int) (kn : Int) (kd : Int) (ka : Int) (kf : Nat → Int) (kt : Nat → Int) (kw : Nat → Int) (kc : Nat → Int) (x1 : Int) : Option Value → MH → Nat → Prop := fun r hp1 n1 => n1 = n ∧ ∃ (bb : Int), Tw (CG Γ cI cJ cZ cT a ct rv th dn dd da df dt dw dc kn kd ka kf kt kw kc) hp1 ∧ r = some (.int (iv bb)) ∧ (-2 ≤ bb ∧ bb ≤ -1)
set_option maxHeartbeats 4000000 in
set_option maxRecDepth 100000 in
theorem s_X11_whyNot {D : va_G} {cI cJ cZ cT : ClassId} {lo b L : Nat} {xs : Nat → Int32} {hp : MH} {n d : Nat} {Γ : TG} {a : Nat} {ct : Int} {rv : Int} {th : Nat → Option Nat} {dn : Int} {dd : Int} {da : Int} {df : Nat → Int} {dt : Nat → Int} {dw : Nat → Int} {dc : Nat → Int} {kn : Int} {kd : Int} {ka : Int} {kf : Nat → Int} {kt : Nat → Int} {kw : Nat → Int} {kc : Nat → Int}  {x1 : Int} (hd0 : 3 ≤ d)  (ht : Tw (CG Γ cI cJ cZ cT a ct rv th dn dd da df dt dw dc kn kd ka kf kt kw kc) hp) (hx1 : (-2147483648) ≤ x1 ∧ x1 ≤ 2147483647) (hk : EK Γ cI cJ cZ a ct th dn dd da df dt dw dc kn kd ka) : Mt (gG D cI cJ cZ cT lo b L xs) mX11_whyNot d 0 0 [.ref a, .int (iv x1)] hp n (q_X11_whyNot Γ cI cJ cZ cT a n ct rv th dn dd da df dt dw dc kn kd ka kf kt kw kc x1) := by
  refine Mt.of rfl (Nat.le_of_ble_eq_true rfl) ?_
  refine Rn.pick (lv' := [(0, .ref a), (1, .int (iv x1))]) [0, 1] rfl ?_
  refine r_aload_n (pc := 0) dX11_whyNot_0 (i := 0) rfl rfl ?_
  refine r_iload_n (pc := 1) dX11_whyNot_1 (i := 1) rfl rfl ?_
  refine t_thingAt (pc := 2) (x := x1) (st := []) hk ht kX11_199 dX11_whyNot_2 (by omega) (Nat.le_of_ble_eq_true rfl) (by omega) (fun hp1 ht2 => ?_) (fun hp1 t1 ht2 hTt1 => ?_)
  · refine r_ifnonnullN (pc := 5) dX11_whyNot_5 ?_
    refine r_iconst (pc := 8) (v := iv (-1)) dX11_whyNot_8 (by decide) ?_
    refine r_goto (pc := 9) (tgt := 14) dX11_whyNot_9 (by decide) ?_
    exact r_iret (pc := 14) dX11_whyNot_14 rfl ⟨rfl, (-1), ht2, rfl, (by omega)⟩
  · refine r_ifnonnull (pc := 5) (tgt := 12) dX11_whyNot_5 (by decide) ?_
    refine r_bipush (pc := 12) (v := iv (-2)) dX11_whyNot_12 (by decide) ?_
    exact r_iret (pc := 14) dX11_whyNot_14 rfl ⟨rfl, (-2), ht2, rfl, (by omega)⟩
def q_X11_whyNotBoth (Γ : TG) (cI cJ cZ cT : ClassId) (a : Nat) (n : Nat) (ct : Int) (rv : Int) (th : Nat → Option Nat) (dn : Int) (dd : Int) (da : Int) (df : Nat → Int) (dt : Nat → Int) (dw : Nat → Int) (dc : Nat → Int) (kn : Int) (kd : Int) (ka : Int) (kf : Nat → Int) (kt : Nat → Int) (kw : Nat → Int) (kc : Nat → Int) (x1 x2 : Int) : Option Value → MH → Nat → Prop := fun r hp1 n1 => n1 = n ∧ ∃ (bb : Int), Tw (CG Γ cI cJ cZ cT a ct rv th dn dd da df dt dw dc kn kd ka kf kt kw kc) hp1 ∧ r = some (.int (iv bb)) ∧ (-2 ≤ bb ∧ bb ≤ -1)
set_option maxHeartbeats 4000000 in
set_option maxRecDepth 100000 in
theorem s_X11_whyNotBoth {D : va_G} {cI cJ cZ cT : ClassId} {lo b L : Nat} {xs : Nat → Int32} {hp : MH} {n d : Nat} {Γ : TG} {a : Nat} {ct : Int} {rv : Int} {th : Nat → Option Nat} {dn : Int} {dd : Int} {da : Int} {df : Nat → Int} {dt : Nat → Int} {dw : Nat → Int} {dc : Nat → Int} {kn : Int} {kd : Int} {ka : Int} {kf : Nat → Int} {kt : Nat → Int} {kw : Nat → Int} {kc : Nat → Int}  {x1 x2 : Int} (hd0 : 3 ≤ d)  (ht : Tw (CG Γ cI cJ cZ cT a ct rv th dn dd da df dt dw dc kn kd ka kf kt kw kc) hp) (hx1 : (-2147483648) ≤ x1 ∧ x1 ≤ 2147483647) (hx2 : (-2147483648) ≤ x2 ∧ x2 ≤ 2147483647) (hk : EK Γ cI cJ cZ a ct th dn dd da df dt dw dc kn kd ka) : Mt (gG D cI cJ cZ cT lo b L xs) mX11_whyNotBoth d 0 0 [.ref a, .int (iv x1), .int (iv x2)] hp n (q_X11_whyNotBoth Γ cI cJ cZ cT a n ct rv th dn dd da df dt dw dc kn kd ka kf kt kw kc x1 x2) := by
  refine Mt.of rfl (Nat.le_of_ble_eq_true rfl) ?_
  refine Rn.pick (lv' := [(0, .ref a), (1, .int (iv x1)), (2, .int (iv x2))]) [0, 1, 2] rfl ?_
  refine r_aload_n (pc := 0) dX11_whyNotBoth_0 (i := 0) rfl rfl ?_
  refine r_iload_n (pc := 1) dX11_whyNotBoth_1 (i := 1) rfl rfl ?_
  refine t_thingAt (pc := 2) (x := x1) (st := []) hk ht kX11_199 dX11_whyNotBoth_2 (by omega) (Nat.le_of_ble_eq_true rfl) (by omega) (fun hp1 ht2 => ?_) (fun hp1 t1 ht2 hTt1 => ?_)
  · refine r_ifnullN (pc := 5) (tgt := 16) dX11_whyNotBoth_5 (by decide) ?_
    refine r_iconst (pc := 16) (v := iv (-1)) dX11_whyNotBoth_16 (by decide) ?_
    refine r_goto (pc := 17) (tgt := 22) dX11_whyNotBoth_17 (by decide) ?_
    exact r_iret (pc := 22) dX11_whyNotBoth_22 rfl ⟨rfl, (-1), ht2, rfl, (by omega)⟩
  · refine r_ifnull (pc := 5) dX11_whyNotBoth_5 ?_
    refine r_aload_n (pc := 8) dX11_whyNotBoth_8 (i := 0) rfl rfl ?_
    refine r_iload_n (pc := 9) dX11_whyNotBoth_9 (i := 2) rfl rfl ?_
    refine t_thingAt (pc := 10) (x := x2) (st := []) hk ht2 kX11_199 dX11_whyNotBoth_10 (by omega) (Nat.le_of_ble_eq_true rfl) (by omega) (fun hp3 ht4 => ?_) (fun hp3 t2 ht4 hTt2 => ?_)
    · refine r_ifnonnullN (pc := 13) dX11_whyNotBoth_13 ?_
      refine r_iconst (pc := 16) (v := iv (-1)) dX11_whyNotBoth_16 (by decide) ?_
      refine r_goto (pc := 17) (tgt := 22) dX11_whyNotBoth_17 (by decide) ?_
      exact r_iret (pc := 22) dX11_whyNotBoth_22 rfl ⟨rfl, (-1), ht4, rfl, (by omega)⟩
    · refine r_ifnonnull (pc := 13) (tgt := 20) dX11_whyNotBoth_13 (by decide) ?_
      refine r_bipush (pc := 20) (v := iv (-2)) dX11_whyNotBoth_20 (by decide) ?_
      exact r_iret (pc := 22) dX11_whyNotBoth_22 rfl ⟨rfl, (-2), ht4, rfl, (by omega)⟩
set_option maxHeartbeats 4000000 in
set_option maxRecDepth 100000 in
theorem t_X11_keep {D : va_G} {cI cJ cZ cT : ClassId} {lo b L : Nat} {xs : Nat → Int32} {hp : MH} {n d : Nat} {Γ : TG} {a : Nat} {ct : Int} {rv : Int} {th : Nat → Option Nat} {dn : Int} {dd : Int} {da : Int} {df : Nat → Int} {dt : Nat → Int} {dw : Nat → Int} {dc : Nat → Int} {kn : Int} {kd : Int} {ka : Int} {kf : Nat → Int} {kt : Nat → Int} {kw : Nat → Int} {kc : Nat → Int} {t ci : Nat} {Fs : List (Value → Prop)} {r0 : vw_C} (hd0 : 1 ≤ d) (hct : 0 ≤ ct ∧ ct < 120) (hv : rd (CG Γ cI cJ cZ cT a ct rv th dn dd da df dt dw dc kn kd ka kf kt kw kc) t (tO ci Fs)) (hc : (g_cl (gG D cI cJ cZ cT lo b L xs))[ci]? = some r0) (hca : (r0.1, "GraphEngine$Thing") ∈ g_ca (gG D cI cJ cZ cT lo b L xs)) (ht : Tw (CG Γ cI cJ cZ cT a ct rv th dn dd da df dt dw dc kn kd ka kf kt kw kc) hp) : Mt (gG D cI cJ cZ cT lo b L xs) mX11_keep d 0 0 [.ref a, .ref t] hp n (fun r hp1 n1 => n1 = n ∧ Tw (CG Γ cI cJ cZ cT a (ct + 1) rv (va_up th ct.toNat (some t)) dn dd da df dt dw dc kn kd ka kf kt kw kc) hp1 ∧ r = some (.int (iv ct))) := by
  refine Mt.of rfl (Nat.le_of_ble_eq_true rfl) ?_
  refine Rn.pick (lv' := [(0, .ref a), (1, .ref t)]) [0, 1] rfl ?_
  refine r_aload_n (pc := 0) dX11_keep_0 (i := 0) rfl rfl ?_
  refine t_getE (pc := 1) (.int (iv ct)) ht (rd_of CG_0) fX11_15 dX11_keep_1 rfl ?_
  refine r_istore_n (pc := 4) (lv' := [(2, .int (iv ct)), (0, .ref a), (1, .ref t)]) dX11_keep_4 (i := 2) rfl (by decide) rfl ?_
  refine r_iload_n (pc := 5) dX11_keep_5 (i := 2) rfl rfl ?_
  refine t_if_lt (pc := 6) (tgt := 15) dX11_keep_6 (by decide) (by omega) (fun c6 => ?_) (fun c6 => ?_)
  · exfalso
    omega
  · refine r_iload_n (pc := 9) dX11_keep_9 (i := 2) rfl rfl ?_
    refine r_bipush (pc := 10) (v := iv 120) dX11_keep_10 (by decide) ?_
    refine t_icmp_lt (pc := 12) (tgt := 22) dX11_keep_12 (by decide) (by omega) (by omega) (fun c12 => ?_) (fun c12 => ?_)
    · refine r_aload_n (pc := 22) dX11_keep_22 (i := 0) rfl rfl ?_
      refine t_getE (pc := 23) (.ref (a + 1)) ht (rd_of CG_0) fX11_11 dX11_keep_23 rfl ?_
      refine r_iload_n (pc := 26) dX11_keep_26 (i := 2) rfl rfl ?_
      refine r_aload_n (pc := 27) dX11_keep_27 (i := 1) rfl rfl ?_
      refine t_aastQ (pc := 28) (t0 := 3) (x := ct) ht CG_1 hv dX11_keep_28 rfl hc hca (by omega) (by omega) (fun hp3 ht1 => ?_)
      have ht2 := CGw_th ht1
      refine r_aload_n (pc := 29) dX11_keep_29 (i := 0) rfl rfl ?_
      refine r_iload_n (pc := 30) dX11_keep_30 (i := 2) rfl rfl ?_
      refine r_iconst (pc := 31) (v := iv 1) dX11_keep_31 (by decide) ?_
      refine r_iadd (pc := 32) (v := iv (ct + 1)) dX11_keep_32 (iv_add _ _) ?_
      refine t_putX (pc := 33) (ty := .int) ht2 CG_0 fX11_15 tyX11 tyX11_ok nmX11 (by decide +kernel) (Or.inl rfl) dX11_keep_33 (Nat.le_of_ble_eq_true rfl) rfl rfl rfl (fun hp4 ht5 => ?_)
      have ht6 := RGw_ct ht5
      refine r_iload_n (pc := 36) dX11_keep_36 (i := 2) rfl rfl ?_
      exact r_iret (pc := 37) dX11_keep_37 rfl ⟨rfl, ht6, rfl⟩
    · exfalso
      omega
