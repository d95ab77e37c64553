def qd_X1_restart (Γ : TG) (cI cJ cZ cT : ClassId) (s : Nat) (n : Nat) (kn : Int) (kd : Int) (ka : Int) (kf : Nat → Int) (kt : Nat → Int) (kw : Nat → Int) (kc : Nat → Int) (lt : Nat → Int) (x1 x2 : Int) : Option Value → MH → Nat → Prop := fun r hp1 n1 => n1 = n ∧ Tw (DX Γ cI cJ cZ cT s x1 x2 0 kf kt kw kc lt) hp1 ∧ r = none
set_option maxHeartbeats 4000000 in
set_option maxRecDepth 100000 in
theorem d_X1_restart {D : va_G} {cI cJ cZ cT : ClassId} {lo b L : Nat} {xs : Nat → Int32} {hp : MH} {n d : Nat} {Γ : TG} {s : Nat} {kn : Int} {kd : Int} {ka : Int} {kf : Nat → Int} {kt : Nat → Int} {kw : Nat → Int} {kc : Nat → Int} {lt : Nat → Int}  {x1 x2 : Int} (hd0 : 0 ≤ d)  (ht : Tw (DX Γ cI cJ cZ cT s kn kd ka kf kt kw kc lt) hp) (hx1 : 1 ≤ x1 ∧ x1 ≤ 16) (hx2 : 0 ≤ x2 ∧ x2 ≤ 1) : Mt (gG D cI cJ cZ cT lo b L xs) mX1_restart d 0 0 [.ref s, .int (iv x1), .int (iv x2)] hp n (qd_X1_restart Γ cI cJ cZ cT s n kn kd ka kf kt kw kc lt x1 x2) := by
  refine Mt.of rfl (Nat.le_of_ble_eq_true rfl) ?_
  refine Rn.pick (lv' := [(0, .ref s), (1, .int (iv x1)), (2, .int (iv x2))]) [0, 1, 2] rfl ?_
  refine r_aload_n (pc := 0) dX1_restart_0 (i := 0) rfl rfl ?_
  refine r_iload_n (pc := 1) dX1_restart_1 (i := 1) rfl rfl ?_
  refine t_putX (pc := 2) (ty := .int) ht DX_0 fX1_9 tyX1 tyX1_ok nmX1 (by decide +kernel) (Or.inl rfl) dX1_restart_2 (Nat.le_of_ble_eq_true rfl) rfl rfl rfl (fun hp1 ht2 => ?_)
  have ht3 := DXw_kn ht2
  refine r_aload_n (pc := 5) dX1_restart_5 (i := 0) rfl rfl ?_
  refine r_iload_n (pc := 6) dX1_restart_6 (i := 2) rfl rfl ?_
  refine t_putX (pc := 7) (ty := .boolean) ht3 DX_0 fX1_15 tyX1 tyX1_ok nmX1 (by decide +kernel) (Or.inl rfl) dX1_restart_7 (Nat.le_of_ble_eq_true rfl) (iv_nar (by omega)) (iv_fit (by omega)) rfl (fun hp4 ht5 => ?_)
  have ht6 := DXw_kd ht5
  refine r_aload_n (pc := 10) dX1_restart_10 (i := 0) rfl rfl ?_
  refine r_iconst (pc := 11) (v := iv 0) dX1_restart_11 (by decide) ?_
  refine t_putX (pc := 12) (ty := .int) ht6 DX_0 fX1_19 tyX1 tyX1_ok nmX1 (by decide +kernel) (Or.inl rfl) dX1_restart_12 (Nat.le_of_ble_eq_true rfl) rfl rfl rfl (fun hp7 ht8 => ?_)
  have ht9 := DXw_ka ht8
  exact r_vret (pc := 15) dX1_restart_15 rfl ⟨rfl, ht9, rfl⟩
def qd_X1_add (Γ : TG) (cI cJ cZ cT : ClassId) (s : Nat) (n : Nat) (kn : Int) (kd : Int) (ka : Int) (kf : Nat → Int) (kt : Nat → Int) (kw : Nat → Int) (kc : Nat → Int) (lt : Nat → Int) (x1 x2 x3 x4 : Int) : Option Value → MH → Nat → Prop := fun r hp1 n1 => n1 = n ∧ ∃ (bb : Int) (k1 : Int) (f1 : Nat → Int) (t1 : Nat → Int) (w1 : Nat → Int) (c1 : Nat → Int), Tw (DX Γ cI cJ cZ cT s kn kd k1 f1 t1 w1 c1 lt) hp1 ∧ r = some (.int (iv bb)) ∧ ((bb = 1 ∧ ka < 60 ∧ k1 = ka + 1) ∨ (bb = 0 ∧ 60 ≤ ka ∧ k1 = ka)) ∧ (ka < 60 → f1 = fup kf (Int.toNat ka) x1 ∧ t1 = fup kt (Int.toNat ka) x2 ∧ w1 = fup kw (Int.toNat ka) x3 ∧ c1 = fup kc (Int.toNat ka) x4) ∧ (60 ≤ ka → f1 = kf ∧ t1 = kt ∧ w1 = kw ∧ c1 = kc) ∧ (0 ≤ k1 ∧ k1 ≤ 60)
