set_option maxHeartbeats 4000000 in
set_option maxRecDepth 100000 in
theorem d_X1_add {D : va_G} {cI cJ cZ cT : ClassId} {lo b L : Nat} {xs : Nat → Int32} {hp : MH} {n d : Nat} {Γ : TG} {s : Nat} {kn : Int} {kd : Int} {ka : Int} {kf : Nat → Int} {kt : Nat → Int} {kw : Nat → Int} {kc : Nat → Int} {lt : Nat → Int}  {x1 x2 x3 x4 : Int} (hd0 : 0 ≤ d)  (hn_ka : 0 ≤ ka ∧ ka ≤ 60) (ht : Tw (DX Γ cI cJ cZ cT s kn kd ka kf kt kw kc lt) hp) (hx1 : (-2147483648) ≤ x1 ∧ x1 ≤ 2147483647) (hx2 : (-2147483648) ≤ x2 ∧ x2 ≤ 2147483647) (hx3 : (-2147483648) ≤ x3 ∧ x3 ≤ 2147483647) (hx4 : (-2147483648) ≤ x4 ∧ x4 ≤ 2147483647) : Mt (gG D cI cJ cZ cT lo b L xs) mX1_add d 0 0 [.ref s, .int (iv x1), .int (iv x2), .int (iv x3), .int (iv x4)] hp n (qd_X1_add Γ cI cJ cZ cT s n kn kd ka kf kt kw kc lt x1 x2 x3 x4) := by
  refine Mt.of rfl (Nat.le_of_ble_eq_true rfl) ?_
  refine Rn.pick (lv' := [(0, .ref s), (1, .int (iv x1)), (2, .int (iv x2)), (3, .int (iv x3)), (4, .int (iv x4))]) [0, 1, 2, 3, 4] rfl ?_
  refine r_aload_n (pc := 0) dX1_add_0 (i := 0) rfl rfl ?_
  refine t_getE (pc := 1) (.int (iv ka)) ht (rd_of DX_0) fX1_19 dX1_add_1 rfl ?_
  refine r_istore (pc := 4) (lv' := [(5, .int (iv ka)), (0, .ref s), (1, .int (iv x1)), (2, .int (iv x2)), (3, .int (iv x3)), (4, .int (iv x4))]) dX1_add_4 (by decide) rfl ?_
  refine r_iload (pc := 6) dX1_add_6 rfl ?_
  refine t_if_lt (pc := 8) (tgt := 18) dX1_add_8 (by decide) (by omega) (fun c8 => ?_) (fun c8 => ?_)
  · exfalso
    omega
  · refine r_iload (pc := 11) dX1_add_11 rfl ?_
    refine r_bipush (pc := 13) (v := iv 60) dX1_add_13 (by decide) ?_
    refine t_icmp_lt (pc := 15) (tgt := 20) dX1_add_15 (by decide) (by omega) (by omega) (fun c15 => ?_) (fun c15 => ?_)
    · refine r_aload_n (pc := 20) dX1_add_20 (i := 0) rfl rfl ?_
      refine t_getE (pc := 21) (.ref (s + 1)) ht (rd_of DX_0) fX1_22 dX1_add_21 rfl ?_
      refine r_iload (pc := 24) dX1_add_24 rfl ?_
      refine r_iload_n (pc := 26) dX1_add_26 (i := 1) rfl rfl ?_
      refine t_iastX (pc := 27) (t0 := 0) ht DX_1 dX1_add_27 rfl (by decide) (by omega) (by omega) (fun hp1 ht2 => ?_)
      have ht3 := DXw_kf ht2
      refine r_aload_n (pc := 28) dX1_add_28 (i := 0) rfl rfl ?_
      refine t_getE (pc := 29) (.ref (s + 2)) ht3 (rd_of DX_0) fX1_26 dX1_add_29 rfl ?_
      refine r_iload (pc := 32) dX1_add_32 rfl ?_
      refine r_iload_n (pc := 34) dX1_add_34 (i := 2) rfl rfl ?_
      refine t_iastX (pc := 35) (t0 := 0) ht3 DX_2 dX1_add_35 rfl (by decide) (by omega) (by omega) (fun hp4 ht5 => ?_)
      have ht6 := DXw_kt ht5
      refine r_aload_n (pc := 36) dX1_add_36 (i := 0) rfl rfl ?_
      refine t_getE (pc := 37) (.ref (s + 3)) ht6 (rd_of DX_0) fX1_29 dX1_add_37 rfl ?_
      refine r_iload (pc := 40) dX1_add_40 rfl ?_
      refine r_iload_n (pc := 42) dX1_add_42 (i := 3) rfl rfl ?_
      refine t_iastX (pc := 43) (t0 := 0) ht6 DX_3 dX1_add_43 rfl (by decide) (by omega) (by omega) (fun hp7 ht8 => ?_)
      have ht9 := DXw_kw ht8
      refine r_aload_n (pc := 44) dX1_add_44 (i := 0) rfl rfl ?_
      refine t_getE (pc := 45) (.ref (s + 4)) ht9 (rd_of DX_0) fX1_32 dX1_add_45 rfl ?_
      refine r_iload (pc := 48) dX1_add_48 rfl ?_
      refine r_iload (pc := 50) dX1_add_50 rfl ?_
      refine t_iastX (pc := 52) (t0 := 0) ht9 DX_4 dX1_add_52 rfl (by decide) (by omega) (by omega) (fun hp10 ht11 => ?_)
      have ht12 := DXw_kc ht11
      refine r_aload_n (pc := 53) dX1_add_53 (i := 0) rfl rfl ?_
      refine r_iload (pc := 54) dX1_add_54 rfl ?_
      refine r_iconst (pc := 56) (v := iv 1) dX1_add_56 (by decide) ?_
      refine r_iadd (pc := 57) (v := iv (ka + 1)) dX1_add_57 (iv_add _ _) ?_
      refine t_putX (pc := 58) (ty := .int) ht12 DX_0 fX1_19 tyX1 tyX1_ok nmX1 (by decide +kernel) (Or.inl rfl) dX1_add_58 (Nat.le_of_ble_eq_true rfl) rfl rfl rfl (fun hp13 ht14 => ?_)
      have ht15 := DXw_ka ht14
      refine r_iconst (pc := 61) (v := iv 1) dX1_add_61 (by decide) ?_
      exact r_zret (pc := 62) dX1_add_62 rfl (iv_nar (by omega)) ⟨rfl, 1, (ka + 1), (fup kf (Int.toNat ka) x1), (fup kt (Int.toNat ka) x2), (fup kw (Int.toNat ka) x3), (fup kc (Int.toNat ka) x4), ht15, rfl, (by omega), (by (first | (intro h9; exfalso; omega) | (intro _; exact ⟨rfl, rfl, rfl, rfl⟩))), (by (first | (intro h9; exfalso; omega) | (intro _; exact ⟨rfl, rfl, rfl, rfl⟩))), (by omega)⟩
    · refine r_iconst (pc := 18) (v := iv 0) dX1_add_18 (by decide) ?_
      exact r_zret (pc := 19) dX1_add_19 rfl (iv_nar (by omega)) ⟨rfl, 0, ka, kf, kt, kw, kc, ht, rfl, (by omega), (by (first | (intro h9; exfalso; omega) | (intro _; exact ⟨rfl, rfl, rfl, rfl⟩))), (by (first | (intro h9; exfalso; omega) | (intro _; exact ⟨rfl, rfl, rfl, rfl⟩))), (by omega)⟩
def qd_X1_drawKept (Γ : TG) (cI cJ cZ cT : ClassId) (s : Nat) (n : Nat) (kn : Int) (kd : Int) (ka : Int) (kf : Nat → Int) (kt : Nat → Int) (kw : Nat → Int) (kc : Nat → Int) (lt : Nat → Int) (ga : Nat) (gF : Nat) (gT : Nat) (gW : Nat) (gC : Nat) (gTl : Nat) (gHd : Nat) (gBy : Nat) (gOu : Nat) (gIn : Nat) (gJo : Nat) (gn : Nat) (gm : Nat) (gq : Nat) (gdr : Int) (x2 x3 : Int) (F T W C Tl Hd By Ou In Jo : Nat → Int) : Option Value → MH → Nat → Prop := fun r hp1 n1 => n1 = n ∧ ∃ (n1 : Int) (d1 : Int) (k1 : Int) (f1 : Nat → Int) (t1 : Nat → Int) (w1 : Nat → Int) (c1 : Nat → Int) (l1 : Nat → Int) (bb : Int), Tw (DX Γ cI cJ cZ cT s n1 d1 k1 f1 t1 w1 c1 l1) hp1 ∧ r = some (.int (iv bb)) ∧ (1 ≤ n1 ∧ n1 ≤ 16) ∧ (0 ≤ d1 ∧ d1 ≤ 1) ∧ (0 ≤ k1 ∧ k1 ≤ 60) ∧ (arP f1 t1 w1 c1 k1 n1) ∧ (Rfx 256 (-1000) 5000 l1) ∧ (drwP (acc (kpL gm gdr F T W C x2 x3) gm) bb k1 f1 t1 w1 c1) ∧ (n1 = (gn : Int)) ∧ (d1 = (if x2 = 1 then 0 else gdr))
