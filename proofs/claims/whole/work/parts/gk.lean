/-- labels below v have been told anew -/
def unL (Lb : Nat → Int) (a b : Int) (L : Nat) (v : Int) (f : Nat → Int) : Prop := ∀ u : Nat, u < L → ((u : Int) < v → f u = if Lb u = b then a else Lb u) ∧ (v ≤ (u : Int) → f u = Lb u)
theorem unl_0 {Lb : Nat → Int} {a b : Int} {L : Nat} : unL Lb a b L 0 Lb := fun u _ => ⟨fun g => by omega, fun _ => rfl⟩
theorem unl_up {Lb f : Nat → Int} {a b v z : Int} {L : Nat} (h : unL Lb a b L v f) (hv : 0 ≤ v) (hz : (f v.toNat = b ∧ z = a) ∨ (f v.toNat ≠ b ∧ z = f v.toNat)) : unL Lb a b L (v + 1) (fup f v.toNat z) := by
  intro u hu
  by_cases e : u = v.toNat
  · subst e
    rw [show fup f v.toNat z v.toNat = z from if_pos rfl]
    have h1 := (h _ hu).2 (by omega)
    refine ⟨fun _ => ?_, fun g => by omega⟩
    rcases hz with ⟨z1, z2⟩ | ⟨z1, z2⟩
    · rw [if_pos (by rw [← h1]; exact z1), z2]
    · rw [if_neg (by rw [← h1]; exact z1), z2, h1]
  · rw [show fup f v.toNat z u = f u from if_neg e]
    exact ⟨fun g => (h u hu).1 (by omega), fun g => (h u hu).2 (by omega)⟩
theorem unl_e {Lb f : Nat → Int} {a b v : Int} {L : Nat} (h : unL Lb a b L v f) (hv : (L : Int) ≤ v) : ∀ u, u < L → f u = if Lb u = b then a else Lb u := fun u hu => (h u hu).1 (by omega)
set_option maxHeartbeats 4000000 in
set_option maxRecDepth 100000 in
theorem c_X8_unitex {D : va_G} {cI cJ cZ cT : ClassId} {lo b L : Nat} {xs : Nat → Int32} {hp : MH} {n d : Nat} {Γ : TG} {rA rL : Nat} {Lb : Nat → Int} {x1 x2 : Int} (hd0 : 0 ≤ d) (hR9 : Rfx rL 0 15 Lb) (hrL : rL ≤ 16) (ht : Tw (ov Γ rA (xI cI rL Lb)) hp) (hx1 : 0 ≤ x1 ∧ x1 ≤ 15) (hx2 : 0 ≤ x2 ∧ x2 ≤ 15) : Mt (gG D cI cJ cZ cT lo b L xs) mX8_unite d 0 0 [.ref rA, .int (iv x1), .int (iv x2)] hp n (pRo Γ cI rA rL n (fun v f => (v = 0 ∧ x1 = x2 ∧ f = Lb) ∨ (v = 1 ∧ x1 ≠ x2 ∧ Rfx rL 0 15 f ∧ ∀ u, u < rL → f u = if Lb u = x2 then x1 else Lb u))) := by
  refine Mt.of rfl (Nat.le_of_ble_eq_true rfl) ?_
  refine Rn.pick (lv' := [(0, .ref rA), (1, .int (iv x1)), (2, .int (iv x2))]) [0, 1, 2] rfl ?_
  refine r_iload_n (pc := 0) dX8_unite_0 (i := 1) rfl rfl ?_
  refine r_iload_n (pc := 1) dX8_unite_1 (i := 2) rfl rfl ?_
  refine t_icmp_ne (pc := 2) (tgt := 7) dX8_unite_2 (by decide) (by omega) (by omega) (fun c2 => ?_) (fun c2 => ?_)
  · refine r_iconst (pc := 7) (v := iv 0) dX8_unite_7 (by decide) ?_
    refine r_istore_n (pc := 8) (lv' := [(3, .int (iv 0)), (0, .ref rA), (1, .int (iv x1)), (2, .int (iv x2))]) dX8_unite_8 (i := 3) rfl (by decide) rfl ?_
    have B9 : ∀ k : Nat, ∀ Rw9 : Nat → Int, ∀ hp9 : MH, Tw (ov Γ rA (xI cI rL Rw9)) hp9 → ∀  (v9_3 : Int), 0 ≤ v9_3 ∧ v9_3 ≤ 16 ∧ (v9_3 ≤ (rL : Int)) ∧ (Rfx rL 0 15 Rw9) ∧ (unL Lb x1 x2 rL v9_3 Rw9) → 16 - v9_3 ≤ (k : Int) → Rn (gG D cI cJ cZ cT lo b L xs) mX8_unite d 9 [(0, .ref rA), (1, .int (iv x1)), (2, .int (iv x2)), (3, .int (iv v9_3))] [] hp9 n 0 0 (pRo Γ cI rA rL n (fun v f => (v = 0 ∧ x1 = x2 ∧ f = Lb) ∨ (v = 1 ∧ x1 ≠ x2 ∧ Rfx rL 0 15 f ∧ ∀ u, u < rL → f u = if Lb u = x2 then x1 else Lb u))) := by
      refine lpS _ ?_
      intro k9 ih9 Rw9 hp9 ht9 v9_3 hf9 hm9
      obtain ⟨hf9_0, hf9_1, hf9_2, ha9_3, ha9_4⟩ := hf9
      refine r_iload_n (pc := 9) dX8_unite_9 (i := 3) rfl rfl ?_
      refine r_aload_n (pc := 10) dX8_unite_10 (i := 0) rfl rfl ?_
      refine t_lenI (pc := 11) (t0 := 0) ht9 (rd_of (ov_s _ _ _)) dX8_unite_11 rfl ?_
      refine t_icmp_ge (pc := 12) (tgt := 38) dX8_unite_12 (by decide) (by omega) (by omega) (fun c12 => ?_) (fun c12 => ?_)
      · refine r_iconst (pc := 38) (v := iv 1) dX8_unite_38 (by decide) ?_
        exact r_zret (pc := 39) dX8_unite_39 rfl (iv_nar (by omega)) ⟨rfl, _, Rw9, rfl, ht9, Or.inr ⟨rfl, by omega, by assumption, unl_e (by assumption : unL Lb x1 x2 rL v9_3 Rw9) (by omega)⟩⟩
      · refine r_aload_n (pc := 15) dX8_unite_15 (i := 0) rfl rfl ?_
        refine r_iload_n (pc := 16) dX8_unite_16 (i := 3) rfl rfl ?_
        refine r_aload_n (pc := 17) dX8_unite_17 (i := 0) rfl rfl ?_
        refine r_iload_n (pc := 18) dX8_unite_18 (i := 3) rfl rfl ?_
        refine t_ialdX (pc := 19) (t0 := 0) ht9 (rd_of (ov_s _ _ _)) dX8_unite_19 rfl (by omega) (by omega) (fun b1 => ?_)
        have rb1 := (show Rfx rL 0 15 Rw9 by assumption) (Int.toNat v9_3) (by omega)
        refine r_iload_n (pc := 20) dX8_unite_20 (i := 2) rfl rfl ?_
        refine t_icmp_ne (pc := 21) (tgt := 28) dX8_unite_21 (by decide) (by omega) (by omega) (fun c21 => ?_) (fun c21 => ?_)
        · refine r_aload_n (pc := 28) dX8_unite_28 (i := 0) rfl rfl ?_
          refine r_iload_n (pc := 29) dX8_unite_29 (i := 3) rfl rfl ?_
          refine t_ialdX (pc := 30) (t0 := 0) ht9 (rd_of (ov_s _ _ _)) dX8_unite_30 rfl (by omega) (by omega) (fun b2 => ?_)
          have rb2 := (show Rfx rL 0 15 Rw9 by assumption) (Int.toNat v9_3) (by omega)
          refine t_iastX (pc := 31) (t0 := 0) ht9 (ov_s _ _ _) dX8_unite_31 rfl (by omega) (by omega) (by omega) (fun hp3 ht4 => ?_)
          rw [ov_ov] at ht4
          have hR31 : Rfx rL 0 15 (fup Rw9 (Int.toNat v9_3) (Rw9 (Int.toNat v9_3))) := Rfx_up (by assumption) (by omega)
          have hun := unl_up (by assumption : unL Lb x1 x2 rL v9_3 Rw9) (by omega) (Or.inr ⟨by omega, rfl⟩)
          refine r_iinc (pc := 32) (v := iv (v9_3 + 1)) (lv' := [(3, .int (iv (v9_3 + 1))), (0, .ref rA), (1, .int (iv x1)), (2, .int (iv x2))]) dX8_unite_32 rfl (iv_add _ _) (by decide) rfl ?_
          refine r_goto (pc := 35) (tgt := 9) dX8_unite_35 (by decide) ?_
          refine Rn.pick (lv' := [(0, .ref rA), (1, .int (iv x1)), (2, .int (iv x2)), (3, .int (iv (v9_3 + 1)))]) [1, 2, 3, 0] rfl ?_
          exact ih9 (Int.toNat (16 - (v9_3 + 1))) (by omega) (fup Rw9 (Int.toNat v9_3) (Rw9 (Int.toNat v9_3))) _ ht4 (v9_3 + 1) ⟨by omega, by omega, by omega, by (first | exact hR31 | exact hR9), by (first | exact hun | exact unl_0)⟩ (by omega)
        · refine r_iload_n (pc := 24) dX8_unite_24 (i := 1) rfl rfl ?_
          refine r_goto (pc := 25) (tgt := 31) dX8_unite_25 (by decide) ?_
          refine t_iastX (pc := 31) (t0 := 0) ht9 (ov_s _ _ _) dX8_unite_31 rfl (by omega) (by omega) (by omega) (fun hp5 ht6 => ?_)
          rw [ov_ov] at ht6
          have hR31 : Rfx rL 0 15 (fup Rw9 (Int.toNat v9_3) x1) := Rfx_up (by assumption) (by omega)
          have hun := unl_up (by assumption : unL Lb x1 x2 rL v9_3 Rw9) (by omega) (Or.inl ⟨by omega, rfl⟩)
          refine r_iinc (pc := 32) (v := iv (v9_3 + 1)) (lv' := [(3, .int (iv (v9_3 + 1))), (0, .ref rA), (1, .int (iv x1)), (2, .int (iv x2))]) dX8_unite_32 rfl (iv_add _ _) (by decide) rfl ?_
          refine r_goto (pc := 35) (tgt := 9) dX8_unite_35 (by decide) ?_
          refine Rn.pick (lv' := [(0, .ref rA), (1, .int (iv x1)), (2, .int (iv x2)), (3, .int (iv (v9_3 + 1)))]) [1, 2, 3, 0] rfl ?_
          exact ih9 (Int.toNat (16 - (v9_3 + 1))) (by omega) (fup Rw9 (Int.toNat v9_3) x1) _ ht6 (v9_3 + 1) ⟨by omega, by omega, by omega, by (first | exact hR31 | exact hR9), by (first | exact hun | exact unl_0)⟩ (by omega)
    refine Rn.pick (lv' := [(0, .ref rA), (1, .int (iv x1)), (2, .int (iv x2)), (3, .int (iv 0))]) [1, 2, 3, 0] rfl ?_
    exact B9 (Int.toNat (16 - 0)) Lb _ ht 0 ⟨by omega, by omega, by omega, by (first | exact hR31 | exact hR9), by (first | exact hun | exact unl_0)⟩ (by omega)
  · refine r_iconst (pc := 5) (v := iv 0) dX8_unite_5 (by decide) ?_
    exact r_zret (pc := 6) dX8_unite_6 rfl (iv_nar (by omega)) ⟨rfl, _, Lb, rfl, ht, Or.inl ⟨rfl, by omega, rfl⟩⟩
