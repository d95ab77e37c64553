/-- where flip stands -/
def udZ (mt po : Nat → Int) (v w : Nat) : Nat → Int
  | 0 => (w : Int)
  | i + 1 => mt (esF mt po v i)
section UZ
variable {R : Nat → Nat → Prop} {S : Nat → Prop} {mt po : Nat → Int} {ev : Nat → Prop} {root v w k : Nat}
theorem uz_neg (h : esP R S mt po ev root v k) {i : Nat} (hi : i ≤ k + 1) (hz : udZ mt po v w i < 0) : i = k + 1 := by
  cases i with
  | zero =>
    have h1 : (w : Int) < 0 := hz
    omega
  | succ j =>
    have h1 : mt (esF mt po v j) < 0 := hz
    by_cases c : j < k
    · have := (h.2.2.1 j c).1
      omega
    · omega
theorem uz_pos (h : esP R S mt po ev root v k) (hr : mt root < 0) {i : Nat} (hi : i ≤ k + 1) (hz : 0 ≤ udZ mt po v w i) : i ≤ k ∧ udZ mt po v w i = (udF mt po v w i : Int) := by
  cases i with
  | zero => exact ⟨by omega, rfl⟩
  | succ j =>
    have h1 : 0 ≤ mt (esF mt po v j) := hz
    have hj : j ≠ k := fun e => by
      rw [e, h.1] at h1
      omega
    exact ⟨by omega, (mn_e h1).symm⟩
theorem uz_pa (hM : vmP R S mt) (h : esP R S mt po ev root v k) (hw : S w) (hm : mt w < 0) (hn : ¬ ev w) {i : Nat} (hi : i ≤ k) : fup po w (v : Int) (udF mt po v w i) = (esF mt po v i : Int) := by
  obtain ⟨u1, u2, u3⟩ := ud_x hM h hw hm hn
  cases i with
  | zero => exact if_pos rfl
  | succ j =>
    rw [show fup po w (v : Int) (udF mt po v w (j + 1)) = po (udF mt po v w (j + 1)) from if_neg (u2 (j + 1) 0 hi (by omega) (by omega))]
    exact (h.2.2.1 j (by omega)).2.1
end UZ
set_option maxHeartbeats 4000000 in
set_option maxRecDepth 100000 in
theorem c_X4_flipx {D : va_G} {cI cJ cZ cT : ClassId} {lo b L : Nat} {xs : Nat → Int32} {hp : MH} {n d : Nat} {Γ : TG} {s : Nat} {W qd : Int} {mt pa ba Q : Nat → Int} {x1 : Int} {po : Nat → Int} {R : Nat → Nat → Prop} {S : Nat → Prop} {ev : Nat → Prop} {root nn v9 k9 : Nat} (hd0 : 0 ≤ d) (hm0 : Rfx 16 (-1) 15 mt) (hp0 : Rfx 16 (-1) 15 pa) (hb0 : Rfx 16 0 15 ba) (hQ0 : Rfx 16 0 15 Q) (hW0 : 0 ≤ W ∧ W ≤ 16) (hqd0 : 0 ≤ qd ∧ qd ≤ 65535) (ht : Tw (PrS Γ cI s W qd mt pa ba Q) hp) (hx1 : 0 ≤ x1 ∧ x1 ≤ 15) (hM : vmP R S mt) (hS : ∀ a, S a → a < nn) (hnn : nn ≤ 16) (hpa : pa = fup po (Int.toNat x1) (v9 : Int)) (hes : esP R S mt po ev root v9 k9) (hwS : S (Int.toNat x1)) (hwm : mt (Int.toNat x1) < 0) (hwn : ¬ ev (Int.toNat x1)) (hrt : mt root < 0) : Mt (gG D cI cJ cZ cT lo b L xs) mX4_flip d 0 0 [.ref s, .int (iv x1)] hp n (fun r9 hp1 n1 => n1 = n ∧ r9 = none ∧ ∃ N1 : Nat → Int, Tw (PrS Γ cI s W qd N1 pa ba Q) hp1 ∧ Rfx 16 (-1) 15 N1 ∧ flS mt po v9 (Int.toNat x1) N1 (k9 + 1)) := by
  refine Mt.of rfl (Nat.le_of_ble_eq_true rfl) ?_
  refine Rn.pick (lv' := [(0, .ref s), (1, .int (iv x1))]) [0, 1] rfl ?_
  have t0 : Tw (ov (ov (ov (ov (ov Γ s (tO 4 (prG9 s W qd))) (s + 1) (xI cI 16 mt)) (s + 2) (xI cI 16 pa)) (s + 3) (xI cI 16 ba)) (s + 4) (xI cI 16 Q)) hp := ht
  have hk15 := es_15 hes hS
  refine r_iload_n (pc := 0) dX4_flip_0 (i := 1) rfl rfl ?_
  refine r_istore_n (pc := 1) (lv' := [(2, .int (iv x1)), (0, .ref s), (1, .int (iv x1))]) dX4_flip_1 (i := 2) rfl (by decide) rfl ?_
  refine r_iconst (pc := 2) (v := iv 0) dX4_flip_2 (by decide) ?_
  refine r_istore_n (pc := 3) (lv' := [(3, .int (iv 0)), (2, .int (iv x1)), (0, .ref s), (1, .int (iv x1))]) dX4_flip_3 (i := 3) rfl (by decide) rfl ?_
  have B4 : ∀ k : Nat, ∀ mt4 : Nat → Int, ∀ hp4 : MH, Tw (ov (ov (ov (ov (ov Γ s (tO 4 (prG9 s W qd))) (s + 1) (xI cI 16 mt4)) (s + 2) (xI cI 16 pa)) (s + 3) (xI cI 16 ba)) (s + 4) (xI cI 16 Q)) hp4 → ∀  (v4_2 : Int) (v4_3 : Int), (-1) ≤ v4_2 ∧ v4_2 ≤ 15 ∧ 0 ≤ v4_3 ∧ v4_3 ≤ 16 ∧ (v4_3 ≤ (k9 : Int) + 1) ∧ (Rfx 16 (-1) 15 mt4) ∧ (flS mt po v9 (Int.toNat x1) mt4 (Int.toNat v4_3)) ∧ (v4_2 = udZ mt po v9 (Int.toNat x1) (Int.toNat v4_3)) → 16 - v4_3 ≤ (k : Int) → Rn (gG D cI cJ cZ cT lo b L xs) mX4_flip d 4 [(0, .ref s), (2, .int (iv v4_2)), (3, .int (iv v4_3))] [] hp4 n 0 0 (fun r9 hp1 n1 => n1 = n ∧ r9 = none ∧ ∃ N1 : Nat → Int, Tw (PrS Γ cI s W qd N1 pa ba Q) hp1 ∧ Rfx 16 (-1) 15 N1 ∧ flS mt po v9 (Int.toNat x1) N1 (k9 + 1)) := by
    refine lpS _ ?_
    intro k4 ih4 mt4 hp4 ht4 v4_2 v4_3 hf4 hm4
    obtain ⟨hf4_0, hf4_1, hf4_2, hf4_3, hf4_4, ha4_5, ha4_6, ha4_7⟩ := hf4
    refine r_iload_n (pc := 4) dX4_flip_4 (i := 3) rfl rfl ?_
    refine r_bipush (pc := 5) (v := iv 16) dX4_flip_5 (by decide) ?_
    refine t_icmp_ge (pc := 7) (tgt := 70) dX4_flip_7 (by decide) (by omega) (by omega) (fun c7 => ?_) (fun c7 => ?_)
    · have hend : flS mt po v9 (Int.toNat x1) mt4 (k9 + 1) := by
        have h9 := (by assumption : flS mt po v9 (Int.toNat x1) mt4 (Int.toNat v4_3))
        rw [show (Int.toNat v4_3) = k9 + 1 by omega] at h9
        exact h9
      exact r_vret (pc := 70) dX4_flip_70 rfl ⟨rfl, rfl, mt4, ht4, by assumption, hend⟩
    · refine r_iload_n (pc := 10) dX4_flip_10 (i := 2) rfl rfl ?_
      refine t_if_lt (pc := 11) (tgt := 70) dX4_flip_11 (by decide) (by omega) (fun c11 => ?_) (fun c11 => ?_)
      · have hend : flS mt po v9 (Int.toNat x1) mt4 (k9 + 1) := by
          have h9 := (by assumption : flS mt po v9 (Int.toNat x1) mt4 (Int.toNat v4_3))
          rw [uz_neg (i := (Int.toNat v4_3)) hes (by omega) (by rw [← (by assumption : v4_2 = udZ mt po v9 (Int.toNat x1) (Int.toNat v4_3))]; omega)] at h9
          exact h9
        exact r_vret (pc := 70) dX4_flip_70 rfl ⟨rfl, rfl, mt4, ht4, by assumption, hend⟩
      · obtain ⟨hik, huz⟩ := uz_pos (w := (Int.toNat x1)) (i := (Int.toNat v4_3)) hes hrt (by omega) (by rw [← (by assumption : v4_2 = udZ mt po v9 (Int.toNat x1) (Int.toNat v4_3))]; omega)
        have hv2 : Int.toNat v4_2 = udF mt po v9 (Int.toNat x1) (Int.toNat v4_3) := by
          have h9 := (by assumption : v4_2 = udZ mt po v9 (Int.toNat x1) (Int.toNat v4_3))
          rw [huz] at h9
          omega
        have hpu : pa (Int.toNat v4_2) = (esF mt po v9 (Int.toNat v4_3) : Int) := by
          rw [hv2, hpa]
          exact uz_pa hM hes hwS hwm hwn hik
        have hmr : mt4 (esF mt po v9 (Int.toNat v4_3)) = mt (esF mt po v9 (Int.toNat v4_3)) := fl_rd hM hes hwS hwm hwn hik (by assumption : flS mt po v9 (Int.toNat x1) mt4 (Int.toNat v4_3))
        refine r_aload_n (pc := 14) dX4_flip_14 (i := 0) rfl rfl ?_
        refine t_getE (pc := 15) (.ref (s + 2)) ht4 (rd_ov (by omega) (rd_ov (by omega) (rd_ov (by omega) (rd_ov (by omega) (rd_of (ov_s _ _ _)))))) fX4_15 dX4_flip_15 rfl ?_
        refine r_iload_n (pc := 18) dX4_flip_18 (i := 2) rfl rfl ?_
        refine t_ialdX (pc := 19) (t0 := 0) ht4 (rd_ov (by omega) (rd_ov (by omega) (rd_of (ov_s _ _ _)))) dX4_flip_19 rfl (by decide) (by omega) (fun b1 => ?_)
        have rb1 := (show Rfx 16 (-1) 15 pa by assumption) (Int.toNat v4_2) (by omega)
        refine r_istore (pc := 20) (lv' := [(4, .int (iv (pa (Int.toNat v4_2)))), (0, .ref s), (2, .int (iv v4_2)), (3, .int (iv v4_3))]) dX4_flip_20 (by decide) rfl ?_
        refine r_iload (pc := 22) dX4_flip_22 rfl ?_
        refine t_if_ge (pc := 24) (tgt := 31) dX4_flip_24 (by decide) (by omega) (fun c24 => ?_) (fun c24 => ?_)
        · have hu2 : Int.toNat (pa (Int.toNat v4_2)) = esF mt po v9 (Int.toNat v4_3) := by omega
          refine r_aload_n (pc := 31) dX4_flip_31 (i := 0) rfl rfl ?_
          refine t_getE (pc := 32) (.ref (s + 1)) ht4 (rd_ov (by omega) (rd_ov (by omega) (rd_ov (by omega) (rd_ov (by omega) (rd_of (ov_s _ _ _)))))) fX4_9 dX4_flip_32 rfl ?_
          refine r_iload (pc := 35) dX4_flip_35 rfl ?_
          refine t_ialdX (pc := 37) (t0 := 0) ht4 (rd_ov (by omega) (rd_ov (by omega) (rd_ov (by omega) (rd_of (ov_s _ _ _))))) dX4_flip_37 rfl (by decide) (by omega) (fun b2 => ?_)
          have rb2 := (show Rfx 16 (-1) 15 mt4 by assumption) (Int.toNat (pa (Int.toNat v4_2))) (by omega)
          refine r_istore (pc := 38) (lv' := [(5, .int (iv (mt4 (Int.toNat (pa (Int.toNat v4_2)))))), (4, .int (iv (pa (Int.toNat v4_2)))), (0, .ref s), (2, .int (iv v4_2)), (3, .int (iv v4_3))]) dX4_flip_38 (by decide) rfl ?_
          refine r_iload (pc := 40) dX4_flip_40 rfl ?_
          refine t_if_lt (pc := 42) (tgt := 61) dX4_flip_42 (by decide) (by omega) (fun c42 => ?_) (fun c42 => ?_)
          · exfalso
            omega
          · refine r_aload_n (pc := 45) dX4_flip_45 (i := 0) rfl rfl ?_
            refine t_getE (pc := 46) (.ref (s + 1)) ht4 (rd_ov (by omega) (rd_ov (by omega) (rd_ov (by omega) (rd_ov (by omega) (rd_of (ov_s _ _ _)))))) fX4_9 dX4_flip_46 rfl ?_
            refine r_iload_n (pc := 49) dX4_flip_49 (i := 2) rfl rfl ?_
            refine r_iload (pc := 50) dX4_flip_50 rfl ?_
            refine t_iastX (pc := 52) (t0 := 0) ht4 (eq_ov (by omega) (eq_ov (by omega) (eq_ov (by omega) (ov_s _ _ _)))) dX4_flip_52 rfl (by decide) (by omega) (by omega) (fun hp3 ht4 => ?_)
            rw [ov_in4 (by omega) (by omega) (by omega) ] at ht4
            have hm52 : Rfx 16 (-1) 15 (fup mt4 (Int.toNat v4_2) (pa (Int.toNat v4_2))) := Rfx_up (by assumption) (by omega)
            refine r_aload_n (pc := 53) dX4_flip_53 (i := 0) rfl rfl ?_
            refine t_getE (pc := 54) (.ref (s + 1)) ht4 (rd_ov (by omega) (rd_ov (by omega) (rd_ov (by omega) (rd_ov (by omega) (rd_of (ov_s _ _ _)))))) fX4_9 dX4_flip_54 rfl ?_
            refine r_iload (pc := 57) dX4_flip_57 rfl ?_
            refine r_iload_n (pc := 59) dX4_flip_59 (i := 2) rfl rfl ?_
            refine t_iastX (pc := 60) (t0 := 0) ht4 (eq_ov (by omega) (eq_ov (by omega) (eq_ov (by omega) (ov_s _ _ _)))) dX4_flip_60 rfl (by decide) (by omega) (by omega) (fun hp5 ht6 => ?_)
            rw [ov_in4 (by omega) (by omega) (by omega) ] at ht6
            have hm60 : Rfx 16 (-1) 15 (fup (fup mt4 (Int.toNat v4_2) (pa (Int.toNat v4_2))) (Int.toNat (pa (Int.toNat v4_2))) v4_2) := Rfx_up hm52 (by omega)
            have hfl : flS mt po v9 (Int.toNat x1) (fup (fup mt4 (Int.toNat v4_2) (pa (Int.toNat v4_2))) (Int.toNat (pa (Int.toNat v4_2))) v4_2) (Int.toNat (v4_3 + 1)) := by
              rw [show Int.toNat (v4_3 + 1) = (Int.toNat v4_3) + 1 by omega]
              have h9 := fl_st hM hes hwS hwm hwn hik (by assumption : flS mt po v9 (Int.toNat x1) mt4 (Int.toNat v4_3)) hv2 hu2
              rw [show ((Int.toNat (pa (Int.toNat v4_2)) : Nat) : Int) = pa (Int.toNat v4_2) by omega, show ((Int.toNat v4_2 : Nat) : Int) = v4_2 by omega] at h9
              exact h9
            refine r_iload (pc := 61) dX4_flip_61 rfl ?_
            refine r_istore_n (pc := 63) (lv' := [(2, .int (iv (mt4 (Int.toNat (pa (Int.toNat v4_2)))))), (5, .int (iv (mt4 (Int.toNat (pa (Int.toNat v4_2)))))), (4, .int (iv (pa (Int.toNat v4_2)))), (0, .ref s), (3, .int (iv v4_3))]) dX4_flip_63 (i := 2) rfl (by decide) rfl ?_
            have hz63 : mt4 (Int.toNat (pa (Int.toNat v4_2))) = udZ mt po v9 (Int.toNat x1) (Int.toNat (v4_3 + 1)) := by
              rw [show Int.toNat (v4_3 + 1) = (Int.toNat v4_3) + 1 by omega, hu2]
              exact hmr
            refine r_iinc (pc := 64) (v := iv (v4_3 + 1)) (lv' := [(3, .int (iv (v4_3 + 1))), (2, .int (iv (mt4 (Int.toNat (pa (Int.toNat v4_2)))))), (5, .int (iv (mt4 (Int.toNat (pa (Int.toNat v4_2)))))), (4, .int (iv (pa (Int.toNat v4_2)))), (0, .ref s)]) dX4_flip_64 rfl (iv_add _ _) (by decide) rfl ?_
            refine r_goto (pc := 67) (tgt := 4) dX4_flip_67 (by decide) ?_
            refine Rn.pick (lv' := [(0, .ref s), (2, .int (iv (mt4 (Int.toNat (pa (Int.toNat v4_2)))))), (3, .int (iv (v4_3 + 1)))]) [4, 1, 0] rfl ?_
            exact ih4 (Int.toNat (16 - (v4_3 + 1))) (by omega) (fup (fup mt4 (Int.toNat v4_2) (pa (Int.toNat v4_2))) (Int.toNat (pa (Int.toNat v4_2))) v4_2) _ ht6 (mt4 (Int.toNat (pa (Int.toNat v4_2)))) (v4_3 + 1) ⟨by omega, by omega, by omega, by omega, by omega, by (first | exact hm60 | exact hm0), by (first | exact hfl | exact flz_0), by (first | exact hz63 | (show x1 = (((Int.toNat x1) : Nat) : Int); omega))⟩ (by omega)
        · exfalso
          omega
  refine Rn.pick (lv' := [(0, .ref s), (2, .int (iv x1)), (3, .int (iv 0))]) [2, 1, 0] rfl ?_
  exact B4 (Int.toNat (16 - 0)) mt _ t0 x1 0 ⟨by omega, by omega, by omega, by omega, by omega, by (first | exact hm60 | exact hm0), by (first | exact hfl | exact flz_0), by (first | exact hz63 | (show x1 = (((Int.toNat x1) : Nat) : Int); omega))⟩ (by omega)
