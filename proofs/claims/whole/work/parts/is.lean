set_option maxHeartbeats 4000000 in
set_option maxRecDepth 100000 in
theorem c_X4_searchx {D : va_G} {cI cJ cZ cT : ClassId} {lo b L : Nat} {xs : Nat → Int32} {hp : MH} {n d : Nat} {Γ : TG} {s : Nat} {W qd : Int} {mt pa ba Q : Nat → Int} {rA rL : Nat} {Nx : Nat → Int} {R : Nat → Nat → Prop} {x2 x3 : Int} (hd0 : 2 ≤ d) (hrA : rd Γ rA (xI cI rL Nx)) (hrR : Rfx rL 0 65535 Nx) (hrL : rL ≤ 16) (hrw : ∀ i, i < rL → ∀ j, Me (Nx i) j ↔ R i j) (hsp : s + 5 ≤ rA) (hsy : ∀ i j, R i j → R j i) (hm0 : Rfx 16 (-1) 15 mt) (hp0 : Rfx 16 (-1) 15 pa) (hb0 : Rfx 16 0 15 ba) (hQ0 : Rfx 16 0 15 Q) (hW0 : 0 ≤ W ∧ W ≤ 16) (hqd0 : 0 ≤ qd ∧ qd ≤ 65535) (ht : Tw (PrS Γ cI s W qd mt pa ba Q) hp) (hx2 : 0 ≤ x2 ∧ x2 ≤ 15) (hx3 : 0 ≤ x3 ∧ x3 ≤ 65535) (hM : vmP R (fun j => j < rL ∧ ¬ Me x3 j) mt) (hrS : (fun j => j < rL ∧ ¬ Me x3 j) (Int.toNat x2)) (hrm : mt (Int.toNat x2) < 0) : Mt (gG D cI cJ cZ cT lo b L xs) mX4_search d 0 0 [.ref s, .ref rA, .int (iv x2), .int (iv x3)] hp n (fun r9 hp1 n1 => n1 = n ∧ ∃ (W1 qd1 : Int) (pa1 ba1 Q1 : Nat → Int) (r : Int), Tw (PrS Γ cI s W1 qd1 mt pa1 ba1 Q1) hp1 ∧ Rfx 16 (-1) 15 pa1 ∧ Rfx 16 0 15 ba1 ∧ Rfx 16 0 15 Q1 ∧ (0 ≤ W1 ∧ W1 ≤ 16) ∧ (0 ≤ qd1 ∧ qd1 ≤ 65535) ∧ r9 = some (.int (iv r)) ∧ (-1 ≤ r ∧ r < (rL : Int)) ∧ (r < 0 → ¬ ∃ N : Nat → Int, vmP R (fun j => j < rL ∧ ¬ Me x3 j) N ∧ 0 ≤ N (Int.toNat x2) ∧ ∀ z, (fun j => j < rL ∧ ¬ Me x3 j) z → 0 ≤ mt z → 0 ≤ N z) ∧ (0 ≤ r → fwP9 R (fun j => j < rL ∧ ¬ Me x3 j) mt pa1 (Int.toNat x2) (Int.toNat r))) := by
  refine Mt.of rfl (Nat.le_of_ble_eq_true rfl) ?_
  refine Rn.pick (lv' := [(0, .ref s), (1, .ref rA), (2, .int (iv x2)), (3, .int (iv x3))]) [0, 1, 2, 3] rfl ?_
  have t0 : Tw (ov (ov (ov (ov (ov Γ s (tO 4 (prG9 s W qd))) (s + 1) (xI cI 16 mt)) (s + 2) (xI cI 16 pa)) (s + 3) (xI cI 16 ba)) (s + 4) (xI cI 16 Q)) hp := ht
  have hSn : ∀ a, (fun j => j < rL ∧ ¬ Me x3 j) a → a < rL := fun a h9 => h9.1
  refine r_aload_n (pc := 0) dX4_search_0 (i := 0) rfl rfl ?_
  refine t_getE (pc := 1) (.ref (s + 2)) t0 (rd_ov (by omega) (rd_ov (by omega) (rd_ov (by omega) (rd_ov (by omega) (rd_of (ov_s _ _ _)))))) fX4_15 dX4_search_1 rfl ?_
  refine r_iconst (pc := 4) (v := iv (-1)) dX4_search_4 (by decide) ?_
  refine t_fillX (pc := 5) t0 (eq_ov (by omega) (eq_ov (by omega) (ov_s _ _ _))) kX4_24 dX4_search_5 (by omega) (by omega) (by omega) (Nat.le_of_ble_eq_true rfl) (fun hp1 ht2 => ?_)
  rw [ov_in3 (by omega) (by omega)] at ht2
  have hpF5 : Rfx 16 (-1) 15 (fun _ => (-1)) := fun _ _ => ⟨Int.le_refl _, show (-1 : Int) ≤ 15 by decide⟩
  refine r_iconst (pc := 8) (v := iv 0) dX4_search_8 (by decide) ?_
  refine r_istore (pc := 9) (lv' := [(4, .int (iv 0)), (0, .ref s), (1, .ref rA), (2, .int (iv x2)), (3, .int (iv x3))]) dX4_search_9 (by decide) rfl ?_
  have B11 : ∀ k : Nat, ∀ ba11 : Nat → Int, ∀ hp11 : MH, Tw (ov (ov (ov (ov (ov Γ s (tO 4 (prG9 s W qd))) (s + 1) (xI cI 16 mt)) (s + 2) (xI cI 16 (fun _ => (-1)))) (s + 3) (xI cI 16 ba11)) (s + 4) (xI cI 16 Q)) hp11 → ∀  (v11_4 : Int), 0 ≤ v11_4 ∧ v11_4 ≤ 16 ∧ (Rfx 16 0 15 ba11) ∧ (idR ba11 v11_4) → 16 - v11_4 ≤ (k : Int) → Rn (gG D cI cJ cZ cT lo b L xs) mX4_search d 11 [(0, .ref s), (1, .ref rA), (2, .int (iv x2)), (3, .int (iv x3)), (4, .int (iv v11_4))] [] hp11 n 0 0 (fun r9 hp1 n1 => n1 = n ∧ ∃ (W1 qd1 : Int) (pa1 ba1 Q1 : Nat → Int) (r : Int), Tw (PrS Γ cI s W1 qd1 mt pa1 ba1 Q1) hp1 ∧ Rfx 16 (-1) 15 pa1 ∧ Rfx 16 0 15 ba1 ∧ Rfx 16 0 15 Q1 ∧ (0 ≤ W1 ∧ W1 ≤ 16) ∧ (0 ≤ qd1 ∧ qd1 ≤ 65535) ∧ r9 = some (.int (iv r)) ∧ (-1 ≤ r ∧ r < (rL : Int)) ∧ (r < 0 → ¬ ∃ N : Nat → Int, vmP R (fun j => j < rL ∧ ¬ Me x3 j) N ∧ 0 ≤ N (Int.toNat x2) ∧ ∀ z, (fun j => j < rL ∧ ¬ Me x3 j) z → 0 ≤ mt z → 0 ≤ N z) ∧ (0 ≤ r → fwP9 R (fun j => j < rL ∧ ¬ Me x3 j) mt pa1 (Int.toNat x2) (Int.toNat r))) := by
    refine lpS _ ?_
    intro k11 ih11 ba11 hp11 ht11 v11_4 hf11 hm11
    obtain ⟨hf11_0, hf11_1, ha11_2, ha11_3⟩ := hf11
    refine r_iload (pc := 11) dX4_search_11 rfl ?_
    refine r_bipush (pc := 13) (v := iv 16) dX4_search_13 (by decide) ?_
    refine t_icmp_ge (pc := 15) (tgt := 33) dX4_search_15 (by decide) (by omega) (by omega) (fun c15 => ?_) (fun c15 => ?_)
    · have t33 := ba_id (by assumption : idR ba11 v11_4) (by omega) ht11
      have hb33 : Rfx 16 0 15 (fun y => (y : Int)) := fun j9 hj9 => ⟨by show (0 : Int) ≤ (j9 : Int); omega, by show (j9 : Int) ≤ 15; omega⟩
      refine r_aload_n (pc := 33) dX4_search_33 (i := 0) rfl rfl ?_
      refine r_iconst (pc := 34) (v := iv 0) dX4_search_34 (by decide) ?_
      refine t_putX (pc := 35) (ty := .int) t33 (eq_ov (by omega) (eq_ov (by omega) (eq_ov (by omega) (eq_ov (by omega) (ov_s _ _ _))))) fX4_51 tyX4 tyX4_ok nmX4 (by decide +kernel) (Or.inl rfl) dX4_search_35 (Nat.le_of_ble_eq_true rfl) rfl rfl rfl (fun hp3 ht4 => ?_)
      rw [ov_in5 (by omega) (by omega) (by omega) (by omega) ] at ht4
      refine r_aload_n (pc := 38) dX4_search_38 (i := 0) rfl rfl ?_
      refine r_iconst (pc := 39) (v := iv 0) dX4_search_39 (by decide) ?_
      refine t_putX (pc := 40) (ty := .int) ht4 (eq_ov (by omega) (eq_ov (by omega) (eq_ov (by omega) (eq_ov (by omega) (ov_s _ _ _))))) fX4_54 tyX4 tyX4_ok nmX4 (by decide +kernel) (Or.inl rfl) dX4_search_40 (Nat.le_of_ble_eq_true rfl) rfl rfl rfl (fun hp5 ht6 => ?_)
      rw [ov_in5 (by omega) (by omega) (by omega) (by omega) ] at ht6
      refine r_aload_n (pc := 43) dX4_search_43 (i := 0) rfl rfl ?_
      refine r_iload_n (pc := 44) dX4_search_44 (i := 2) rfl rfl ?_
      obtain ⟨fs12, hfs12⟩ := t_obj ht6 (rd_ov (by omega) (rd_ov (by omega) (rd_ov (by omega) (rd_ov (by omega) (rd_of (ov_s _ _ _))))))
      refine r_callV (pc := 45) (as := [.int (iv x2)]) (st := []) kX4_57 rfl dX4_search_45 hfs12 (c_X4_enqueuex (d := d - 1) (x1 := x2) (by omega) hm0 hpF5 hb33 hQ0 (by omega) (by omega) ht6 (by omega) qu_0) rfl (by omega) (Nat.le_of_ble_eq_true rfl) (Nat.zero_le _) (Nat.zero_le _) rfl (fun r7 hp8 n9 q10 => ?_)
      obtain ⟨hnn9, hrr7, W45, qd45, Q45, ht11, hQ45, bqd45, hq45, hme45, hWl45, hQe45⟩ := q10
      subst n9 r7
      change Rn _ _ _ 48 _ [] _ _ _ _ _
      have hW45 := hq45.1
      have hsr0 : srI R (fun j => j < rL ∧ ¬ Me x3 j) mt (fun _ => (-1)) (fun y => (y : Int)) Q45 W45 qd45 (Int.toNat x2) 0 0 := sr_0 hM hrS hrm (fun _ => by decide) (fun _ => rfl) hq45 (fun x9 => by
        rw [hme45 x9]
        exact ⟨fun g9 => g9.resolve_left (Me_0 x9), Or.inr⟩)
      refine r_iconst (pc := 48) (v := iv 0) dX4_search_48 (by decide) ?_
      refine r_istore (pc := 49) (lv' := [(4, .int (iv 0)), (0, .ref s), (1, .ref rA), (2, .int (iv x2)), (3, .int (iv x3))]) dX4_search_49 (by decide) rfl ?_
      have B51 : ∀ k : Nat, ∀ W51 : Int, ∀ qd51 : Int, ∀ pa51 : Nat → Int, ∀ ba51 : Nat → Int, ∀ Q51 : Nat → Int, ∀ hp51 : MH, Tw (ov (ov (ov (ov (ov Γ s (tO 4 (prG9 s W51 qd51))) (s + 1) (xI cI 16 mt)) (s + 2) (xI cI 16 pa51)) (s + 3) (xI cI 16 ba51)) (s + 4) (xI cI 16 Q51)) hp51 → ∀  (v51_4 : Int), 0 ≤ v51_4 ∧ v51_4 ≤ 16 ∧ (0 ≤ W51 ∧ W51 ≤ 16) ∧ (0 ≤ qd51 ∧ qd51 ≤ 65535) ∧ (v51_4 ≤ W51) ∧ (Rfx 16 (-1) 15 pa51) ∧ (Rfx 16 0 15 ba51) ∧ (Rfx 16 0 15 Q51) ∧ (srI R (fun j => j < rL ∧ ¬ Me x3 j) mt pa51 ba51 Q51 W51 qd51 (Int.toNat x2) v51_4 0) → 16 - v51_4 ≤ (k : Int) → Rn (gG D cI cJ cZ cT lo b L xs) mX4_search d 51 [(0, .ref s), (1, .ref rA), (2, .int (iv x2)), (3, .int (iv x3)), (4, .int (iv v51_4))] [] hp51 n 0 0 (fun r9 hp1 n1 => n1 = n ∧ ∃ (W1 qd1 : Int) (pa1 ba1 Q1 : Nat → Int) (r : Int), Tw (PrS Γ cI s W1 qd1 mt pa1 ba1 Q1) hp1 ∧ Rfx 16 (-1) 15 pa1 ∧ Rfx 16 0 15 ba1 ∧ Rfx 16 0 15 Q1 ∧ (0 ≤ W1 ∧ W1 ≤ 16) ∧ (0 ≤ qd1 ∧ qd1 ≤ 65535) ∧ r9 = some (.int (iv r)) ∧ (-1 ≤ r ∧ r < (rL : Int)) ∧ (r < 0 → ¬ ∃ N : Nat → Int, vmP R (fun j => j < rL ∧ ¬ Me x3 j) N ∧ 0 ≤ N (Int.toNat x2) ∧ ∀ z, (fun j => j < rL ∧ ¬ Me x3 j) z → 0 ≤ mt z → 0 ≤ N z) ∧ (0 ≤ r → fwP9 R (fun j => j < rL ∧ ¬ Me x3 j) mt pa1 (Int.toNat x2) (Int.toNat r))) := by
        refine lpS _ ?_
        intro k51 ih51 W51 qd51 pa51 ba51 Q51 hp51 ht51 v51_4 hf51 hm51
        obtain ⟨hf51_0, hf51_1, hf51_2, hf51_3, hf51_4, ha51_5, ha51_6, ha51_7, ha51_8⟩ := hf51
        refine r_iload (pc := 51) dX4_search_51 rfl ?_
        refine r_bipush (pc := 53) (v := iv 16) dX4_search_53 (by decide) ?_
        refine t_icmp_ge (pc := 55) (tgt := 228) dX4_search_55 (by decide) (by omega) (by omega) (fun c55 => ?_) (fun c55 => ?_)
        · have hfail := sr_fail hSn (by assumption : srI R (fun j => j < rL ∧ ¬ Me x3 j) mt pa51 ba51 Q51 W51 qd51 (Int.toNat x2) v51_4 0) (by omega)
          refine r_iconst (pc := 228) (v := iv (-1)) dX4_search_228 (by decide) ?_
          exact r_iret (pc := 229) dX4_search_229 rfl ⟨rfl, W51, qd51, pa51, ba51, Q51, _, ht51, by assumption, by assumption, by assumption, by omega, by omega, rfl, by omega, fun _ => hfail, fun h9 => absurd h9 (by omega)⟩
        · refine r_iload (pc := 58) dX4_search_58 rfl ?_
          refine r_aload_n (pc := 60) dX4_search_60 (i := 0) rfl rfl ?_
          refine t_getE (pc := 61) (.int (iv W51)) ht51 (rd_ov (by omega) (rd_ov (by omega) (rd_ov (by omega) (rd_ov (by omega) (rd_of (ov_s _ _ _)))))) fX4_51 dX4_search_61 rfl ?_
          refine t_icmp_ge (pc := 64) (tgt := 228) dX4_search_64 (by decide) (by omega) (by omega) (fun c64 => ?_) (fun c64 => ?_)
          · have hfail := sr_fail hSn (by assumption : srI R (fun j => j < rL ∧ ¬ Me x3 j) mt pa51 ba51 Q51 W51 qd51 (Int.toNat x2) v51_4 0) (by omega)
            refine r_iconst (pc := 228) (v := iv (-1)) dX4_search_228 (by decide) ?_
            exact r_iret (pc := 229) dX4_search_229 rfl ⟨rfl, W51, qd51, pa51, ba51, Q51, _, ht51, by assumption, by assumption, by assumption, by omega, by omega, rfl, by omega, fun _ => hfail, fun h9 => absurd h9 (by omega)⟩
          · refine r_aload_n (pc := 67) dX4_search_67 (i := 0) rfl rfl ?_
            refine t_getE (pc := 68) (.ref (s + 4)) ht51 (rd_ov (by omega) (rd_ov (by omega) (rd_ov (by omega) (rd_ov (by omega) (rd_of (ov_s _ _ _)))))) fX4_21 dX4_search_68 rfl ?_
            refine r_iload (pc := 71) dX4_search_71 rfl ?_
            refine t_ialdX (pc := 73) (t0 := 0) ht51 (rd_of (ov_s _ _ _)) dX4_search_73 rfl (by decide) (by omega) (fun b13 => ?_)
            have rb13 := (show Rfx 16 0 15 Q51 by assumption) (Int.toNat v51_4) (by omega)
            refine r_istore (pc := 74) (lv' := [(5, .int (iv (Q51 (Int.toNat v51_4)))), (0, .ref s), (1, .ref rA), (2, .int (iv x2)), (3, .int (iv x3)), (4, .int (iv v51_4))]) dX4_search_74 (by decide) rfl ?_
            refine r_iconst (pc := 76) (v := iv 0) dX4_search_76 (by decide) ?_
            refine r_istore (pc := 77) (lv' := [(6, .int (iv 0)), (5, .int (iv (Q51 (Int.toNat v51_4)))), (0, .ref s), (1, .ref rA), (2, .int (iv x2)), (3, .int (iv x3)), (4, .int (iv v51_4))]) dX4_search_77 (by decide) rfl ?_
            have B79 : ∀ k : Nat, ∀ W79 : Int, ∀ qd79 : Int, ∀ pa79 : Nat → Int, ∀ ba79 : Nat → Int, ∀ Q79 : Nat → Int, ∀ hp79 : MH, Tw (ov (ov (ov (ov (ov Γ s (tO 4 (prG9 s W79 qd79))) (s + 1) (xI cI 16 mt)) (s + 2) (xI cI 16 pa79)) (s + 3) (xI cI 16 ba79)) (s + 4) (xI cI 16 Q79)) hp79 → ∀  (v79_6 : Int), 0 ≤ v79_6 ∧ v79_6 ≤ 16 ∧ (0 ≤ W79 ∧ W79 ≤ 16) ∧ (0 ≤ qd79 ∧ qd79 ≤ 65535) ∧ (v51_4 < W79) ∧ (v79_6 ≤ (rL : Int)) ∧ (Rfx 16 (-1) 15 pa79) ∧ (Rfx 16 0 15 ba79) ∧ (Rfx 16 0 15 Q79) ∧ (Q79 (Int.toNat v51_4) = Q51 (Int.toNat v51_4)) ∧ (srI R (fun j => j < rL ∧ ¬ Me x3 j) mt pa79 ba79 Q79 W79 qd79 (Int.toNat x2) v51_4 v79_6) → 16 - v79_6 ≤ (k : Int) → Rn (gG D cI cJ cZ cT lo b L xs) mX4_search d 79 [(0, .ref s), (1, .ref rA), (2, .int (iv x2)), (3, .int (iv x3)), (4, .int (iv v51_4)), (5, .int (iv (Q51 (Int.toNat v51_4)))), (6, .int (iv v79_6))] [] hp79 n 0 0 (fun r9 hp1 n1 => n1 = n ∧ ∃ (W1 qd1 : Int) (pa1 ba1 Q1 : Nat → Int) (r : Int), Tw (PrS Γ cI s W1 qd1 mt pa1 ba1 Q1) hp1 ∧ Rfx 16 (-1) 15 pa1 ∧ Rfx 16 0 15 ba1 ∧ Rfx 16 0 15 Q1 ∧ (0 ≤ W1 ∧ W1 ≤ 16) ∧ (0 ≤ qd1 ∧ qd1 ≤ 65535) ∧ r9 = some (.int (iv r)) ∧ (-1 ≤ r ∧ r < (rL : Int)) ∧ (r < 0 → ¬ ∃ N : Nat → Int, vmP R (fun j => j < rL ∧ ¬ Me x3 j) N ∧ 0 ≤ N (Int.toNat x2) ∧ ∀ z, (fun j => j < rL ∧ ¬ Me x3 j) z → 0 ≤ mt z → 0 ≤ N z) ∧ (0 ≤ r → fwP9 R (fun j => j < rL ∧ ¬ Me x3 j) mt pa1 (Int.toNat x2) (Int.toNat r))) := by
              refine lpS _ ?_
              intro k79 ih79 W79 qd79 pa79 ba79 Q79 hp79 ht79 v79_6 hf79 hm79
              obtain ⟨hf79_0, hf79_1, hf79_2, hf79_3, hf79_4, hf79_5, ha79_6, ha79_7, ha79_8, ha79_9, ha79_10⟩ := hf79
              refine r_iload (pc := 79) dX4_search_79 rfl ?_
              have hsr := (by assumption : srI R (fun j => j < rL ∧ ¬ Me x3 j) mt pa79 ba79 Q79 W79 qd79 (Int.toNat x2) v51_4 v79_6)
              have hQv := (by assumption : Q79 (Int.toNat v51_4) = Q51 (Int.toNat v51_4))
              obtain ⟨hve, hv2⟩ := sr_v hsr (by omega)
              rw [hQv] at hve hv2
              obtain ⟨rk, Lw, hI⟩ := hsr.1
              have hvL : (Int.toNat (Q51 (Int.toNat v51_4))) < rL := hSn _ (hI.2.1.2.2 _ hve).1
              refine r_aload_n (pc := 81) dX4_search_81 (i := 1) rfl rfl ?_
              refine t_lenI (pc := 82) (t0 := 0) ht79 (rd_ov (by omega) (rd_ov (by omega) (rd_ov (by omega) (rd_ov (by omega) (rd_ov (by omega) hrA))))) dX4_search_82 rfl ?_
              refine t_icmp_ge (pc := 83) (tgt := 222) dX4_search_83 (by decide) (by omega) (by omega) (fun c83 => ?_) (fun c83 => ?_)
              · have hsn : srI R (fun j => j < rL ∧ ¬ Me x3 j) mt pa79 ba79 Q79 W79 qd79 (Int.toNat x2) (v51_4 + 1) 0 := sr_nx hsy hSn hsr (by omega) (by omega)
                refine r_iinc (pc := 222) (v := iv (v51_4 + 1)) (lv' := [(4, .int (iv (v51_4 + 1))), (0, .ref s), (1, .ref rA), (2, .int (iv x2)), (3, .int (iv x3)), (5, .int (iv (Q51 (Int.toNat v51_4)))), (6, .int (iv v79_6))]) dX4_search_222 rfl (iv_add _ _) (by decide) rfl ?_
                refine r_goto (pc := 225) (tgt := 51) dX4_search_225 (by decide) ?_
                refine Rn.pick (lv' := [(0, .ref s), (1, .ref rA), (2, .int (iv x2)), (3, .int (iv x3)), (4, .int (iv (v51_4 + 1)))]) [1, 2, 3, 4, 0] rfl ?_
                exact ih51 (Int.toNat (16 - (v51_4 + 1))) (by omega) W79 qd79 pa79 ba79 Q79 _ ht79 (v51_4 + 1) ⟨by omega, by omega, by omega, by omega, by omega, by (first | assumption | exact hpF5), by (first | assumption | exact hb33), by (first | assumption | exact hQ45), by (first | exact hsn | exact hsr0)⟩ (by omega)
              · refine r_aload_n (pc := 86) dX4_search_86 (i := 1) rfl rfl ?_
                refine r_iload (pc := 87) dX4_search_87 rfl ?_
                refine t_ialdX (pc := 89) (t0 := 0) ht79 (rd_ov (by omega) (rd_ov (by omega) (rd_ov (by omega) (rd_ov (by omega) (rd_ov (by omega) hrA))))) dX4_search_89 rfl (by omega) (by omega) (fun b14 => ?_)
                have rb14 := (show Rfx rL 0 65535 Nx by assumption) (Int.toNat (Q51 (Int.toNat v51_4))) (by omega)
                refine r_iload_n (pc := 90) dX4_search_90 (i := 3) rfl rfl ?_
                refine r_iconst (pc := 91) (v := iv (-1)) dX4_search_91 (by decide) ?_
                refine r_ixor (pc := 92) (v := iv (-x3 - 1)) dX4_search_92 (iv_not _) ?_
                obtain ⟨z15, hz15, bz15⟩ := and_l (Nx (Int.toNat (Q51 (Int.toNat v51_4)))) (-x3 - 1) (by omega) (by omega)
                refine r_iand (pc := 93) (v := iv z15) dX4_search_93 hz15 ?_
                have mez15 := Me_not (y := x3) hz15 (by omega) (by omega) (by omega)
                refine r_iload (pc := 94) dX4_search_94 rfl ?_
                have hq96_16 := shr_le (Int.toNat z15) (Int.toNat v79_6)
                refine r_ishr (pc := 96) (v := iv ((Int.toNat z15 >>> Int.toNat v79_6 : Nat) : Int)) dX4_search_96 (shr_e (by omega) (by omega)) ?_
                refine r_iconst (pc := 97) (v := iv 1) dX4_search_97 (by decide) ?_
                refine r_iand (pc := 98) (v := iv (((Int.toNat z15 >>> Int.toNat v79_6 : Nat) : Int) % 2)) dX4_search_98 (and1_e _ (by omega)) ?_
                have mb98 := @Me_bit z15 v79_6
                refine t_if_eq (pc := 99) (tgt := 216) dX4_search_99 (by decide) (by omega) (fun c99 => ?_) (fun c99 => ?_)
                · have nm99 : ¬ Me z15 (Int.toNat v79_6) := fun h9 => absurd (Me_bit.mpr h9) (by omega)
                  have hsr1 : srI R (fun j => j < rL ∧ ¬ Me x3 j) mt pa79 ba79 Q79 W79 qd79 (Int.toNat x2) v51_4 (v79_6 + 1) := sr_st hsr (by omega) (by omega) hsr.1 hsr.2.1 mo_rf (fun hS9 hR9 _ => by
                    rw [hQv] at hR9 ⊢
                    exact absurd ((mez15 _).mpr ⟨(hrw (Int.toNat (Q51 (Int.toNat v51_4))) hvL _).mpr hR9, hS9.2⟩) nm99)
                  refine r_iinc (pc := 216) (v := iv (v79_6 + 1)) (lv' := [(6, .int (iv (v79_6 + 1))), (0, .ref s), (1, .ref rA), (2, .int (iv x2)), (3, .int (iv x3)), (4, .int (iv v51_4)), (5, .int (iv (Q51 (Int.toNat v51_4))))]) dX4_search_216 rfl (iv_add _ _) (by decide) rfl ?_
                  refine r_goto (pc := 219) (tgt := 79) dX4_search_219 (by decide) ?_
                  refine Rn.pick (lv' := [(0, .ref s), (1, .ref rA), (2, .int (iv x2)), (3, .int (iv x3)), (4, .int (iv v51_4)), (5, .int (iv (Q51 (Int.toNat v51_4)))), (6, .int (iv (v79_6 + 1)))]) [1, 2, 3, 4, 5, 6, 0] rfl ?_
                  exact ih79 (Int.toNat (16 - (v79_6 + 1))) (by omega) W79 qd79 pa79 ba79 Q79 _ ht79 (v79_6 + 1) ⟨by omega, by omega, by omega, by omega, by omega, by omega, by (first | exact hp167 | exact hp191 | assumption), by (first | exact hb167 | assumption), by (first | exact hQ167 | exact hQ213 | assumption), by (first | exact hQn | assumption | rfl), by (first | exact hsr1 | assumption)⟩ (by omega)
                · have pm99 : Me z15 (Int.toNat v79_6) := Me_bit.mp (by omega)
                  have hzz := (mez15 _).mp pm99
                  have hRv := (hrw (Int.toNat (Q51 (Int.toNat v51_4))) hvL _).mp hzz.1
                  have hwS : (fun j => j < rL ∧ ¬ Me x3 j) (Int.toNat v79_6) := ⟨by omega, hzz.2⟩
                  refine r_aload_n (pc := 102) dX4_search_102 (i := 0) rfl rfl ?_
                  refine t_getE (pc := 103) (.ref (s + 3)) ht79 (rd_ov (by omega) (rd_ov (by omega) (rd_ov (by omega) (rd_ov (by omega) (rd_of (ov_s _ _ _)))))) fX4_18 dX4_search_103 rfl ?_
                  refine r_iload (pc := 106) dX4_search_106 rfl ?_
                  refine t_ialdX (pc := 108) (t0 := 0) ht79 (rd_ov (by omega) (rd_of (ov_s _ _ _))) dX4_search_108 rfl (by decide) (by omega) (fun b17 => ?_)
                  have rb17 := (show Rfx 16 0 15 ba79 by assumption) (Int.toNat (Q51 (Int.toNat v51_4))) (by omega)
                  refine r_aload_n (pc := 109) dX4_search_109 (i := 0) rfl rfl ?_
                  refine t_getE (pc := 110) (.ref (s + 3)) ht79 (rd_ov (by omega) (rd_ov (by omega) (rd_ov (by omega) (rd_ov (by omega) (rd_of (ov_s _ _ _)))))) fX4_18 dX4_search_110 rfl ?_
                  refine r_iload (pc := 113) dX4_search_113 rfl ?_
                  refine t_ialdX (pc := 115) (t0 := 0) ht79 (rd_ov (by omega) (rd_of (ov_s _ _ _))) dX4_search_115 rfl (by decide) (by omega) (fun b18 => ?_)
                  have rb18 := (show Rfx 16 0 15 ba79 by assumption) (Int.toNat v79_6) (by omega)
                  refine t_icmp_eq (pc := 116) (tgt := 216) dX4_search_116 (by decide) (by omega) (by omega) (fun c116 => ?_) (fun c116 => ?_)
                  · have hsr1 : srI R (fun j => j < rL ∧ ¬ Me x3 j) mt pa79 ba79 Q79 W79 qd79 (Int.toNat x2) v51_4 (v79_6 + 1) := sr_st hsr (by omega) (by omega) hsr.1 hsr.2.1 mo_rf (fun hS9 hR9 _ => by
                      rw [hQv] at hR9 ⊢
                      exact ok_be hI hve (by omega))
                    refine r_iinc (pc := 216) (v := iv (v79_6 + 1)) (lv' := [(6, .int (iv (v79_6 + 1))), (0, .ref s), (1, .ref rA), (2, .int (iv x2)), (3, .int (iv x3)), (4, .int (iv v51_4)), (5, .int (iv (Q51 (Int.toNat v51_4))))]) dX4_search_216 rfl (iv_add _ _) (by decide) rfl ?_
                    refine r_goto (pc := 219) (tgt := 79) dX4_search_219 (by decide) ?_
                    refine Rn.pick (lv' := [(0, .ref s), (1, .ref rA), (2, .int (iv x2)), (3, .int (iv x3)), (4, .int (iv v51_4)), (5, .int (iv (Q51 (Int.toNat v51_4)))), (6, .int (iv (v79_6 + 1)))]) [1, 2, 3, 4, 5, 6, 0] rfl ?_
                    exact ih79 (Int.toNat (16 - (v79_6 + 1))) (by omega) W79 qd79 pa79 ba79 Q79 _ ht79 (v79_6 + 1) ⟨by omega, by omega, by omega, by omega, by omega, by omega, by (first | exact hp167 | exact hp191 | assumption), by (first | exact hb167 | assumption), by (first | exact hQ167 | exact hQ213 | assumption), by (first | exact hQn | assumption | rfl), by (first | exact hsr1 | assumption)⟩ (by omega)
                  · refine r_aload_n (pc := 119) dX4_search_119 (i := 0) rfl rfl ?_
                    refine t_getE (pc := 120) (.ref (s + 1)) ht79 (rd_ov (by omega) (rd_ov (by omega) (rd_ov (by omega) (rd_ov (by omega) (rd_of (ov_s _ _ _)))))) fX4_9 dX4_search_120 rfl ?_
                    refine r_iload (pc := 123) dX4_search_123 rfl ?_
                    refine t_ialdX (pc := 125) (t0 := 0) ht79 (rd_ov (by omega) (rd_ov (by omega) (rd_ov (by omega) (rd_of (ov_s _ _ _))))) dX4_search_125 rfl (by decide) (by omega) (fun b19 => ?_)
                    have rb19 := (show Rfx 16 (-1) 15 mt by assumption) (Int.toNat (Q51 (Int.toNat v51_4))) (by omega)
                    refine r_iload (pc := 126) dX4_search_126 rfl ?_
                    refine t_icmp_eq (pc := 128) (tgt := 216) dX4_search_128 (by decide) (by omega) (by omega) (fun c128 => ?_) (fun c128 => ?_)
                    · have hsr1 : srI R (fun j => j < rL ∧ ¬ Me x3 j) mt pa79 ba79 Q79 W79 qd79 (Int.toNat x2) v51_4 (v79_6 + 1) := sr_st hsr (by omega) (by omega) hsr.1 hsr.2.1 mo_rf (fun hS9 hR9 _ => by
                        rw [hQv] at hR9 ⊢
                        exact ok_mt hI hve (by omega))
                      refine r_iinc (pc := 216) (v := iv (v79_6 + 1)) (lv' := [(6, .int (iv (v79_6 + 1))), (0, .ref s), (1, .ref rA), (2, .int (iv x2)), (3, .int (iv x3)), (4, .int (iv v51_4)), (5, .int (iv (Q51 (Int.toNat v51_4))))]) dX4_search_216 rfl (iv_add _ _) (by decide) rfl ?_
                      refine r_goto (pc := 219) (tgt := 79) dX4_search_219 (by decide) ?_
                      refine Rn.pick (lv' := [(0, .ref s), (1, .ref rA), (2, .int (iv x2)), (3, .int (iv x3)), (4, .int (iv v51_4)), (5, .int (iv (Q51 (Int.toNat v51_4)))), (6, .int (iv (v79_6 + 1)))]) [1, 2, 3, 4, 5, 6, 0] rfl ?_
                      exact ih79 (Int.toNat (16 - (v79_6 + 1))) (by omega) W79 qd79 pa79 ba79 Q79 _ ht79 (v79_6 + 1) ⟨by omega, by omega, by omega, by omega, by omega, by omega, by (first | exact hp167 | exact hp191 | assumption), by (first | exact hb167 | assumption), by (first | exact hQ167 | exact hQ213 | assumption), by (first | exact hQn | assumption | rfl), by (first | exact hsr1 | assumption)⟩ (by omega)
                    · refine r_iload (pc := 131) dX4_search_131 rfl ?_
                      refine r_iload_n (pc := 133) dX4_search_133 (i := 2) rfl rfl ?_
                      refine t_icmp_eq (pc := 134) (tgt := 162) dX4_search_134 (by decide) (by omega) (by omega) (fun c134 => ?_) (fun c134 => ?_)
                      · have hwe : Me qd79 (Int.toNat v79_6) := by
                          rw [show (Int.toNat v79_6) = (Int.toNat x2) by omega]
                          exact hI.2.1.1
                        refine r_aload_n (pc := 162) dX4_search_162 (i := 0) rfl rfl ?_
                        refine r_iload (pc := 163) dX4_search_163 rfl ?_
                        refine r_iload (pc := 165) dX4_search_165 rfl ?_
                        obtain ⟨fs25, hfs25⟩ := t_obj ht79 (rd_ov (by omega) (rd_ov (by omega) (rd_ov (by omega) (rd_ov (by omega) (rd_of (ov_s _ _ _))))))
                        refine r_callV (pc := 167) (as := [.int (iv (Q51 (Int.toNat v51_4))), .int (iv v79_6)]) (st := []) kX4_60 rfl dX4_search_167 hfs25 (c_X4_meltRingx (d := d - 1) (x1 := Q51 (Int.toNat v51_4)) (x2 := v79_6) (by omega) hm0 (by assumption : Rfx 16 (-1) 15 pa79) (by assumption : Rfx 16 0 15 ba79) (by assumption : Rfx 16 0 15 Q79) (by omega) (by omega) ht79 hsy hI hSn hrL (by omega) (by omega) hve hwe hRv hsr.2.1) rfl (by omega) (Nat.le_of_ble_eq_true rfl) (Nat.zero_le _) (Nat.zero_le _) rfl (fun r20 hp21 n22 q23 => ?_)
                        obtain ⟨hnn22, hrr20, W167, qd167, pa167, ba167, Q167, ht24, hp167, hb167, hQ167, bW167, bq167, hq167, hI167, hmo167, hvw167⟩ := q23
                        subst n22 r20
                        change Rn _ _ _ 170 _ [] _ _ _ _ _
                        have hsr1 : srI R (fun j => j < rL ∧ ¬ Me x3 j) mt pa167 ba167 Q167 W167 qd167 (Int.toNat x2) v51_4 (v79_6 + 1) := sr_st hsr (by omega) (by omega) (hI167.elim (fun L9 h9 => ⟨rk, L9, h9⟩)) hq167 hmo167 (fun _ _ _ => Or.inl ⟨hmo167.2.2.1 _ hwe, Or.inl (by rw [hQv]; exact hvw167.symm)⟩)
                        have hQn : Q167 (Int.toNat v51_4) = Q51 (Int.toNat v51_4) := by rw [hmo167.2.1 (Int.toNat v51_4) (by omega)]; exact hQv
                        have hWn := hmo167.1
                        refine r_goto (pc := 170) (tgt := 216) dX4_search_170 (by decide) ?_
                        refine r_iinc (pc := 216) (v := iv (v79_6 + 1)) (lv' := [(6, .int (iv (v79_6 + 1))), (0, .ref s), (1, .ref rA), (2, .int (iv x2)), (3, .int (iv x3)), (4, .int (iv v51_4)), (5, .int (iv (Q51 (Int.toNat v51_4))))]) dX4_search_216 rfl (iv_add _ _) (by decide) rfl ?_
                        refine r_goto (pc := 219) (tgt := 79) dX4_search_219 (by decide) ?_
                        refine Rn.pick (lv' := [(0, .ref s), (1, .ref rA), (2, .int (iv x2)), (3, .int (iv x3)), (4, .int (iv v51_4)), (5, .int (iv (Q51 (Int.toNat v51_4)))), (6, .int (iv (v79_6 + 1)))]) [1, 2, 3, 4, 5, 6, 0] rfl ?_
                        exact ih79 (Int.toNat (16 - (v79_6 + 1))) (by omega) W167 qd167 pa167 ba167 Q167 _ ht24 (v79_6 + 1) ⟨by omega, by omega, by omega, by omega, by omega, by omega, by (first | exact hp167 | exact hp191 | assumption), by (first | exact hb167 | assumption), by (first | exact hQ167 | exact hQ213 | assumption), by (first | exact hQn | assumption | rfl), by (first | exact hsr1 | assumption)⟩ (by omega)
                      · have hwr : (Int.toNat v79_6) ≠ (Int.toNat x2) := by omega
                        have hevt := ev_t hI hwS hwr
                        refine r_aload_n (pc := 137) dX4_search_137 (i := 0) rfl rfl ?_
                        refine t_getE (pc := 138) (.ref (s + 1)) ht79 (rd_ov (by omega) (rd_ov (by omega) (rd_ov (by omega) (rd_ov (by omega) (rd_of (ov_s _ _ _)))))) fX4_9 dX4_search_138 rfl ?_
                        refine r_iload (pc := 141) dX4_search_141 rfl ?_
                        refine t_ialdX (pc := 143) (t0 := 0) ht79 (rd_ov (by omega) (rd_ov (by omega) (rd_ov (by omega) (rd_of (ov_s _ _ _))))) dX4_search_143 rfl (by decide) (by omega) (fun b26 => ?_)
                        have rb26 := (show Rfx 16 (-1) 15 mt by assumption) (Int.toNat v79_6) (by omega)
                        refine t_if_lt (pc := 144) (tgt := 173) dX4_search_144 (by decide) (by omega) (fun c144 => ?_) (fun c144 => ?_)
                        · have hne9 : ¬ Me qd79 (Int.toNat v79_6) := fun g9 => by have h9 := (hevt.mp g9).1; omega
                          refine r_aload_n (pc := 173) dX4_search_173 (i := 0) rfl rfl ?_
                          refine t_getE (pc := 174) (.ref (s + 2)) ht79 (rd_ov (by omega) (rd_ov (by omega) (rd_ov (by omega) (rd_ov (by omega) (rd_of (ov_s _ _ _)))))) fX4_15 dX4_search_174 rfl ?_
                          refine r_iload (pc := 177) dX4_search_177 rfl ?_
                          refine t_ialdX (pc := 179) (t0 := 0) ht79 (rd_ov (by omega) (rd_ov (by omega) (rd_of (ov_s _ _ _)))) dX4_search_179 rfl (by decide) (by omega) (fun b27 => ?_)
                          have rb27 := (show Rfx 16 (-1) 15 pa79 by assumption) (Int.toNat v79_6) (by omega)
                          refine t_if_ge (pc := 180) (tgt := 216) dX4_search_180 (by decide) (by omega) (fun c180 => ?_) (fun c180 => ?_)
                          · have hsr1 : srI R (fun j => j < rL ∧ ¬ Me x3 j) mt pa79 ba79 Q79 W79 qd79 (Int.toNat x2) v51_4 (v79_6 + 1) := sr_st hsr (by omega) (by omega) hsr.1 hsr.2.1 mo_rf (fun hS9 hR9 _ => by
                              rw [hQv] at hR9 ⊢
                              exact Or.inr ⟨hne9, by omega⟩)
                            refine r_iinc (pc := 216) (v := iv (v79_6 + 1)) (lv' := [(6, .int (iv (v79_6 + 1))), (0, .ref s), (1, .ref rA), (2, .int (iv x2)), (3, .int (iv x3)), (4, .int (iv v51_4)), (5, .int (iv (Q51 (Int.toNat v51_4))))]) dX4_search_216 rfl (iv_add _ _) (by decide) rfl ?_
                            refine r_goto (pc := 219) (tgt := 79) dX4_search_219 (by decide) ?_
                            refine Rn.pick (lv' := [(0, .ref s), (1, .ref rA), (2, .int (iv x2)), (3, .int (iv x3)), (4, .int (iv v51_4)), (5, .int (iv (Q51 (Int.toNat v51_4)))), (6, .int (iv (v79_6 + 1)))]) [1, 2, 3, 4, 5, 6, 0] rfl ?_
                            exact ih79 (Int.toNat (16 - (v79_6 + 1))) (by omega) W79 qd79 pa79 ba79 Q79 _ ht79 (v79_6 + 1) ⟨by omega, by omega, by omega, by omega, by omega, by omega, by (first | exact hp167 | exact hp191 | assumption), by (first | exact hb167 | assumption), by (first | exact hQ167 | exact hQ213 | assumption), by (first | exact hQn | assumption | rfl), by (first | exact hsr1 | assumption)⟩ (by omega)
                          · refine r_aload_n (pc := 183) dX4_search_183 (i := 0) rfl rfl ?_
                            refine t_getE (pc := 184) (.ref (s + 2)) ht79 (rd_ov (by omega) (rd_ov (by omega) (rd_ov (by omega) (rd_ov (by omega) (rd_of (ov_s _ _ _)))))) fX4_15 dX4_search_184 rfl ?_
                            refine r_iload (pc := 187) dX4_search_187 rfl ?_
                            refine r_iload (pc := 189) dX4_search_189 rfl ?_
                            refine t_iastX (pc := 191) (t0 := 0) ht79 (eq_ov (by omega) (eq_ov (by omega) (ov_s _ _ _))) dX4_search_191 rfl (by decide) (by omega) (by omega) (fun hp28 ht29 => ?_)
                            rw [ov_in3 (by omega) (by omega) ] at ht29
                            have hp191 : Rfx 16 (-1) 15 (fup pa79 (Int.toNat v79_6) (Q51 (Int.toNat v51_4))) := Rfx_up (by assumption) (by omega)
                            refine r_aload_n (pc := 192) dX4_search_192 (i := 0) rfl rfl ?_
                            refine t_getE (pc := 193) (.ref (s + 1)) ht29 (rd_ov (by omega) (rd_ov (by omega) (rd_ov (by omega) (rd_ov (by omega) (rd_of (ov_s _ _ _)))))) fX4_9 dX4_search_193 rfl ?_
                            refine r_iload (pc := 196) dX4_search_196 rfl ?_
                            refine t_ialdX (pc := 198) (t0 := 0) ht29 (rd_ov (by omega) (rd_ov (by omega) (rd_ov (by omega) (rd_of (ov_s _ _ _))))) dX4_search_198 rfl (by decide) (by omega) (fun b30 => ?_)
                            have rb30 := (show Rfx 16 (-1) 15 mt by assumption) (Int.toNat v79_6) (by omega)
                            refine t_if_ge (pc := 199) (tgt := 205) dX4_search_199 (by decide) (by omega) (fun c199 => ?_) (fun c199 => ?_)
                            · refine r_aload_n (pc := 205) dX4_search_205 (i := 0) rfl rfl ?_
                              refine r_aload_n (pc := 206) dX4_search_206 (i := 0) rfl rfl ?_
                              refine t_getE (pc := 207) (.ref (s + 1)) ht29 (rd_ov (by omega) (rd_ov (by omega) (rd_ov (by omega) (rd_ov (by omega) (rd_of (ov_s _ _ _)))))) fX4_9 dX4_search_207 rfl ?_
                              refine r_iload (pc := 210) dX4_search_210 rfl ?_
                              refine t_ialdX (pc := 212) (t0 := 0) ht29 (rd_ov (by omega) (rd_ov (by omega) (rd_ov (by omega) (rd_of (ov_s _ _ _))))) dX4_search_212 rfl (by decide) (by omega) (fun b31 => ?_)
                              have rb31 := (show Rfx 16 (-1) 15 mt by assumption) (Int.toNat v79_6) (by omega)
                              obtain ⟨fs37, hfs37⟩ := t_obj ht29 (rd_ov (by omega) (rd_ov (by omega) (rd_ov (by omega) (rd_ov (by omega) (rd_of (ov_s _ _ _))))))
                              refine r_callV (pc := 213) (as := [.int (iv (mt (Int.toNat v79_6)))]) (st := []) kX4_57 rfl dX4_search_213 hfs37 (c_X4_enqueuex (d := d - 1) (x1 := mt (Int.toNat v79_6)) (by omega) hm0 hp191 (by assumption : Rfx 16 0 15 ba79) (by assumption : Rfx 16 0 15 Q79) (by omega) (by omega) ht29 (by omega) hsr.2.1) rfl (by omega) (Nat.le_of_ble_eq_true rfl) (Nat.zero_le _) (Nat.zero_le _) rfl (fun r32 hp33 n34 q35 => ?_)
                              obtain ⟨hnn34, hrr32, W213, qd213, Q213, ht36, hQ213, bqd213, hq213, hme213, hWl213, hQe213⟩ := q35
                              subst n34 r32
                              change Rn _ _ _ 216 _ [] _ _ _ _ _
                              have hW213 := hq213.1
                              obtain ⟨hI1, hmo1, hok1⟩ := sr_add hI hve hwS hne9 (by omega) (by omega) hRv hme213 hWl213 hQe213
                              rw [hv2] at hI1 hmo1 hok1
                              have hsr1 : srI R (fun j => j < rL ∧ ¬ Me x3 j) mt (fup pa79 (Int.toNat v79_6) (Q51 (Int.toNat v51_4))) ba79 Q213 W213 qd213 (Int.toNat x2) v51_4 (v79_6 + 1) := sr_st hsr (by omega) (by omega) hI1 hq213 hmo1 (fun _ _ _ => by rw [hQv]; exact hok1 _)
                              have hQn : Q213 (Int.toNat v51_4) = Q51 (Int.toNat v51_4) := by rw [hQe213 (Int.toNat v51_4) (by omega)]; exact hQv
                              refine r_iinc (pc := 216) (v := iv (v79_6 + 1)) (lv' := [(6, .int (iv (v79_6 + 1))), (0, .ref s), (1, .ref rA), (2, .int (iv x2)), (3, .int (iv x3)), (4, .int (iv v51_4)), (5, .int (iv (Q51 (Int.toNat v51_4))))]) dX4_search_216 rfl (iv_add _ _) (by decide) rfl ?_
                              refine r_goto (pc := 219) (tgt := 79) dX4_search_219 (by decide) ?_
                              refine Rn.pick (lv' := [(0, .ref s), (1, .ref rA), (2, .int (iv x2)), (3, .int (iv x3)), (4, .int (iv v51_4)), (5, .int (iv (Q51 (Int.toNat v51_4)))), (6, .int (iv (v79_6 + 1)))]) [1, 2, 3, 4, 5, 6, 0] rfl ?_
                              exact ih79 (Int.toNat (16 - (v79_6 + 1))) (by omega) W213 qd213 (fup pa79 (Int.toNat v79_6) (Q51 (Int.toNat v51_4))) ba79 Q213 _ ht36 (v79_6 + 1) ⟨by omega, by omega, by omega, by omega, by omega, by omega, by (first | exact hp167 | exact hp191 | assumption), by (first | exact hb167 | assumption), by (first | exact hQ167 | exact hQ213 | assumption), by (first | exact hQn | assumption | rfl), by (first | exact hsr1 | assumption)⟩ (by omega)
                            · have hfw := fw_of hI hve hwS (by omega) hwr hRv
                              refine r_iload (pc := 202) dX4_search_202 rfl ?_
                              exact r_iret (pc := 204) dX4_search_204 rfl ⟨rfl, W79, qd79, _, ba79, Q79, _, ht29, hp191, by assumption, by assumption, by omega, by omega, rfl, by omega, fun h9 => absurd h9 (by omega), fun _ => by
                                    rw [hv2] at hfw
                                    exact hfw⟩
                        · refine r_aload_n (pc := 147) dX4_search_147 (i := 0) rfl rfl ?_
                          refine t_getE (pc := 148) (.ref (s + 2)) ht79 (rd_ov (by omega) (rd_ov (by omega) (rd_ov (by omega) (rd_ov (by omega) (rd_of (ov_s _ _ _)))))) fX4_15 dX4_search_148 rfl ?_
                          refine r_aload_n (pc := 151) dX4_search_151 (i := 0) rfl rfl ?_
                          refine t_getE (pc := 152) (.ref (s + 1)) ht79 (rd_ov (by omega) (rd_ov (by omega) (rd_ov (by omega) (rd_ov (by omega) (rd_of (ov_s _ _ _)))))) fX4_9 dX4_search_152 rfl ?_
                          refine r_iload (pc := 155) dX4_search_155 rfl ?_
                          refine t_ialdX (pc := 157) (t0 := 0) ht79 (rd_ov (by omega) (rd_ov (by omega) (rd_ov (by omega) (rd_of (ov_s _ _ _))))) dX4_search_157 rfl (by decide) (by omega) (fun b38 => ?_)
                          have rb38 := (show Rfx 16 (-1) 15 mt by assumption) (Int.toNat v79_6) (by omega)
                          refine t_ialdX (pc := 158) (t0 := 0) ht79 (rd_ov (by omega) (rd_ov (by omega) (rd_of (ov_s _ _ _)))) dX4_search_158 rfl (by decide) (by omega) (fun b39 => ?_)
                          have rb39 := (show Rfx 16 (-1) 15 pa79 by assumption) (Int.toNat (mt (Int.toNat v79_6))) (by omega)
                          refine t_if_lt (pc := 159) (tgt := 173) dX4_search_159 (by decide) (by omega) (fun c159 => ?_) (fun c159 => ?_)
                          · have hne9 : ¬ Me qd79 (Int.toNat v79_6) := fun g9 => by
                              have h9 := (hevt.mp g9).2
                              have e9 : mN mt (Int.toNat v79_6) = Int.toNat (mt (Int.toNat v79_6)) := rfl
                              rw [e9] at h9
                              omega
                            refine r_aload_n (pc := 173) dX4_search_173 (i := 0) rfl rfl ?_
                            refine t_getE (pc := 174) (.ref (s + 2)) ht79 (rd_ov (by omega) (rd_ov (by omega) (rd_ov (by omega) (rd_ov (by omega) (rd_of (ov_s _ _ _)))))) fX4_15 dX4_search_174 rfl ?_
                            refine r_iload (pc := 177) dX4_search_177 rfl ?_
                            refine t_ialdX (pc := 179) (t0 := 0) ht79 (rd_ov (by omega) (rd_ov (by omega) (rd_of (ov_s _ _ _)))) dX4_search_179 rfl (by decide) (by omega) (fun b40 => ?_)
                            have rb40 := (show Rfx 16 (-1) 15 pa79 by assumption) (Int.toNat v79_6) (by omega)
                            refine t_if_ge (pc := 180) (tgt := 216) dX4_search_180 (by decide) (by omega) (fun c180 => ?_) (fun c180 => ?_)
                            · have hsr1 : srI R (fun j => j < rL ∧ ¬ Me x3 j) mt pa79 ba79 Q79 W79 qd79 (Int.toNat x2) v51_4 (v79_6 + 1) := sr_st hsr (by omega) (by omega) hsr.1 hsr.2.1 mo_rf (fun hS9 hR9 _ => by
                                rw [hQv] at hR9 ⊢
                                exact Or.inr ⟨hne9, by omega⟩)
                              refine r_iinc (pc := 216) (v := iv (v79_6 + 1)) (lv' := [(6, .int (iv (v79_6 + 1))), (0, .ref s), (1, .ref rA), (2, .int (iv x2)), (3, .int (iv x3)), (4, .int (iv v51_4)), (5, .int (iv (Q51 (Int.toNat v51_4))))]) dX4_search_216 rfl (iv_add _ _) (by decide) rfl ?_
                              refine r_goto (pc := 219) (tgt := 79) dX4_search_219 (by decide) ?_
                              refine Rn.pick (lv' := [(0, .ref s), (1, .ref rA), (2, .int (iv x2)), (3, .int (iv x3)), (4, .int (iv v51_4)), (5, .int (iv (Q51 (Int.toNat v51_4)))), (6, .int (iv (v79_6 + 1)))]) [1, 2, 3, 4, 5, 6, 0] rfl ?_
                              exact ih79 (Int.toNat (16 - (v79_6 + 1))) (by omega) W79 qd79 pa79 ba79 Q79 _ ht79 (v79_6 + 1) ⟨by omega, by omega, by omega, by omega, by omega, by omega, by (first | exact hp167 | exact hp191 | assumption), by (first | exact hb167 | assumption), by (first | exact hQ167 | exact hQ213 | assumption), by (first | exact hQn | assumption | rfl), by (first | exact hsr1 | assumption)⟩ (by omega)
                            · refine r_aload_n (pc := 183) dX4_search_183 (i := 0) rfl rfl ?_
                              refine t_getE (pc := 184) (.ref (s + 2)) ht79 (rd_ov (by omega) (rd_ov (by omega) (rd_ov (by omega) (rd_ov (by omega) (rd_of (ov_s _ _ _)))))) fX4_15 dX4_search_184 rfl ?_
                              refine r_iload (pc := 187) dX4_search_187 rfl ?_
                              refine r_iload (pc := 189) dX4_search_189 rfl ?_
                              refine t_iastX (pc := 191) (t0 := 0) ht79 (eq_ov (by omega) (eq_ov (by omega) (ov_s _ _ _))) dX4_search_191 rfl (by decide) (by omega) (by omega) (fun hp41 ht42 => ?_)
                              rw [ov_in3 (by omega) (by omega) ] at ht42
                              have hp191 : Rfx 16 (-1) 15 (fup pa79 (Int.toNat v79_6) (Q51 (Int.toNat v51_4))) := Rfx_up (by assumption) (by omega)
                              refine r_aload_n (pc := 192) dX4_search_192 (i := 0) rfl rfl ?_
                              refine t_getE (pc := 193) (.ref (s + 1)) ht42 (rd_ov (by omega) (rd_ov (by omega) (rd_ov (by omega) (rd_ov (by omega) (rd_of (ov_s _ _ _)))))) fX4_9 dX4_search_193 rfl ?_
                              refine r_iload (pc := 196) dX4_search_196 rfl ?_
                              refine t_ialdX (pc := 198) (t0 := 0) ht42 (rd_ov (by omega) (rd_ov (by omega) (rd_ov (by omega) (rd_of (ov_s _ _ _))))) dX4_search_198 rfl (by decide) (by omega) (fun b43 => ?_)
                              have rb43 := (show Rfx 16 (-1) 15 mt by assumption) (Int.toNat v79_6) (by omega)
                              refine t_if_ge (pc := 199) (tgt := 205) dX4_search_199 (by decide) (by omega) (fun c199 => ?_) (fun c199 => ?_)
                              · refine r_aload_n (pc := 205) dX4_search_205 (i := 0) rfl rfl ?_
                                refine r_aload_n (pc := 206) dX4_search_206 (i := 0) rfl rfl ?_
                                refine t_getE (pc := 207) (.ref (s + 1)) ht42 (rd_ov (by omega) (rd_ov (by omega) (rd_ov (by omega) (rd_ov (by omega) (rd_of (ov_s _ _ _)))))) fX4_9 dX4_search_207 rfl ?_
                                refine r_iload (pc := 210) dX4_search_210 rfl ?_
                                refine t_ialdX (pc := 212) (t0 := 0) ht42 (rd_ov (by omega) (rd_ov (by omega) (rd_ov (by omega) (rd_of (ov_s _ _ _))))) dX4_search_212 rfl (by decide) (by omega) (fun b44 => ?_)
                                have rb44 := (show Rfx 16 (-1) 15 mt by assumption) (Int.toNat v79_6) (by omega)
                                obtain ⟨fs50, hfs50⟩ := t_obj ht42 (rd_ov (by omega) (rd_ov (by omega) (rd_ov (by omega) (rd_ov (by omega) (rd_of (ov_s _ _ _))))))
                                refine r_callV (pc := 213) (as := [.int (iv (mt (Int.toNat v79_6)))]) (st := []) kX4_57 rfl dX4_search_213 hfs50 (c_X4_enqueuex (d := d - 1) (x1 := mt (Int.toNat v79_6)) (by omega) hm0 hp191 (by assumption : Rfx 16 0 15 ba79) (by assumption : Rfx 16 0 15 Q79) (by omega) (by omega) ht42 (by omega) hsr.2.1) rfl (by omega) (Nat.le_of_ble_eq_true rfl) (Nat.zero_le _) (Nat.zero_le _) rfl (fun r45 hp46 n47 q48 => ?_)
                                obtain ⟨hnn47, hrr45, W213, qd213, Q213, ht49, hQ213, bqd213, hq213, hme213, hWl213, hQe213⟩ := q48
                                subst n47 r45
                                change Rn _ _ _ 216 _ [] _ _ _ _ _
                                have hW213 := hq213.1
                                obtain ⟨hI1, hmo1, hok1⟩ := sr_add hI hve hwS hne9 (by omega) (by omega) hRv hme213 hWl213 hQe213
                                rw [hv2] at hI1 hmo1 hok1
                                have hsr1 : srI R (fun j => j < rL ∧ ¬ Me x3 j) mt (fup pa79 (Int.toNat v79_6) (Q51 (Int.toNat v51_4))) ba79 Q213 W213 qd213 (Int.toNat x2) v51_4 (v79_6 + 1) := sr_st hsr (by omega) (by omega) hI1 hq213 hmo1 (fun _ _ _ => by rw [hQv]; exact hok1 _)
                                have hQn : Q213 (Int.toNat v51_4) = Q51 (Int.toNat v51_4) := by rw [hQe213 (Int.toNat v51_4) (by omega)]; exact hQv
                                refine r_iinc (pc := 216) (v := iv (v79_6 + 1)) (lv' := [(6, .int (iv (v79_6 + 1))), (0, .ref s), (1, .ref rA), (2, .int (iv x2)), (3, .int (iv x3)), (4, .int (iv v51_4)), (5, .int (iv (Q51 (Int.toNat v51_4))))]) dX4_search_216 rfl (iv_add _ _) (by decide) rfl ?_
                                refine r_goto (pc := 219) (tgt := 79) dX4_search_219 (by decide) ?_
                                refine Rn.pick (lv' := [(0, .ref s), (1, .ref rA), (2, .int (iv x2)), (3, .int (iv x3)), (4, .int (iv v51_4)), (5, .int (iv (Q51 (Int.toNat v51_4)))), (6, .int (iv (v79_6 + 1)))]) [1, 2, 3, 4, 5, 6, 0] rfl ?_
                                exact ih79 (Int.toNat (16 - (v79_6 + 1))) (by omega) W213 qd213 (fup pa79 (Int.toNat v79_6) (Q51 (Int.toNat v51_4))) ba79 Q213 _ ht49 (v79_6 + 1) ⟨by omega, by omega, by omega, by omega, by omega, by omega, by (first | exact hp167 | exact hp191 | assumption), by (first | exact hb167 | assumption), by (first | exact hQ167 | exact hQ213 | assumption), by (first | exact hQn | assumption | rfl), by (first | exact hsr1 | assumption)⟩ (by omega)
                              · have hfw := fw_of hI hve hwS (by omega) hwr hRv
                                refine r_iload (pc := 202) dX4_search_202 rfl ?_
                                exact r_iret (pc := 204) dX4_search_204 rfl ⟨rfl, W79, qd79, _, ba79, Q79, _, ht42, hp191, by assumption, by assumption, by omega, by omega, rfl, by omega, fun h9 => absurd h9 (by omega), fun _ => by
                                      rw [hv2] at hfw
                                      exact hfw⟩
                          · have hwe : Me qd79 (Int.toNat v79_6) := hevt.mpr ⟨by omega, by
                              have e9 : mN mt (Int.toNat v79_6) = Int.toNat (mt (Int.toNat v79_6)) := rfl
                              rw [e9]
                              omega⟩
                            refine r_aload_n (pc := 162) dX4_search_162 (i := 0) rfl rfl ?_
                            refine r_iload (pc := 163) dX4_search_163 rfl ?_
                            refine r_iload (pc := 165) dX4_search_165 rfl ?_
                            obtain ⟨fs56, hfs56⟩ := t_obj ht79 (rd_ov (by omega) (rd_ov (by omega) (rd_ov (by omega) (rd_ov (by omega) (rd_of (ov_s _ _ _))))))
                            refine r_callV (pc := 167) (as := [.int (iv (Q51 (Int.toNat v51_4))), .int (iv v79_6)]) (st := []) kX4_60 rfl dX4_search_167 hfs56 (c_X4_meltRingx (d := d - 1) (x1 := Q51 (Int.toNat v51_4)) (x2 := v79_6) (by omega) hm0 (by assumption : Rfx 16 (-1) 15 pa79) (by assumption : Rfx 16 0 15 ba79) (by assumption : Rfx 16 0 15 Q79) (by omega) (by omega) ht79 hsy hI hSn hrL (by omega) (by omega) hve hwe hRv hsr.2.1) rfl (by omega) (Nat.le_of_ble_eq_true rfl) (Nat.zero_le _) (Nat.zero_le _) rfl (fun r51 hp52 n53 q54 => ?_)
                            obtain ⟨hnn53, hrr51, W167, qd167, pa167, ba167, Q167, ht55, hp167, hb167, hQ167, bW167, bq167, hq167, hI167, hmo167, hvw167⟩ := q54
                            subst n53 r51
                            change Rn _ _ _ 170 _ [] _ _ _ _ _
                            have hsr1 : srI R (fun j => j < rL ∧ ¬ Me x3 j) mt pa167 ba167 Q167 W167 qd167 (Int.toNat x2) v51_4 (v79_6 + 1) := sr_st hsr (by omega) (by omega) (hI167.elim (fun L9 h9 => ⟨rk, L9, h9⟩)) hq167 hmo167 (fun _ _ _ => Or.inl ⟨hmo167.2.2.1 _ hwe, Or.inl (by rw [hQv]; exact hvw167.symm)⟩)
                            have hQn : Q167 (Int.toNat v51_4) = Q51 (Int.toNat v51_4) := by rw [hmo167.2.1 (Int.toNat v51_4) (by omega)]; exact hQv
                            have hWn := hmo167.1
                            refine r_goto (pc := 170) (tgt := 216) dX4_search_170 (by decide) ?_
                            refine r_iinc (pc := 216) (v := iv (v79_6 + 1)) (lv' := [(6, .int (iv (v79_6 + 1))), (0, .ref s), (1, .ref rA), (2, .int (iv x2)), (3, .int (iv x3)), (4, .int (iv v51_4)), (5, .int (iv (Q51 (Int.toNat v51_4))))]) dX4_search_216 rfl (iv_add _ _) (by decide) rfl ?_
                            refine r_goto (pc := 219) (tgt := 79) dX4_search_219 (by decide) ?_
                            refine Rn.pick (lv' := [(0, .ref s), (1, .ref rA), (2, .int (iv x2)), (3, .int (iv x3)), (4, .int (iv v51_4)), (5, .int (iv (Q51 (Int.toNat v51_4)))), (6, .int (iv (v79_6 + 1)))]) [1, 2, 3, 4, 5, 6, 0] rfl ?_
                            exact ih79 (Int.toNat (16 - (v79_6 + 1))) (by omega) W167 qd167 pa167 ba167 Q167 _ ht55 (v79_6 + 1) ⟨by omega, by omega, by omega, by omega, by omega, by omega, by (first | exact hp167 | exact hp191 | assumption), by (first | exact hb167 | assumption), by (first | exact hQ167 | exact hQ213 | assumption), by (first | exact hQn | assumption | rfl), by (first | exact hsr1 | assumption)⟩ (by omega)
            refine Rn.pick (lv' := [(0, .ref s), (1, .ref rA), (2, .int (iv x2)), (3, .int (iv x3)), (4, .int (iv v51_4)), (5, .int (iv (Q51 (Int.toNat v51_4)))), (6, .int (iv 0))]) [2, 3, 4, 5, 6, 1, 0] rfl ?_
            exact B79 (Int.toNat (16 - 0)) W51 qd51 pa51 ba51 Q51 _ ht51 0 ⟨by omega, by omega, by omega, by omega, by omega, by omega, by (first | exact hp167 | exact hp191 | assumption), by (first | exact hb167 | assumption), by (first | exact hQ167 | exact hQ213 | assumption), by (first | exact hQn | assumption | rfl), by (first | exact hsr1 | assumption)⟩ (by omega)
      refine Rn.pick (lv' := [(0, .ref s), (1, .ref rA), (2, .int (iv x2)), (3, .int (iv x3)), (4, .int (iv 0))]) [1, 2, 3, 4, 0] rfl ?_
      exact B51 (Int.toNat (16 - 0)) W45 qd45 (fun _ => (-1)) (fun y => (y : Int)) Q45 _ ht11 0 ⟨by omega, by omega, by omega, by omega, by omega, by (first | assumption | exact hpF5), by (first | assumption | exact hb33), by (first | assumption | exact hQ45), by (first | exact hsn | exact hsr0)⟩ (by omega)
    · refine r_aload_n (pc := 18) dX4_search_18 (i := 0) rfl rfl ?_
      refine t_getE (pc := 19) (.ref (s + 3)) ht11 (rd_ov (by omega) (rd_ov (by omega) (rd_ov (by omega) (rd_ov (by omega) (rd_of (ov_s _ _ _)))))) fX4_18 dX4_search_19 rfl ?_
      refine r_iload (pc := 22) dX4_search_22 rfl ?_
      refine r_iload (pc := 24) dX4_search_24 rfl ?_
      refine t_iastX (pc := 26) (t0 := 0) ht11 (eq_ov (by omega) (ov_s _ _ _)) dX4_search_26 rfl (by decide) (by omega) (by omega) (fun hp57 ht58 => ?_)
      rw [ov_in2 (by omega) ] at ht58
      have hb26 : Rfx 16 0 15 (fup ba11 (Int.toNat v11_4) v11_4) := Rfx_up (by assumption) (by omega)
      have hid := idr_up (by assumption : idR ba11 v11_4) (by omega)
      refine r_iinc (pc := 27) (v := iv (v11_4 + 1)) (lv' := [(4, .int (iv (v11_4 + 1))), (0, .ref s), (1, .ref rA), (2, .int (iv x2)), (3, .int (iv x3))]) dX4_search_27 rfl (iv_add _ _) (by decide) rfl ?_
      refine r_goto (pc := 30) (tgt := 11) dX4_search_30 (by decide) ?_
      refine Rn.pick (lv' := [(0, .ref s), (1, .ref rA), (2, .int (iv x2)), (3, .int (iv x3)), (4, .int (iv (v11_4 + 1)))]) [1, 2, 3, 4, 0] rfl ?_
      exact ih11 (Int.toNat (16 - (v11_4 + 1))) (by omega) (fup ba11 (Int.toNat v11_4) v11_4) _ ht58 (v11_4 + 1) ⟨by omega, by omega, by (first | exact hb26 | exact hb0), by (first | exact hid | exact idr_0)⟩ (by omega)
  refine Rn.pick (lv' := [(0, .ref s), (1, .ref rA), (2, .int (iv x2)), (3, .int (iv x3)), (4, .int (iv 0))]) [1, 2, 3, 4, 0] rfl ?_
  exact B11 (Int.toNat (16 - 0)) ba _ ht2 0 ⟨by omega, by omega, by (first | exact hb26 | exact hb0), by (first | exact hid | exact idr_0)⟩ (by omega)
