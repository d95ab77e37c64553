set_option maxHeartbeats 4000000 in
set_option maxRecDepth 100000 in
theorem c_X6_findx {D : va_G} {cI cJ cZ cT : ClassId} {lo b L : Nat} {xs : Nat → Int32} {hp : MH} {n d : Nat} {Γ : TG} {ga : Nat} {gF : Nat} {gT : Nat} {gW : Nat} {gC : Nat} {gTl : Nat} {gHd : Nat} {gBy : Nat} {gOu : Nat} {gIn : Nat} {gJo : Nat} {gn : Nat} {gm : Nat} {gq : Nat} {gdr : Int} {F T W C Tl Hd By Ou In Jo : Nat → Int} {ka : Nat} {kF : Nat} {kT : Nat} {kW : Nat} {kC : Nat} {kTl : Nat} {kHd : Nat} {kBy : Nat} {kOu : Nat} {kIn : Nat} {kJo : Nat} {kn : Nat} {km : Nat} {kq : Nat} {kdr : Int} {F2 T2 W2 C2 Tl2 Hd2 By2 Ou2 In2 Jo2 : Nat → Int} {s : Nat} (hd0 : 21 ≤ d) (hO : Γ s = some (tO 6 (smnR s))) (hA1 : Γ (s + 1) = some (tJ cJ 512 anyJ)) (hA2 : Γ (s + 2) = some (tJ cJ 544 anyJ)) (hA3 : Γ (s + 3) = some (tJ cJ 32 anyJ)) (hA4 : Γ (s + 4) = some (tI cI 16 (rg 0 15))) (hg : TyG Γ cI cJ cZ ga gF gT gW gC gTl gHd gBy gOu gIn gJo gn gm gq gdr) (hxg : XG Γ cI gF gT gW gC gTl gHd gBy gOu gIn gJo gn gm gq F T W C Tl Hd By Ou In Jo) (hk : TyG Γ cI cJ cZ ka kF kT kW kC kTl kHd kBy kOu kIn kJo kn km kq kdr) (hxk : XG Γ cI kF kT kW kC kTl kHd kBy kOu kIn kJo kn km kq F2 T2 W2 C2 Tl2 Hd2 By2 Ou2 In2 Jo2) (hsp : s + 5 ≤ ga ∧ s + 5 ≤ gF ∧ s + 5 ≤ gT ∧ s + 5 ≤ gW ∧ s + 5 ≤ gC ∧ s + 5 ≤ gTl ∧ s + 5 ≤ gHd ∧ s + 5 ≤ gBy ∧ s + 5 ≤ gOu ∧ s + 5 ≤ gIn ∧ s + 5 ≤ gJo) (hspk : s + 5 ≤ ka ∧ s + 5 ≤ kF ∧ s + 5 ≤ kT ∧ s + 5 ≤ kW ∧ s + 5 ≤ kC ∧ s + 5 ≤ kTl ∧ s + 5 ≤ kHd ∧ s + 5 ≤ kBy ∧ s + 5 ≤ kOu ∧ s + 5 ≤ kIn ∧ s + 5 ≤ kJo) (ht : Tw Γ hp) : Mt (gG D cI cJ cZ cT lo b L xs) mX6_find d 0 0 [.ref s, .ref ga, .ref ka] hp n (fun r9 hp1 n1 => n1 = n ∧ ∃ (Nu1 : Nat → Int) (v : Int), Tw (ov Γ (s + 4) (xI cI 16 Nu1)) hp1 ∧ Rfx 16 0 15 Nu1 ∧ r9 = some (.int (iv v)) ∧ ((v = 1 ∧ (kn = gn ∧ kdr = gdr ∧ km = gm) ∧ lxA (isP gm gdr F T W C F2 T2 W2 C2) (gn : Int) Nu1) ∨ (v = 0 ∧ ¬ ((kn = gn ∧ kdr = gdr ∧ km = gm) ∧ ∃ im, vaP (isP gm gdr F T W C F2 T2 W2 C2) (gn : Int) im)))) := by
  refine Mt.of rfl (Nat.le_of_ble_eq_true rfl) ?_
  refine Rn.pick (lv' := [(0, .ref s), (1, .ref ga), (2, .ref ka)]) [0, 1, 2] rfl ?_
  obtain ⟨hg_O, hg_from, hg_to, hg_weight, hg_cost, hg_tail, hg_head, hg_by, hg_out, hg_in, hg_joined, hg_b⟩ := id hg
  obtain ⟨⟨hxg_F, hxg_T, hxg_W, hxg_C, hxg_Tl, hxg_Hd, hxg_By, hxg_Ou, hxg_In, hxg_Jo⟩, ⟨hrg_F, hrg_T, hrg_W, hrg_C, hrg_Tl, hrg_Hd, hrg_By, hrg_Ou, hrg_In, hrg_Jo⟩, houg⟩ := id hxg
  obtain ⟨hk_O, hk_from, hk_to, hk_weight, hk_cost, hk_tail, hk_head, hk_by, hk_out, hk_in, hk_joined, hk_b⟩ := id hk
  obtain ⟨⟨hxk_F, hxk_T, hxk_W, hxk_C, hxk_Tl, hxk_Hd, hxk_By, hxk_Ou, hxk_In, hxk_Jo⟩, ⟨hrk_F, hrk_T, hrk_W, hrk_C, hrk_Tl, hrk_Hd, hrk_By, hrk_Ou, hrk_In, hrk_Jo⟩, houk⟩ := id hxk
  have hgb := hg_b
  have hkb := hk_b
  have hFT : ∀ k, k < gm → (0 ≤ F k ∧ F k < (gn : Int)) ∧ (0 ≤ T k ∧ T k < (gn : Int)) := fun k hk => by have h1 := hrg_F k hk; have h2 := hrg_T k hk; omega
  have q0 : Tw (ov Γ s (tO 6 (smnR s))) hp := by rw [ov_same hO]; exact ht
  obtain ⟨Ti0, -, q1⟩ := Tw.openJ q0 (rd_of (eq_ov (by omega) hA1))
  obtain ⟨Co0, -, q2⟩ := Tw.openJ q1 (rd_of (eq_ov (by omega) (eq_ov (by omega) hA2)))
  obtain ⟨Fr0, -, q3⟩ := Tw.openJ q2 (rd_of (eq_ov (by omega) (eq_ov (by omega) (eq_ov (by omega) hA3))))
  obtain ⟨Nu0, hNu0, q4⟩ := Tw.openI q3 (rd_of (eq_ov (by omega) (eq_ov (by omega) (eq_ov (by omega) (eq_ov (by omega) hA4)))))
  have hN0 : Rfx 16 0 15 Nu0 := fun i hi => (hNu0 i hi).1
  refine r_aload_n (pc := 0) dX6_find_0 (i := 1) rfl rfl ?_
  refine t_getE (pc := 1) (.int (iv (gn : Int))) q4 (rd_ov (by omega) (rd_ov (by omega) (rd_ov (by omega) (rd_ov (by omega) (rd_ov (by omega) hg_O))))) fX6_25 dX6_find_1 rfl ?_
  refine r_aload_n (pc := 4) dX6_find_4 (i := 2) rfl rfl ?_
  refine t_getE (pc := 5) (.int (iv (kn : Int))) q4 (rd_ov (by omega) (rd_ov (by omega) (rd_ov (by omega) (rd_ov (by omega) (rd_ov (by omega) hk_O))))) fX6_25 dX6_find_5 rfl ?_
  refine t_icmp_ne (pc := 8) (tgt := 33) dX6_find_8 (by decide) (by omega) (by omega) (fun c8 => ?_) (fun c8 => ?_)
  · refine r_iconst (pc := 33) (v := iv 0) dX6_find_33 (by decide) ?_
    exact r_zret (pc := 34) dX6_find_34 rfl (iv_nar (by omega)) ⟨rfl, Nu0, _, SmS_cl hO hA1 hA2 hA3 q4, hN0, rfl, Or.inr ⟨rfl, fun g9 => by have := g9.1; omega⟩⟩
  · refine r_aload_n (pc := 11) dX6_find_11 (i := 1) rfl rfl ?_
    refine t_getE (pc := 12) (.int (iv gdr)) q4 (rd_ov (by omega) (rd_ov (by omega) (rd_ov (by omega) (rd_ov (by omega) (rd_ov (by omega) hg_O))))) fX6_31 dX6_find_12 rfl ?_
    refine r_aload_n (pc := 15) dX6_find_15 (i := 2) rfl rfl ?_
    refine t_getE (pc := 16) (.int (iv kdr)) q4 (rd_ov (by omega) (rd_ov (by omega) (rd_ov (by omega) (rd_ov (by omega) (rd_ov (by omega) hk_O))))) fX6_31 dX6_find_16 rfl ?_
    refine t_icmp_ne (pc := 19) (tgt := 33) dX6_find_19 (by decide) (by omega) (by omega) (fun c19 => ?_) (fun c19 => ?_)
    · refine r_iconst (pc := 33) (v := iv 0) dX6_find_33 (by decide) ?_
      exact r_zret (pc := 34) dX6_find_34 rfl (iv_nar (by omega)) ⟨rfl, Nu0, _, SmS_cl hO hA1 hA2 hA3 q4, hN0, rfl, Or.inr ⟨rfl, fun g9 => by have := g9.1; omega⟩⟩
    · refine r_aload_n (pc := 22) dX6_find_22 (i := 1) rfl rfl ?_
      refine t_getE (pc := 23) (.int (iv (gm : Int))) q4 (rd_ov (by omega) (rd_ov (by omega) (rd_ov (by omega) (rd_ov (by omega) (rd_ov (by omega) hg_O))))) fX6_35 dX6_find_23 rfl ?_
      refine r_aload_n (pc := 26) dX6_find_26 (i := 2) rfl rfl ?_
      refine t_getE (pc := 27) (.int (iv (km : Int))) q4 (rd_ov (by omega) (rd_ov (by omega) (rd_ov (by omega) (rd_ov (by omega) (rd_ov (by omega) hk_O))))) fX6_35 dX6_find_27 rfl ?_
      refine t_icmp_eq (pc := 30) (tgt := 35) dX6_find_30 (by decide) (by omega) (by omega) (fun c30 => ?_) (fun c30 => ?_)
      · refine r_aload_n (pc := 35) dX6_find_35 (i := 0) rfl rfl ?_
        refine t_getE (pc := 36) (.ref (s + 1)) q4 (rd_ov (by omega) (rd_ov (by omega) (rd_ov (by omega) (rd_ov (by omega) (rd_of (ov_s _ _ _)))))) fX6_9 dX6_find_36 rfl ?_
        refine r_lconst (pc := 39) (v := 0) dX6_find_39 (by decide) ?_
        have hkn : kn = gn := by omega
        have hkd : kdr = gdr := by omega
        have hkm : km = gm := by omega
        refine t_fillJX (pc := 40) q4 (rd_ov (by omega) (rd_ov (by omega) (rd_ov (by omega) (rd_of (ov_s _ _ _))))) kX6_38 dX6_find_40 (by omega) (by omega) (Nat.le_of_ble_eq_true rfl) (fun hp1 ht2 => ?_)
        rw [ov_in4 (by omega) (by omega) (by omega)] at ht2
        refine r_aload_n (pc := 43) dX6_find_43 (i := 0) rfl rfl ?_
        refine r_aload_n (pc := 44) dX6_find_44 (i := 1) rfl rfl ?_
        refine r_iconst (pc := 45) (v := iv 0) dX6_find_45 (by decide) ?_
        obtain ⟨fs8, hfs8⟩ := t_obj ht2 (rd_ov (by omega) (rd_ov (by omega) (rd_ov (by omega) (rd_ov (by omega) (rd_of (ov_s _ _ _))))))
        refine r_callV (pc := 46) (as := [.ref ga, .int (iv 0)]) (st := []) kX6_44 rfl dX6_find_46 hfs8 (c_X6_fillTiesx (d := d - 1) (x2 := 0) (by omega) hg hxg hsp ht2 (by omega) (fun _ _ _ => rfl)) rfl (by omega) (Nat.le_of_ble_eq_true rfl) (Nat.zero_le _) (Nat.zero_le _) rfl (fun r3 hp4 n5 q6 => ?_)
        obtain ⟨hnn5, hrr3, Ti46, ht7, htf46⟩ := q6
        subst n5 r3
        change Rn _ _ _ 49 _ [] _ _ _ _ _
        refine r_aload_n (pc := 49) dX6_find_49 (i := 0) rfl rfl ?_
        refine r_aload_n (pc := 50) dX6_find_50 (i := 2) rfl rfl ?_
        refine r_sipush (pc := 51) (v := iv 256) dX6_find_51 (by decide) ?_
        obtain ⟨fs14, hfs14⟩ := t_obj ht7 (rd_ov (by omega) (rd_ov (by omega) (rd_ov (by omega) (rd_ov (by omega) (rd_of (ov_s _ _ _))))))
        refine r_callV (pc := 54) (as := [.ref ka, .int (iv 256)]) (st := []) kX6_44 rfl dX6_find_54 hfs14 (c_X6_fillTiesx (d := d - 1) (x2 := 256) (by omega) hk hxk hspk ht7 (by omega) (fun q9 h9 g9 => (htf46.2 q9 (Or.inr (by omega))))) rfl (by omega) (Nat.le_of_ble_eq_true rfl) (Nat.zero_le _) (Nat.zero_le _) rfl (fun r9 hp10 n11 q12 => ?_)
        obtain ⟨hnn11, hrr9, Ti54, ht13, htf54⟩ := q12
        subst n11 r9
        change Rn _ _ _ 57 _ [] _ _ _ _ _
        have hti1 : ∀ u v, u < 16 → v < 16 → Ti54 (16 * u + v) = tyA gdr F T W C gm u v := fun u v hu hv => by
          rw [htf54.2 _ (Or.inl (show _ < Int.toNat 256 by omega)), ← htf46.1 u v hu hv]
          exact congrArg Ti46 (by omega)
        have hti2 : ∀ u v, u < 16 → v < 16 → Ti54 (256 + (16 * u + v)) = tyA gdr F2 T2 W2 C2 gm u v := fun u v hu hv => by
          rw [← hkd, ← hkm, ← htf54.1 u v hu hv]
          rfl
        have htp : ∀ im, (vaP (isP gm gdr F T W C F2 T2 W2 C2) (gn : Int)) im → tpP Ti54 gn (fun i => (im i).toNat) := fun im9 h9 => tp_of (by omega) hFT hti1 hti2 h9
        refine r_aload_n (pc := 57) dX6_find_57 (i := 0) rfl rfl ?_
        refine r_aload_n (pc := 58) dX6_find_58 (i := 1) rfl rfl ?_
        refine t_getE (pc := 59) (.int (iv (gn : Int))) ht13 (rd_ov (by omega) (rd_ov (by omega) (rd_ov (by omega) (rd_ov (by omega) (rd_ov (by omega) hg_O))))) fX6_25 dX6_find_59 rfl ?_
        obtain ⟨fs20, hfs20⟩ := t_obj ht13 (rd_ov (by omega) (rd_ov (by omega) (rd_ov (by omega) (rd_ov (by omega) (rd_of (ov_s _ _ _))))))
        refine r_callV (pc := 62) (as := [.int (iv (gn : Int))]) (st := []) kX6_48 rfl dX6_find_62 hfs20 (c_X6_startColoursx (d := d - 1) (x1 := (gn : Int)) (by omega) ht13 (by omega)) rfl (by omega) (Nat.le_of_ble_eq_true rfl) (Nat.zero_le _) (Nat.zero_le _) rfl (fun r15 hp16 n17 q18 => ?_)
        obtain ⟨hnn17, hrr15, Co72, ht19, hsc72⟩ := q18
        subst n17 r15
        change Rn _ _ _ 65 _ [] _ _ _ _ _
        refine r_aload_n (pc := 65) dX6_find_65 (i := 0) rfl rfl ?_
        refine r_aload_n (pc := 66) dX6_find_66 (i := 1) rfl rfl ?_
        refine t_getE (pc := 67) (.int (iv (gn : Int))) ht19 (rd_ov (by omega) (rd_ov (by omega) (rd_ov (by omega) (rd_ov (by omega) (rd_ov (by omega) hg_O))))) fX6_25 dX6_find_67 rfl ?_
        refine r_iconst (pc := 70) (v := iv 0) dX6_find_70 (by decide) ?_
        obtain ⟨fs26, hfs26⟩ := t_obj ht19 (rd_ov (by omega) (rd_ov (by omega) (rd_ov (by omega) (rd_ov (by omega) (rd_of (ov_s _ _ _))))))
        refine r_callV (pc := 71) (as := [.int (iv (gn : Int)), .int (iv 0)]) (st := []) kX6_52 rfl dX6_find_71 hfs26 (c_X6_refinex (d := d - 1) (x1 := 0) (rw9 := 0) (by omega) (by omega) ht19 (by omega) (by omega)) rfl (by omega) (Nat.le_of_ble_eq_true rfl) (Nat.zero_le _) (Nat.zero_le _) rfl (fun r21 hp22 n23 q24 => ?_)
        obtain ⟨hnn23, Co77, Fr77, v77, ht25, hrr21, bv77, hlo77, hcv77⟩ := q24
        subst n23 r21
        change Rn _ _ _ 74 _ [.int (iv v77)] _ _ _ _ _
        have hcv9 : ∀ im, (vaP (isP gm gdr F T W C F2 T2 W2 C2) (gn : Int)) im → v77 = 1 ∧ cvP Co77 0 gn (fun i => (im i).toNat) := fun im9 h9 => hcv77 _ (htp im9 h9) (sci_cv hsc72 (htp im9 h9))
        refine t_if_eq (pc := 74) (tgt := 92) dX6_find_74 (by decide) (by omega) (fun c74 => ?_) (fun c74 => ?_)
        · refine r_iconst (pc := 92) (v := iv 0) dX6_find_92 (by decide) ?_
          exact r_zret (pc := 93) dX6_find_93 rfl (iv_nar (by omega)) ⟨rfl, Nu0, _, SmS_cl hO hA1 hA2 hA3 ht25, hN0, rfl, Or.inr ⟨rfl, fun ⟨_, im9, h9⟩ => by have := (hcv9 im9 h9).1; omega⟩⟩
        · refine r_aload_n (pc := 77) dX6_find_77 (i := 0) rfl rfl ?_
          refine r_aload_n (pc := 78) dX6_find_78 (i := 1) rfl rfl ?_
          refine r_aload_n (pc := 79) dX6_find_79 (i := 2) rfl rfl ?_
          refine r_iconst (pc := 80) (v := iv 0) dX6_find_80 (by decide) ?_
          refine r_iconst (pc := 81) (v := iv 0) dX6_find_81 (by decide) ?_
          obtain ⟨fs32, hfs32⟩ := t_obj ht25 (rd_ov (by omega) (rd_ov (by omega) (rd_ov (by omega) (rd_ov (by omega) (rd_of (ov_s _ _ _))))))
          refine r_callV (pc := 82) (as := [.ref ga, .ref ka, .int (iv 0), .int (iv 0)]) (st := []) kX6_56 rfl dX6_find_82 hfs32 (c_X6_canNumberx hg hxg hk hxk hsp hspk hkm hkd htp 16 _ _ (d - 1) 0 0 Co77 Fr77 Nu0 (by omega) (by omega) (by omega) (by omega) hN0 (fun im9 h9 _ => (hcv9 im9 h9).2) ht25) rfl (by omega) (Nat.le_of_ble_eq_true rfl) (Nat.zero_le _) (Nat.zero_le _) rfl (fun r27 hp28 n29 q30 => ?_)
          obtain ⟨hnn29, Co86, Fr86, Nu86, v86, ht31, hrr27, bv86, -, hNu86, -, hca86⟩ := q30
          subst n29 r27
          change Rn _ _ _ 85 _ [.int (iv v86)] _ _ _ _ _
          refine t_if_eq (pc := 85) (tgt := 92) dX6_find_85 (by decide) (by omega) (fun c85 => ?_) (fun c85 => ?_)
          · rw [show v86 = 0 by omega] at hca86
            refine r_iconst (pc := 92) (v := iv 0) dX6_find_92 (by decide) ?_
            exact r_zret (pc := 93) dX6_find_93 rfl (iv_nar (by omega)) ⟨rfl, Nu86, _, SmS_cl hO hA1 hA2 hA3 ht31, hNu86, rfl, Or.inr ⟨rfl, fun ⟨_, im9, h9⟩ => cn_nl hca86 im9 h9⟩⟩
          · rw [show v86 = 1 by omega] at hca86
            refine r_iconst (pc := 88) (v := iv 1) dX6_find_88 (by decide) ?_
            refine r_goto (pc := 89) (tgt := 93) dX6_find_89 (by decide) ?_
            exact r_zret (pc := 93) dX6_find_93 rfl (iv_nar (by omega)) ⟨rfl, Nu86, _, SmS_cl hO hA1 hA2 hA3 ht31, hNu86, rfl, Or.inl ⟨rfl, ⟨hkn, hkd, hkm⟩, cn_lx hca86⟩⟩
      · refine r_iconst (pc := 33) (v := iv 0) dX6_find_33 (by decide) ?_
        exact r_zret (pc := 34) dX6_find_34 rfl (iv_nar (by omega)) ⟨rfl, Nu0, _, SmS_cl hO hA1 hA2 hA3 q4, hN0, rfl, Or.inr ⟨rfl, fun g9 => by have := g9.1; omega⟩⟩
