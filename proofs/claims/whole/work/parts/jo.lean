set_option maxHeartbeats 4000000 in
set_option maxRecDepth 100000 in
theorem law_loop4 {D : va_G} {cI cJ cZ cT : ClassId} {lo b L : Nat} {xs : Nat → Int32} {d a : Nat} {Po : Option Value → MH → Nat → Prop} (hd : 60 ≤ d) (hL : L ≤ 3584)  (hP1 : ∀ (hp : MH) (n : Nat), Po (some (.int (iv 1))) hp n) : ∀ (k : Nat) (hp : MH) (n kr wr : Nat) (i : Int), 0 ≤ i ∧ i ≤ 3600 → LK cI cJ cZ cT a L i hp n kr wr → (L : Int) - i ≤ (k : Int) → Rn (gG D cI cJ cZ cT lo b L xs) mL_law d 18 [(0, .ref b), (1, .ref a), (2, .ref (a + 41)), (3, .int (iv i))] [] hp n kr wr Po := by
  refine lpS _ ?_
  intro k ih hp n kr wr i hi h hm
  refine r_iload_n (pc := 18) dL_law_18 (i := 3) rfl rfl ?_
  refine r_aload_n (pc := 19) dL_law_19 (i := 0) rfl rfl ?_
  refine r_slen (pc := 20) dL_law_20 ?_
  refine r_bipush (pc := 21) (v := iv 7) dL_law_21 (by decide) ?_
  refine r_isub (pc := 23) (v := iv ((L : Int) - 7)) dL_law_23 (by show nI L - iv 7 = _; rw [nI_iv]; exact iv_sub _ _) ?_
  refine t_icmp_gt (pc := 24) (tgt := 1083) dL_law_24 (by decide) (by omega) (by omega) (fun c1 => ?_) (fun c1 => ?_)
  · refine r_iconst (pc := 1083) (v := iv 1) dL_law_1083 (by decide) ?_
    exact r_zret (pc := 1084) dL_law_1084 rfl (iv_nar (by decide)) (hP1 _ _)
  · have kk : ∀ (hp1 : MH) (n1 kr1 wr1 : Nat), LK cI cJ cZ cT a L (i + 7) hp1 n1 kr1 wr1 → Rn (gG D cI cJ cZ cT lo b L xs) mL_law d 1077 [(0, .ref b), (1, .ref a), (2, .ref (a + 41)), (3, .int (iv i))] [] hp1 n1 kr1 wr1 Po := by
      intro hp1 n1 kr1 wr1 h9
      refine r_iinc (pc := 1077) (v := iv (i + 7)) (lv' := [(3, .int (iv (i + 7))), (0, .ref b), (1, .ref a), (2, .ref (a + 41))]) dL_law_1077 rfl (iv_add _ _) (by decide) rfl ?_
      refine r_goto (pc := 1080) (tgt := 18) dL_law_1080 (by decide) ?_
      refine Rn.pick (lv' := [(0, .ref b), (1, .ref a), (2, .ref (a + 41)), (3, .int (iv (i + 7)))]) [1, 2, 3, 0] rfl ?_
      exact ih (Int.toNat ((L : Int) - (i + 7))) (by omega) hp1 n1 kr1 wr1 (i + 7) (by omega) h9 (by omega)
    refine r_aload_n (pc := 27) dL_law_27 (i := 0) rfl rfl ?_
    refine r_iload_n (pc := 28) dL_law_28 (i := 3) rfl rfl ?_
    refine w_sld (pc := 29) (v := iv ((xs (Int.toNat i)).toInt)) dL_law_29 (iv_in (L := L) (by omega) (by omega)) (by rw [iv_clamp (by omega) (by omega)]; exact (iv_of _).symm) ?_
    have lo0 := iv_lo (xs (Int.toNat i))
    have hi0 := iv_hi (xs (Int.toNat i))
    refine r_bipush (pc := 30) (v := iv 31) dL_law_30 (by decide) ?_
    obtain ⟨z, hz, bz⟩ := and_r ((xs (Int.toNat i)).toInt) 31 (by omega) (by omega)
    refine r_iand (pc := 32) (v := iv z) dL_law_32 hz ?_
    by_cases q0 : z = 0
    · refine r_tableIn (pc := 33) (off := 103) (tgt := 136) dL_law_33 (by rw [iv_toInt (by omega) (by omega)]; omega) (by rw [iv_toInt (by omega) (by omega)]; omega) (by rw [iv_toInt (by omega) (by omega), q0]; decide) (by decide) ?_
      exact lm_0 hd hL (by omega)  h kk
    by_cases q1 : z = 1
    · refine r_tableIn (pc := 33) (off := 152) (tgt := 185) dL_law_33 (by rw [iv_toInt (by omega) (by omega)]; omega) (by rw [iv_toInt (by omega) (by omega)]; omega) (by rw [iv_toInt (by omega) (by omega), q1]; decide) (by decide) ?_
      exact lm_1 hd hL (by omega)  h kk
    by_cases q2 : z = 2
    · refine r_tableIn (pc := 33) (off := 205) (tgt := 238) dL_law_33 (by rw [iv_toInt (by omega) (by omega)]; omega) (by rw [iv_toInt (by omega) (by omega)]; omega) (by rw [iv_toInt (by omega) (by omega), q2]; decide) (by decide) ?_
      exact lm_2 hd hL (by omega)  h kk
    by_cases q3 : z = 3
    · refine r_tableIn (pc := 33) (off := 218) (tgt := 251) dL_law_33 (by rw [iv_toInt (by omega) (by omega)]; omega) (by rw [iv_toInt (by omega) (by omega)]; omega) (by rw [iv_toInt (by omega) (by omega), q3]; decide) (by decide) ?_
      exact lm_3 hd hL (by omega)  h kk
    by_cases q4 : z = 4
    · refine r_tableIn (pc := 33) (off := 261) (tgt := 294) dL_law_33 (by rw [iv_toInt (by omega) (by omega)]; omega) (by rw [iv_toInt (by omega) (by omega)]; omega) (by rw [iv_toInt (by omega) (by omega), q4]; decide) (by decide) ?_
      exact lm_4 hd hL (by omega)  h kk
    by_cases q5 : z = 5
    · refine r_tableIn (pc := 33) (off := 320) (tgt := 353) dL_law_33 (by rw [iv_toInt (by omega) (by omega)]; omega) (by rw [iv_toInt (by omega) (by omega)]; omega) (by rw [iv_toInt (by omega) (by omega), q5]; decide) (by decide) ?_
      exact lm_5 hd hL (by omega)  h kk
    by_cases q6 : z = 6
    · refine r_tableIn (pc := 33) (off := 363) (tgt := 396) dL_law_33 (by rw [iv_toInt (by omega) (by omega)]; omega) (by rw [iv_toInt (by omega) (by omega)]; omega) (by rw [iv_toInt (by omega) (by omega), q6]; decide) (by decide) ?_
      exact lm_6 hd hL (by omega)  h kk
    by_cases q7 : z = 7
    · refine r_tableIn (pc := 33) (off := 478) (tgt := 511) dL_law_33 (by rw [iv_toInt (by omega) (by omega)]; omega) (by rw [iv_toInt (by omega) (by omega)]; omega) (by rw [iv_toInt (by omega) (by omega), q7]; decide) (by decide) ?_
      exact lm_7 hd hL (by omega)  h kk
    by_cases q8 : z = 8
    · refine r_tableIn (pc := 33) (off := 521) (tgt := 554) dL_law_33 (by rw [iv_toInt (by omega) (by omega)]; omega) (by rw [iv_toInt (by omega) (by omega)]; omega) (by rw [iv_toInt (by omega) (by omega), q8]; decide) (by decide) ?_
      exact lm_8 hd hL (by omega)  h kk
    by_cases q9 : z = 9
    · refine r_tableIn (pc := 33) (off := 612) (tgt := 645) dL_law_33 (by rw [iv_toInt (by omega) (by omega)]; omega) (by rw [iv_toInt (by omega) (by omega)]; omega) (by rw [iv_toInt (by omega) (by omega), q9]; decide) (by decide) ?_
      exact lm_9 hd hL (by omega)  h kk
    by_cases q10 : z = 10
    · refine r_tableIn (pc := 33) (off := 655) (tgt := 688) dL_law_33 (by rw [iv_toInt (by omega) (by omega)]; omega) (by rw [iv_toInt (by omega) (by omega)]; omega) (by rw [iv_toInt (by omega) (by omega), q10]; decide) (by decide) ?_
      exact lm_10 hd hL (by omega)  h kk
    by_cases q11 : z = 11
    · refine r_tableIn (pc := 33) (off := 698) (tgt := 731) dL_law_33 (by rw [iv_toInt (by omega) (by omega)]; omega) (by rw [iv_toInt (by omega) (by omega)]; omega) (by rw [iv_toInt (by omega) (by omega), q11]; decide) (by decide) ?_
      exact lm_11 hd hL (by omega)  h kk
    by_cases q12 : z = 12
    · refine r_tableIn (pc := 33) (off := 711) (tgt := 744) dL_law_33 (by rw [iv_toInt (by omega) (by omega)]; omega) (by rw [iv_toInt (by omega) (by omega)]; omega) (by rw [iv_toInt (by omega) (by omega), q12]; decide) (by decide) ?_
      exact lm_12 hd hL (by omega)  h kk
    by_cases q13 : z = 13
    · refine r_tableIn (pc := 33) (off := 724) (tgt := 757) dL_law_33 (by rw [iv_toInt (by omega) (by omega)]; omega) (by rw [iv_toInt (by omega) (by omega)]; omega) (by rw [iv_toInt (by omega) (by omega), q13]; decide) (by decide) ?_
      exact lm_13 hd hL (by omega)  h kk
    by_cases q14 : z = 14
    · refine r_tableIn (pc := 33) (off := 737) (tgt := 770) dL_law_33 (by rw [iv_toInt (by omega) (by omega)]; omega) (by rw [iv_toInt (by omega) (by omega)]; omega) (by rw [iv_toInt (by omega) (by omega), q14]; decide) (by decide) ?_
      exact lm_14 hd hL (by omega)  h kk
    by_cases q15 : z = 15
    · refine r_tableIn (pc := 33) (off := 760) (tgt := 793) dL_law_33 (by rw [iv_toInt (by omega) (by omega)]; omega) (by rw [iv_toInt (by omega) (by omega)]; omega) (by rw [iv_toInt (by omega) (by omega), q15]; decide) (by decide) ?_
      exact lm_15 hd hL (by omega)  h kk
    by_cases q16 : z = 16
    · refine r_tableIn (pc := 33) (off := 803) (tgt := 836) dL_law_33 (by rw [iv_toInt (by omega) (by omega)]; omega) (by rw [iv_toInt (by omega) (by omega)]; omega) (by rw [iv_toInt (by omega) (by omega), q16]; decide) (by decide) ?_
      exact lm_16 hd hL (by omega)  h kk
    by_cases q17 : z = 17
    · refine r_tableIn (pc := 33) (off := 837) (tgt := 870) dL_law_33 (by rw [iv_toInt (by omega) (by omega)]; omega) (by rw [iv_toInt (by omega) (by omega)]; omega) (by rw [iv_toInt (by omega) (by omega), q17]; decide) (by decide) ?_
      exact lm_17 hd hL (by omega)  h kk
    by_cases q18 : z = 18
    · refine r_tableIn (pc := 33) (off := 881) (tgt := 914) dL_law_33 (by rw [iv_toInt (by omega) (by omega)]; omega) (by rw [iv_toInt (by omega) (by omega)]; omega) (by rw [iv_toInt (by omega) (by omega), q18]; decide) (by decide) ?_
      exact lm_18 hd hL (by omega)  h kk
    by_cases q19 : z = 19
    · refine r_tableIn (pc := 33) (off := 924) (tgt := 957) dL_law_33 (by rw [iv_toInt (by omega) (by omega)]; omega) (by rw [iv_toInt (by omega) (by omega)]; omega) (by rw [iv_toInt (by omega) (by omega), q19]; decide) (by decide) ?_
      exact lm_19 hd hL (by omega)  h kk
    by_cases q20 : z = 20
    · refine r_tableIn (pc := 33) (off := 957) (tgt := 990) dL_law_33 (by rw [iv_toInt (by omega) (by omega)]; omega) (by rw [iv_toInt (by omega) (by omega)]; omega) (by rw [iv_toInt (by omega) (by omega), q20]; decide) (by decide) ?_
      exact lm_20 hd hL (by omega)  h kk
    by_cases q21 : z = 21
    · refine r_tableIn (pc := 33) (off := 990) (tgt := 1023) dL_law_33 (by rw [iv_toInt (by omega) (by omega)]; omega) (by rw [iv_toInt (by omega) (by omega)]; omega) (by rw [iv_toInt (by omega) (by omega), q21]; decide) (by decide) ?_
      exact lm_21 hd hL (by omega)  h kk
    refine r_tableOut (pc := 33) (tgt := 1077) dL_law_33 (by rw [iv_toInt (by omega) (by omega)]; omega) (by decide) ?_
    exact kk _ _ _ _ (LK.up h (by omega))
set_option maxHeartbeats 8000000 in
set_option maxRecDepth 100000 in
theorem law_all4 {D : va_G} {cI cJ cZ cT : ClassId} {lo b L : Nat} {xs : Nat → Int32} {n : Nat} {Po : Option Value → MH → Nat → Prop} (hL : L ≤ 3584)  (hP1 : ∀ (hp : MH) (n : Nat), Po (some (.int (iv 1))) hp n) : Rn (gG D cI cJ cZ cT lo b L xs) mL_law 1000 0 [(0, .ref b)] [] (fun _ => none) n 20000 1000000 Po := by
  obtain ⟨d, hd⟩ : ∃ d, d = 1000 := ⟨_, rfl⟩
  rw [← hd]
  have hd0 : 60 ≤ d := by omega
  refine w_new (pc := 0) (fs := [.null, .int 0, .int 0, .null, .null, .null, .null, .null, .null, .null]) nL_7 tyX11 tyX11_ok (by decide +kernel) dL_law_0 (by omega) (by omega) (fun hp1 h1 hk1 ho1 => ?_)
  refine r_dup (pc := 3) dL_law_3 rfl ?_
  refine r_callI (pc := 4) (as := []) (st := [.ref n]) kL_9 dL_law_4 (c_X11_init (d := d - 1) (a := n) (by omega) h1) rfl (by omega) (Nat.le_of_ble_eq_true rfl) (by omega) (by omega) rfl (fun r9 hp2 n2 hq2 => ?_)
  obtain ⟨rfl, hn2, p0, p1, p2, p3, p4, p5, p6, p7, p8, p9, p10, p11, p12, p13, p14, p15, p16, p17, p18, p19, p20, p21, p22, p23, p24, p25, p26, p27, p28, p29, p30, p31, p32, p33, p34, p35, p36, p37, p38, p39, p40, ho2⟩ := hq2
  subst n2
  change Rn _ _ _ 7 _ [.ref n] _ _ _ _ _
  refine r_astore_n (pc := 7) (lv' := [(1, .ref n), (0, .ref b)]) dL_law_7 (i := 1) rfl (by decide) rfl ?_
  refine w_new (pc := 8) (fs := [.int 0, .int 0, .null, .null, .null, .null, .null, .null, .null, .null, .null, .null, .null, .null, .null, .null, .null, .null, .null, .null, .null, .null, .int 0, .null, .null, .null, .null, .null, .null, .null, .null, .null, .null, .null, .null, .null, .null, .null, .null, .null, .null, .null, .null, .null, .null]) nL_10 tyX12 tyX12_ok (by decide +kernel) dL_law_8 (by omega) (by omega) (fun hp3 h3 hk3 ho3 => ?_)
  refine r_dup (pc := 11) dL_law_11 rfl ?_
  refine r_callI (pc := 12) (as := []) (st := [.ref (n + 41)]) kL_12 dL_law_12 (c_X12_init (d := d - 1) (a := n + 41) (by omega) h3) rfl (by omega) (Nat.le_of_ble_eq_true rfl) (by omega) (by omega) rfl (fun r9 hp4 n4 hq4 => ?_)
  obtain ⟨rfl, hn4, q0, q1, q2, q3, q4, q5, q6, q7, q8, q9, q10, q11, q12, q13, q14, q15, q16, q17, q18, q19, q20, q21, q22, q23, q24, q25, q26, q27, q28, q29, q30, q31, q32, q33, q34, q35, q36, q37, q38, q39, q40, q41, q42, ho4⟩ := hq4
  subst n4
  change Rn _ _ _ 15 _ [.ref (n + 41)] _ _ _ _ _
  refine r_astore_n (pc := 15) (lv' := [(2, .ref (n + 41)), (1, .ref n), (0, .ref b)]) dL_law_15 (i := 2) rfl (by decide) rfl ?_
  refine r_iconst (pc := 16) (v := iv 0) dL_law_16 (by decide) ?_
  refine r_istore_n (pc := 17) (lv' := [(3, .int (iv 0)), (2, .ref (n + 41)), (1, .ref n), (0, .ref b)]) dL_law_17 (i := 3) rfl (by decide) rfl ?_
  refine Rn.pick (lv' := [(0, .ref b), (1, .ref n), (2, .ref (n + 41)), (3, .int (iv 0))]) [3, 2, 1, 0] rfl ?_
  have ht := init_twW (cI := cI) (cJ := cJ) (cZ := cZ) (cT := cT) (hp := hp4) (a := n) (ho4 _ _ (hk3 _ _ p0) (by omega)) (ho4 _ _ (hk3 _ _ p1) (by omega)) (ho4 _ _ (hk3 _ _ p2) (by omega)) (ho4 _ _ (hk3 _ _ p3) (by omega)) (ho4 _ _ (hk3 _ _ p4) (by omega)) (ho4 _ _ (hk3 _ _ p5) (by omega)) (ho4 _ _ (hk3 _ _ p6) (by omega)) (ho4 _ _ (hk3 _ _ p7) (by omega)) (ho4 _ _ (hk3 _ _ p8) (by omega)) (ho4 _ _ (hk3 _ _ p9) (by omega)) (ho4 _ _ (hk3 _ _ p10) (by omega)) (ho4 _ _ (hk3 _ _ p11) (by omega)) (ho4 _ _ (hk3 _ _ p12) (by omega)) (ho4 _ _ (hk3 _ _ p13) (by omega)) (ho4 _ _ (hk3 _ _ p14) (by omega)) (ho4 _ _ (hk3 _ _ p15) (by omega)) (ho4 _ _ (hk3 _ _ p16) (by omega)) (ho4 _ _ (hk3 _ _ p17) (by omega)) (ho4 _ _ (hk3 _ _ p18) (by omega)) (ho4 _ _ (hk3 _ _ p19) (by omega)) (ho4 _ _ (hk3 _ _ p20) (by omega)) (ho4 _ _ (hk3 _ _ p21) (by omega)) (ho4 _ _ (hk3 _ _ p22) (by omega)) (ho4 _ _ (hk3 _ _ p23) (by omega)) (ho4 _ _ (hk3 _ _ p24) (by omega)) (ho4 _ _ (hk3 _ _ p25) (by omega)) (ho4 _ _ (hk3 _ _ p26) (by omega)) (ho4 _ _ (hk3 _ _ p27) (by omega)) (ho4 _ _ (hk3 _ _ p28) (by omega)) (ho4 _ _ (hk3 _ _ p29) (by omega)) (ho4 _ _ (hk3 _ _ p30) (by omega)) (ho4 _ _ (hk3 _ _ p31) (by omega)) (ho4 _ _ (hk3 _ _ p32) (by omega)) (ho4 _ _ (hk3 _ _ p33) (by omega)) (ho4 _ _ (hk3 _ _ p34) (by omega)) (ho4 _ _ (hk3 _ _ p35) (by omega)) (ho4 _ _ (hk3 _ _ p36) (by omega)) (ho4 _ _ (hk3 _ _ p37) (by omega)) (ho4 _ _ (hk3 _ _ p38) (by omega)) (ho4 _ _ (hk3 _ _ p39) (by omega)) (ho4 _ _ (hk3 _ _ p40) (by omega)) q0 q1 q2 q3 q4 q5 q6 q7 q8 q9 q10 q11 q12 q13 q14 q15 q16 q17 q18 q19 q20 q21 q22 q23 q24 q25 q26 q27 q28 q29 q30 q31 q32 q33 q34 q35 q36 q37 q38 q39 q40 q41 q42
  exact law_loop4 hd0 hL hP1 (Int.toNat (L : Int)) _ _ _ _ 0 (by omega) ⟨_, _, _, _, _, _, _, _, _, _, _, _, _, _, _, _, _, _, _, _, _, _, _, _, _, _, _, _, _, _, _, _, _, _, _, _, _, _, _, ht, init_EKW, init_RK, init_DQ, fun i hi => absurd hi (by omega), fun i hi => absurd hi (by omega), init_WR, by omega, by omega, by omega⟩ (by omega)
