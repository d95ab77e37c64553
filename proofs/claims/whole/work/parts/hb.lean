theorem cp_mx {w z : Int} {C : Nat → Int} {k : Nat} (hw : w = C k) (hz : (z = 0 ∧ w ≤ z) ∨ (z = w ∧ 0 ≤ z)) : z = cpR C k := by
  unfold cpR
  rw [← hw]
  by_cases g : 0 < w
  · rw [if_pos g]; omega
  · rw [if_neg g]; omega
set_option maxHeartbeats 4000000 in
set_option maxRecDepth 100000 in
theorem c_X2_pricex {D : va_G} {cI cJ cZ cT : ClassId} {lo b L : Nat} {xs : Nat → Int32} {hp : MH} {n d : Nat} {Γ : TG} {ga : Nat} {gF : Nat} {gT : Nat} {gW : Nat} {gC : Nat} {gTl : Nat} {gHd : Nat} {gBy : Nat} {gOu : Nat} {gIn : Nat} {gJo : Nat} {gn : Nat} {gm : Nat} {gq : Nat} {gdr : Int} {F T W C Tl Hd By Ou In Jo : Nat → Int} {s : Nat} {Lk : Int} {B lt lh lr lc : Nat → Int} {De : Nat → Int64} {x2 x3 : Int} {pos : Nat → Nat} (hd0 : 2 ≤ d) (hg : TyG Γ cI cJ cZ ga gF gT gW gC gTl gHd gBy gOu gIn gJo gn gm gq gdr) (hxg : XG Γ cI gF gT gW gC gTl gHd gBy gOu gIn gJo gn gm gq F T W C Tl Hd By Ou In Jo) (hsp : s + 9 ≤ ga ∧ s + 9 ≤ gF ∧ s + 9 ≤ gT ∧ s + 9 ≤ gW ∧ s + 9 ≤ gC ∧ s + 9 ≤ gTl ∧ s + 9 ≤ gHd ∧ s + 9 ≤ gBy ∧ s + 9 ≤ gOu ∧ s + 9 ≤ gIn ∧ s + 9 ≤ gJo) (hL0 : 0 ≤ Lk ∧ Lk ≤ 240) (hB0 : Rfx 16 0 239 B) (hlt0 : Rfx 240 0 15 lt) (hlh0 : Rfx 240 0 15 lh) (ht : Tw (LSt Γ cI cJ s Lk B lt lh lr lc De) hp) (hx2 : 0 ≤ x2 ∧ x2 < (gn : Int)) (hx3 : 0 ≤ x3 ∧ x3 < (gn : Int)) (hxy : x2 ≠ x3) (hgo : GoS gm gq gdr F T Tl Hd By pos) : Mt (gG D cI cJ cZ cT lo b L xs) mX2_price d 0 0 [.ref s, .ref ga, .int (iv x2), .int (iv x3)] hp n (fun r9 hp1 n1 => n1 = n ∧ ∃ (L1 : Int) (B1 lt1 lh1 lr1 lc1 : Nat → Int) (De1 : Nat → Int64) (q : Int64), Tw (LSt Γ cI cJ s L1 B1 lt1 lh1 lr1 lc1 De1) hp1 ∧ (0 ≤ L1 ∧ L1 ≤ 240) ∧ Rfx 16 0 239 B1 ∧ Rfx 240 0 15 lt1 ∧ Rfx 240 0 15 lh1 ∧ r9 = some (.long q) ∧ prcA gm gdr F T W C (Int.toNat x2) (Int.toNat x3) q.toInt) := by
  refine Mt.of rfl (Nat.le_of_ble_eq_true rfl) ?_
  refine Rn.pick (lv' := [(0, .ref s), (1, .ref ga), (2, .int (iv x2)), (3, .int (iv x3))]) [0, 1, 2, 3] rfl ?_
  have t0 : Tw (ov (ov (ov (ov (ov (ov (ov Γ s (tO 2 (flG s Lk))) (s + 2) (xI cI 16 B)) (s + 4) (xI cI 240 lt)) (s + 5) (xI cI 240 lh)) (s + 6) (xI cI 240 lr)) (s + 7) (xI cI 240 lc)) (s + 8) (xJ cJ 16 De)) hp := ht
  obtain ⟨hg_O, hg_from, hg_to, hg_weight, hg_cost, hg_tail, hg_head, hg_by, hg_out, hg_in, hg_joined, hg_b⟩ := id hg
  obtain ⟨⟨hxg_F, hxg_T, hxg_W, hxg_C, hxg_Tl, hxg_Hd, hxg_By, hxg_Ou, hxg_In, hxg_Jo⟩, ⟨hrg_F, hrg_T, hrg_W, hrg_C, hrg_Tl, hrg_Hd, hrg_By, hrg_Ou, hrg_In, hrg_Jo⟩, houg⟩ := id hxg
  have hgb := hg_b
  have hFT : ∀ k, k < gm → (0 ≤ F k ∧ F k < (gn : Int)) ∧ (0 ≤ T k ∧ T k < (gn : Int)) := fun k hk => by have h1 := hrg_F k hk; have h2 := hrg_T k hk; omega
  refine r_aload_n (pc := 0) dX2_price_0 (i := 0) rfl rfl ?_
  refine r_iconst (pc := 1) (v := iv 0) dX2_price_1 (by decide) ?_
  refine t_putX (pc := 2) (ty := .int) t0 (eq_ov (by omega) (eq_ov (by omega) (eq_ov (by omega) (eq_ov (by omega) (eq_ov (by omega) (eq_ov (by omega) (ov_s _ _ _))))))) fX2_89 tyX2 tyX2_ok nmX2 (by decide +kernel) (Or.inl rfl) dX2_price_2 (Nat.le_of_ble_eq_true rfl) rfl rfl rfl (fun hp1 ht2 => ?_)
  rw [ov_in7 (by omega) (by omega) (by omega) (by omega) (by omega) (by omega) ] at ht2
  refine r_iconst (pc := 5) (v := iv 0) dX2_price_5 (by decide) ?_
  refine r_istore (pc := 6) (lv' := [(4, .int (iv 0)), (0, .ref s), (1, .ref ga), (2, .int (iv x2)), (3, .int (iv x3))]) dX2_price_6 (by decide) rfl ?_
  have B8 : ∀ k : Nat, ∀ Lk8 : Int, ∀ lt8 : Nat → Int, ∀ lh8 : Nat → Int, ∀ lr8 : Nat → Int, ∀ lc8 : Nat → Int, ∀ hp8 : MH, Tw (ov (ov (ov (ov (ov (ov (ov Γ s (tO 2 (flG s Lk8))) (s + 2) (xI cI 16 B)) (s + 4) (xI cI 240 lt8)) (s + 5) (xI cI 240 lh8)) (s + 6) (xI cI 240 lr8)) (s + 7) (xI cI 240 lc8)) (s + 8) (xJ cJ 16 De)) hp8 → ∀  (v8_4 : Int), 0 ≤ v8_4 ∧ v8_4 ≤ 120 ∧ (v8_4 ≤ (gq : Int)) ∧ (0 ≤ Lk8 ∧ Lk8 ≤ 2 * v8_4) ∧ (Rfx 240 0 15 lt8) ∧ (Rfx 240 0 15 lh8) ∧ (ukQ Tl Hd By W C Lk8 lt8 lh8 lr8 lc8 (Int.toNat v8_4)) → 120 - v8_4 ≤ (k : Int) → Rn (gG D cI cJ cZ cT lo b L xs) mX2_price d 8 [(0, .ref s), (1, .ref ga), (2, .int (iv x2)), (3, .int (iv x3)), (4, .int (iv v8_4))] [] hp8 n 0 0 (fun r9 hp1 n1 => n1 = n ∧ ∃ (L1 : Int) (B1 lt1 lh1 lr1 lc1 : Nat → Int) (De1 : Nat → Int64) (q : Int64), Tw (LSt Γ cI cJ s L1 B1 lt1 lh1 lr1 lc1 De1) hp1 ∧ (0 ≤ L1 ∧ L1 ≤ 240) ∧ Rfx 16 0 239 B1 ∧ Rfx 240 0 15 lt1 ∧ Rfx 240 0 15 lh1 ∧ r9 = some (.long q) ∧ prcA gm gdr F T W C (Int.toNat x2) (Int.toNat x3) q.toInt) := by
    refine lpS _ ?_
    intro k8 ih8 Lk8 lt8 lh8 lr8 lc8 hp8 ht8 v8_4 hf8 hm8
    obtain ⟨hf8_0, hf8_1, hf8_2, hf8_3, ha8_4, ha8_5, ha8_6⟩ := hf8
    refine r_iload (pc := 8) dX2_price_8 rfl ?_
    refine r_aload_n (pc := 10) dX2_price_10 (i := 1) rfl rfl ?_
    refine t_getE (pc := 11) (.int (iv (gq : Int))) ht8 (rd_ov (by omega) (rd_ov (by omega) (rd_ov (by omega) (rd_ov (by omega) (rd_ov (by omega) (rd_ov (by omega) (rd_ov (by omega) hg_O))))))) fX2_43 dX2_price_11 rfl ?_
    refine t_icmp_ge (pc := 14) (tgt := 126) dX2_price_14 (by decide) (by omega) (by omega) (fun c14 => ?_) (fun c14 => ?_)
    · have huq := (by assumption : ukQ Tl Hd By W C Lk8 lt8 lh8 lr8 lc8 (Int.toNat v8_4))
      rw [show Int.toNat v8_4 = gq by omega] at huq
      obtain ⟨c, u, w, ⟨hLc, hcq⟩, hlk0, h3, h4, h5⟩ := huq
      have hFc : ∀ i, i < c → (0 ≤ Tl (u i) ∧ Tl (u i) < (gn : Int)) ∧ 0 ≤ Hd (u i) ∧ Hd (u i) < (gn : Int) := fun i hi => by have g9 := hrg_Tl (u i) (h3 i hi).1; have g8 := hrg_Hd (u i) (h3 i hi).1; omega
      have hTL := lk_tl (lt := lt8) (lh := lh8) (lr := lr8) (lc := lc8) (F := (fun i => Tl (u i))) (T := (fun i => Hd (u i))) (W := (fun i => W (By (u i)).toNat)) (C := (fun i => cpR C (By (u i)).toNat)) (h := fun _ => 0) (n := gn) hFc
      have hcap := br_cap hgo hrg_W (by omega) h5 ((Int.toNat x2 : Nat) : Int)
      have hCc : ∀ i, i < c → 0 ≤ (fun i => cpR C (By (u i)).toNat) i ∧ (fun i => cpR C (By (u i)).toNat) i ≤ 1000 := fun i hi => (hlk0.2 i hi).2.1
      refine r_lconst (pc := 126) (v := 0) dX2_price_126 (by decide) ?_
      have hk126 : (0 : Int64).toInt = 0 := by decide
      refine r_lstore (pc := 127) (lv' := [(4, .long (0 : Int64)), (0, .ref s), (1, .ref ga), (2, .int (iv x2)), (3, .int (iv x3))]) dX2_price_127 (by decide) rfl ?_
      refine r_iconst (pc := 129) (v := iv 0) dX2_price_129 (by decide) ?_
      refine r_istore (pc := 130) (lv' := [(6, .int (iv 0)), (4, .long (0 : Int64)), (0, .ref s), (1, .ref ga), (2, .int (iv x2)), (3, .int (iv x3))]) dX2_price_130 (by decide) rfl ?_
      have B132 : ∀ k : Nat, ∀ B132 : Nat → Int, ∀ lr132 : Nat → Int, ∀ De132 : Nat → Int64, ∀ hp132 : MH, Tw (ov (ov (ov (ov (ov (ov (ov Γ s (tO 2 (flG s Lk8))) (s + 2) (xI cI 16 B132)) (s + 4) (xI cI 240 lt8)) (s + 5) (xI cI 240 lh8)) (s + 6) (xI cI 240 lr132)) (s + 7) (xI cI 240 lc8)) (s + 8) (xJ cJ 16 De132)) hp132 → ∀  (v132_6 : Int) (w132_4 : Int64), 0 ≤ v132_6 ∧ v132_6 ≤ 60001 ∧ (Rfx 16 0 239 B132) ∧ (pcI lt8 lh8 lr132 lc8 (fun i => Tl (u i)) (fun i => Hd (u i)) (fun i => W (By (u i)).toNat) (fun i => cpR C (By (u i)).toNat) c (Int.toNat x2) (Int.toNat x3) w132_4.toInt v132_6) → 60001 - v132_6 ≤ (k : Int) → Rn (gG D cI cJ cZ cT lo b L xs) mX2_price d 132 [(0, .ref s), (1, .ref ga), (2, .int (iv x2)), (3, .int (iv x3)), (4, .long w132_4), (6, .int (iv v132_6))] [] hp132 n 0 0 (fun r9 hp1 n1 => n1 = n ∧ ∃ (L1 : Int) (B1 lt1 lh1 lr1 lc1 : Nat → Int) (De1 : Nat → Int64) (q : Int64), Tw (LSt Γ cI cJ s L1 B1 lt1 lh1 lr1 lc1 De1) hp1 ∧ (0 ≤ L1 ∧ L1 ≤ 240) ∧ Rfx 16 0 239 B1 ∧ Rfx 240 0 15 lt1 ∧ Rfx 240 0 15 lh1 ∧ r9 = some (.long q) ∧ prcA gm gdr F T W C (Int.toNat x2) (Int.toNat x3) q.toInt) := by
        refine lpS _ ?_
        intro k132 ih132 B132 lr132 De132 hp132 ht132 v132_6 w132_4 hf132 hm132
        obtain ⟨hf132_0, hf132_1, ha132_2, ha132_3⟩ := hf132
        refine r_iload (pc := 132) dX2_price_132 rfl ?_
        obtain ⟨h0, p0, v0, g1, g2, g3, ⟨g4, g5⟩, g6⟩ := (by assumption : pcI lt8 lh8 lr132 lc8 (fun i => Tl (u i)) (fun i => Hd (u i)) (fun i => W (By (u i)).toNat) (fun i => cpR C (By (u i)).toNat) c (Int.toNat x2) (Int.toNat x3) w132_4.toInt v132_6)
        have hvc := fl_cap ⟨g2, g5⟩ (fun i hi => (hlk0.2 i hi).1.1) (fun i hi => by have g9 := hFc i hi; exact ⟨g9.1.1, g9.2.1⟩) (show Int.toNat x2 ≠ Int.toNat x3 by omega)
        have hrd : v132_6 ≤ 60000 := Int.le_trans g4 (Int.le_trans hvc hcap)
        have hsb := pc_b g1 g2 (by omega)
        refine r_ldc (pc := 134) (v := iv 60001) dX2_price_134 kX2_67 ?_
        refine t_icmp_ge (pc := 136) (tgt := 176) dX2_price_136 (by decide) (by omega) (by omega) (fun c136 => ?_) (fun c136 => ?_)
        · exfalso
          omega
        · refine r_aload_n (pc := 139) dX2_price_139 (i := 0) rfl rfl ?_
          refine r_aload_n (pc := 140) dX2_price_140 (i := 1) rfl rfl ?_
          refine t_getE (pc := 141) (.int (iv (gn : Int))) ht132 (rd_ov (by omega) (rd_ov (by omega) (rd_ov (by omega) (rd_ov (by omega) (rd_ov (by omega) (rd_ov (by omega) (rd_ov (by omega) hg_O))))))) fX2_68 dX2_price_141 rfl ?_
          refine r_iload_n (pc := 144) dX2_price_144 (i := 2) rfl rfl ?_
          refine r_iload_n (pc := 145) dX2_price_145 (i := 3) rfl rfl ?_
          obtain ⟨fs9, hfs9⟩ := t_obj ht132 (rd_ov (by omega) (rd_ov (by omega) (rd_ov (by omega) (rd_ov (by omega) (rd_ov (by omega) (rd_ov (by omega) (rd_of (ov_s _ _ _))))))))
          refine r_callV (pc := 146) (as := [.int (iv (gn : Int)), .int (iv x2), .int (iv x3)]) (st := []) kX2_99 rfl dX2_price_146 hfs9 (c_X2_findCheapestx (d := d - 1) (x1 := (gn : Int)) (x2 := x2) (x3 := x3) (p := p0) (by omega) (by omega) (by assumption : Rfx 16 0 239 B132) (by assumption : Rfx 240 0 15 lt8) (by assumption : Rfx 240 0 15 lh8) ht132 hLc g1 g2 g3 hTL (by omega) (by omega) (by omega) (by omega)) rfl (by omega) (Nat.le_of_ble_eq_true rfl) (Nat.zero_le _) (Nat.zero_le _) rfl (fun r3 hp4 n5 q6 => ?_)
          obtain ⟨hnn5, B1, De1, v1, ht7, hB1, hfa1, hrr3, hbf, hcv, hq1⟩ := q6
          subst n5 r3
          rw [Int.toNat_natCast] at hbf
          have bv1 : 0 ≤ v1 ∧ v1 ≤ 1 := by rcases hq1 with ⟨e9, -⟩ | ⟨e9, -⟩ <;> omega
          change Rn _ _ _ 149 _ [.int (iv v1)] _ _ _ _ _
          refine t_if_eq (pc := 149) (tgt := 176) dX2_price_149 (by decide) (by omega) (fun c149 => ?_) (fun c149 => ?_)
          · have hend := br_pr hgo h3 h4 h5 (pc_end g1 g2 g3 g5 hbf hcv hTL (hq1.resolve_left (fun g9 => by have := g9.1; omega)).2)
            clear hq1
            refine r_lload (pc := 176) dX2_price_176 rfl ?_
            exact r_lret (pc := 178) dX2_price_178 rfl ⟨rfl, Lk8, B1, lt8, lh8, lr132, lc8, De1, _, ht7, by omega, hB1, by assumption, by assumption, rfl, by rw [g6]; exact hend⟩
          · have hDy := (hq1.resolve_right (fun g9 => by have := g9.1; omega)).2
            obtain ⟨j0, p1, hj0, hj15, hp1, hpd, hwy⟩ := pc_way hbf g3 hcv hTL hCc (show Int.toNat x3 < gn by omega) (by rw [dtc_y hDy]; exact hDy)
            clear hq1
            refine r_lload (pc := 152) dX2_price_152 rfl ?_
            refine r_aload_n (pc := 154) dX2_price_154 (i := 0) rfl rfl ?_
            refine r_iload_n (pc := 155) dX2_price_155 (i := 2) rfl rfl ?_
            refine r_iload_n (pc := 156) dX2_price_156 (i := 3) rfl rfl ?_
            obtain ⟨fs8, hfs8⟩ := t_obj ht7 (rd_ov (by omega) (rd_ov (by omega) (rd_ov (by omega) (rd_ov (by omega) (rd_ov (by omega) (rd_ov (by omega) (rd_of (ov_s _ _ _))))))))
            refine r_callV (pc := 157) (as := [.int (iv x2), .int (iv x3)]) (st := [.long w132_4]) kX2_102 rfl dX2_price_157 hfs8 (c_X2_pushLinksx (d := d - 1) (x1 := x2) (x2 := x3) (nn := gn) (j0 := j0) (p := p1) (by omega) (by omega) (by assumption : Rfx 16 0 239 B1) (by assumption : Rfx 240 0 15 lt8) (by assumption : Rfx 240 0 15 lh8) ht7 hLc g1 g2 hp1 hTL (by omega) (by omega) (by omega) (by omega) (by omega) hwy hpd hj0 hj15 (by rw [dtc_y hDy]; exact hDy)) rfl (by omega) (Nat.le_of_ble_eq_true rfl) (Nat.zero_le _) (Nat.zero_le _) rfl (fun r8 hp9 n10 q11 => ?_)
            obtain ⟨hnn10, lr1, h1, a1, ht12, q1, hrr8, hqa, ha1, k1, k2, k3, k4, k5⟩ := q11
            subst n10 r8
            change Rn _ _ _ 160 _ [.long q1, .long w132_4] _ _ _ _ _
            refine r_aload_n (pc := 160) dX2_price_160 (i := 0) rfl rfl ?_
            refine t_getE (pc := 161) (.ref (s + 8)) ht12 (rd_ov (by omega) (rd_ov (by omega) (rd_ov (by omega) (rd_ov (by omega) (rd_ov (by omega) (rd_ov (by omega) (rd_of (ov_s _ _ _)))))))) fX2_33 dX2_price_161 rfl ?_
            refine r_iload_n (pc := 164) dX2_price_164 (i := 3) rfl rfl ?_
            refine t_laldX (pc := 165) (t0 := 1) ht12 (rd_of (ov_s _ _ _)) dX2_price_165 rfl (by decide) (by omega) ?_
            refine r_lmul (pc := 166) (v := q1 * (De1 (Int.toNat x3))) dX2_price_166 rfl ?_
            refine r_ladd (pc := 167) (v := w132_4 + (q1 * (De1 (Int.toNat x3)))) dX2_price_167 rfl ?_
            have hsb1 := pc_b k1 k2 (by omega)
            have hmul : q1.toInt * (De1 (Int.toNat x3)).toInt = lcS c (fun i => cpR C (By (u i)).toNat) h1 - lcS c (fun i => cpR C (By (u i)).toNat) h0 := by rw [k4, hbf.1, dtc_y hDy, Int.sub_zero, hqa]; omega
            have hml := l_mul (x := q1) (y := De1 (Int.toNat x3)) (by omega)
            have hpc1 : pcI lt8 lh8 lr1 lc8 (fun i => Tl (u i)) (fun i => Hd (u i)) (fun i => W (By (u i)).toNat) (fun i => cpR C (By (u i)).toNat) c (Int.toNat x2) (Int.toNat x3) (w132_4 + (q1 * (De1 (Int.toNat x3)))).toInt (v132_6 + 1) := ⟨h1, p1, v0 + a1, k1, k2, k3, ⟨by omega, fun φ => by rw [k5.1 φ, g5 φ, Int.add_mul]⟩, by rw [l_add (by omega), hml]; omega⟩
            refine r_lstore (pc := 168) (lv' := [(4, .long (w132_4 + (q1 * (De1 (Int.toNat x3))))), (0, .ref s), (1, .ref ga), (2, .int (iv x2)), (3, .int (iv x3)), (6, .int (iv v132_6))]) dX2_price_168 (by decide) rfl ?_
            refine r_iinc (pc := 170) (v := iv (v132_6 + 1)) (lv' := [(6, .int (iv (v132_6 + 1))), (4, .long (w132_4 + (q1 * (De1 (Int.toNat x3))))), (0, .ref s), (1, .ref ga), (2, .int (iv x2)), (3, .int (iv x3))]) dX2_price_170 rfl (iv_add _ _) (by decide) rfl ?_
            refine r_goto (pc := 173) (tgt := 132) dX2_price_173 (by decide) ?_
            refine Rn.pick (lv' := [(0, .ref s), (1, .ref ga), (2, .int (iv x2)), (3, .int (iv x3)), (4, .long (w132_4 + (q1 * (De1 (Int.toNat x3))))), (6, .int (iv (v132_6 + 1)))]) [2, 3, 4, 5, 1, 0] rfl ?_
            exact ih132 (Int.toNat (60001 - (v132_6 + 1))) (by omega) B1 lr1 De1 _ ht12 (v132_6 + 1) (w132_4 + (q1 * (De1 (Int.toNat x3)))) ⟨by omega, by omega, by (first | exact hB1 | exact hB0), by (first | exact hpc1 | exact pc_0 hlk0 hk126)⟩ (by omega)
      refine Rn.pick (lv' := [(0, .ref s), (1, .ref ga), (2, .int (iv x2)), (3, .int (iv x3)), (4, .long (0 : Int64)), (6, .int (iv 0))]) [2, 3, 4, 5, 1, 0] rfl ?_
      exact B132 (Int.toNat (60001 - 0)) B lr8 De _ ht8 0 (0 : Int64) ⟨by omega, by omega, by (first | exact hB1 | exact hB0), by (first | exact hpc1 | exact pc_0 hlk0 hk126)⟩ (by omega)
    · refine r_aload_n (pc := 17) dX2_price_17 (i := 1) rfl rfl ?_
      refine t_getE (pc := 18) (.ref gBy) ht8 (rd_ov (by omega) (rd_ov (by omega) (rd_ov (by omega) (rd_ov (by omega) (rd_ov (by omega) (rd_ov (by omega) (rd_ov (by omega) hg_O))))))) fX2_52 dX2_price_18 rfl ?_
      refine r_iload (pc := 21) dX2_price_21 rfl ?_
      refine t_ialdX (pc := 23) (t0 := 0) ht8 (rd_ov (by omega) (rd_ov (by omega) (rd_ov (by omega) (rd_ov (by omega) (rd_ov (by omega) (rd_ov (by omega) (rd_ov (by omega) hxg_By))))))) dX2_price_23 rfl (by omega) (by omega) (fun b13 => ?_)
      have rb13 := (show Rfx gq 0 ((gm : Int) - 1) By by assumption) (Int.toNat v8_4) (by omega)
      have hByk := hrg_By (Int.toNat v8_4) (by omega)
      have hTlk := hrg_Tl (Int.toNat v8_4) (by omega)
      have hHdk := hrg_Hd (Int.toNat v8_4) (by omega)
      have hWk := hrg_W (Int.toNat (By (Int.toNat v8_4))) (by omega)
      have hCk := hrg_C (Int.toNat (By (Int.toNat v8_4))) (by omega)
      refine r_istore (pc := 24) (lv' := [(5, .int (iv (By (Int.toNat v8_4)))), (0, .ref s), (1, .ref ga), (2, .int (iv x2)), (3, .int (iv x3)), (4, .int (iv v8_4))]) dX2_price_24 (by decide) rfl ?_
      refine r_aload_n (pc := 26) dX2_price_26 (i := 1) rfl rfl ?_
      refine t_getE (pc := 27) (.ref gW) ht8 (rd_ov (by omega) (rd_ov (by omega) (rd_ov (by omega) (rd_ov (by omega) (rd_ov (by omega) (rd_ov (by omega) (rd_ov (by omega) hg_O))))))) fX2_49 dX2_price_27 rfl ?_
      refine r_iload (pc := 30) dX2_price_30 rfl ?_
      refine t_ialdX (pc := 32) (t0 := 0) ht8 (rd_ov (by omega) (rd_ov (by omega) (rd_ov (by omega) (rd_ov (by omega) (rd_ov (by omega) (rd_ov (by omega) (rd_ov (by omega) hxg_W))))))) dX2_price_32 rfl (by omega) (by omega) (fun b14 => ?_)
      have rb14 := (show Rfx gm (-1000) 1000 W by assumption) (Int.toNat (By (Int.toNat v8_4))) (by omega)
      refine t_if_le (pc := 33) (tgt := 120) dX2_price_33 (by decide) (by omega) (fun c33 => ?_) (fun c33 => ?_)
      · have huk : ukQ Tl Hd By W C Lk8 lt8 lh8 lr8 lc8 (Int.toNat (v8_4 + 1)) := by rw [show Int.toNat (v8_4 + 1) = (Int.toNat v8_4) + 1 by omega]; exact uk_no (by assumption : ukQ Tl Hd By W C Lk8 lt8 lh8 lr8 lc8 (Int.toNat v8_4)) (fun g9 => by have := g9.1; omega)
        refine r_iinc (pc := 120) (v := iv (v8_4 + 1)) (lv' := [(4, .int (iv (v8_4 + 1))), (5, .int (iv (By (Int.toNat v8_4)))), (0, .ref s), (1, .ref ga), (2, .int (iv x2)), (3, .int (iv x3))]) dX2_price_120 rfl (iv_add _ _) (by decide) rfl ?_
        refine r_goto (pc := 123) (tgt := 8) dX2_price_123 (by decide) ?_
        refine Rn.pick (lv' := [(0, .ref s), (1, .ref ga), (2, .int (iv x2)), (3, .int (iv x3)), (4, .int (iv (v8_4 + 1)))]) [2, 3, 4, 5, 0] rfl ?_
        exact ih8 (Int.toNat (120 - (v8_4 + 1))) (by omega) Lk8 lt8 lh8 lr8 lc8 _ ht8 (v8_4 + 1) ⟨by omega, by omega, by omega, by omega, by (first | exact hlt117 | assumption | exact hlt0), by (first | exact hlh117 | assumption | exact hlh0), by (first | exact huk | exact uk_0)⟩ (by omega)
      · refine r_aload_n (pc := 36) dX2_price_36 (i := 1) rfl rfl ?_
        refine t_getE (pc := 37) (.ref gTl) ht8 (rd_ov (by omega) (rd_ov (by omega) (rd_ov (by omega) (rd_ov (by omega) (rd_ov (by omega) (rd_ov (by omega) (rd_ov (by omega) hg_O))))))) fX2_61 dX2_price_37 rfl ?_
        refine r_iload (pc := 40) dX2_price_40 rfl ?_
        refine t_ialdX (pc := 42) (t0 := 0) ht8 (rd_ov (by omega) (rd_ov (by omega) (rd_ov (by omega) (rd_ov (by omega) (rd_ov (by omega) (rd_ov (by omega) (rd_ov (by omega) hxg_Tl))))))) dX2_price_42 rfl (by omega) (by omega) (fun b15 => ?_)
        have rb15 := (show Rfx gq 0 ((gn : Int) - 1) Tl by assumption) (Int.toNat v8_4) (by omega)
        refine r_aload_n (pc := 43) dX2_price_43 (i := 1) rfl rfl ?_
        refine t_getE (pc := 44) (.ref gHd) ht8 (rd_ov (by omega) (rd_ov (by omega) (rd_ov (by omega) (rd_ov (by omega) (rd_ov (by omega) (rd_ov (by omega) (rd_ov (by omega) hg_O))))))) fX2_64 dX2_price_44 rfl ?_
        refine r_iload (pc := 47) dX2_price_47 rfl ?_
        refine t_ialdX (pc := 49) (t0 := 0) ht8 (rd_ov (by omega) (rd_ov (by omega) (rd_ov (by omega) (rd_ov (by omega) (rd_ov (by omega) (rd_ov (by omega) (rd_ov (by omega) hxg_Hd))))))) dX2_price_49 rfl (by omega) (by omega) (fun b16 => ?_)
        have rb16 := (show Rfx gq 0 ((gn : Int) - 1) Hd by assumption) (Int.toNat v8_4) (by omega)
        refine t_icmp_eq (pc := 50) (tgt := 120) dX2_price_50 (by decide) (by omega) (by omega) (fun c50 => ?_) (fun c50 => ?_)
        · have huk : ukQ Tl Hd By W C Lk8 lt8 lh8 lr8 lc8 (Int.toNat (v8_4 + 1)) := by rw [show Int.toNat (v8_4 + 1) = (Int.toNat v8_4) + 1 by omega]; exact uk_no (by assumption : ukQ Tl Hd By W C Lk8 lt8 lh8 lr8 lc8 (Int.toNat v8_4)) (fun g9 => g9.2 (by omega))
          refine r_iinc (pc := 120) (v := iv (v8_4 + 1)) (lv' := [(4, .int (iv (v8_4 + 1))), (5, .int (iv (By (Int.toNat v8_4)))), (0, .ref s), (1, .ref ga), (2, .int (iv x2)), (3, .int (iv x3))]) dX2_price_120 rfl (iv_add _ _) (by decide) rfl ?_
          refine r_goto (pc := 123) (tgt := 8) dX2_price_123 (by decide) ?_
          refine Rn.pick (lv' := [(0, .ref s), (1, .ref ga), (2, .int (iv x2)), (3, .int (iv x3)), (4, .int (iv (v8_4 + 1)))]) [2, 3, 4, 5, 0] rfl ?_
          exact ih8 (Int.toNat (120 - (v8_4 + 1))) (by omega) Lk8 lt8 lh8 lr8 lc8 _ ht8 (v8_4 + 1) ⟨by omega, by omega, by omega, by omega, by (first | exact hlt117 | assumption | exact hlt0), by (first | exact hlh117 | assumption | exact hlh0), by (first | exact huk | exact uk_0)⟩ (by omega)
        · have hus : usG Tl Hd By W (Int.toNat v8_4) := ⟨by omega, by omega⟩
          refine r_aload_n (pc := 53) dX2_price_53 (i := 0) rfl rfl ?_
          refine r_aload_n (pc := 54) dX2_price_54 (i := 1) rfl rfl ?_
          refine t_getE (pc := 55) (.ref gTl) ht8 (rd_ov (by omega) (rd_ov (by omega) (rd_ov (by omega) (rd_ov (by omega) (rd_ov (by omega) (rd_ov (by omega) (rd_ov (by omega) hg_O))))))) fX2_61 dX2_price_55 rfl ?_
          refine r_iload (pc := 58) dX2_price_58 rfl ?_
          refine t_ialdX (pc := 60) (t0 := 0) ht8 (rd_ov (by omega) (rd_ov (by omega) (rd_ov (by omega) (rd_ov (by omega) (rd_ov (by omega) (rd_ov (by omega) (rd_ov (by omega) hxg_Tl))))))) dX2_price_60 rfl (by omega) (by omega) (fun b17 => ?_)
          have rb17 := (show Rfx gq 0 ((gn : Int) - 1) Tl by assumption) (Int.toNat v8_4) (by omega)
          refine r_aload_n (pc := 61) dX2_price_61 (i := 1) rfl rfl ?_
          refine t_getE (pc := 62) (.ref gHd) ht8 (rd_ov (by omega) (rd_ov (by omega) (rd_ov (by omega) (rd_ov (by omega) (rd_ov (by omega) (rd_ov (by omega) (rd_ov (by omega) hg_O))))))) fX2_64 dX2_price_62 rfl ?_
          refine r_iload (pc := 65) dX2_price_65 rfl ?_
          refine t_ialdX (pc := 67) (t0 := 0) ht8 (rd_ov (by omega) (rd_ov (by omega) (rd_ov (by omega) (rd_ov (by omega) (rd_ov (by omega) (rd_ov (by omega) (rd_ov (by omega) hxg_Hd))))))) dX2_price_67 rfl (by omega) (by omega) (fun b18 => ?_)
          have rb18 := (show Rfx gq 0 ((gn : Int) - 1) Hd by assumption) (Int.toNat v8_4) (by omega)
          refine r_aload_n (pc := 68) dX2_price_68 (i := 1) rfl rfl ?_
          refine t_getE (pc := 69) (.ref gW) ht8 (rd_ov (by omega) (rd_ov (by omega) (rd_ov (by omega) (rd_ov (by omega) (rd_ov (by omega) (rd_ov (by omega) (rd_ov (by omega) hg_O))))))) fX2_49 dX2_price_69 rfl ?_
          refine r_iload (pc := 72) dX2_price_72 rfl ?_
          refine t_ialdX (pc := 74) (t0 := 0) ht8 (rd_ov (by omega) (rd_ov (by omega) (rd_ov (by omega) (rd_ov (by omega) (rd_ov (by omega) (rd_ov (by omega) (rd_ov (by omega) hxg_W))))))) dX2_price_74 rfl (by omega) (by omega) (fun b19 => ?_)
          have rb19 := (show Rfx gm (-1000) 1000 W by assumption) (Int.toNat (By (Int.toNat v8_4))) (by omega)
          refine r_iconst (pc := 75) (v := iv 0) dX2_price_75 (by decide) ?_
          refine r_aload_n (pc := 76) dX2_price_76 (i := 1) rfl rfl ?_
          refine t_getE (pc := 77) (.ref gC) ht8 (rd_ov (by omega) (rd_ov (by omega) (rd_ov (by omega) (rd_ov (by omega) (rd_ov (by omega) (rd_ov (by omega) (rd_ov (by omega) hg_O))))))) fX2_92 dX2_price_77 rfl ?_
          refine r_iload (pc := 80) dX2_price_80 rfl ?_
          refine t_ialdX (pc := 82) (t0 := 0) ht8 (rd_ov (by omega) (rd_ov (by omega) (rd_ov (by omega) (rd_ov (by omega) (rd_ov (by omega) (rd_ov (by omega) (rd_ov (by omega) hxg_C))))))) dX2_price_82 rfl (by omega) (by omega) (fun b20 => ?_)
          have rb20 := (show Rfx gm (-1000) 1000 C by assumption) (Int.toNat (By (Int.toNat v8_4))) (by omega)
          obtain ⟨z21, hz21, bz21⟩ := max_b 0 (C (Int.toNat (By (Int.toNat v8_4)))) (by omega) (by omega)
          refine r_mmax (pc := 83) (v := iv z21) qX2_55 dX2_price_83 (Nat.le_of_ble_eq_true rfl) hz21 ?_
          have e83 : z21 = cpR C (By (Int.toNat v8_4)).toNat := cp_mx rfl (by omega)
          have hL8 : 0 ≤ Lk8 ∧ Lk8 ≤ 2 * v8_4 := by assumption
          obtain ⟨fs86, hfs86⟩ := t_obj ht8 (rd_ov (by omega) (rd_ov (by omega) (rd_ov (by omega) (rd_ov (by omega) (rd_ov (by omega) (rd_ov (by omega) (rd_of (ov_s _ _ _))))))))
          refine r_callV (pc := 86) (as := [.int (iv (Tl (Int.toNat v8_4))), .int (iv (Hd (Int.toNat v8_4))), .int (iv (W (Int.toNat (By (Int.toNat v8_4))))), .int (iv z21)]) (st := []) kX2_95 rfl dX2_price_86 hfs86 (c_X2_addLinkx (d := d - 1) (x1 := Tl (Int.toNat v8_4)) (x2 := Hd (Int.toNat v8_4)) (x3 := W (Int.toNat (By (Int.toNat v8_4)))) (x4 := z21) (by omega) (by omega) hB0 (by assumption : Rfx 240 0 15 lt8) (by assumption : Rfx 240 0 15 lh8) ht8 (by omega) (by omega) (by omega) (by omega) (by omega)) rfl (by omega) (Nat.le_of_ble_eq_true rfl) (Nat.zero_le _) (Nat.zero_le _) rfl (fun r22 hp23 n24 q25 => ?_)
          obtain ⟨hnn24, hrr22, ht26, hlt86, hlh86⟩ := q25
          subst n24 r22
          change Rn _ _ _ 89 _ [] _ _ _ _ _
          refine r_aload_n (pc := 89) dX2_price_89 (i := 0) rfl rfl ?_
          refine r_aload_n (pc := 90) dX2_price_90 (i := 1) rfl rfl ?_
          refine t_getE (pc := 91) (.ref gHd) ht26 (rd_ov (by omega) (rd_ov (by omega) (rd_ov (by omega) (rd_ov (by omega) (rd_ov (by omega) (rd_ov (by omega) (rd_ov (by omega) hg_O))))))) fX2_64 dX2_price_91 rfl ?_
          refine r_iload (pc := 94) dX2_price_94 rfl ?_
          refine t_ialdX (pc := 96) (t0 := 0) ht26 (rd_ov (by omega) (rd_ov (by omega) (rd_ov (by omega) (rd_ov (by omega) (rd_ov (by omega) (rd_ov (by omega) (rd_ov (by omega) hxg_Hd))))))) dX2_price_96 rfl (by omega) (by omega) (fun b27 => ?_)
          have rb27 := (show Rfx gq 0 ((gn : Int) - 1) Hd by assumption) (Int.toNat v8_4) (by omega)
          refine r_aload_n (pc := 97) dX2_price_97 (i := 1) rfl rfl ?_
          refine t_getE (pc := 98) (.ref gTl) ht26 (rd_ov (by omega) (rd_ov (by omega) (rd_ov (by omega) (rd_ov (by omega) (rd_ov (by omega) (rd_ov (by omega) (rd_ov (by omega) hg_O))))))) fX2_61 dX2_price_98 rfl ?_
          refine r_iload (pc := 101) dX2_price_101 rfl ?_
          refine t_ialdX (pc := 103) (t0 := 0) ht26 (rd_ov (by omega) (rd_ov (by omega) (rd_ov (by omega) (rd_ov (by omega) (rd_ov (by omega) (rd_ov (by omega) (rd_ov (by omega) hxg_Tl))))))) dX2_price_103 rfl (by omega) (by omega) (fun b28 => ?_)
          have rb28 := (show Rfx gq 0 ((gn : Int) - 1) Tl by assumption) (Int.toNat v8_4) (by omega)
          refine r_iconst (pc := 104) (v := iv 0) dX2_price_104 (by decide) ?_
          refine r_iconst (pc := 105) (v := iv 0) dX2_price_105 (by decide) ?_
          refine r_aload_n (pc := 106) dX2_price_106 (i := 1) rfl rfl ?_
          refine t_getE (pc := 107) (.ref gC) ht26 (rd_ov (by omega) (rd_ov (by omega) (rd_ov (by omega) (rd_ov (by omega) (rd_ov (by omega) (rd_ov (by omega) (rd_ov (by omega) hg_O))))))) fX2_92 dX2_price_107 rfl ?_
          refine r_iload (pc := 110) dX2_price_110 rfl ?_
          refine t_ialdX (pc := 112) (t0 := 0) ht26 (rd_ov (by omega) (rd_ov (by omega) (rd_ov (by omega) (rd_ov (by omega) (rd_ov (by omega) (rd_ov (by omega) (rd_ov (by omega) hxg_C))))))) dX2_price_112 rfl (by omega) (by omega) (fun b29 => ?_)
          have rb29 := (show Rfx gm (-1000) 1000 C by assumption) (Int.toNat (By (Int.toNat v8_4))) (by omega)
          obtain ⟨z30, hz30, bz30⟩ := max_b 0 (C (Int.toNat (By (Int.toNat v8_4)))) (by omega) (by omega)
          refine r_mmax (pc := 113) (v := iv z30) qX2_55 dX2_price_113 (Nat.le_of_ble_eq_true rfl) hz30 ?_
          have e113 : z30 = cpR C (By (Int.toNat v8_4)).toNat := cp_mx rfl (by omega)
          refine r_ineg (pc := 116) (v := iv (-z30)) dX2_price_116 (iv_neg _) ?_
          obtain ⟨fs117, hfs117⟩ := t_obj ht26 (rd_ov (by omega) (rd_ov (by omega) (rd_ov (by omega) (rd_ov (by omega) (rd_ov (by omega) (rd_ov (by omega) (rd_of (ov_s _ _ _))))))))
          refine r_callV (pc := 117) (as := [.int (iv (Hd (Int.toNat v8_4))), .int (iv (Tl (Int.toNat v8_4))), .int (iv 0), .int (iv (-z30))]) (st := []) kX2_95 rfl dX2_price_117 hfs117 (c_X2_addLinkx (d := d - 1) (x1 := Hd (Int.toNat v8_4)) (x2 := Tl (Int.toNat v8_4)) (x3 := 0) (x4 := -z30) (by omega) (by omega) hB0 hlt86 hlh86 ht26 (by omega) (by omega) (by omega) (by omega) (by omega)) rfl (by omega) (Nat.le_of_ble_eq_true rfl) (Nat.zero_le _) (Nat.zero_le _) rfl (fun r31 hp32 n33 q34 => ?_)
          obtain ⟨hnn33, hrr31, ht35, hlt117, hlh117⟩ := q34
          subst n33 r31
          change Rn _ _ _ 120 _ [] _ _ _ _ _
          have huk : ukQ Tl Hd By W C ((Lk8 + 1) + 1) (fup (fup lt8 (Int.toNat Lk8) (Tl (Int.toNat v8_4))) (Int.toNat (Lk8 + 1)) (Hd (Int.toNat v8_4))) (fup (fup lh8 (Int.toNat Lk8) (Hd (Int.toNat v8_4))) (Int.toNat (Lk8 + 1)) (Tl (Int.toNat v8_4))) (fup (fup lr8 (Int.toNat Lk8) (W (Int.toNat (By (Int.toNat v8_4))))) (Int.toNat (Lk8 + 1)) 0) (fup (fup lc8 (Int.toNat Lk8) z21) (Int.toNat (Lk8 + 1)) (-z30)) (Int.toNat (v8_4 + 1)) := by rw [show Int.toNat (v8_4 + 1) = (Int.toNat v8_4) + 1 by omega]; exact uk_yes (by assumption : ukQ Tl Hd By W C Lk8 lt8 lh8 lr8 lc8 (Int.toNat v8_4)) hus hWk.2 rfl rfl rfl ⟨e83, by omega⟩ (by omega)
          refine r_iinc (pc := 120) (v := iv (v8_4 + 1)) (lv' := [(4, .int (iv (v8_4 + 1))), (5, .int (iv (By (Int.toNat v8_4)))), (0, .ref s), (1, .ref ga), (2, .int (iv x2)), (3, .int (iv x3))]) dX2_price_120 rfl (iv_add _ _) (by decide) rfl ?_
          refine r_goto (pc := 123) (tgt := 8) dX2_price_123 (by decide) ?_
          refine Rn.pick (lv' := [(0, .ref s), (1, .ref ga), (2, .int (iv x2)), (3, .int (iv x3)), (4, .int (iv (v8_4 + 1)))]) [2, 3, 4, 5, 0] rfl ?_
          exact ih8 (Int.toNat (120 - (v8_4 + 1))) (by omega) ((Lk8 + 1) + 1) (fup (fup lt8 (Int.toNat Lk8) (Tl (Int.toNat v8_4))) (Int.toNat (Lk8 + 1)) (Hd (Int.toNat v8_4))) (fup (fup lh8 (Int.toNat Lk8) (Hd (Int.toNat v8_4))) (Int.toNat (Lk8 + 1)) (Tl (Int.toNat v8_4))) (fup (fup lr8 (Int.toNat Lk8) (W (Int.toNat (By (Int.toNat v8_4))))) (Int.toNat (Lk8 + 1)) 0) (fup (fup lc8 (Int.toNat Lk8) z21) (Int.toNat (Lk8 + 1)) (-z30)) _ ht35 (v8_4 + 1) ⟨by omega, by omega, by omega, by omega, by (first | exact hlt117 | assumption | exact hlt0), by (first | exact hlh117 | assumption | exact hlh0), by (first | exact huk | exact uk_0)⟩ (by omega)
  refine Rn.pick (lv' := [(0, .ref s), (1, .ref ga), (2, .int (iv x2)), (3, .int (iv x3)), (4, .int (iv 0))]) [1, 2, 3, 4, 0] rfl ?_
  exact B8 (Int.toNat (120 - 0)) 0 lt lh lr lc _ ht2 0 ⟨by omega, by omega, by omega, by omega, by (first | exact hlt117 | assumption | exact hlt0), by (first | exact hlh117 | assumption | exact hlh0), by (first | exact huk | exact uk_0)⟩ (by omega)
