theorem mul_nn {n : Nat} {u : Int} (h0 : 0 ≤ u) (h1 : u < (n : Int)) : 0 ≤ u * (n : Int) ∧ u * (n : Int) + (n : Int) ≤ (n : Int) * (n : Int) := by
  have h2 : 0 ≤ u * (n : Int) := Int.mul_nonneg h0 (by omega)
  have h3 : (u + 1) * (n : Int) ≤ (n : Int) * (n : Int) := Int.mul_le_mul_of_nonneg_right (by omega) (by omega)
  rw [Int.add_mul, Int.one_mul] at h3
  exact ⟨h2, h3⟩
set_option maxHeartbeats 4000000 in
set_option maxRecDepth 100000 in
theorem t_X10_traceLowTox {D : va_G} {cI cJ cZ cT : ClassId} {lo b L : Nat} {xs : Nat → Int32} {hp : MH} {n d : Nat} {Γ : TG} {ga : Nat} {gF : Nat} {gT : Nat} {gW : Nat} {gC : Nat} {gTl : Nat} {gHd : Nat} {gBy : Nat} {gOu : Nat} {gIn : Nat} {gJo : Nat} {gn : Nat} {gm : Nat} {gq : Nat} {gdr : Int} {Tl Hd By Wt Lf : Nat → Int} {wa : Nat} {x1 x2 : Int} (hd0 : 1 ≤ d) (hg : TyG Γ cI cJ cZ ga gF gT gW gC gTl gHd gBy gOu gIn gJo gn gm gq gdr) (hxT : rd Γ gTl (xI cI gq Tl)) (hxH : rd Γ gHd (xI cI gq Hd)) (hxB : rd Γ gBy (xI cI gq By)) (hxW : rd Γ gW (xI cI gm Wt)) (hrT : Rfx gq 0 ((gn : Int) - 1) Tl) (hrH : Rfx gq 0 ((gn : Int) - 1) Hd) (hrB : Rfx gq 0 ((gm : Int) - 1) By) (hrW : Rfx gm (-1000) 1000 Wt) (hwO : rd Γ wa (tO 9 [fE (.int (iv (gn : Int))), fE (.ref (wa + 1)), fE (.ref (wa + 2)), fE (.ref (wa + 3)), fE (.ref (wa + 4)), fE (.ref (wa + 5))])) (hS : rd Γ (wa + 1) (tI cI gn (rg 0 2))) (hWo : rd Γ (wa + 2) (tJ cJ gn anyJ)) (hL : rd Γ (wa + 3) (xI cI gn Lf)) (hRL : Rfx gn (-1) ((gn : Int) - 1) Lf) (hwM : Γ (wa + 4) = some (tJ cJ gn anyJ)) (hwR : Γ (wa + 5) = some (tI cI (gn * gn) (rg 0 59))) (ht : Tw Γ hp) (hx1 : 0 ≤ x1 ∧ x1 ≤ 1) (hx2 : 0 ≤ x2 ∧ x2 < (gn : Int)) (hl1 : 1 ≤ Lf (Int.toNat x2)) : Mt (gG D cI cJ cZ cT lo b L xs) mX10_traceLowTo d 0 0 [.ref wa, .ref ga, .int (iv x1), .int (iv x2)] hp n (pV Γ n) := by
  refine Mt.of rfl (Nat.le_of_ble_eq_true rfl) ?_
  refine Rn.pick (lv' := [(0, .ref wa), (1, .ref ga), (2, .int (iv x1)), (3, .int (iv x2))]) [0, 1, 2, 3] rfl ?_
  obtain ⟨hg_O, hg_from, hg_to, hg_weight, hg_cost, hg_tail, hg_head, hg_by, hg_out, hg_in, hg_joined, hg_b⟩ := id hg
  have hsq : gn * gn ≤ 256 := Nat.le_trans (Nat.mul_le_mul (show gn ≤ 16 by omega) (show gn ≤ 16 by omega)) (by decide)
  refine r_iconst (pc := 0) (v := iv 0) dX10_traceLowTo_0 (by decide) ?_
  refine r_istore (pc := 1) (lv' := [(4, .int (iv 0)), (0, .ref wa), (1, .ref ga), (2, .int (iv x1)), (3, .int (iv x2))]) dX10_traceLowTo_1 (by decide) rfl ?_
  refine r_aload_n (pc := 3) dX10_traceLowTo_3 (i := 0) rfl rfl ?_
  refine t_getE (pc := 4) (.ref (wa + 3)) ht hwO fX10_26 dX10_traceLowTo_4 rfl ?_
  refine r_iload_n (pc := 7) dX10_traceLowTo_7 (i := 3) rfl rfl ?_
  refine t_ialdX (pc := 8) (t0 := 0) ht hL dX10_traceLowTo_8 rfl (by omega) (by omega) (fun b1 => ?_)
  have rb1 := (show Rfx gn (-1) ((gn : Int) - 1) Lf by assumption) (Int.toNat x2) (by omega)
  refine r_istore (pc := 9) (lv' := [(5, .int (iv (Lf (Int.toNat x2)))), (4, .int (iv 0)), (0, .ref wa), (1, .ref ga), (2, .int (iv x1)), (3, .int (iv x2))]) dX10_traceLowTo_9 (by decide) rfl ?_
  refine r_iconst (pc := 11) (v := iv 0) dX10_traceLowTo_11 (by decide) ?_
  refine r_istore (pc := 12) (lv' := [(6, .int (iv 0)), (5, .int (iv (Lf (Int.toNat x2)))), (4, .int (iv 0)), (0, .ref wa), (1, .ref ga), (2, .int (iv x1)), (3, .int (iv x2))]) dX10_traceLowTo_12 (by decide) rfl ?_
  have B14 : ∀ k : Nat, ∀ hp14 : MH, Tw Γ hp14 → ∀  (v14_4 : Int) (v14_6 : Int), 0 ≤ v14_4 ∧ v14_4 ≤ 1 ∧ 0 ≤ v14_6 ∧ v14_6 ≤ 120 → 120 - v14_6 ≤ (k : Int) → Rn (gG D cI cJ cZ cT lo b L xs) mX10_traceLowTo d 14 [(0, .ref wa), (1, .ref ga), (2, .int (iv x1)), (3, .int (iv x2)), (4, .int (iv v14_4)), (5, .int (iv (Lf (Int.toNat x2)))), (6, .int (iv v14_6))] [] hp14 n 0 0 (pV Γ n) := by
    refine lpS _ ?_
    intro k14 ih14 hp14 ht14 v14_4 v14_6 hf14 hm14
    refine r_iload (pc := 14) dX10_traceLowTo_14 rfl ?_
    refine r_aload_n (pc := 16) dX10_traceLowTo_16 (i := 1) rfl rfl ?_
    refine t_getE (pc := 17) (.int (iv (gq : Int))) ht14 hg_O fX10_77 dX10_traceLowTo_17 rfl ?_
    refine t_icmp_ge (pc := 20) (tgt := 186) dX10_traceLowTo_20 (by decide) (by omega) (by omega) (fun c20 => ?_) (fun c20 => ?_)
    · exact r_vret (pc := 186) dX10_traceLowTo_186 rfl ⟨rfl, ht14, rfl⟩
    · refine r_aload_n (pc := 23) dX10_traceLowTo_23 (i := 1) rfl rfl ?_
      refine t_getE (pc := 24) (.ref gTl) ht14 hg_O fX10_67 dX10_traceLowTo_24 rfl ?_
      refine r_iload (pc := 27) dX10_traceLowTo_27 rfl ?_
      refine t_ialdX (pc := 29) (t0 := 0) ht14 hxT dX10_traceLowTo_29 rfl (by omega) (by omega) (fun b2 => ?_)
      have rb2 := (show Rfx gq 0 ((gn : Int) - 1) Tl by assumption) (Int.toNat v14_6) (by omega)
      refine r_istore (pc := 30) (lv' := [(7, .int (iv (Tl (Int.toNat v14_6)))), (0, .ref wa), (1, .ref ga), (2, .int (iv x1)), (3, .int (iv x2)), (4, .int (iv v14_4)), (5, .int (iv (Lf (Int.toNat x2)))), (6, .int (iv v14_6))]) dX10_traceLowTo_30 (by decide) rfl ?_
      refine r_aload_n (pc := 32) dX10_traceLowTo_32 (i := 1) rfl rfl ?_
      refine t_getE (pc := 33) (.ref gHd) ht14 hg_O fX10_70 dX10_traceLowTo_33 rfl ?_
      refine r_iload (pc := 36) dX10_traceLowTo_36 rfl ?_
      refine t_ialdX (pc := 38) (t0 := 0) ht14 hxH dX10_traceLowTo_38 rfl (by omega) (by omega) (fun b3 => ?_)
      have rb3 := (show Rfx gq 0 ((gn : Int) - 1) Hd by assumption) (Int.toNat v14_6) (by omega)
      refine r_iload_n (pc := 39) dX10_traceLowTo_39 (i := 3) rfl rfl ?_
      have B98 : ∀ hp98 : MH, Tw Γ hp98 → ∀  (u98_0 : Int), 0 ≤ u98_0 ∧ u98_0 ≤ 1 → Rn (gG D cI cJ cZ cT lo b L xs) mX10_traceLowTo d 98 [(0, .ref wa), (1, .ref ga), (2, .int (iv x1)), (3, .int (iv x2)), (4, .int (iv v14_4)), (5, .int (iv (Lf (Int.toNat x2)))), (6, .int (iv v14_6)), (7, .int (iv (Tl (Int.toNat v14_6))))] [.int (iv u98_0)] hp98 n 0 0 (pV Γ n) := by
        intro hp98 ht98 u98_0 hf98
        refine r_istore (pc := 98) (lv' := [(8, .int (iv u98_0)), (0, .ref wa), (1, .ref ga), (2, .int (iv x1)), (3, .int (iv x2)), (4, .int (iv v14_4)), (5, .int (iv (Lf (Int.toNat x2)))), (6, .int (iv v14_6)), (7, .int (iv (Tl (Int.toNat v14_6))))]) dX10_traceLowTo_98 (by decide) rfl ?_
        refine r_iload (pc := 100) dX10_traceLowTo_100 rfl ?_
        have B180 : ∀ hp180 : MH, Tw Γ hp180 → ∀  (v180_4 : Int), 0 ≤ v180_4 ∧ v180_4 ≤ 1 → Rn (gG D cI cJ cZ cT lo b L xs) mX10_traceLowTo d 180 [(0, .ref wa), (1, .ref ga), (2, .int (iv x1)), (3, .int (iv x2)), (4, .int (iv v180_4)), (5, .int (iv (Lf (Int.toNat x2)))), (6, .int (iv v14_6))] [] hp180 n 0 0 (pV Γ n) := by
          intro hp180 ht180 v180_4 hf180
          refine r_iinc (pc := 180) (v := iv (v14_6 + 1)) (lv' := [(6, .int (iv (v14_6 + 1))), (0, .ref wa), (1, .ref ga), (2, .int (iv x1)), (3, .int (iv x2)), (4, .int (iv v180_4)), (5, .int (iv (Lf (Int.toNat x2))))]) dX10_traceLowTo_180 rfl (iv_add _ _) (by decide) rfl ?_
          refine r_goto (pc := 183) (tgt := 14) dX10_traceLowTo_183 (by decide) ?_
          refine Rn.pick (lv' := [(0, .ref wa), (1, .ref ga), (2, .int (iv x1)), (3, .int (iv x2)), (4, .int (iv v180_4)), (5, .int (iv (Lf (Int.toNat x2)))), (6, .int (iv (v14_6 + 1)))]) [1, 2, 3, 4, 5, 6, 0] rfl ?_
          exact ih14 (Int.toNat (120 - (v14_6 + 1))) (by omega) _ ht180 v180_4 (v14_6 + 1) ⟨by omega, by omega, by omega, by omega⟩ (by omega)
        refine t_if_eq (pc := 102) (tgt := 180) dX10_traceLowTo_102 (by decide) (by omega) (fun c102 => ?_) (fun c102 => ?_)
        · refine Rn.pick (lv' := [(0, .ref wa), (1, .ref ga), (2, .int (iv x1)), (3, .int (iv x2)), (4, .int (iv v14_4)), (5, .int (iv (Lf (Int.toNat x2)))), (6, .int (iv v14_6))]) [1, 2, 3, 4, 5, 6, 7] rfl ?_
          exact B180 _ ht98 v14_4 ⟨by omega, by omega⟩
        · refine r_aload_n (pc := 105) dX10_traceLowTo_105 (i := 0) rfl rfl ?_
          refine t_getE (pc := 106) (.ref (wa + 4)) ht98 hwO fX10_29 dX10_traceLowTo_106 rfl ?_
          refine r_iload_n (pc := 109) dX10_traceLowTo_109 (i := 3) rfl rfl ?_
          refine r_dup2_11 (pc := 110) dX10_traceLowTo_110 rfl rfl ?_
          refine t_lald (pc := 111) (t0 := 1) ht98 (rd_of hwM) dX10_traceLowTo_111 rfl (by omega) (by omega) (fun w4 _ => ?_)
          refine r_aload_n (pc := 112) dX10_traceLowTo_112 (i := 0) rfl rfl ?_
          refine t_getE (pc := 113) (.ref (wa + 4)) ht98 hwO fX10_29 dX10_traceLowTo_113 rfl ?_
          refine r_iload (pc := 116) dX10_traceLowTo_116 rfl ?_
          refine t_lald (pc := 118) (t0 := 1) ht98 (rd_of hwM) dX10_traceLowTo_118 rfl (by omega) (by omega) (fun w5 _ => ?_)
          refine r_ladd (pc := 119) (v := w4 + w5) dX10_traceLowTo_119 rfl ?_
          refine t_last (pc := 120) (t0 := 1) ht98 hwM dX10_traceLowTo_120 rfl (by omega) (by omega) trivial (fun hp6 ht7 => ?_)
          refine r_iload (pc := 121) dX10_traceLowTo_121 rfl ?_
          refine t_if_ne (pc := 123) (tgt := 180) dX10_traceLowTo_123 (by decide) (by omega) (fun c123 => ?_) (fun c123 => ?_)
          · refine Rn.pick (lv' := [(0, .ref wa), (1, .ref ga), (2, .int (iv x1)), (3, .int (iv x2)), (4, .int (iv v14_4)), (5, .int (iv (Lf (Int.toNat x2)))), (6, .int (iv v14_6))]) [1, 2, 3, 4, 5, 6, 7] rfl ?_
            exact B180 _ ht7 v14_4 ⟨by omega, by omega⟩
          · refine r_aload_n (pc := 126) dX10_traceLowTo_126 (i := 0) rfl rfl ?_
            refine t_getE (pc := 127) (.ref (wa + 5)) ht7 hwO fX10_32 dX10_traceLowTo_127 rfl ?_
            refine r_iload (pc := 130) dX10_traceLowTo_130 rfl ?_
            refine r_aload_n (pc := 132) dX10_traceLowTo_132 (i := 0) rfl rfl ?_
            refine t_getE (pc := 133) (.int (iv (gn : Int))) ht7 hwO fX10_15 dX10_traceLowTo_133 rfl ?_
            have hmul136 := mul_nn (n := gn) (u := Tl (Int.toNat v14_6)) (by omega) (by omega)
            refine r_imul (pc := 136) (v := iv ((Tl (Int.toNat v14_6)) * (gn : Int))) dX10_traceLowTo_136 (iv_mul _ _) ?_
            refine r_aload_n (pc := 137) dX10_traceLowTo_137 (i := 0) rfl rfl ?_
            refine t_getE (pc := 138) (.ref (wa + 5)) ht7 hwO fX10_32 dX10_traceLowTo_138 rfl ?_
            refine r_iload_n (pc := 141) dX10_traceLowTo_141 (i := 3) rfl rfl ?_
            refine r_aload_n (pc := 142) dX10_traceLowTo_142 (i := 0) rfl rfl ?_
            refine t_getE (pc := 143) (.int (iv (gn : Int))) ht7 hwO fX10_15 dX10_traceLowTo_143 rfl ?_
            have hmul146 := mul_nn (n := gn) (u := x2) (by omega) (by omega)
            refine r_imul (pc := 146) (v := iv (x2 * (gn : Int))) dX10_traceLowTo_146 (iv_mul _ _) ?_
            refine r_iload (pc := 147) dX10_traceLowTo_147 rfl ?_
            refine r_iconst (pc := 149) (v := iv 1) dX10_traceLowTo_149 (by decide) ?_
            refine r_isub (pc := 150) (v := iv ((Lf (Int.toNat x2)) - 1)) dX10_traceLowTo_150 (iv_sub _ _) ?_
            refine t_copyI (pc := 151) (t0 := 0) ht7 (rd_of hwR) hwR aX10_101 dX10_traceLowTo_151 rfl (by omega) (by omega) (by omega) (Nat.le_of_ble_eq_true rfl) (fun hp8 ht9 => ?_)
            refine r_aload_n (pc := 154) dX10_traceLowTo_154 (i := 0) rfl rfl ?_
            refine t_getE (pc := 155) (.ref (wa + 5)) ht9 hwO fX10_32 dX10_traceLowTo_155 rfl ?_
            refine r_iload_n (pc := 158) dX10_traceLowTo_158 (i := 3) rfl rfl ?_
            refine r_aload_n (pc := 159) dX10_traceLowTo_159 (i := 0) rfl rfl ?_
            refine t_getE (pc := 160) (.int (iv (gn : Int))) ht9 hwO fX10_15 dX10_traceLowTo_160 rfl ?_
            have hmul163 := mul_nn (n := gn) (u := x2) (by omega) (by omega)
            refine r_imul (pc := 163) (v := iv (x2 * (gn : Int))) dX10_traceLowTo_163 (iv_mul _ _) ?_
            refine r_iload (pc := 164) dX10_traceLowTo_164 rfl ?_
            refine r_iadd (pc := 166) (v := iv ((x2 * (gn : Int)) + (Lf (Int.toNat x2)))) dX10_traceLowTo_166 (iv_add _ _) ?_
            refine r_iconst (pc := 167) (v := iv 1) dX10_traceLowTo_167 (by decide) ?_
            refine r_isub (pc := 168) (v := iv (((x2 * (gn : Int)) + (Lf (Int.toNat x2))) - 1)) dX10_traceLowTo_168 (iv_sub _ _) ?_
            refine r_aload_n (pc := 169) dX10_traceLowTo_169 (i := 1) rfl rfl ?_
            refine t_getE (pc := 170) (.ref gBy) ht9 hg_O fX10_64 dX10_traceLowTo_170 rfl ?_
            refine r_iload (pc := 173) dX10_traceLowTo_173 rfl ?_
            refine t_ialdX (pc := 175) (t0 := 0) ht9 hxB dX10_traceLowTo_175 rfl (by omega) (by omega) (fun b10 => ?_)
            have rb10 := (show Rfx gq 0 ((gm : Int) - 1) By by assumption) (Int.toNat v14_6) (by omega)
            refine t_iastR (pc := 176) (t0 := 0) ht9 hwR dX10_traceLowTo_176 rfl (by omega) (by omega) (by omega) (by omega) (fun hp11 ht12 => ?_)
            refine r_iconst (pc := 177) (v := iv 1) dX10_traceLowTo_177 (by decide) ?_
            refine r_istore (pc := 178) (lv' := [(4, .int (iv 1)), (8, .int (iv u98_0)), (0, .ref wa), (1, .ref ga), (2, .int (iv x1)), (3, .int (iv x2)), (5, .int (iv (Lf (Int.toNat x2)))), (6, .int (iv v14_6)), (7, .int (iv (Tl (Int.toNat v14_6))))]) dX10_traceLowTo_178 (by decide) rfl ?_
            refine Rn.pick (lv' := [(0, .ref wa), (1, .ref ga), (2, .int (iv x1)), (3, .int (iv x2)), (4, .int (iv 1)), (5, .int (iv (Lf (Int.toNat x2)))), (6, .int (iv v14_6))]) [2, 3, 4, 5, 0, 6, 7] rfl ?_
            exact B180 _ ht12 1 ⟨by omega, by omega⟩
      have B97 : ∀ hp97 : MH, Tw Γ hp97 → True → Rn (gG D cI cJ cZ cT lo b L xs) mX10_traceLowTo d 97 [(0, .ref wa), (1, .ref ga), (2, .int (iv x1)), (3, .int (iv x2)), (4, .int (iv v14_4)), (5, .int (iv (Lf (Int.toNat x2)))), (6, .int (iv v14_6)), (7, .int (iv (Tl (Int.toNat v14_6))))] [] hp97 n 0 0 (pV Γ n) := by
        intro hp97 ht97 hf97
        refine r_iconst (pc := 97) (v := iv 0) dX10_traceLowTo_97 (by decide) ?_
        refine Rn.pick (lv' := [(0, .ref wa), (1, .ref ga), (2, .int (iv x1)), (3, .int (iv x2)), (4, .int (iv v14_4)), (5, .int (iv (Lf (Int.toNat x2)))), (6, .int (iv v14_6)), (7, .int (iv (Tl (Int.toNat v14_6))))]) [0, 1, 2, 3, 4, 5, 6, 7] rfl ?_
        exact B98 _ ht97 0 ⟨by omega, by omega⟩
      refine t_icmp_ne (pc := 40) (tgt := 97) dX10_traceLowTo_40 (by decide) (by omega) (by omega) (fun c40 => ?_) (fun c40 => ?_)
      · refine Rn.pick (lv' := [(0, .ref wa), (1, .ref ga), (2, .int (iv x1)), (3, .int (iv x2)), (4, .int (iv v14_4)), (5, .int (iv (Lf (Int.toNat x2)))), (6, .int (iv v14_6)), (7, .int (iv (Tl (Int.toNat v14_6))))]) [1, 2, 3, 4, 5, 6, 7, 0] rfl ?_
        exact B97 _ ht14 trivial
      · refine r_aload_n (pc := 43) dX10_traceLowTo_43 (i := 0) rfl rfl ?_
        refine t_getE (pc := 44) (.ref (wa + 1)) ht14 hwO fX10_18 dX10_traceLowTo_44 rfl ?_
        refine r_iload (pc := 47) dX10_traceLowTo_47 rfl ?_
        refine t_ialdR (pc := 49) (t0 := 0) ht14 hS dX10_traceLowTo_49 rfl (by omega) (by omega) (fun y13 by13 => ?_)
        refine r_iconst (pc := 50) (v := iv 1) dX10_traceLowTo_50 (by decide) ?_
        refine t_icmp_ne (pc := 51) (tgt := 97) dX10_traceLowTo_51 (by decide) (by omega) (by omega) (fun c51 => ?_) (fun c51 => ?_)
        · refine Rn.pick (lv' := [(0, .ref wa), (1, .ref ga), (2, .int (iv x1)), (3, .int (iv x2)), (4, .int (iv v14_4)), (5, .int (iv (Lf (Int.toNat x2)))), (6, .int (iv v14_6)), (7, .int (iv (Tl (Int.toNat v14_6))))]) [1, 2, 3, 4, 5, 6, 7, 0] rfl ?_
          exact B97 _ ht14 trivial
        · refine r_aload_n (pc := 54) dX10_traceLowTo_54 (i := 0) rfl rfl ?_
          refine t_getE (pc := 55) (.ref (wa + 3)) ht14 hwO fX10_26 dX10_traceLowTo_55 rfl ?_
          refine r_iload (pc := 58) dX10_traceLowTo_58 rfl ?_
          refine t_ialdX (pc := 60) (t0 := 0) ht14 hL dX10_traceLowTo_60 rfl (by omega) (by omega) (fun b14 => ?_)
          have rb14 := (show Rfx gn (-1) ((gn : Int) - 1) Lf by assumption) (Int.toNat (Tl (Int.toNat v14_6))) (by omega)
          refine r_iload (pc := 61) dX10_traceLowTo_61 rfl ?_
          refine r_iconst (pc := 63) (v := iv 1) dX10_traceLowTo_63 (by decide) ?_
          refine r_isub (pc := 64) (v := iv ((Lf (Int.toNat x2)) - 1)) dX10_traceLowTo_64 (iv_sub _ _) ?_
          refine t_icmp_ne (pc := 65) (tgt := 97) dX10_traceLowTo_65 (by decide) (by omega) (by omega) (fun c65 => ?_) (fun c65 => ?_)
          · refine Rn.pick (lv' := [(0, .ref wa), (1, .ref ga), (2, .int (iv x1)), (3, .int (iv x2)), (4, .int (iv v14_4)), (5, .int (iv (Lf (Int.toNat x2)))), (6, .int (iv v14_6)), (7, .int (iv (Tl (Int.toNat v14_6))))]) [1, 2, 3, 4, 5, 6, 7, 0] rfl ?_
            exact B97 _ ht14 trivial
          · refine r_aload_n (pc := 68) dX10_traceLowTo_68 (i := 0) rfl rfl ?_
            refine t_getE (pc := 69) (.ref (wa + 2)) ht14 hwO fX10_22 dX10_traceLowTo_69 rfl ?_
            refine r_iload (pc := 72) dX10_traceLowTo_72 rfl ?_
            refine t_lald (pc := 74) (t0 := 1) ht14 hWo dX10_traceLowTo_74 rfl (by omega) (by omega) (fun w15 _ => ?_)
            refine r_aload_n (pc := 75) dX10_traceLowTo_75 (i := 1) rfl rfl ?_
            refine r_iload_n (pc := 76) dX10_traceLowTo_76 (i := 2) rfl rfl ?_
            refine r_iload (pc := 77) dX10_traceLowTo_77 rfl ?_
            refine t_callSJ (pc := 79) (as := [.ref ga, .int (iv x1), .int (iv v14_6)]) (st := [.long w15]) kX10_73 dX10_traceLowTo_79 (t_X10_priceOfx (d := d - 1) (x1 := x1) (x2 := v14_6) (by omega) hg hxT hxH hxB hxW hrT hrH hrB hrW ht14 (by omega) (by omega)) rfl (by omega) (Nat.le_of_ble_eq_true rfl) rfl (fun hp17 y16 ht18 by16 => ?_)
            have ey16 : y16 = prV x1 Wt By (Int.toNat v14_6) := by16
            subst ey16
            have rBy16 := hrB (Int.toNat v14_6) (by omega)
            obtain ⟨py161, py162, py163⟩ := prV_i (each := x1) (Wt := Wt) (By := By) (k := Int.toNat v14_6) (hrW _ (by omega))
            refine r_ladd (pc := 82) (v := w15 + (prV x1 Wt By (Int.toNat v14_6))) dX10_traceLowTo_82 rfl ?_
            refine r_aload_n (pc := 83) dX10_traceLowTo_83 (i := 0) rfl rfl ?_
            refine t_getE (pc := 84) (.ref (wa + 2)) ht18 hwO fX10_22 dX10_traceLowTo_84 rfl ?_
            refine r_iload_n (pc := 87) dX10_traceLowTo_87 (i := 3) rfl rfl ?_
            refine t_lald (pc := 88) (t0 := 1) ht18 hWo dX10_traceLowTo_88 rfl (by omega) (by omega) (fun w19 _ => ?_)
            refine r_lcmp (pc := 89) dX10_traceLowTo_89 ?_
            refine r_if_ne (pc := 90) (tgt := 97) dX10_traceLowTo_90 (by decide) (fun c90 => ?_) (fun c90 => ?_)
            · refine Rn.pick (lv' := [(0, .ref wa), (1, .ref ga), (2, .int (iv x1)), (3, .int (iv x2)), (4, .int (iv v14_4)), (5, .int (iv (Lf (Int.toNat x2)))), (6, .int (iv v14_6)), (7, .int (iv (Tl (Int.toNat v14_6))))]) [1, 2, 3, 4, 5, 6, 7, 0] rfl ?_
              exact B97 _ ht18 trivial
            · refine r_iconst (pc := 93) (v := iv 1) dX10_traceLowTo_93 (by decide) ?_
              refine r_goto (pc := 94) (tgt := 98) dX10_traceLowTo_94 (by decide) ?_
              refine Rn.pick (lv' := [(0, .ref wa), (1, .ref ga), (2, .int (iv x1)), (3, .int (iv x2)), (4, .int (iv v14_4)), (5, .int (iv (Lf (Int.toNat x2)))), (6, .int (iv v14_6)), (7, .int (iv (Tl (Int.toNat v14_6))))]) [1, 2, 3, 4, 5, 6, 7, 0] rfl ?_
              exact B98 _ ht18 1 ⟨by omega, by omega⟩
  refine Rn.pick (lv' := [(0, .ref wa), (1, .ref ga), (2, .int (iv x1)), (3, .int (iv x2)), (4, .int (iv 0)), (5, .int (iv (Lf (Int.toNat x2)))), (6, .int (iv 0))]) [3, 4, 5, 6, 2, 1, 0] rfl ?_
  exact B14 (Int.toNat (120 - 0)) _ ht 0 0 ⟨by omega, by omega, by omega, by omega⟩ (by omega)
set_option maxHeartbeats 4000000 in
set_option maxRecDepth 100000 in
theorem t_X10_traceLowx {D : va_G} {cI cJ cZ cT : ClassId} {lo b L : Nat} {xs : Nat → Int32} {hp : MH} {n d : Nat} {Γ : TG} {ga : Nat} {gF : Nat} {gT : Nat} {gW : Nat} {gC : Nat} {gTl : Nat} {gHd : Nat} {gBy : Nat} {gOu : Nat} {gIn : Nat} {gJo : Nat} {gn : Nat} {gm : Nat} {gq : Nat} {gdr : Int} {Tl Hd By Wt Lf : Nat → Int} {wa : Nat} {x1 : Int} (hd0 : 2 ≤ d) (hg : TyG Γ cI cJ cZ ga gF gT gW gC gTl gHd gBy gOu gIn gJo gn gm gq gdr) (hxT : rd Γ gTl (xI cI gq Tl)) (hxH : rd Γ gHd (xI cI gq Hd)) (hxB : rd Γ gBy (xI cI gq By)) (hxW : rd Γ gW (xI cI gm Wt)) (hrT : Rfx gq 0 ((gn : Int) - 1) Tl) (hrH : Rfx gq 0 ((gn : Int) - 1) Hd) (hrB : Rfx gq 0 ((gm : Int) - 1) By) (hrW : Rfx gm (-1000) 1000 Wt) (hwO : rd Γ wa (tO 9 [fE (.int (iv (gn : Int))), fE (.ref (wa + 1)), fE (.ref (wa + 2)), fE (.ref (wa + 3)), fE (.ref (wa + 4)), fE (.ref (wa + 5))])) (hS : rd Γ (wa + 1) (tI cI gn (rg 0 2))) (hWo : rd Γ (wa + 2) (tJ cJ gn anyJ)) (hL : rd Γ (wa + 3) (xI cI gn Lf)) (hRL : Rfx gn (-1) ((gn : Int) - 1) Lf) (hwM : Γ (wa + 4) = some (tJ cJ gn anyJ)) (hwR : Γ (wa + 5) = some (tI cI (gn * gn) (rg 0 59))) (ht : Tw Γ hp) (hx1 : 0 ≤ x1 ∧ x1 ≤ 1) : Mt (gG D cI cJ cZ cT lo b L xs) mX10_traceLow d 0 0 [.ref wa, .ref ga, .int (iv x1)] hp n (pV Γ n) := by
  refine Mt.of rfl (Nat.le_of_ble_eq_true rfl) ?_
  refine Rn.pick (lv' := [(0, .ref wa), (1, .ref ga), (2, .int (iv x1))]) [0, 1, 2] rfl ?_
  obtain ⟨hg_O, hg_from, hg_to, hg_weight, hg_cost, hg_tail, hg_head, hg_by, hg_out, hg_in, hg_joined, hg_b⟩ := id hg
  have hsq : gn * gn ≤ 256 := Nat.le_trans (Nat.mul_le_mul (show gn ≤ 16 by omega) (show gn ≤ 16 by omega)) (by decide)
  refine r_iconst (pc := 0) (v := iv 1) dX10_traceLow_0 (by decide) ?_
  refine r_istore_n (pc := 1) (lv' := [(3, .int (iv 1)), (0, .ref wa), (1, .ref ga), (2, .int (iv x1))]) dX10_traceLow_1 (i := 3) rfl (by decide) rfl ?_
  have B2 : ∀ k : Nat, ∀ hp2 : MH, Tw Γ hp2 → ∀  (v2_3 : Int), 1 ≤ v2_3 ∧ v2_3 ≤ 16 → 16 - v2_3 ≤ (k : Int) → Rn (gG D cI cJ cZ cT lo b L xs) mX10_traceLow d 2 [(0, .ref wa), (1, .ref ga), (2, .int (iv x1)), (3, .int (iv v2_3))] [] hp2 n 0 0 (pV Γ n) := by
    refine lpS _ ?_
    intro k2 ih2 hp2 ht2 v2_3 hf2 hm2
    refine r_iload_n (pc := 2) dX10_traceLow_2 (i := 3) rfl rfl ?_
    refine r_aload_n (pc := 3) dX10_traceLow_3 (i := 0) rfl rfl ?_
    refine t_getE (pc := 4) (.int (iv (gn : Int))) ht2 hwO fX10_15 dX10_traceLow_4 rfl ?_
    refine t_icmp_ge (pc := 7) (tgt := 64) dX10_traceLow_7 (by decide) (by omega) (by omega) (fun c7 => ?_) (fun c7 => ?_)
    · exact r_vret (pc := 64) dX10_traceLow_64 rfl ⟨rfl, ht2, rfl⟩
    · refine r_iconst (pc := 10) (v := iv 0) dX10_traceLow_10 (by decide) ?_
      refine r_istore (pc := 11) (lv' := [(4, .int (iv 0)), (0, .ref wa), (1, .ref ga), (2, .int (iv x1)), (3, .int (iv v2_3))]) dX10_traceLow_11 (by decide) rfl ?_
      have B13 : ∀ k : Nat, ∀ hp13 : MH, Tw Γ hp13 → ∀  (v13_4 : Int), 0 ≤ v13_4 ∧ v13_4 ≤ 16 → 16 - v13_4 ≤ (k : Int) → Rn (gG D cI cJ cZ cT lo b L xs) mX10_traceLow d 13 [(0, .ref wa), (1, .ref ga), (2, .int (iv x1)), (3, .int (iv v2_3)), (4, .int (iv v13_4))] [] hp13 n 0 0 (pV Γ n) := by
        refine lpS _ ?_
        intro k13 ih13 hp13 ht13 v13_4 hf13 hm13
        refine r_iload (pc := 13) dX10_traceLow_13 rfl ?_
        refine r_aload_n (pc := 15) dX10_traceLow_15 (i := 0) rfl rfl ?_
        refine t_getE (pc := 16) (.int (iv (gn : Int))) ht13 hwO fX10_15 dX10_traceLow_16 rfl ?_
        refine t_icmp_ge (pc := 19) (tgt := 58) dX10_traceLow_19 (by decide) (by omega) (by omega) (fun c19 => ?_) (fun c19 => ?_)
        · refine r_iinc (pc := 58) (v := iv (v2_3 + 1)) (lv' := [(3, .int (iv (v2_3 + 1))), (0, .ref wa), (1, .ref ga), (2, .int (iv x1)), (4, .int (iv v13_4))]) dX10_traceLow_58 rfl (iv_add _ _) (by decide) rfl ?_
          refine r_goto (pc := 61) (tgt := 2) dX10_traceLow_61 (by decide) ?_
          refine Rn.pick (lv' := [(0, .ref wa), (1, .ref ga), (2, .int (iv x1)), (3, .int (iv (v2_3 + 1)))]) [1, 2, 3, 0] rfl ?_
          exact ih2 (Int.toNat (16 - (v2_3 + 1))) (by omega) _ ht13 (v2_3 + 1) ⟨by omega, by omega⟩ (by omega)
        · refine r_aload_n (pc := 22) dX10_traceLow_22 (i := 0) rfl rfl ?_
          refine t_getE (pc := 23) (.ref (wa + 1)) ht13 hwO fX10_18 dX10_traceLow_23 rfl ?_
          refine r_iload (pc := 26) dX10_traceLow_26 rfl ?_
          refine t_ialdR (pc := 28) (t0 := 0) ht13 hS dX10_traceLow_28 rfl (by omega) (by omega) (fun y1 by1 => ?_)
          refine r_iconst (pc := 29) (v := iv 1) dX10_traceLow_29 (by decide) ?_
          have B52 : ∀ hp52 : MH, Tw Γ hp52 → True → Rn (gG D cI cJ cZ cT lo b L xs) mX10_traceLow d 52 [(0, .ref wa), (1, .ref ga), (2, .int (iv x1)), (3, .int (iv v2_3)), (4, .int (iv v13_4))] [] hp52 n 0 0 (pV Γ n) := by
            intro hp52 ht52 hf52
            refine r_iinc (pc := 52) (v := iv (v13_4 + 1)) (lv' := [(4, .int (iv (v13_4 + 1))), (0, .ref wa), (1, .ref ga), (2, .int (iv x1)), (3, .int (iv v2_3))]) dX10_traceLow_52 rfl (iv_add _ _) (by decide) rfl ?_
            refine r_goto (pc := 55) (tgt := 13) dX10_traceLow_55 (by decide) ?_
            refine Rn.pick (lv' := [(0, .ref wa), (1, .ref ga), (2, .int (iv x1)), (3, .int (iv v2_3)), (4, .int (iv (v13_4 + 1)))]) [1, 2, 3, 4, 0] rfl ?_
            exact ih13 (Int.toNat (16 - (v13_4 + 1))) (by omega) _ ht52 (v13_4 + 1) ⟨by omega, by omega⟩ (by omega)
          refine t_icmp_ne (pc := 30) (tgt := 52) dX10_traceLow_30 (by decide) (by omega) (by omega) (fun c30 => ?_) (fun c30 => ?_)
          · refine Rn.pick (lv' := [(0, .ref wa), (1, .ref ga), (2, .int (iv x1)), (3, .int (iv v2_3)), (4, .int (iv v13_4))]) [0, 1, 2, 3, 4] rfl ?_
            exact B52 _ ht13 trivial
          · refine r_aload_n (pc := 33) dX10_traceLow_33 (i := 0) rfl rfl ?_
            refine t_getE (pc := 34) (.ref (wa + 3)) ht13 hwO fX10_26 dX10_traceLow_34 rfl ?_
            refine r_iload (pc := 37) dX10_traceLow_37 rfl ?_
            refine t_ialdX (pc := 39) (t0 := 0) ht13 hL dX10_traceLow_39 rfl (by omega) (by omega) (fun b2 => ?_)
            have rb2 := (show Rfx gn (-1) ((gn : Int) - 1) Lf by assumption) (Int.toNat v13_4) (by omega)
            refine r_iload_n (pc := 40) dX10_traceLow_40 (i := 3) rfl rfl ?_
            refine t_icmp_ne (pc := 41) (tgt := 52) dX10_traceLow_41 (by decide) (by omega) (by omega) (fun c41 => ?_) (fun c41 => ?_)
            · refine Rn.pick (lv' := [(0, .ref wa), (1, .ref ga), (2, .int (iv x1)), (3, .int (iv v2_3)), (4, .int (iv v13_4))]) [0, 1, 2, 3, 4] rfl ?_
              exact B52 _ ht13 trivial
            · refine r_aload_n (pc := 44) dX10_traceLow_44 (i := 0) rfl rfl ?_
              refine r_aload_n (pc := 45) dX10_traceLow_45 (i := 1) rfl rfl ?_
              refine r_iload_n (pc := 46) dX10_traceLow_46 (i := 2) rfl rfl ?_
              refine r_iload (pc := 47) dX10_traceLow_47 rfl ?_
              refine t_callVV (pc := 49) (as := [.ref ga, .int (iv x1), .int (iv v13_4)]) (st := []) ht13 hwO kX10_97 rfl dX10_traceLow_49 (t_X10_traceLowTox (d := d - 1) (x1 := x1) (x2 := v13_4) (by omega) hg hxT hxH hxB hxW hrT hrH hrB hrW hwO hS hWo hL hRL hwM hwR ht13 (by omega) (by omega) (by omega)) rfl (by omega) (Nat.le_of_ble_eq_true rfl) rfl (fun hp3 ht4 => ?_)
              refine Rn.pick (lv' := [(0, .ref wa), (1, .ref ga), (2, .int (iv x1)), (3, .int (iv v2_3)), (4, .int (iv v13_4))]) [0, 1, 2, 3, 4] rfl ?_
              exact B52 _ ht4 trivial
      refine Rn.pick (lv' := [(0, .ref wa), (1, .ref ga), (2, .int (iv x1)), (3, .int (iv v2_3)), (4, .int (iv 0))]) [1, 2, 3, 4, 0] rfl ?_
      exact B13 (Int.toNat (16 - 0)) _ ht2 0 ⟨by omega, by omega⟩ (by omega)
  refine Rn.pick (lv' := [(0, .ref wa), (1, .ref ga), (2, .int (iv x1)), (3, .int (iv 1))]) [1, 2, 3, 0] rfl ?_
  exact B2 (Int.toNat (16 - 1)) _ ht 1 ⟨by omega, by omega⟩ (by omega)
set_option maxHeartbeats 4000000 in
set_option maxRecDepth 100000 in
theorem t_X10_widenAll {D : va_G} {cI cJ cZ cT : ClassId} {lo b L : Nat} {xs : Nat → Int32} {hp : MH} {n d : Nat} {Γ : TG} {ga : Nat} {gF : Nat} {gT : Nat} {gW : Nat} {gC : Nat} {gTl : Nat} {gHd : Nat} {gBy : Nat} {gOu : Nat} {gIn : Nat} {gJo : Nat} {gn : Nat} {gm : Nat} {gq : Nat} {gdr : Int} {wa : Nat} (hd0 : 0 ≤ d) (hg : TyG Γ cI cJ cZ ga gF gT gW gC gTl gHd gBy gOu gIn gJo gn gm gq gdr) (hwO : rd Γ wa (tO 9 [fE (.int (iv (gn : Int))), fE (.ref (wa + 1)), fE (.ref (wa + 2)), fE (.ref (wa + 3)), fE (.ref (wa + 4)), fE (.ref (wa + 5))])) (hS : Γ (wa + 1) = some (tI cI gn (rg 0 2))) (hWo : Γ (wa + 2) = some (tJ cJ gn anyJ)) (hL : Γ (wa + 3) = some (tI cI gn (rg (-1) ((gn : Int) - 1)))) (hwM : Γ (wa + 4) = some (tJ cJ gn anyJ)) (hwR : Γ (wa + 5) = some (tI cI (gn * gn) (rg 0 59))) (ht : Tw Γ hp) : Mt (gG D cI cJ cZ cT lo b L xs) mX10_widenAll d 0 0 [.ref wa, .ref ga] hp n (pV Γ n) := by
  refine Mt.of rfl (Nat.le_of_ble_eq_true rfl) ?_
  refine Rn.pick (lv' := [(0, .ref wa), (1, .ref ga)]) [0, 1] rfl ?_
  obtain ⟨hg_O, hg_from, hg_to, hg_weight, hg_cost, hg_tail, hg_head, hg_by, hg_out, hg_in, hg_joined, hg_b⟩ := id hg
  have hsq : gn * gn ≤ 256 := Nat.le_trans (Nat.mul_le_mul (show gn ≤ 16 by omega) (show gn ≤ 16 by omega)) (by decide)
  refine r_iconst (pc := 0) (v := iv 1) dX10_widenAll_0 (by decide) ?_
  refine r_istore_n (pc := 1) (lv' := [(2, .int (iv 1)), (0, .ref wa), (1, .ref ga)]) dX10_widenAll_1 (i := 2) rfl (by decide) rfl ?_
  refine r_iconst (pc := 2) (v := iv 0) dX10_widenAll_2 (by decide) ?_
  refine r_istore_n (pc := 3) (lv' := [(3, .int (iv 0)), (2, .int (iv 1)), (0, .ref wa), (1, .ref ga)]) dX10_widenAll_3 (i := 3) rfl (by decide) rfl ?_
  have B4 : ∀ k : Nat, ∀ hp4 : MH, Tw Γ hp4 → ∀  (v4_2 : Int) (v4_3 : Int), 0 ≤ v4_2 ∧ v4_2 ≤ 1 ∧ 0 ≤ v4_3 ∧ v4_3 ≤ 16 → 16 - v4_3 ≤ (k : Int) → Rn (gG D cI cJ cZ cT lo b L xs) mX10_widenAll d 4 [(0, .ref wa), (1, .ref ga), (2, .int (iv v4_2)), (3, .int (iv v4_3))] [] hp4 n 0 0 (pV Γ n) := by
    refine lpS _ ?_
    intro k4 ih4 hp4 ht4 v4_2 v4_3 hf4 hm4
    refine r_iload_n (pc := 4) dX10_widenAll_4 (i := 3) rfl rfl ?_
    refine r_aload_n (pc := 5) dX10_widenAll_5 (i := 0) rfl rfl ?_
    refine t_getE (pc := 6) (.int (iv (gn : Int))) ht4 hwO fX10_15 dX10_widenAll_6 rfl ?_
    have B137 : ∀ hp137 : MH, Tw Γ hp137 → True → Rn (gG D cI cJ cZ cT lo b L xs) mX10_widenAll d 137 [] [] hp137 n 0 0 (pV Γ n) := by
      intro hp137 ht137 hf137
      exact r_vret (pc := 137) dX10_widenAll_137 rfl ⟨rfl, ht137, rfl⟩
    refine t_icmp_ge (pc := 9) (tgt := 137) dX10_widenAll_9 (by decide) (by omega) (by omega) (fun c9 => ?_) (fun c9 => ?_)
    · refine Rn.pick (lv' := []) [] rfl ?_
      exact B137 _ ht4 trivial
    · refine r_iload_n (pc := 12) dX10_widenAll_12 (i := 2) rfl rfl ?_
      refine t_if_eq (pc := 13) (tgt := 137) dX10_widenAll_13 (by decide) (by omega) (fun c13 => ?_) (fun c13 => ?_)
      · refine Rn.pick (lv' := []) [] rfl ?_
        exact B137 _ ht4 trivial
      · refine r_iconst (pc := 16) (v := iv 0) dX10_widenAll_16 (by decide) ?_
        refine r_istore_n (pc := 17) (lv' := [(2, .int (iv 0)), (0, .ref wa), (1, .ref ga), (3, .int (iv v4_3))]) dX10_widenAll_17 (i := 2) rfl (by decide) rfl ?_
        refine r_iconst (pc := 18) (v := iv 0) dX10_widenAll_18 (by decide) ?_
        refine r_istore (pc := 19) (lv' := [(4, .int (iv 0)), (2, .int (iv 0)), (0, .ref wa), (1, .ref ga), (3, .int (iv v4_3))]) dX10_widenAll_19 (by decide) rfl ?_
        have B21 : ∀ k : Nat, ∀ hp21 : MH, Tw Γ hp21 → ∀  (v21_2 : Int) (v21_4 : Int), 0 ≤ v21_2 ∧ v21_2 ≤ 1 ∧ 0 ≤ v21_4 ∧ v21_4 ≤ 120 → 120 - v21_4 ≤ (k : Int) → Rn (gG D cI cJ cZ cT lo b L xs) mX10_widenAll d 21 [(0, .ref wa), (1, .ref ga), (2, .int (iv v21_2)), (3, .int (iv v4_3)), (4, .int (iv v21_4))] [] hp21 n 0 0 (pV Γ n) := by
          refine lpS _ ?_
          intro k21 ih21 hp21 ht21 v21_2 v21_4 hf21 hm21
          refine r_iload (pc := 21) dX10_widenAll_21 rfl ?_
          refine r_aload_n (pc := 23) dX10_widenAll_23 (i := 1) rfl rfl ?_
          refine t_getE (pc := 24) (.int (iv (gq : Int))) ht21 hg_O fX10_77 dX10_widenAll_24 rfl ?_
          refine t_icmp_ge (pc := 27) (tgt := 131) dX10_widenAll_27 (by decide) (by omega) (by omega) (fun c27 => ?_) (fun c27 => ?_)
          · refine r_iinc (pc := 131) (v := iv (v4_3 + 1)) (lv' := [(3, .int (iv (v4_3 + 1))), (0, .ref wa), (1, .ref ga), (2, .int (iv v21_2)), (4, .int (iv v21_4))]) dX10_widenAll_131 rfl (iv_add _ _) (by decide) rfl ?_
            refine r_goto (pc := 134) (tgt := 4) dX10_widenAll_134 (by decide) ?_
            refine Rn.pick (lv' := [(0, .ref wa), (1, .ref ga), (2, .int (iv v21_2)), (3, .int (iv (v4_3 + 1)))]) [1, 2, 3, 0] rfl ?_
            exact ih4 (Int.toNat (16 - (v4_3 + 1))) (by omega) _ ht21 v21_2 (v4_3 + 1) ⟨by omega, by omega, by omega, by omega⟩ (by omega)
          · refine r_aload_n (pc := 30) dX10_widenAll_30 (i := 1) rfl rfl ?_
            refine t_getE (pc := 31) (.ref gTl) ht21 hg_O fX10_67 dX10_widenAll_31 rfl ?_
            refine r_iload (pc := 34) dX10_widenAll_34 rfl ?_
            refine t_ialdR (pc := 36) (t0 := 0) ht21 hg_tail dX10_widenAll_36 rfl (by omega) (by omega) (fun y1 by1 => ?_)
            refine r_istore (pc := 37) (lv' := [(5, .int (iv y1)), (0, .ref wa), (1, .ref ga), (2, .int (iv v21_2)), (3, .int (iv v4_3)), (4, .int (iv v21_4))]) dX10_widenAll_37 (by decide) rfl ?_
            refine r_aload_n (pc := 39) dX10_widenAll_39 (i := 1) rfl rfl ?_
            refine t_getE (pc := 40) (.ref gHd) ht21 hg_O fX10_70 dX10_widenAll_40 rfl ?_
            refine r_iload (pc := 43) dX10_widenAll_43 rfl ?_
            refine t_ialdR (pc := 45) (t0 := 0) ht21 hg_head dX10_widenAll_45 rfl (by omega) (by omega) (fun y2 by2 => ?_)
            refine r_istore (pc := 46) (lv' := [(6, .int (iv y2)), (5, .int (iv y1)), (0, .ref wa), (1, .ref ga), (2, .int (iv v21_2)), (3, .int (iv v4_3)), (4, .int (iv v21_4))]) dX10_widenAll_46 (by decide) rfl ?_
            refine r_aload_n (pc := 48) dX10_widenAll_48 (i := 0) rfl rfl ?_
            refine t_getE (pc := 49) (.ref (wa + 2)) ht21 hwO fX10_22 dX10_widenAll_49 rfl ?_
            refine r_iload (pc := 52) dX10_widenAll_52 rfl ?_
            refine t_lald (pc := 54) (t0 := 1) ht21 (rd_of hWo) dX10_widenAll_54 rfl (by omega) (by omega) (fun w3 _ => ?_)
            refine r_aload_n (pc := 55) dX10_widenAll_55 (i := 1) rfl rfl ?_
            refine t_getE (pc := 56) (.ref gW) ht21 hg_O fX10_61 dX10_widenAll_56 rfl ?_
            refine r_aload_n (pc := 59) dX10_widenAll_59 (i := 1) rfl rfl ?_
            refine t_getE (pc := 60) (.ref gBy) ht21 hg_O fX10_64 dX10_widenAll_60 rfl ?_
            refine r_iload (pc := 63) dX10_widenAll_63 rfl ?_
            refine t_ialdR (pc := 65) (t0 := 0) ht21 hg_by dX10_widenAll_65 rfl (by omega) (by omega) (fun y4 by4 => ?_)
            refine t_ialdR (pc := 66) (t0 := 0) ht21 hg_weight dX10_widenAll_66 rfl (by omega) (by omega) (fun y5 by5 => ?_)
            refine r_i2l (pc := 67) (v := (iv y5).toInt64) dX10_widenAll_67 rfl ?_
            refine r_lmin (pc := 68) (v := if ((iv y5).toInt64) < w3 then ((iv y5).toInt64) else w3) qX10_107 dX10_widenAll_68 (Nat.le_of_ble_eq_true rfl) rfl ?_
            refine r_lstore (pc := 71) (lv' := [(7, .long (if ((iv y5).toInt64) < w3 then ((iv y5).toInt64) else w3)), (6, .int (iv y2)), (5, .int (iv y1)), (0, .ref wa), (1, .ref ga), (2, .int (iv v21_2)), (3, .int (iv v4_3)), (4, .int (iv v21_4))]) dX10_widenAll_71 (by decide) rfl ?_
            refine r_aload_n (pc := 73) dX10_widenAll_73 (i := 0) rfl rfl ?_
            refine t_getE (pc := 74) (.ref (wa + 1)) ht21 hwO fX10_18 dX10_widenAll_74 rfl ?_
            refine r_iload (pc := 77) dX10_widenAll_77 rfl ?_
            refine t_ialdR (pc := 79) (t0 := 0) ht21 (rd_of hS) dX10_widenAll_79 rfl (by omega) (by omega) (fun y7 by7 => ?_)
            have B125 : ∀ hp125 : MH, Tw Γ hp125 → ∀  (v125_2 : Int), 0 ≤ v125_2 ∧ v125_2 ≤ 1 → Rn (gG D cI cJ cZ cT lo b L xs) mX10_widenAll d 125 [(0, .ref wa), (1, .ref ga), (2, .int (iv v125_2)), (3, .int (iv v4_3)), (4, .int (iv v21_4))] [] hp125 n 0 0 (pV Γ n) := by
              intro hp125 ht125 v125_2 hf125
              refine r_iinc (pc := 125) (v := iv (v21_4 + 1)) (lv' := [(4, .int (iv (v21_4 + 1))), (0, .ref wa), (1, .ref ga), (2, .int (iv v125_2)), (3, .int (iv v4_3))]) dX10_widenAll_125 rfl (iv_add _ _) (by decide) rfl ?_
              refine r_goto (pc := 128) (tgt := 21) dX10_widenAll_128 (by decide) ?_
              refine Rn.pick (lv' := [(0, .ref wa), (1, .ref ga), (2, .int (iv v125_2)), (3, .int (iv v4_3)), (4, .int (iv (v21_4 + 1)))]) [1, 2, 3, 4, 0] rfl ?_
              exact ih21 (Int.toNat (120 - (v21_4 + 1))) (by omega) _ ht125 v125_2 (v21_4 + 1) ⟨by omega, by omega, by omega, by omega⟩ (by omega)
            refine t_if_eq (pc := 80) (tgt := 125) dX10_widenAll_80 (by decide) (by omega) (fun c80 => ?_) (fun c80 => ?_)
            · refine Rn.pick (lv' := [(0, .ref wa), (1, .ref ga), (2, .int (iv v21_2)), (3, .int (iv v4_3)), (4, .int (iv v21_4))]) [3, 4, 5, 6, 7] rfl ?_
              exact B125 _ ht21 v21_2 ⟨by omega, by omega⟩
            · refine r_aload_n (pc := 83) dX10_widenAll_83 (i := 0) rfl rfl ?_
              refine t_getE (pc := 84) (.ref (wa + 1)) ht21 hwO fX10_18 dX10_widenAll_84 rfl ?_
              refine r_iload (pc := 87) dX10_widenAll_87 rfl ?_
              refine t_ialdR (pc := 89) (t0 := 0) ht21 (rd_of hS) dX10_widenAll_89 rfl (by omega) (by omega) (fun y8 by8 => ?_)
              have B106 : ∀ hp106 : MH, Tw Γ hp106 → True → Rn (gG D cI cJ cZ cT lo b L xs) mX10_widenAll d 106 [(0, .ref wa), (1, .ref ga), (3, .int (iv v4_3)), (4, .int (iv v21_4)), (6, .int (iv y2)), (7, .long (if ((iv y5).toInt64) < w3 then ((iv y5).toInt64) else w3))] [] hp106 n 0 0 (pV Γ n) := by
                intro hp106 ht106 hf106
                refine r_aload_n (pc := 106) dX10_widenAll_106 (i := 0) rfl rfl ?_
                refine t_getE (pc := 107) (.ref (wa + 1)) ht106 hwO fX10_18 dX10_widenAll_107 rfl ?_
                refine r_iload (pc := 110) dX10_widenAll_110 rfl ?_
                refine r_iconst (pc := 112) (v := iv 1) dX10_widenAll_112 (by decide) ?_
                refine t_iastR (pc := 113) (t0 := 0) ht106 hS dX10_widenAll_113 rfl (by omega) (by omega) (by omega) (by omega) (fun hp9 ht10 => ?_)
                refine r_aload_n (pc := 114) dX10_widenAll_114 (i := 0) rfl rfl ?_
                refine t_getE (pc := 115) (.ref (wa + 2)) ht10 hwO fX10_22 dX10_widenAll_115 rfl ?_
                refine r_iload (pc := 118) dX10_widenAll_118 rfl ?_
                refine r_lload (pc := 120) dX10_widenAll_120 rfl ?_
                refine t_last (pc := 122) (t0 := 1) ht10 hWo dX10_widenAll_122 rfl (by omega) (by omega) trivial (fun hp11 ht12 => ?_)
                refine r_iconst (pc := 123) (v := iv 1) dX10_widenAll_123 (by decide) ?_
                refine r_istore_n (pc := 124) (lv' := [(2, .int (iv 1)), (0, .ref wa), (1, .ref ga), (3, .int (iv v4_3)), (4, .int (iv v21_4)), (6, .int (iv y2)), (7, .long (if ((iv y5).toInt64) < w3 then ((iv y5).toInt64) else w3))]) dX10_widenAll_124 (i := 2) rfl (by decide) rfl ?_
                refine Rn.pick (lv' := [(0, .ref wa), (1, .ref ga), (2, .int (iv 1)), (3, .int (iv v4_3)), (4, .int (iv v21_4))]) [1, 2, 0, 3, 4] rfl ?_
                exact B125 _ ht12 1 ⟨by omega, by omega⟩
              refine t_if_eq (pc := 90) (tgt := 106) dX10_widenAll_90 (by decide) (by omega) (fun c90 => ?_) (fun c90 => ?_)
              · refine Rn.pick (lv' := [(0, .ref wa), (1, .ref ga), (3, .int (iv v4_3)), (4, .int (iv v21_4)), (6, .int (iv y2)), (7, .long (if ((iv y5).toInt64) < w3 then ((iv y5).toInt64) else w3))]) [3, 4, 6, 7, 1, 0] rfl ?_
                exact B106 _ ht21 trivial
              · refine r_lload (pc := 93) dX10_widenAll_93 rfl ?_
                refine r_aload_n (pc := 95) dX10_widenAll_95 (i := 0) rfl rfl ?_
                refine t_getE (pc := 96) (.ref (wa + 2)) ht21 hwO fX10_22 dX10_widenAll_96 rfl ?_
                refine r_iload (pc := 99) dX10_widenAll_99 rfl ?_
                refine t_lald (pc := 101) (t0 := 1) ht21 (rd_of hWo) dX10_widenAll_101 rfl (by omega) (by omega) (fun w13 _ => ?_)
                refine r_lcmp (pc := 102) dX10_widenAll_102 ?_
                refine r_if_le (pc := 103) (tgt := 125) dX10_widenAll_103 (by decide) (fun c103 => ?_) (fun c103 => ?_)
                · refine Rn.pick (lv' := [(0, .ref wa), (1, .ref ga), (2, .int (iv v21_2)), (3, .int (iv v4_3)), (4, .int (iv v21_4))]) [3, 4, 5, 6, 7] rfl ?_
                  exact B125 _ ht21 v21_2 ⟨by omega, by omega⟩
                · refine Rn.pick (lv' := [(0, .ref wa), (1, .ref ga), (3, .int (iv v4_3)), (4, .int (iv v21_4)), (6, .int (iv y2)), (7, .long (if ((iv y5).toInt64) < w3 then ((iv y5).toInt64) else w3))]) [3, 4, 6, 7, 1, 0] rfl ?_
                  exact B106 _ ht21 trivial
        refine Rn.pick (lv' := [(0, .ref wa), (1, .ref ga), (2, .int (iv 0)), (3, .int (iv v4_3)), (4, .int (iv 0))]) [2, 3, 1, 4, 0] rfl ?_
        exact B21 (Int.toNat (120 - 0)) _ ht4 0 0 ⟨by omega, by omega, by omega, by omega⟩ (by omega)
  refine Rn.pick (lv' := [(0, .ref wa), (1, .ref ga), (2, .int (iv 1)), (3, .int (iv 0))]) [2, 3, 1, 0] rfl ?_
  exact B4 (Int.toNat (16 - 0)) _ ht 1 0 ⟨by omega, by omega, by omega, by omega⟩ (by omega)
set_option maxHeartbeats 4000000 in
set_option maxRecDepth 100000 in
theorem t_X10_countWide {D : va_G} {cI cJ cZ cT : ClassId} {lo b L : Nat} {xs : Nat → Int32} {hp : MH} {n d : Nat} {Γ : TG} {ga : Nat} {gF : Nat} {gT : Nat} {gW : Nat} {gC : Nat} {gTl : Nat} {gHd : Nat} {gBy : Nat} {gOu : Nat} {gIn : Nat} {gJo : Nat} {gn : Nat} {gm : Nat} {gq : Nat} {gdr : Int} {wa lA sA : Nat} {x1 x2 : Int} (hd0 : 1 ≤ d) (hg : TyG Γ cI cJ cZ ga gF gT gW gC gTl gHd gBy gOu gIn gJo gn gm gq gdr) (hwO : rd Γ wa (tO 9 [fE (.int (iv (gn : Int))), fE (.ref (wa + 1)), fE (.ref (wa + 2)), fE (.ref (wa + 3)), fE (.ref (wa + 4)), fE (.ref (wa + 5))])) (hS : Γ (wa + 1) = some (tI cI gn (rg 0 2))) (hWo : Γ (wa + 2) = some (tJ cJ gn anyJ)) (hL : Γ (wa + 3) = some (tI cI gn (rg (-1) ((gn : Int) - 1)))) (hwM : Γ (wa + 4) = some (tJ cJ gn anyJ)) (hwR : Γ (wa + 5) = some (tI cI (gn * gn) (rg 0 59))) (hlA : Γ lA = some (tI cI gn (rg (-1) ((gn : Int) - 1)))) (hsA : Γ sA = some (tJ cJ gn anyJ)) (ht : Tw Γ hp) (hx1 : 0 ≤ x1 ∧ x1 < (gn : Int)) (hx2 : 0 ≤ x2 ∧ x2 < (gn : Int)) : Mt (gG D cI cJ cZ cT lo b L xs) mX10_countWide d 0 0 [.ref wa, .ref ga, .int (iv x1), .int (iv x2), .ref lA, .ref sA] hp n (pV Γ n) := by
  refine Mt.of rfl (Nat.le_of_ble_eq_true rfl) ?_
  refine Rn.pick (lv' := [(0, .ref wa), (1, .ref ga), (2, .int (iv x1)), (3, .int (iv x2)), (4, .ref lA), (5, .ref sA)]) [0, 1, 2, 3, 4, 5] rfl ?_
  obtain ⟨hg_O, hg_from, hg_to, hg_weight, hg_cost, hg_tail, hg_head, hg_by, hg_out, hg_in, hg_joined, hg_b⟩ := id hg
  have hsq : gn * gn ≤ 256 := Nat.le_trans (Nat.mul_le_mul (show gn ≤ 16 by omega) (show gn ≤ 16 by omega)) (by decide)
  refine r_aload (pc := 0) dX10_countWide_0 rfl ?_
  refine r_iconst (pc := 2) (v := iv (-1)) dX10_countWide_2 (by decide) ?_
  refine t_fillI (pc := 3) ht hlA kX10_35 dX10_countWide_3 (by omega) (by omega) (by omega) (by omega) (Nat.le_of_ble_eq_true rfl) (fun hp1 ht2 => ?_)
  refine r_aload (pc := 6) dX10_countWide_6 rfl ?_
  refine r_lconst (pc := 8) (v := 0) dX10_countWide_8 (by decide) ?_
  refine t_fillJ (pc := 9) ht2 hsA kX10_121 dX10_countWide_9 (by omega) (by omega) (Nat.le_of_ble_eq_true rfl) (fun hp3 ht4 => ?_)
  refine r_aload (pc := 12) dX10_countWide_12 rfl ?_
  refine r_iload_n (pc := 14) dX10_countWide_14 (i := 2) rfl rfl ?_
  refine r_iconst (pc := 15) (v := iv 0) dX10_countWide_15 (by decide) ?_
  refine t_iastR (pc := 16) (t0 := 0) ht4 hlA dX10_countWide_16 rfl (by omega) (by omega) (by omega) (by omega) (fun hp5 ht6 => ?_)
  refine r_aload (pc := 17) dX10_countWide_17 rfl ?_
  refine r_iload_n (pc := 19) dX10_countWide_19 (i := 2) rfl rfl ?_
  refine r_lconst (pc := 20) (v := 1) dX10_countWide_20 (by decide) ?_
  refine t_last (pc := 21) (t0 := 1) ht6 hsA dX10_countWide_21 rfl (by omega) (by omega) trivial (fun hp7 ht8 => ?_)
  refine r_iconst (pc := 22) (v := iv 1) dX10_countWide_22 (by decide) ?_
  refine r_istore (pc := 23) (lv' := [(6, .int (iv 1)), (0, .ref wa), (1, .ref ga), (2, .int (iv x1)), (3, .int (iv x2)), (4, .ref lA), (5, .ref sA)]) dX10_countWide_23 (by decide) rfl ?_
  have B25 : ∀ k : Nat, ∀ hp25 : MH, Tw Γ hp25 → ∀  (v25_6 : Int), 1 ≤ v25_6 ∧ v25_6 ≤ 16 → 16 - v25_6 ≤ (k : Int) → Rn (gG D cI cJ cZ cT lo b L xs) mX10_countWide d 25 [(0, .ref wa), (1, .ref ga), (3, .int (iv x2)), (4, .ref lA), (5, .ref sA), (6, .int (iv v25_6))] [] hp25 n 0 0 (pV Γ n) := by
    refine lpS _ ?_
    intro k25 ih25 hp25 ht25 v25_6 hf25 hm25
    refine r_iload (pc := 25) dX10_countWide_25 rfl ?_
    refine r_aload_n (pc := 27) dX10_countWide_27 (i := 0) rfl rfl ?_
    refine t_getE (pc := 28) (.int (iv (gn : Int))) ht25 hwO fX10_15 dX10_countWide_28 rfl ?_
    have B168 : ∀ hp168 : MH, Tw Γ hp168 → True → Rn (gG D cI cJ cZ cT lo b L xs) mX10_countWide d 168 [] [] hp168 n 0 0 (pV Γ n) := by
      intro hp168 ht168 hf168
      exact r_vret (pc := 168) dX10_countWide_168 rfl ⟨rfl, ht168, rfl⟩
    refine t_icmp_ge (pc := 31) (tgt := 168) dX10_countWide_31 (by decide) (by omega) (by omega) (fun c31 => ?_) (fun c31 => ?_)
    · refine Rn.pick (lv' := []) [] rfl ?_
      exact B168 _ ht25 trivial
    · refine r_aload (pc := 34) dX10_countWide_34 rfl ?_
      refine r_iload_n (pc := 36) dX10_countWide_36 (i := 3) rfl rfl ?_
      refine t_ialdR (pc := 37) (t0 := 0) ht25 (rd_of hlA) dX10_countWide_37 rfl (by omega) (by omega) (fun y9 by9 => ?_)
      refine t_if_ge (pc := 38) (tgt := 168) dX10_countWide_38 (by decide) (by omega) (fun c38 => ?_) (fun c38 => ?_)
      · refine Rn.pick (lv' := []) [] rfl ?_
        exact B168 _ ht25 trivial
      · refine r_iconst (pc := 41) (v := iv 0) dX10_countWide_41 (by decide) ?_
        refine r_istore (pc := 42) (lv' := [(7, .int (iv 0)), (0, .ref wa), (1, .ref ga), (3, .int (iv x2)), (4, .ref lA), (5, .ref sA), (6, .int (iv v25_6))]) dX10_countWide_42 (by decide) rfl ?_
        have B44 : ∀ k : Nat, ∀ hp44 : MH, Tw Γ hp44 → ∀  (v44_7 : Int), 0 ≤ v44_7 ∧ v44_7 ≤ 120 → 120 - v44_7 ≤ (k : Int) → Rn (gG D cI cJ cZ cT lo b L xs) mX10_countWide d 44 [(0, .ref wa), (1, .ref ga), (3, .int (iv x2)), (4, .ref lA), (5, .ref sA), (6, .int (iv v25_6)), (7, .int (iv v44_7))] [] hp44 n 0 0 (pV Γ n) := by
          refine lpS _ ?_
          intro k44 ih44 hp44 ht44 v44_7 hf44 hm44
          refine r_iload (pc := 44) dX10_countWide_44 rfl ?_
          refine r_aload_n (pc := 46) dX10_countWide_46 (i := 1) rfl rfl ?_
          refine t_getE (pc := 47) (.int (iv (gq : Int))) ht44 hg_O fX10_77 dX10_countWide_47 rfl ?_
          refine t_icmp_ge (pc := 50) (tgt := 162) dX10_countWide_50 (by decide) (by omega) (by omega) (fun c50 => ?_) (fun c50 => ?_)
          · refine r_iinc (pc := 162) (v := iv (v25_6 + 1)) (lv' := [(6, .int (iv (v25_6 + 1))), (0, .ref wa), (1, .ref ga), (3, .int (iv x2)), (4, .ref lA), (5, .ref sA), (7, .int (iv v44_7))]) dX10_countWide_162 rfl (iv_add _ _) (by decide) rfl ?_
            refine r_goto (pc := 165) (tgt := 25) dX10_countWide_165 (by decide) ?_
            refine Rn.pick (lv' := [(0, .ref wa), (1, .ref ga), (3, .int (iv x2)), (4, .ref lA), (5, .ref sA), (6, .int (iv (v25_6 + 1)))]) [1, 2, 3, 4, 5, 0] rfl ?_
            exact ih25 (Int.toNat (16 - (v25_6 + 1))) (by omega) _ ht44 (v25_6 + 1) ⟨by omega, by omega⟩ (by omega)
          · refine r_aload_n (pc := 53) dX10_countWide_53 (i := 1) rfl rfl ?_
            refine t_getE (pc := 54) (.ref gTl) ht44 hg_O fX10_67 dX10_countWide_54 rfl ?_
            refine r_iload (pc := 57) dX10_countWide_57 rfl ?_
            refine t_ialdR (pc := 59) (t0 := 0) ht44 hg_tail dX10_countWide_59 rfl (by omega) (by omega) (fun y10 by10 => ?_)
            refine r_istore (pc := 60) (lv' := [(8, .int (iv y10)), (0, .ref wa), (1, .ref ga), (3, .int (iv x2)), (4, .ref lA), (5, .ref sA), (6, .int (iv v25_6)), (7, .int (iv v44_7))]) dX10_countWide_60 (by decide) rfl ?_
            refine r_aload_n (pc := 62) dX10_countWide_62 (i := 1) rfl rfl ?_
            refine t_getE (pc := 63) (.ref gHd) ht44 hg_O fX10_70 dX10_countWide_63 rfl ?_
            refine r_iload (pc := 66) dX10_countWide_66 rfl ?_
            refine t_ialdR (pc := 68) (t0 := 0) ht44 hg_head dX10_countWide_68 rfl (by omega) (by omega) (fun y11 by11 => ?_)
            refine r_istore (pc := 69) (lv' := [(9, .int (iv y11)), (8, .int (iv y10)), (0, .ref wa), (1, .ref ga), (3, .int (iv x2)), (4, .ref lA), (5, .ref sA), (6, .int (iv v25_6)), (7, .int (iv v44_7))]) dX10_countWide_69 (by decide) rfl ?_
            refine r_aload (pc := 71) dX10_countWide_71 rfl ?_
            refine r_iload (pc := 73) dX10_countWide_73 rfl ?_
            refine t_ialdR (pc := 75) (t0 := 0) ht44 (rd_of hlA) dX10_countWide_75 rfl (by omega) (by omega) (fun y12 by12 => ?_)
            refine r_iload (pc := 76) dX10_countWide_76 rfl ?_
            refine r_iconst (pc := 78) (v := iv 1) dX10_countWide_78 (by decide) ?_
            refine r_isub (pc := 79) (v := iv (v25_6 - 1)) dX10_countWide_79 (iv_sub _ _) ?_
            have B156 : ∀ hp156 : MH, Tw Γ hp156 → True → Rn (gG D cI cJ cZ cT lo b L xs) mX10_countWide d 156 [(0, .ref wa), (1, .ref ga), (3, .int (iv x2)), (4, .ref lA), (5, .ref sA), (6, .int (iv v25_6)), (7, .int (iv v44_7))] [] hp156 n 0 0 (pV Γ n) := by
              intro hp156 ht156 hf156
              refine r_iinc (pc := 156) (v := iv (v44_7 + 1)) (lv' := [(7, .int (iv (v44_7 + 1))), (0, .ref wa), (1, .ref ga), (3, .int (iv x2)), (4, .ref lA), (5, .ref sA), (6, .int (iv v25_6))]) dX10_countWide_156 rfl (iv_add _ _) (by decide) rfl ?_
              refine r_goto (pc := 159) (tgt := 44) dX10_countWide_159 (by decide) ?_
              refine Rn.pick (lv' := [(0, .ref wa), (1, .ref ga), (3, .int (iv x2)), (4, .ref lA), (5, .ref sA), (6, .int (iv v25_6)), (7, .int (iv (v44_7 + 1)))]) [1, 2, 3, 4, 5, 6, 0] rfl ?_
              exact ih44 (Int.toNat (120 - (v44_7 + 1))) (by omega) _ ht156 (v44_7 + 1) ⟨by omega, by omega⟩ (by omega)
            refine t_icmp_ne (pc := 80) (tgt := 156) dX10_countWide_80 (by decide) (by omega) (by omega) (fun c80 => ?_) (fun c80 => ?_)
            · refine Rn.pick (lv' := [(0, .ref wa), (1, .ref ga), (3, .int (iv x2)), (4, .ref lA), (5, .ref sA), (6, .int (iv v25_6)), (7, .int (iv v44_7))]) [2, 3, 4, 5, 6, 7, 8] rfl ?_
              exact B156 _ ht44 trivial
            · refine r_aload_n (pc := 83) dX10_countWide_83 (i := 1) rfl rfl ?_
              refine t_getE (pc := 84) (.ref gW) ht44 hg_O fX10_61 dX10_countWide_84 rfl ?_
              refine r_aload_n (pc := 87) dX10_countWide_87 (i := 1) rfl rfl ?_
              refine t_getE (pc := 88) (.ref gBy) ht44 hg_O fX10_64 dX10_countWide_88 rfl ?_
              refine r_iload (pc := 91) dX10_countWide_91 rfl ?_
              refine t_ialdR (pc := 93) (t0 := 0) ht44 hg_by dX10_countWide_93 rfl (by omega) (by omega) (fun y13 by13 => ?_)
              refine t_ialdR (pc := 94) (t0 := 0) ht44 hg_weight dX10_countWide_94 rfl (by omega) (by omega) (fun y14 by14 => ?_)
              refine r_i2l (pc := 95) (v := (iv y14).toInt64) dX10_countWide_95 rfl ?_
              refine r_aload_n (pc := 96) dX10_countWide_96 (i := 0) rfl rfl ?_
              refine t_getE (pc := 97) (.ref (wa + 2)) ht44 hwO fX10_22 dX10_countWide_97 rfl ?_
              refine r_iload_n (pc := 100) dX10_countWide_100 (i := 3) rfl rfl ?_
              refine t_lald (pc := 101) (t0 := 1) ht44 (rd_of hWo) dX10_countWide_101 rfl (by omega) (by omega) (fun w15 _ => ?_)
              refine r_lcmp (pc := 102) dX10_countWide_102 ?_
              refine r_if_lt (pc := 103) (tgt := 156) dX10_countWide_103 (by decide) (fun c103 => ?_) (fun c103 => ?_)
              · refine Rn.pick (lv' := [(0, .ref wa), (1, .ref ga), (3, .int (iv x2)), (4, .ref lA), (5, .ref sA), (6, .int (iv v25_6)), (7, .int (iv v44_7))]) [2, 3, 4, 5, 6, 7, 8] rfl ?_
                exact B156 _ ht44 trivial
              · refine r_aload (pc := 106) dX10_countWide_106 rfl ?_
                refine r_iload (pc := 108) dX10_countWide_108 rfl ?_
                refine r_aload (pc := 110) dX10_countWide_110 rfl ?_
                refine r_iload (pc := 112) dX10_countWide_112 rfl ?_
                refine t_ialdR (pc := 114) (t0 := 0) ht44 (rd_of hlA) dX10_countWide_114 rfl (by omega) (by omega) (fun y16 by16 => ?_)
                have B128 : ∀ hp128 : MH, Tw Γ hp128 → ∀  (u128_2 : Int), (-1) ≤ u128_2 ∧ u128_2 ≤ 15 ∧ u128_2 < (gn : Int) → Rn (gG D cI cJ cZ cT lo b L xs) mX10_countWide d 128 [(0, .ref wa), (1, .ref ga), (3, .int (iv x2)), (4, .ref lA), (5, .ref sA), (6, .int (iv v25_6)), (7, .int (iv v44_7)), (8, .int (iv y10)), (9, .int (iv y11))] [.int (iv u128_2), .int (iv y11), .ref lA] hp128 n 0 0 (pV Γ n) := by
                  intro hp128 ht128 u128_2 hf128
                  refine t_iastR (pc := 128) (t0 := 0) ht128 hlA dX10_countWide_128 rfl (by omega) (by omega) (by omega) (by omega) (fun hp17 ht18 => ?_)
                  refine r_aload (pc := 129) dX10_countWide_129 rfl ?_
                  refine r_iload (pc := 131) dX10_countWide_131 rfl ?_
                  refine r_dup2_11 (pc := 133) dX10_countWide_133 rfl rfl ?_
                  refine t_lald (pc := 134) (t0 := 1) ht18 (rd_of hsA) dX10_countWide_134 rfl (by omega) (by omega) (fun w19 _ => ?_)
                  refine r_aload (pc := 135) dX10_countWide_135 rfl ?_
                  refine r_iload (pc := 137) dX10_countWide_137 rfl ?_
                  refine t_ialdR (pc := 139) (t0 := 0) ht18 (rd_of hlA) dX10_countWide_139 rfl (by omega) (by omega) (fun y20 by20 => ?_)
                  refine r_iload (pc := 140) dX10_countWide_140 rfl ?_
                  have B154 : ∀ hp154 : MH, Tw Γ hp154 → ∀  (x154_3 : Int64), True → Rn (gG D cI cJ cZ cT lo b L xs) mX10_countWide d 154 [(0, .ref wa), (1, .ref ga), (3, .int (iv x2)), (4, .ref lA), (5, .ref sA), (6, .int (iv v25_6)), (7, .int (iv v44_7))] [.long x154_3, .long w19, .int (iv y11), .ref sA] hp154 n 0 0 (pV Γ n) := by
                    intro hp154 ht154 x154_3 hf154
                    refine r_ladd (pc := 154) (v := w19 + x154_3) dX10_countWide_154 rfl ?_
                    refine t_last (pc := 155) (t0 := 1) ht154 hsA dX10_countWide_155 rfl (by omega) (by omega) trivial (fun hp21 ht22 => ?_)
                    refine Rn.pick (lv' := [(0, .ref wa), (1, .ref ga), (3, .int (iv x2)), (4, .ref lA), (5, .ref sA), (6, .int (iv v25_6)), (7, .int (iv v44_7))]) [0, 1, 2, 3, 4, 5, 6] rfl ?_
                    exact B156 _ ht22 trivial
                  refine t_icmp_ne (pc := 142) (tgt := 153) dX10_countWide_142 (by decide) (by omega) (by omega) (fun c142 => ?_) (fun c142 => ?_)
                  · refine r_lconst (pc := 153) (v := 0) dX10_countWide_153 (by decide) ?_
                    refine Rn.pick (lv' := [(0, .ref wa), (1, .ref ga), (3, .int (iv x2)), (4, .ref lA), (5, .ref sA), (6, .int (iv v25_6)), (7, .int (iv v44_7))]) [0, 1, 2, 3, 4, 5, 6] rfl ?_
                    exact B154 _ ht18 (0 : Int64) trivial
                  · refine r_aload (pc := 145) dX10_countWide_145 rfl ?_
                    refine r_iload (pc := 147) dX10_countWide_147 rfl ?_
                    refine t_lald (pc := 149) (t0 := 1) ht18 (rd_of hsA) dX10_countWide_149 rfl (by omega) (by omega) (fun w23 _ => ?_)
                    refine r_goto (pc := 150) (tgt := 154) dX10_countWide_150 (by decide) ?_
                    refine Rn.pick (lv' := [(0, .ref wa), (1, .ref ga), (3, .int (iv x2)), (4, .ref lA), (5, .ref sA), (6, .int (iv v25_6)), (7, .int (iv v44_7))]) [0, 1, 2, 3, 4, 5, 6] rfl ?_
                    exact B154 _ ht18 w23 trivial
                refine t_if_ge (pc := 115) (tgt := 123) dX10_countWide_115 (by decide) (by omega) (fun c115 => ?_) (fun c115 => ?_)
                · refine r_aload (pc := 123) dX10_countWide_123 rfl ?_
                  refine r_iload (pc := 125) dX10_countWide_125 rfl ?_
                  refine t_ialdR (pc := 127) (t0 := 0) ht44 (rd_of hlA) dX10_countWide_127 rfl (by omega) (by omega) (fun y24 by24 => ?_)
                  refine Rn.pick (lv' := [(0, .ref wa), (1, .ref ga), (3, .int (iv x2)), (4, .ref lA), (5, .ref sA), (6, .int (iv v25_6)), (7, .int (iv v44_7)), (8, .int (iv y10)), (9, .int (iv y11))]) [2, 3, 4, 5, 6, 7, 8, 1, 0] rfl ?_
                  exact B128 _ ht44 y24 ⟨by omega, by omega, by omega⟩
                · refine r_iload (pc := 118) dX10_countWide_118 rfl ?_
                  refine r_goto (pc := 120) (tgt := 128) dX10_countWide_120 (by decide) ?_
                  refine Rn.pick (lv' := [(0, .ref wa), (1, .ref ga), (3, .int (iv x2)), (4, .ref lA), (5, .ref sA), (6, .int (iv v25_6)), (7, .int (iv v44_7)), (8, .int (iv y10)), (9, .int (iv y11))]) [2, 3, 4, 5, 6, 7, 8, 1, 0] rfl ?_
                  exact B128 _ ht44 v25_6 ⟨by omega, by omega, by omega⟩
        refine Rn.pick (lv' := [(0, .ref wa), (1, .ref ga), (3, .int (iv x2)), (4, .ref lA), (5, .ref sA), (6, .int (iv v25_6)), (7, .int (iv 0))]) [1, 2, 3, 4, 5, 6, 0] rfl ?_
        exact B44 (Int.toNat (120 - 0)) _ ht25 0 ⟨by omega, by omega⟩ (by omega)
  refine Rn.pick (lv' := [(0, .ref wa), (1, .ref ga), (3, .int (iv x2)), (4, .ref lA), (5, .ref sA), (6, .int (iv 1))]) [1, 2, 4, 5, 6, 0] rfl ?_
  exact B25 (Int.toNat (16 - 1)) _ ht8 1 ⟨by omega, by omega⟩ (by omega)
set_option maxHeartbeats 4000000 in
set_option maxRecDepth 100000 in
theorem t_X10_followBack {D : va_G} {cI cJ cZ cT : ClassId} {lo b L : Nat} {xs : Nat → Int32} {hp : MH} {n d : Nat} {Γ : TG} {ga : Nat} {gF : Nat} {gT : Nat} {gW : Nat} {gC : Nat} {gTl : Nat} {gHd : Nat} {gBy : Nat} {gOu : Nat} {gIn : Nat} {gJo : Nat} {gn : Nat} {gm : Nat} {gq : Nat} {gdr : Int} {wa lA sA : Nat} {x1 : Int} (hd0 : 0 ≤ d) (hg : TyG Γ cI cJ cZ ga gF gT gW gC gTl gHd gBy gOu gIn gJo gn gm gq gdr) (hwO : rd Γ wa (tO 9 [fE (.int (iv (gn : Int))), fE (.ref (wa + 1)), fE (.ref (wa + 2)), fE (.ref (wa + 3)), fE (.ref (wa + 4)), fE (.ref (wa + 5))])) (hS : Γ (wa + 1) = some (tI cI gn (rg 0 2))) (hWo : Γ (wa + 2) = some (tJ cJ gn anyJ)) (hL : Γ (wa + 3) = some (tI cI gn (rg (-1) ((gn : Int) - 1)))) (hwM : Γ (wa + 4) = some (tJ cJ gn anyJ)) (hwR : Γ (wa + 5) = some (tI cI (gn * gn) (rg 0 59))) (hlA : Γ lA = some (tI cI gn (rg (-1) ((gn : Int) - 1)))) (hsA : Γ sA = some (tJ cJ gn anyJ)) (ht : Tw Γ hp) (hx1 : 0 ≤ x1 ∧ x1 < (gn : Int)) : Mt (gG D cI cJ cZ cT lo b L xs) mX10_followBack d 0 0 [.ref wa, .ref ga, .int (iv x1), .ref lA] hp n (pV Γ n) := by
  refine Mt.of rfl (Nat.le_of_ble_eq_true rfl) ?_
  refine Rn.pick (lv' := [(0, .ref wa), (1, .ref ga), (2, .int (iv x1)), (3, .ref lA)]) [0, 1, 2, 3] rfl ?_
  obtain ⟨hg_O, hg_from, hg_to, hg_weight, hg_cost, hg_tail, hg_head, hg_by, hg_out, hg_in, hg_joined, hg_b⟩ := id hg
  have hsq : gn * gn ≤ 256 := Nat.le_trans (Nat.mul_le_mul (show gn ≤ 16 by omega) (show gn ≤ 16 by omega)) (by decide)
  refine r_iload_n (pc := 0) dX10_followBack_0 (i := 2) rfl rfl ?_
  refine r_istore (pc := 1) (lv' := [(4, .int (iv x1)), (0, .ref wa), (1, .ref ga), (2, .int (iv x1)), (3, .ref lA)]) dX10_followBack_1 (by decide) rfl ?_
  refine r_aload_n (pc := 3) dX10_followBack_3 (i := 0) rfl rfl ?_
  refine t_getE (pc := 4) (.ref (wa + 3)) ht hwO fX10_26 dX10_followBack_4 rfl ?_
  refine r_iload_n (pc := 7) dX10_followBack_7 (i := 2) rfl rfl ?_
  refine t_ialdR (pc := 8) (t0 := 0) ht (rd_of hL) dX10_followBack_8 rfl (by omega) (by omega) (fun y1 by1 => ?_)
  refine r_iconst (pc := 9) (v := iv 1) dX10_followBack_9 (by decide) ?_
  refine r_isub (pc := 10) (v := iv (y1 - 1)) dX10_followBack_10 (iv_sub _ _) ?_
  refine r_istore (pc := 11) (lv' := [(5, .int (iv (y1 - 1))), (4, .int (iv x1)), (0, .ref wa), (1, .ref ga), (2, .int (iv x1)), (3, .ref lA)]) dX10_followBack_11 (by decide) rfl ?_
  have B13 : ∀ k : Nat, ∀ hp13 : MH, Tw Γ hp13 → ∀  (v13_4 : Int) (v13_5 : Int), 0 ≤ v13_4 ∧ v13_4 ≤ 15 ∧ (-2) ≤ v13_5 ∧ v13_5 ≤ 14 ∧ v13_5 ≤ y1 - 1 ∧ v13_5 < (gn : Int) - 1 → v13_5 - (-2) ≤ (k : Int) → Rn (gG D cI cJ cZ cT lo b L xs) mX10_followBack d 13 [(0, .ref wa), (1, .ref ga), (2, .int (iv x1)), (3, .ref lA), (4, .int (iv v13_4)), (5, .int (iv v13_5))] [] hp13 n 0 0 (pV Γ n) := by
    refine lpS _ ?_
    intro k13 ih13 hp13 ht13 v13_4 v13_5 hf13 hm13
    refine r_iload (pc := 13) dX10_followBack_13 rfl ?_
    refine t_if_lt (pc := 15) (tgt := 150) dX10_followBack_15 (by decide) (by omega) (fun c15 => ?_) (fun c15 => ?_)
    · exact r_vret (pc := 150) dX10_followBack_150 rfl ⟨rfl, ht13, rfl⟩
    · refine r_iconst (pc := 18) (v := iv (-1)) dX10_followBack_18 (by decide) ?_
      refine r_istore (pc := 19) (lv' := [(6, .int (iv (-1))), (0, .ref wa), (1, .ref ga), (2, .int (iv x1)), (3, .ref lA), (4, .int (iv v13_4)), (5, .int (iv v13_5))]) dX10_followBack_19 (by decide) rfl ?_
      refine r_iconst (pc := 21) (v := iv 0) dX10_followBack_21 (by decide) ?_
      refine r_istore (pc := 22) (lv' := [(7, .int (iv 0)), (6, .int (iv (-1))), (0, .ref wa), (1, .ref ga), (2, .int (iv x1)), (3, .ref lA), (4, .int (iv v13_4)), (5, .int (iv v13_5))]) dX10_followBack_22 (by decide) rfl ?_
      have B24 : ∀ k : Nat, ∀ hp24 : MH, Tw Γ hp24 → ∀  (v24_6 : Int) (v24_7 : Int), (-1) ≤ v24_6 ∧ v24_6 ≤ 119 ∧ 0 ≤ v24_7 ∧ v24_7 ≤ 120 ∧ v24_6 < (gq : Int) → 120 - v24_7 ≤ (k : Int) → Rn (gG D cI cJ cZ cT lo b L xs) mX10_followBack d 24 [(0, .ref wa), (1, .ref ga), (2, .int (iv x1)), (3, .ref lA), (4, .int (iv v13_4)), (5, .int (iv v13_5)), (6, .int (iv v24_6)), (7, .int (iv v24_7))] [] hp24 n 0 0 (pV Γ n) := by
        refine lpS _ ?_
        intro k24 ih24 hp24 ht24 v24_6 v24_7 hf24 hm24
        refine r_iload (pc := 24) dX10_followBack_24 rfl ?_
        refine r_aload_n (pc := 26) dX10_followBack_26 (i := 1) rfl rfl ?_
        refine t_getE (pc := 27) (.int (iv (gq : Int))) ht24 hg_O fX10_77 dX10_followBack_27 rfl ?_
        have B109 : ∀ hp109 : MH, Tw Γ hp109 → True → Rn (gG D cI cJ cZ cT lo b L xs) mX10_followBack d 109 [(0, .ref wa), (1, .ref ga), (2, .int (iv x1)), (3, .ref lA), (4, .int (iv v13_4)), (5, .int (iv v13_5)), (6, .int (iv v24_6))] [] hp109 n 0 0 (pV Γ n) := by
          intro hp109 ht109 hf109
          refine r_iload (pc := 109) dX10_followBack_109 rfl ?_
          have B144 : ∀ hp144 : MH, Tw Γ hp144 → ∀  (v144_4 : Int), 0 ≤ v144_4 ∧ v144_4 ≤ 15 → Rn (gG D cI cJ cZ cT lo b L xs) mX10_followBack d 144 [(0, .ref wa), (1, .ref ga), (2, .int (iv x1)), (3, .ref lA), (4, .int (iv v144_4)), (5, .int (iv v13_5))] [] hp144 n 0 0 (pV Γ n) := by
            intro hp144 ht144 v144_4 hf144
            refine r_iinc (pc := 144) (v := iv (v13_5 - 1)) (lv' := [(5, .int (iv (v13_5 - 1))), (0, .ref wa), (1, .ref ga), (2, .int (iv x1)), (3, .ref lA), (4, .int (iv v144_4))]) dX10_followBack_144 rfl ((iv_add _ _).trans (congrArg iv (show v13_5 + (-1) = v13_5 - 1 by omega))) (by decide) rfl ?_
            refine r_goto (pc := 147) (tgt := 13) dX10_followBack_147 (by decide) ?_
            refine Rn.pick (lv' := [(0, .ref wa), (1, .ref ga), (2, .int (iv x1)), (3, .ref lA), (4, .int (iv v144_4)), (5, .int (iv (v13_5 - 1)))]) [1, 2, 3, 4, 5, 0] rfl ?_
            exact ih13 (Int.toNat ((v13_5 - 1) - (-2))) (by omega) _ ht144 v144_4 (v13_5 - 1) ⟨by omega, by omega, by omega, by omega, by omega, by omega⟩ (by omega)
          refine t_if_lt (pc := 111) (tgt := 144) dX10_followBack_111 (by decide) (by omega) (fun c111 => ?_) (fun c111 => ?_)
          · refine Rn.pick (lv' := [(0, .ref wa), (1, .ref ga), (2, .int (iv x1)), (3, .ref lA), (4, .int (iv v13_4)), (5, .int (iv v13_5))]) [0, 1, 2, 3, 4, 5] rfl ?_
            exact B144 _ ht109 v13_4 ⟨by omega, by omega⟩
          · refine r_aload_n (pc := 114) dX10_followBack_114 (i := 0) rfl rfl ?_
            refine t_getE (pc := 115) (.ref (wa + 5)) ht109 hwO fX10_32 dX10_followBack_115 rfl ?_
            refine r_iload_n (pc := 118) dX10_followBack_118 (i := 2) rfl rfl ?_
            refine r_aload_n (pc := 119) dX10_followBack_119 (i := 0) rfl rfl ?_
            refine t_getE (pc := 120) (.int (iv (gn : Int))) ht109 hwO fX10_15 dX10_followBack_120 rfl ?_
            have hmul123 := mul_nn (n := gn) (u := x1) (by omega) (by omega)
            refine r_imul (pc := 123) (v := iv (x1 * (gn : Int))) dX10_followBack_123 (iv_mul _ _) ?_
            refine r_iload (pc := 124) dX10_followBack_124 rfl ?_
            refine r_iadd (pc := 126) (v := iv ((x1 * (gn : Int)) + v13_5)) dX10_followBack_126 (iv_add _ _) ?_
            refine r_aload_n (pc := 127) dX10_followBack_127 (i := 1) rfl rfl ?_
            refine t_getE (pc := 128) (.ref gBy) ht109 hg_O fX10_64 dX10_followBack_128 rfl ?_
            refine r_iload (pc := 131) dX10_followBack_131 rfl ?_
            refine t_ialdR (pc := 133) (t0 := 0) ht109 hg_by dX10_followBack_133 rfl (by omega) (by omega) (fun y2 by2 => ?_)
            refine t_iastR (pc := 134) (t0 := 0) ht109 hwR dX10_followBack_134 rfl (by omega) (by omega) (by omega) (by omega) (fun hp3 ht4 => ?_)
            refine r_aload_n (pc := 135) dX10_followBack_135 (i := 1) rfl rfl ?_
            refine t_getE (pc := 136) (.ref gTl) ht4 hg_O fX10_67 dX10_followBack_136 rfl ?_
            refine r_iload (pc := 139) dX10_followBack_139 rfl ?_
            refine t_ialdR (pc := 141) (t0 := 0) ht4 hg_tail dX10_followBack_141 rfl (by omega) (by omega) (fun y5 by5 => ?_)
            refine r_istore (pc := 142) (lv' := [(4, .int (iv y5)), (0, .ref wa), (1, .ref ga), (2, .int (iv x1)), (3, .ref lA), (5, .int (iv v13_5)), (6, .int (iv v24_6))]) dX10_followBack_142 (by decide) rfl ?_
            refine Rn.pick (lv' := [(0, .ref wa), (1, .ref ga), (2, .int (iv x1)), (3, .ref lA), (4, .int (iv y5)), (5, .int (iv v13_5))]) [1, 2, 3, 4, 0, 5] rfl ?_
            exact B144 _ ht4 y5 ⟨by omega, by omega⟩
        refine t_icmp_ge (pc := 30) (tgt := 109) dX10_followBack_30 (by decide) (by omega) (by omega) (fun c30 => ?_) (fun c30 => ?_)
        · refine Rn.pick (lv' := [(0, .ref wa), (1, .ref ga), (2, .int (iv x1)), (3, .ref lA), (4, .int (iv v13_4)), (5, .int (iv v13_5)), (6, .int (iv v24_6))]) [0, 1, 2, 3, 4, 5, 6] rfl ?_
          exact B109 _ ht24 trivial
        · refine r_iload (pc := 33) dX10_followBack_33 rfl ?_
          refine t_if_ge (pc := 35) (tgt := 109) dX10_followBack_35 (by decide) (by omega) (fun c35 => ?_) (fun c35 => ?_)
          · refine Rn.pick (lv' := [(0, .ref wa), (1, .ref ga), (2, .int (iv x1)), (3, .ref lA), (4, .int (iv v13_4)), (5, .int (iv v13_5)), (6, .int (iv v24_6))]) [0, 1, 2, 3, 4, 5, 6] rfl ?_
            exact B109 _ ht24 trivial
          · refine r_aload_n (pc := 38) dX10_followBack_38 (i := 1) rfl rfl ?_
            refine t_getE (pc := 39) (.ref gW) ht24 hg_O fX10_61 dX10_followBack_39 rfl ?_
            refine r_aload_n (pc := 42) dX10_followBack_42 (i := 1) rfl rfl ?_
            refine t_getE (pc := 43) (.ref gBy) ht24 hg_O fX10_64 dX10_followBack_43 rfl ?_
            refine r_iload (pc := 46) dX10_followBack_46 rfl ?_
            refine t_ialdR (pc := 48) (t0 := 0) ht24 hg_by dX10_followBack_48 rfl (by omega) (by omega) (fun y6 by6 => ?_)
            refine t_ialdR (pc := 49) (t0 := 0) ht24 hg_weight dX10_followBack_49 rfl (by omega) (by omega) (fun y7 by7 => ?_)
            refine r_i2l (pc := 50) (v := (iv y7).toInt64) dX10_followBack_50 rfl ?_
            refine r_aload_n (pc := 51) dX10_followBack_51 (i := 0) rfl rfl ?_
            refine t_getE (pc := 52) (.ref (wa + 2)) ht24 hwO fX10_22 dX10_followBack_52 rfl ?_
            refine r_iload_n (pc := 55) dX10_followBack_55 (i := 2) rfl rfl ?_
            refine t_lald (pc := 56) (t0 := 1) ht24 (rd_of hWo) dX10_followBack_56 rfl (by omega) (by omega) (fun w8 _ => ?_)
            refine r_lcmp (pc := 57) dX10_followBack_57 ?_
            have B66 : ∀ hp66 : MH, Tw Γ hp66 → ∀  (u66_0 : Int), 0 ≤ u66_0 ∧ u66_0 ≤ 1 → Rn (gG D cI cJ cZ cT lo b L xs) mX10_followBack d 66 [(0, .ref wa), (1, .ref ga), (2, .int (iv x1)), (3, .ref lA), (4, .int (iv v13_4)), (5, .int (iv v13_5)), (6, .int (iv v24_6)), (7, .int (iv v24_7))] [.int (iv u66_0)] hp66 n 0 0 (pV Γ n) := by
              intro hp66 ht66 u66_0 hf66
              refine r_istore (pc := 66) (lv' := [(8, .int (iv u66_0)), (0, .ref wa), (1, .ref ga), (2, .int (iv x1)), (3, .ref lA), (4, .int (iv v13_4)), (5, .int (iv v13_5)), (6, .int (iv v24_6)), (7, .int (iv v24_7))]) dX10_followBack_66 (by decide) rfl ?_
              refine r_aload_n (pc := 68) dX10_followBack_68 (i := 1) rfl rfl ?_
              refine t_getE (pc := 69) (.ref gHd) ht66 hg_O fX10_70 dX10_followBack_69 rfl ?_
              refine r_iload (pc := 72) dX10_followBack_72 rfl ?_
              refine t_ialdR (pc := 74) (t0 := 0) ht66 hg_head dX10_followBack_74 rfl (by omega) (by omega) (fun y9 by9 => ?_)
              refine r_iload (pc := 75) dX10_followBack_75 rfl ?_
              have B103 : ∀ hp103 : MH, Tw Γ hp103 → ∀  (v103_6 : Int), (-1) ≤ v103_6 ∧ v103_6 ≤ 119 ∧ v103_6 < (gq : Int) → Rn (gG D cI cJ cZ cT lo b L xs) mX10_followBack d 103 [(0, .ref wa), (1, .ref ga), (2, .int (iv x1)), (3, .ref lA), (4, .int (iv v13_4)), (5, .int (iv v13_5)), (6, .int (iv v103_6)), (7, .int (iv v24_7))] [] hp103 n 0 0 (pV Γ n) := by
                intro hp103 ht103 v103_6 hf103
                refine r_iinc (pc := 103) (v := iv (v24_7 + 1)) (lv' := [(7, .int (iv (v24_7 + 1))), (0, .ref wa), (1, .ref ga), (2, .int (iv x1)), (3, .ref lA), (4, .int (iv v13_4)), (5, .int (iv v13_5)), (6, .int (iv v103_6))]) dX10_followBack_103 rfl (iv_add _ _) (by decide) rfl ?_
                refine r_goto (pc := 106) (tgt := 24) dX10_followBack_106 (by decide) ?_
                refine Rn.pick (lv' := [(0, .ref wa), (1, .ref ga), (2, .int (iv x1)), (3, .ref lA), (4, .int (iv v13_4)), (5, .int (iv v13_5)), (6, .int (iv v103_6)), (7, .int (iv (v24_7 + 1)))]) [1, 2, 3, 4, 5, 6, 7, 0] rfl ?_
                exact ih24 (Int.toNat (120 - (v24_7 + 1))) (by omega) _ ht103 v103_6 (v24_7 + 1) ⟨by omega, by omega, by omega, by omega, by omega⟩ (by omega)
              refine t_icmp_ne (pc := 77) (tgt := 103) dX10_followBack_77 (by decide) (by omega) (by omega) (fun c77 => ?_) (fun c77 => ?_)
              · refine Rn.pick (lv' := [(0, .ref wa), (1, .ref ga), (2, .int (iv x1)), (3, .ref lA), (4, .int (iv v13_4)), (5, .int (iv v13_5)), (6, .int (iv v24_6)), (7, .int (iv v24_7))]) [1, 2, 3, 4, 5, 6, 7, 8] rfl ?_
                exact B103 _ ht66 v24_6 ⟨by omega, by omega, by omega⟩
              · refine r_iload (pc := 80) dX10_followBack_80 rfl ?_
                refine t_if_eq (pc := 82) (tgt := 103) dX10_followBack_82 (by decide) (by omega) (fun c82 => ?_) (fun c82 => ?_)
                · refine Rn.pick (lv' := [(0, .ref wa), (1, .ref ga), (2, .int (iv x1)), (3, .ref lA), (4, .int (iv v13_4)), (5, .int (iv v13_5)), (6, .int (iv v24_6)), (7, .int (iv v24_7))]) [1, 2, 3, 4, 5, 6, 7, 8] rfl ?_
                  exact B103 _ ht66 v24_6 ⟨by omega, by omega, by omega⟩
                · refine r_aload_n (pc := 85) dX10_followBack_85 (i := 3) rfl rfl ?_
                  refine r_aload_n (pc := 86) dX10_followBack_86 (i := 1) rfl rfl ?_
                  refine t_getE (pc := 87) (.ref gTl) ht66 hg_O fX10_67 dX10_followBack_87 rfl ?_
                  refine r_iload (pc := 90) dX10_followBack_90 rfl ?_
                  refine t_ialdR (pc := 92) (t0 := 0) ht66 hg_tail dX10_followBack_92 rfl (by omega) (by omega) (fun y10 by10 => ?_)
                  refine t_ialdR (pc := 93) (t0 := 0) ht66 (rd_of hlA) dX10_followBack_93 rfl (by omega) (by omega) (fun y11 by11 => ?_)
                  refine r_iload (pc := 94) dX10_followBack_94 rfl ?_
                  refine t_icmp_ne (pc := 96) (tgt := 103) dX10_followBack_96 (by decide) (by omega) (by omega) (fun c96 => ?_) (fun c96 => ?_)
                  · refine Rn.pick (lv' := [(0, .ref wa), (1, .ref ga), (2, .int (iv x1)), (3, .ref lA), (4, .int (iv v13_4)), (5, .int (iv v13_5)), (6, .int (iv v24_6)), (7, .int (iv v24_7))]) [1, 2, 3, 4, 5, 6, 7, 8] rfl ?_
                    exact B103 _ ht66 v24_6 ⟨by omega, by omega, by omega⟩
                  · refine r_iload (pc := 99) dX10_followBack_99 rfl ?_
                    refine r_istore (pc := 101) (lv' := [(6, .int (iv v24_7)), (8, .int (iv u66_0)), (0, .ref wa), (1, .ref ga), (2, .int (iv x1)), (3, .ref lA), (4, .int (iv v13_4)), (5, .int (iv v13_5)), (7, .int (iv v24_7))]) dX10_followBack_101 (by decide) rfl ?_
                    refine Rn.pick (lv' := [(0, .ref wa), (1, .ref ga), (2, .int (iv x1)), (3, .ref lA), (4, .int (iv v13_4)), (5, .int (iv v13_5)), (6, .int (iv v24_7)), (7, .int (iv v24_7))]) [2, 3, 4, 5, 6, 7, 0, 8] rfl ?_
                    exact B103 _ ht66 v24_7 ⟨by omega, by omega, by omega⟩
            refine r_if_lt (pc := 58) (tgt := 65) dX10_followBack_58 (by decide) (fun c58 => ?_) (fun c58 => ?_)
            · refine r_iconst (pc := 65) (v := iv 0) dX10_followBack_65 (by decide) ?_
              refine Rn.pick (lv' := [(0, .ref wa), (1, .ref ga), (2, .int (iv x1)), (3, .ref lA), (4, .int (iv v13_4)), (5, .int (iv v13_5)), (6, .int (iv v24_6)), (7, .int (iv v24_7))]) [0, 1, 2, 3, 4, 5, 6, 7] rfl ?_
              exact B66 _ ht24 0 ⟨by omega, by omega⟩
            · refine r_iconst (pc := 61) (v := iv 1) dX10_followBack_61 (by decide) ?_
              refine r_goto (pc := 62) (tgt := 66) dX10_followBack_62 (by decide) ?_
              refine Rn.pick (lv' := [(0, .ref wa), (1, .ref ga), (2, .int (iv x1)), (3, .ref lA), (4, .int (iv v13_4)), (5, .int (iv v13_5)), (6, .int (iv v24_6)), (7, .int (iv v24_7))]) [0, 1, 2, 3, 4, 5, 6, 7] rfl ?_
              exact B66 _ ht24 1 ⟨by omega, by omega⟩
      refine Rn.pick (lv' := [(0, .ref wa), (1, .ref ga), (2, .int (iv x1)), (3, .ref lA), (4, .int (iv v13_4)), (5, .int (iv v13_5)), (6, .int (iv (-1))), (7, .int (iv 0))]) [2, 3, 4, 5, 6, 7, 1, 0] rfl ?_
      exact B24 (Int.toNat (120 - 0)) _ ht13 (-1) 0 ⟨by omega, by omega, by omega, by omega, by omega⟩ (by omega)
  refine Rn.pick (lv' := [(0, .ref wa), (1, .ref ga), (2, .int (iv x1)), (3, .ref lA), (4, .int (iv x1)), (5, .int (iv (y1 - 1)))]) [2, 3, 4, 5, 1, 0] rfl ?_
  exact B13 (Int.toNat ((y1 - 1) - (-2))) _ ht x1 (y1 - 1) ⟨by omega, by omega, by omega, by omega, by omega, by omega⟩ (by omega)
