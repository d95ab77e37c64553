theorem mx_cg {R : Nat → Nat → Prop} {Z Y k : Int} (h : ∀ i, Me Z i ↔ Me Y i) (hm : mxA R Z k) : mxA R Y k := by
  obtain ⟨⟨s, a1, a2, a3, a4⟩, a5⟩ := hm
  exact ⟨⟨s, a1, fun i g => (h i).mp (a2 i g), a3, a4⟩, fun s hs g => a5 s hs (fun i q => (h i).mpr (g i q))⟩
theorem mxa_exb {R : Nat → Nat → Prop} {S : Int} : ∀ m : Nat, (∀ s : Int, (0 ≤ s ∧ s ≤ 65535) → suP s S → apP R s → bcI s 16 ≤ (m : Int)) → ∃ l, mxA R S l
  | 0, h => ⟨0, ⟨0, by omega, fun i g => absurd g (Me_0 i), ap_0, by decide⟩, fun s h1 h2 h3 => by have := h s h1 h2 h3; omega⟩
  | m + 1, h => by
    by_cases g : ∃ s : Int, (0 ≤ s ∧ s ≤ 65535) ∧ suP s S ∧ apP R s ∧ bcI s 16 = ((m + 1 : Nat) : Int)
    · exact ⟨((m + 1 : Nat) : Int), g, h⟩
    · refine mxa_exb m (fun s h1 h2 h3 => ?_)
      have h4 := h s h1 h2 h3
      have h5 : bcI s 16 ≠ ((m + 1 : Nat) : Int) := fun e => g ⟨s, h1, h2, h3, e⟩
      omega
theorem mxa_ex (R : Nat → Nat → Prop) (S : Int) : ∃ l, mxA R S l := mxa_exb 16 (fun s _ _ _ => (bc_le s 16).2)
theorem mx_d1z {R : Nat → Nat → Prop} (hR : ∀ i j, R i j → R j i) {S Z k z : Int} {v : Nat} (hS : S ≤ 65535) (hv : Me S v) (hd : ∀ i j, Me S i → Me S j → R v i → R v j → i = j) (hZ : lfV R S v Z) (h : mxA R Z k) (hz : z = k + 1) : mxA R S z := by
  subst hz; exact mx_d1 hR hS hv hd hZ h
theorem mx_brz {R : Nat → Nat → Prop} (hR : ∀ i j, R i j → R j i) {S Z Y a b z : Int} {v : Nat} (hS : S ≤ 65535) (hv : Me S v) (hZ : lfV R S v Z) (hY : ∀ i, Me Y i ↔ Me S i ∧ i ≠ v) (ha : mxA R Z a) (hb : mxA R Y b) (hz : (z = a + 1 ∧ b ≤ z) ∨ (z = b ∧ a + 1 ≤ z)) : mxA R S z := by
  have h := mx_br hR hS hv hZ hY ha hb
  rcases hz with ⟨h1, h2⟩ | ⟨h1, h2⟩
  · rw [Int.max_eq_left (by omega)] at h; rw [h1]; exact h
  · rw [Int.max_eq_right (by omega)] at h; rw [h1]; exact h
theorem lf_su {R : Nat → Nat → Prop} {S Z : Int} {v : Nat} (h : lfV R S v Z) : suP Z S := fun i g => ((h i).mp g).1
theorem bc_less {S Z : Int} {v : Nat} (hS : S ≤ 65535) (hZ : 0 ≤ Z ∧ Z ≤ 65535) (hs : suP Z S) (hv : Me S v) (hn : ¬ Me Z v) : bcI Z 16 < bcI S 16 := by
  have h16 := Me_lt hv hS
  obtain ⟨z, z1, z2⟩ := ins_ex hZ h16
  have h1 := bc_ins z2 hn 16
  rw [if_pos h16] at h1
  have h2 := bc_sb (s := z) (z := S) (fun i g => by
    rcases (z2 i).mp g with g | g
    · exact hs i g
    · rw [g]; exact hv) 16
  omega
theorem lfv_lt {R : Nat → Nat → Prop} {S Z : Int} {v : Nat} (h : lfV R S v Z) (hS : S ≤ 65535) (hZ : 0 ≤ Z ∧ Z ≤ 65535) (hv : Me S v) : bcI Z 16 < bcI S 16 := bc_less hS hZ (lf_su h) hv (fun g => ((h v).mp g).2 (Or.inr rfl))
theorem ne_lt {S Z : Int} {v : Nat} (h : ∀ i, Me Z i ↔ Me S i ∧ i ≠ v) (hS : S ≤ 65535) (hZ : 0 ≤ Z ∧ Z ≤ 65535) (hv : Me S v) : bcI Z 16 < bcI S 16 := bc_less hS hZ (fun i g => ((h i).mp g).1) hv (fun g => ((h v).mp g).2 rfl)
/-- the busiest so far -/
def bzP (S v b m : Int) : Prop := (b = -1 ∧ m = -1 ∧ ∀ i : Nat, (i : Int) < v → ¬ Me S i) ∨ (0 ≤ b ∧ Me S (Int.toNat b))
theorem bz_0 {S : Int} : bzP S 0 (-1) (-1) := Or.inl ⟨rfl, rfl, fun i h => by omega⟩
theorem bz_sk {S v b m : Int} (h : bzP S v b m) (hv : 0 ≤ v) (hn : ¬ Me S (Int.toNat v)) : bzP S (v + 1) b m := by
  rcases h with ⟨h1, h2, h3⟩ | h
  · refine Or.inl ⟨h1, h2, fun i hi => ?_⟩
    by_cases e : i = Int.toNat v
    · rw [e]; exact hn
    · exact h3 i (by omega)
  · exact Or.inr h
theorem bz_y {S v w m : Int} (hv : 0 ≤ v) (hm : Me S (Int.toNat v)) : bzP S w v m := Or.inr ⟨hv, hm⟩
theorem bz_n {S v b m w m1 g : Int} (h : bzP S v b m) (hg : g ≤ m) (h1 : 1 < g) : bzP S w b m1 := by
  rcases h with ⟨h2, h3, h4⟩ | h
  · omega
  · exact Or.inr h
theorem bz_e {S v b m : Int} {L : Nat} (h : bzP S v b m) (hb : b < 0) (hS : ∀ i, Me S i → i < L) (hv : (L : Int) ≤ v) : ∀ i, ¬ Me S i := by
  rcases h with ⟨h1, h2, h3⟩ | h
  · exact fun i g => h3 i (by have := hS i g; omega) g
  · omega
theorem bz_m {S v b m : Int} (h : bzP S v b m) (hb : 0 ≤ b) : Me S (Int.toNat b) := by
  rcases h with ⟨h1, h2, h3⟩ | h
  · omega
  · exact h.2
/-- the same, with the node that comes next -/
def clK (R : Nat → Nat → Prop) (S G c o v : Int) : Prop := clJ R S G c o (Int.toNat (v + 1))
theorem clk_0 {R : Nat → Nat → Prop} {S G v : Int} {n : Nat} (hn : ∀ i, Me S i → i < n) (h : mxA R S G) (hv : v = (n : Int) - 1) : clK R S G 0 S v := by
  have h1 := clj_0 hn h
  unfold clK
  rw [show Int.toNat (v + 1) = n by omega]; exact h1
theorem clk_u {R : Nat → Nat → Prop} {S G c o v : Int} (h : clK R S G c o v) (hv : 0 ≤ v) : clJ R S G c o (Int.toNat v + 1) := by
  unfold clK at h
  rw [show Int.toNat (v + 1) = Int.toNat v + 1 by omega] at h; exact h
theorem clk_d {R : Nat → Nat → Prop} {S G c o v w : Int} (h : clJ R S G c o (Int.toNat v)) (hv : w + 1 = v) : clK R S G c o w := by
  unfold clK; rw [hv]; exact h
theorem clk_e {R : Nat → Nat → Prop} {S G c o v : Int} (h : clK R S G c o v) (hv : v < 0) : clA R S c := by
  unfold clK at h
  rw [show Int.toNat (v + 1) = 0 by omega] at h; exact clj_end h
theorem mx_b {R : Nat → Nat → Prop} {S k : Int} (h : mxA R S k) : 0 ≤ k ∧ k ≤ 16 := by
  obtain ⟨⟨s, -, -, -, e⟩, -⟩ := h
  rw [← e]; exact bc_le s 16
theorem ma_ret {Γ : TG} {R : Nat → Nat → Prop} {S k : Int} {hp1 : MH} {n : Nat} (ht : Tw Γ hp1) (h : mxA R S k) : pI Γ n (fun r => (0 ≤ r ∧ r ≤ 16) ∧ mxA R S r) (some (.int (iv k))) hp1 n := ⟨rfl, ht, _, rfl, mx_b h, h⟩
set_option maxHeartbeats 4000000 in
set_option maxRecDepth 100000 in
theorem c_X7_mostApart_st {D : va_G} {cI cJ cZ cT : ClassId} {lo b L : Nat} {xs : Nat → Int32} {hp : MH} {n d : Nat} {Γ : TG} {rA rL rM : Nat} {Nx : Nat → Int} {R : Nat → Nat → Prop} {x1 x2 : Int} (hd0 : 1 ≤ d) (hrA : rd Γ rA (xI cI rL Nx)) (hrR : Rfx rL 0 65535 Nx) (hrL : rL ≤ 16) (hrM : rM ≤ rL) (hrw : ∀ i, i < rM → ∀ j, Me (Nx i) j ↔ R i j) (ht : Tw Γ hp) (hx1 : 0 ≤ x1 ∧ x1 ≤ 65535) (hx2 : 0 ≤ x2 ∧ x2 ≤ 16) (hsy : ∀ i j, R i j → R j i) (hS9 : ∀ i, Me x1 i → i < rM) (ih : ∀ (hp : MH) (n : Nat) (z : Int), Tw Γ hp → (0 ≤ z ∧ z ≤ 65535) → suP z x1 → bcI z 16 < bcI x1 16 → Mt (gG D cI cJ cZ cT lo b L xs) mX7_mostApart (d - 1) 0 0 [.ref rA, .int (iv z), .int (iv (x2 + 1))] hp n (pI Γ n (fun r => (0 ≤ r ∧ r ≤ 16) ∧ mxA R z r))) : Mt (gG D cI cJ cZ cT lo b L xs) mX7_mostApart d 0 0 [.ref rA, .int (iv x1), .int (iv x2)] hp n (pI Γ n (fun r => (0 ≤ r ∧ r ≤ 16) ∧ mxA R x1 r)) := by
  refine Mt.of rfl (Nat.le_of_ble_eq_true rfl) ?_
  refine Rn.pick (lv' := [(0, .ref rA), (1, .int (iv x1)), (2, .int (iv x2))]) [0, 1, 2] rfl ?_
  have hb1 := bc_le x1 16
  refine r_iload_n (pc := 0) dX7_mostApart_0 (i := 2) rfl rfl ?_
  refine r_bipush (pc := 1) (v := iv 16) dX7_mostApart_1 (by decide) ?_
  refine t_icmp_le (pc := 3) (tgt := 8) dX7_mostApart_3 (by decide) (by omega) (by omega) (fun c3 => ?_) (fun c3 => ?_)
  · refine r_iconst (pc := 8) (v := iv (-1)) dX7_mostApart_8 (by decide) ?_
    refine r_istore_n (pc := 9) (lv' := [(3, .int (iv (-1))), (0, .ref rA), (1, .int (iv x1)), (2, .int (iv x2))]) dX7_mostApart_9 (i := 3) rfl (by decide) rfl ?_
    refine r_iconst (pc := 10) (v := iv (-1)) dX7_mostApart_10 (by decide) ?_
    refine r_istore (pc := 11) (lv' := [(4, .int (iv (-1))), (3, .int (iv (-1))), (0, .ref rA), (1, .int (iv x1)), (2, .int (iv x2))]) dX7_mostApart_11 (by decide) rfl ?_
    refine r_iconst (pc := 13) (v := iv 0) dX7_mostApart_13 (by decide) ?_
    refine r_istore (pc := 14) (lv' := [(5, .int (iv 0)), (4, .int (iv (-1))), (3, .int (iv (-1))), (0, .ref rA), (1, .int (iv x1)), (2, .int (iv x2))]) dX7_mostApart_14 (by decide) rfl ?_
    have B16 : ∀ k : Nat, ∀ hp16 : MH, Tw Γ hp16 → ∀  (v16_3 : Int) (v16_4 : Int) (v16_5 : Int), (-1) ≤ v16_3 ∧ v16_3 ≤ 15 ∧ (-1) ≤ v16_4 ∧ v16_4 ≤ 16 ∧ 0 ≤ v16_5 ∧ v16_5 ≤ 16 ∧ (v16_5 ≤ (rL : Int)) ∧ (v16_3 < (rL : Int)) ∧ (bzP x1 v16_5 v16_3 v16_4) → 16 - v16_5 ≤ (k : Int) → Rn (gG D cI cJ cZ cT lo b L xs) mX7_mostApart d 16 [(0, .ref rA), (1, .int (iv x1)), (2, .int (iv x2)), (3, .int (iv v16_3)), (4, .int (iv v16_4)), (5, .int (iv v16_5))] [] hp16 n 0 0 (pI Γ n (fun r => (0 ≤ r ∧ r ≤ 16) ∧ mxA R x1 r)) := by
      refine lpS _ ?_
      intro k16 ih16 hp16 ht16 v16_3 v16_4 v16_5 hf16 hm16
      obtain ⟨hf16_0, hf16_1, hf16_2, hf16_3, hf16_4, hf16_5, hf16_6, hf16_7, ha16_8⟩ := hf16
      refine r_iload (pc := 16) dX7_mostApart_16 rfl ?_
      refine r_aload_n (pc := 18) dX7_mostApart_18 (i := 0) rfl rfl ?_
      refine t_lenI (pc := 19) (t0 := 0) ht16 hrA dX7_mostApart_19 rfl ?_
      refine t_icmp_ge (pc := 20) (tgt := 101) dX7_mostApart_20 (by decide) (by omega) (by omega) (fun c20 => ?_) (fun c20 => ?_)
      · refine r_iload_n (pc := 101) dX7_mostApart_101 (i := 3) rfl rfl ?_
        refine t_if_ge (pc := 102) (tgt := 107) dX7_mostApart_102 (by decide) (by omega) (fun c102 => ?_) (fun c102 => ?_)
        · have hbm := bz_m (by assumption : bzP x1 v16_5 v16_3 v16_4) (by omega)
          refine r_iconst (pc := 107) (v := iv 1) dX7_mostApart_107 (by decide) ?_
          refine r_aload_n (pc := 108) dX7_mostApart_108 (i := 0) rfl rfl ?_
          refine r_iload_n (pc := 109) dX7_mostApart_109 (i := 1) rfl rfl ?_
          refine r_aload_n (pc := 110) dX7_mostApart_110 (i := 0) rfl rfl ?_
          refine r_iload_n (pc := 111) dX7_mostApart_111 (i := 3) rfl rfl ?_
          refine t_ialdX (pc := 112) (t0 := 0) ht16 hrA dX7_mostApart_112 rfl (by omega) (by omega) (fun b1 => ?_)
          have rb1 := (show Rfx rL 0 65535 Nx by assumption) (Int.toNat v16_3) (by omega)
          refine r_iconst (pc := 113) (v := iv 1) dX7_mostApart_113 (by decide) ?_
          refine r_iload_n (pc := 114) dX7_mostApart_114 (i := 3) rfl rfl ?_
          refine r_ishl (pc := 115) (v := iv ((2 ^ Int.toNat v16_3 : Nat) : Int)) dX7_mostApart_115 (shl_e (by omega)) ?_
          have mp115_2 : 1 ≤ 2 ^ Int.toNat v16_3 := Nat.one_le_two_pow
          have mq115_3 : 2 ^ Int.toNat v16_3 ≤ 2 ^ 15 := Nat.pow_le_pow_right (by omega) (by omega)
          have ms115 := Me_shl (Int.toNat v16_3)
          obtain ⟨z4, hz4, bz4⟩ := or_2 16 (Nx (Int.toNat v16_3)) ((2 ^ Int.toNat v16_3 : Nat) : Int) (by omega) (by omega) (by decide)
          refine r_ior (pc := 116) (v := iv z4) dX7_mostApart_116 hz4 ?_
          have mez4 := Me_or hz4 (by omega) (by omega) (by omega)
          refine r_iconst (pc := 117) (v := iv (-1)) dX7_mostApart_117 (by decide) ?_
          refine r_ixor (pc := 118) (v := iv (-z4 - 1)) dX7_mostApart_118 (iv_not _) ?_
          obtain ⟨z5, hz5, bz5⟩ := and_l x1 (-z4 - 1) (by omega) (by omega)
          refine r_iand (pc := 119) (v := iv z5) dX7_mostApart_119 hz5 ?_
          have mez5 := Me_not (y := z4) hz5 (by omega) (by omega) (by omega)
          have hlf : lfV R x1 (Int.toNat v16_3) z5 := fun i => by rw [mez5 i, mez4 i, ms115 i, hrw (Int.toNat v16_3) (hS9 _ hbm) i]
          have hsu := lf_su hlf
          have hlt := lfv_lt hlf (by omega) (by omega) hbm
          have hlf9 := hlf
          refine r_iload_n (pc := 120) dX7_mostApart_120 (i := 2) rfl rfl ?_
          refine r_iconst (pc := 121) (v := iv 1) dX7_mostApart_121 (by decide) ?_
          refine r_iadd (pc := 122) (v := iv (x2 + 1)) dX7_mostApart_122 (iv_add _ _) ?_
          refine t_callSI (pc := 123) (as := [.ref rA, .int (iv z5), .int (iv (x2 + 1))]) (st := [.int (iv 1)]) kX7_48 dX7_mostApart_123 (ih _ _ z5 ht16 (by omega) hsu hlt) rfl (by omega) (Nat.le_of_ble_eq_true rfl) rfl (fun hp7 y6 ht8 by6 => ?_)
          obtain ⟨by61, hmx123⟩ := by6
          refine r_iadd (pc := 126) (v := iv (1 + y6)) dX7_mostApart_126 (iv_add _ _) ?_
          refine r_istore (pc := 127) (lv' := [(5, .int (iv (1 + y6))), (0, .ref rA), (1, .int (iv x1)), (2, .int (iv x2)), (3, .int (iv v16_3)), (4, .int (iv v16_4))]) dX7_mostApart_127 (by decide) rfl ?_
          refine r_aload_n (pc := 129) dX7_mostApart_129 (i := 0) rfl rfl ?_
          refine r_iload_n (pc := 130) dX7_mostApart_130 (i := 1) rfl rfl ?_
          refine r_iconst (pc := 131) (v := iv 1) dX7_mostApart_131 (by decide) ?_
          refine r_iload_n (pc := 132) dX7_mostApart_132 (i := 3) rfl rfl ?_
          refine r_ishl (pc := 133) (v := iv ((2 ^ Int.toNat v16_3 : Nat) : Int)) dX7_mostApart_133 (shl_e (by omega)) ?_
          have mp133_9 : 1 ≤ 2 ^ Int.toNat v16_3 := Nat.one_le_two_pow
          have mq133_10 : 2 ^ Int.toNat v16_3 ≤ 2 ^ 15 := Nat.pow_le_pow_right (by omega) (by omega)
          have ms133 := Me_shl (Int.toNat v16_3)
          refine r_iconst (pc := 134) (v := iv (-1)) dX7_mostApart_134 (by decide) ?_
          refine r_ixor (pc := 135) (v := iv (-((2 ^ Int.toNat v16_3 : Nat) : Int) - 1)) dX7_mostApart_135 (iv_not _) ?_
          obtain ⟨z11, hz11, bz11⟩ := and_l x1 (-((2 ^ Int.toNat v16_3 : Nat) : Int) - 1) (by omega) (by omega)
          refine r_iand (pc := 136) (v := iv z11) dX7_mostApart_136 hz11 ?_
          have mez11 := Me_not (y := ((2 ^ Int.toNat v16_3 : Nat) : Int)) hz11 (by omega) (by omega) (by omega)
          have hyy : ∀ i, Me z11 i ↔ Me x1 i ∧ i ≠ Int.toNat v16_3 := fun i => by rw [mez11 i, ms133 i]
          have hsu : suP z11 x1 := fun i g => ((hyy i).mp g).1
          have hlt := ne_lt hyy (by omega) (by omega) hbm
          refine r_iload_n (pc := 137) dX7_mostApart_137 (i := 2) rfl rfl ?_
          refine r_iconst (pc := 138) (v := iv 1) dX7_mostApart_138 (by decide) ?_
          refine r_iadd (pc := 139) (v := iv (x2 + 1)) dX7_mostApart_139 (iv_add _ _) ?_
          refine t_callSI (pc := 140) (as := [.ref rA, .int (iv z11), .int (iv (x2 + 1))]) (st := []) kX7_48 dX7_mostApart_140 (ih _ _ z11 ht8 (by omega) hsu hlt) rfl (by omega) (Nat.le_of_ble_eq_true rfl) rfl (fun hp13 y12 ht14 by12 => ?_)
          obtain ⟨by121, hmx140⟩ := by12
          refine r_istore (pc := 143) (lv' := [(6, .int (iv y12)), (5, .int (iv (1 + y6))), (0, .ref rA), (1, .int (iv x1)), (2, .int (iv x2)), (3, .int (iv v16_3)), (4, .int (iv v16_4))]) dX7_mostApart_143 (by decide) rfl ?_
          refine r_iload (pc := 145) dX7_mostApart_145 rfl ?_
          refine r_iload (pc := 147) dX7_mostApart_147 rfl ?_
          obtain ⟨z15, hz15, bz15⟩ := max_b (1 + y6) y12 (by omega) (by omega)
          refine r_mmax (pc := 149) (v := iv z15) qX7_58 dX7_mostApart_149 (Nat.le_of_ble_eq_true rfl) hz15 ?_
          exact r_iret (pc := 152) dX7_mostApart_152 rfl (ma_ret (S := x1) (k := z15) ht14 (mx_brz hsy (by omega) hbm hlf9 hyy hmx123 hmx140 (by omega)))
        · have hno := bz_e (by assumption : bzP x1 v16_5 v16_3 v16_4) (by omega) hS9 (by omega)
          refine r_iconst (pc := 105) (v := iv 0) dX7_mostApart_105 (by decide) ?_
          exact r_iret (pc := 106) dX7_mostApart_106 rfl (ma_ret (S := x1) (k := 0) ht16 (mx_0 hno))
      · refine r_iload_n (pc := 23) dX7_mostApart_23 (i := 1) rfl rfl ?_
        refine r_iload (pc := 24) dX7_mostApart_24 rfl ?_
        have hq26_16 := shr_le (Int.toNat x1) (Int.toNat v16_5)
        refine r_ishr (pc := 26) (v := iv ((Int.toNat x1 >>> Int.toNat v16_5 : Nat) : Int)) dX7_mostApart_26 (shr_e (by omega) (by omega)) ?_
        refine r_iconst (pc := 27) (v := iv 1) dX7_mostApart_27 (by decide) ?_
        refine r_iand (pc := 28) (v := iv (((Int.toNat x1 >>> Int.toNat v16_5 : Nat) : Int) % 2)) dX7_mostApart_28 (and1_e _ (by omega)) ?_
        have mb28 := @Me_bit x1 v16_5
        refine t_if_eq (pc := 29) (tgt := 95) dX7_mostApart_29 (by decide) (by omega) (fun c29 => ?_) (fun c29 => ?_)
        · have nm29 : ¬ Me x1 (Int.toNat v16_5) := fun h9 => absurd (Me_bit.mpr h9) (by omega)
          have hbz := bz_sk (by assumption : bzP x1 v16_5 v16_3 v16_4) (by omega) nm29
          refine r_iinc (pc := 95) (v := iv (v16_5 + 1)) (lv' := [(5, .int (iv (v16_5 + 1))), (0, .ref rA), (1, .int (iv x1)), (2, .int (iv x2)), (3, .int (iv v16_3)), (4, .int (iv v16_4))]) dX7_mostApart_95 rfl (iv_add _ _) (by decide) rfl ?_
          refine r_goto (pc := 98) (tgt := 16) dX7_mostApart_98 (by decide) ?_
          refine Rn.pick (lv' := [(0, .ref rA), (1, .int (iv x1)), (2, .int (iv x2)), (3, .int (iv v16_3)), (4, .int (iv v16_4)), (5, .int (iv (v16_5 + 1)))]) [1, 2, 3, 4, 5, 0] rfl ?_
          exact ih16 (Int.toNat (16 - (v16_5 + 1))) (by omega) _ ht16 v16_3 v16_4 (v16_5 + 1) ⟨by omega, by omega, by omega, by omega, by omega, by omega, by omega, by omega, by (first | exact hbz | exact hbz _ | exact bz_0)⟩ (by omega)
        · have pm29 : Me x1 (Int.toNat v16_5) := Me_bit.mp (by omega)
          refine r_aload_n (pc := 32) dX7_mostApart_32 (i := 0) rfl rfl ?_
          refine r_iload (pc := 33) dX7_mostApart_33 rfl ?_
          refine t_ialdX (pc := 35) (t0 := 0) ht16 hrA dX7_mostApart_35 rfl (by omega) (by omega) (fun b17 => ?_)
          have rb17 := (show Rfx rL 0 65535 Nx by assumption) (Int.toNat v16_5) (by omega)
          refine r_iload_n (pc := 36) dX7_mostApart_36 (i := 1) rfl rfl ?_
          obtain ⟨z18, hz18, bz18⟩ := and_2 (Nx (Int.toNat v16_5)) x1 (by omega) (by omega)
          refine r_iand (pc := 37) (v := iv z18) dX7_mostApart_37 hz18 ?_
          have mez18 := Me_and hz18 (by omega) (by omega) (by omega)
          refine t_callSI (pc := 38) (as := [.int (iv z18)]) (st := []) kX7_52 dX7_mostApart_38 (t_bitCountx (d := d - 1) (x := z18) (by omega) ht16 (by omega)) rfl (by omega) (Nat.le_of_ble_eq_true rfl) rfl (fun hp20 y19 ht21 by19 => ?_)
          have ey19 : y19 = bcI z18 16 := by19
          subst ey19
          have ry19 := bc_le z18 16
          refine r_istore (pc := 41) (lv' := [(6, .int (iv (bcI z18 16))), (0, .ref rA), (1, .int (iv x1)), (2, .int (iv x2)), (3, .int (iv v16_3)), (4, .int (iv v16_4)), (5, .int (iv v16_5))]) dX7_mostApart_41 (by decide) rfl ?_
          refine r_iload (pc := 43) dX7_mostApart_43 rfl ?_
          refine r_iconst (pc := 45) (v := iv 1) dX7_mostApart_45 (by decide) ?_
          refine t_icmp_gt (pc := 46) (tgt := 72) dX7_mostApart_46 (by decide) (by omega) (by omega) (fun c46 => ?_) (fun c46 => ?_)
          · refine r_iload (pc := 72) dX7_mostApart_72 rfl ?_
            refine r_iload (pc := 74) dX7_mostApart_74 rfl ?_
            refine t_icmp_le (pc := 76) (tgt := 84) dX7_mostApart_76 (by decide) (by omega) (by omega) (fun c76 => ?_) (fun c76 => ?_)
            · have hbz : ∀ m1, bzP x1 (v16_5 + 1) v16_3 m1 := fun m1 => bz_n (by assumption : bzP x1 v16_5 v16_3 v16_4) (by omega) (by omega)
              refine r_iload_n (pc := 84) dX7_mostApart_84 (i := 3) rfl rfl ?_
              refine r_istore_n (pc := 85) (lv' := [(3, .int (iv v16_3)), (6, .int (iv (bcI z18 16))), (0, .ref rA), (1, .int (iv x1)), (2, .int (iv x2)), (4, .int (iv v16_4)), (5, .int (iv v16_5))]) dX7_mostApart_85 (i := 3) rfl (by decide) rfl ?_
              refine r_iload (pc := 86) dX7_mostApart_86 rfl ?_
              refine r_iload (pc := 88) dX7_mostApart_88 rfl ?_
              obtain ⟨z22, hz22, bz22⟩ := max_b v16_4 (bcI z18 16) (by omega) (by omega)
              refine r_mmax (pc := 90) (v := iv z22) qX7_58 dX7_mostApart_90 (Nat.le_of_ble_eq_true rfl) hz22 ?_
              refine r_istore (pc := 93) (lv' := [(4, .int (iv z22)), (3, .int (iv v16_3)), (6, .int (iv (bcI z18 16))), (0, .ref rA), (1, .int (iv x1)), (2, .int (iv x2)), (5, .int (iv v16_5))]) dX7_mostApart_93 (by decide) rfl ?_
              refine r_iinc (pc := 95) (v := iv (v16_5 + 1)) (lv' := [(5, .int (iv (v16_5 + 1))), (4, .int (iv z22)), (3, .int (iv v16_3)), (6, .int (iv (bcI z18 16))), (0, .ref rA), (1, .int (iv x1)), (2, .int (iv x2))]) dX7_mostApart_95 rfl (iv_add _ _) (by decide) rfl ?_
              refine r_goto (pc := 98) (tgt := 16) dX7_mostApart_98 (by decide) ?_
              refine Rn.pick (lv' := [(0, .ref rA), (1, .int (iv x1)), (2, .int (iv x2)), (3, .int (iv v16_3)), (4, .int (iv z22)), (5, .int (iv (v16_5 + 1)))]) [4, 5, 6, 2, 1, 0] rfl ?_
              exact ih16 (Int.toNat (16 - (v16_5 + 1))) (by omega) _ ht21 v16_3 z22 (v16_5 + 1) ⟨by omega, by omega, by omega, by omega, by omega, by omega, by omega, by omega, by (first | exact hbz | exact hbz _ | exact bz_0)⟩ (by omega)
            · have hbz : ∀ m1, bzP x1 (v16_5 + 1) v16_5 m1 := fun m1 => bz_y (by omega) pm29
              refine r_iload (pc := 79) dX7_mostApart_79 rfl ?_
              refine r_goto (pc := 81) (tgt := 85) dX7_mostApart_81 (by decide) ?_
              refine r_istore_n (pc := 85) (lv' := [(3, .int (iv v16_5)), (6, .int (iv (bcI z18 16))), (0, .ref rA), (1, .int (iv x1)), (2, .int (iv x2)), (4, .int (iv v16_4)), (5, .int (iv v16_5))]) dX7_mostApart_85 (i := 3) rfl (by decide) rfl ?_
              refine r_iload (pc := 86) dX7_mostApart_86 rfl ?_
              refine r_iload (pc := 88) dX7_mostApart_88 rfl ?_
              obtain ⟨z23, hz23, bz23⟩ := max_b v16_4 (bcI z18 16) (by omega) (by omega)
              refine r_mmax (pc := 90) (v := iv z23) qX7_58 dX7_mostApart_90 (Nat.le_of_ble_eq_true rfl) hz23 ?_
              refine r_istore (pc := 93) (lv' := [(4, .int (iv z23)), (3, .int (iv v16_5)), (6, .int (iv (bcI z18 16))), (0, .ref rA), (1, .int (iv x1)), (2, .int (iv x2)), (5, .int (iv v16_5))]) dX7_mostApart_93 (by decide) rfl ?_
              refine r_iinc (pc := 95) (v := iv (v16_5 + 1)) (lv' := [(5, .int (iv (v16_5 + 1))), (4, .int (iv z23)), (3, .int (iv v16_5)), (6, .int (iv (bcI z18 16))), (0, .ref rA), (1, .int (iv x1)), (2, .int (iv x2))]) dX7_mostApart_95 rfl (iv_add _ _) (by decide) rfl ?_
              refine r_goto (pc := 98) (tgt := 16) dX7_mostApart_98 (by decide) ?_
              refine Rn.pick (lv' := [(0, .ref rA), (1, .int (iv x1)), (2, .int (iv x2)), (3, .int (iv v16_5)), (4, .int (iv z23)), (5, .int (iv (v16_5 + 1)))]) [4, 5, 6, 2, 1, 0] rfl ?_
              exact ih16 (Int.toNat (16 - (v16_5 + 1))) (by omega) _ ht21 v16_5 z23 (v16_5 + 1) ⟨by omega, by omega, by omega, by omega, by omega, by omega, by omega, by omega, by (first | exact hbz | exact hbz _ | exact bz_0)⟩ (by omega)
          · have hd1 : ∀ i j, Me x1 i → Me x1 j → R (Int.toNat v16_5) i → R (Int.toNat v16_5) j → i = j := fun i j g1 g2 g3 g4 => bc_two16 (x := z18) (by omega) (by omega) ((mez18 i).mpr ⟨(hrw (Int.toNat v16_5) (hS9 _ pm29) i).mpr g3, g1⟩) ((mez18 j).mpr ⟨(hrw (Int.toNat v16_5) (hS9 _ pm29) j).mpr g4, g2⟩)
            refine r_iconst (pc := 49) (v := iv 1) dX7_mostApart_49 (by decide) ?_
            refine r_aload_n (pc := 50) dX7_mostApart_50 (i := 0) rfl rfl ?_
            refine r_iload_n (pc := 51) dX7_mostApart_51 (i := 1) rfl rfl ?_
            refine r_aload_n (pc := 52) dX7_mostApart_52 (i := 0) rfl rfl ?_
            refine r_iload (pc := 53) dX7_mostApart_53 rfl ?_
            refine t_ialdX (pc := 55) (t0 := 0) ht21 hrA dX7_mostApart_55 rfl (by omega) (by omega) (fun b24 => ?_)
            have rb24 := (show Rfx rL 0 65535 Nx by assumption) (Int.toNat v16_5) (by omega)
            refine r_iconst (pc := 56) (v := iv 1) dX7_mostApart_56 (by decide) ?_
            refine r_iload (pc := 57) dX7_mostApart_57 rfl ?_
            refine r_ishl (pc := 59) (v := iv ((2 ^ Int.toNat v16_5 : Nat) : Int)) dX7_mostApart_59 (shl_e (by omega)) ?_
            have mp59_25 : 1 ≤ 2 ^ Int.toNat v16_5 := Nat.one_le_two_pow
            have mq59_26 : 2 ^ Int.toNat v16_5 ≤ 2 ^ 15 := Nat.pow_le_pow_right (by omega) (by omega)
            have ms59 := Me_shl (Int.toNat v16_5)
            obtain ⟨z27, hz27, bz27⟩ := or_2 16 (Nx (Int.toNat v16_5)) ((2 ^ Int.toNat v16_5 : Nat) : Int) (by omega) (by omega) (by decide)
            refine r_ior (pc := 60) (v := iv z27) dX7_mostApart_60 hz27 ?_
            have mez27 := Me_or hz27 (by omega) (by omega) (by omega)
            refine r_iconst (pc := 61) (v := iv (-1)) dX7_mostApart_61 (by decide) ?_
            refine r_ixor (pc := 62) (v := iv (-z27 - 1)) dX7_mostApart_62 (iv_not _) ?_
            obtain ⟨z28, hz28, bz28⟩ := and_l x1 (-z27 - 1) (by omega) (by omega)
            refine r_iand (pc := 63) (v := iv z28) dX7_mostApart_63 hz28 ?_
            have mez28 := Me_not (y := z27) hz28 (by omega) (by omega) (by omega)
            have hlf : lfV R x1 (Int.toNat v16_5) z28 := fun i => by rw [mez28 i, mez27 i, ms59 i, hrw (Int.toNat v16_5) (hS9 _ pm29) i]
            have hsu := lf_su hlf
            have hlt := lfv_lt hlf (by omega) (by omega) pm29
            refine r_iload_n (pc := 64) dX7_mostApart_64 (i := 2) rfl rfl ?_
            refine r_iconst (pc := 65) (v := iv 1) dX7_mostApart_65 (by decide) ?_
            refine r_iadd (pc := 66) (v := iv (x2 + 1)) dX7_mostApart_66 (iv_add _ _) ?_
            refine t_callSI (pc := 67) (as := [.ref rA, .int (iv z28), .int (iv (x2 + 1))]) (st := [.int (iv 1)]) kX7_48 dX7_mostApart_67 (ih _ _ z28 ht21 (by omega) hsu hlt) rfl (by omega) (Nat.le_of_ble_eq_true rfl) rfl (fun hp30 y29 ht31 by29 => ?_)
            obtain ⟨by291, hmx67⟩ := by29
            refine r_iadd (pc := 70) (v := iv (1 + y29)) dX7_mostApart_70 (iv_add _ _) ?_
            exact r_iret (pc := 71) dX7_mostApart_71 rfl (ma_ret (S := x1) (k := 1 + y29) ht31 (mx_d1z hsy (by omega) pm29 hd1 hlf hmx67 (by omega)))
    refine Rn.pick (lv' := [(0, .ref rA), (1, .int (iv x1)), (2, .int (iv x2)), (3, .int (iv (-1))), (4, .int (iv (-1))), (5, .int (iv 0))]) [3, 4, 5, 2, 1, 0] rfl ?_
    exact B16 (Int.toNat (16 - 0)) _ ht (-1) (-1) 0 ⟨by omega, by omega, by omega, by omega, by omega, by omega, by omega, by omega, by (first | exact hbz | exact hbz _ | exact bz_0)⟩ (by omega)
  · exfalso
    omega
theorem c_X7_mostApartx {D : va_G} {cI cJ cZ cT : ClassId} {lo b L : Nat} {xs : Nat → Int32} {Γ : TG} {rA rL rM : Nat} {Nx : Nat → Int} {R : Nat → Nat → Prop} (hrA : rd Γ rA (xI cI rL Nx)) (hrR : Rfx rL 0 65535 Nx) (hrL : rL ≤ 16) (hrM : rM ≤ rL) (hrw : ∀ i, i < rM → ∀ j, Me (Nx i) j ↔ R i j) (hsy : ∀ i j, R i j → R j i) (k : Nat) : ∀ (hp : MH) (n d : Nat) (x1 x2 : Int), bcI x1 16 ≤ (k : Int) → k + 1 ≤ d → (0 ≤ x1 ∧ x1 ≤ 65535) → 0 ≤ x2 → bcI x1 16 + x2 ≤ 16 → (∀ i, Me x1 i → i < rM) → Tw Γ hp → Mt (gG D cI cJ cZ cT lo b L xs) mX7_mostApart d 0 0 [.ref rA, .int (iv x1), .int (iv x2)] hp n (pI Γ n (fun r => (0 ≤ r ∧ r ≤ 16) ∧ mxA R x1 r)) := by
  induction k with
  | zero =>
    intro hp n d x1 x2 h1 h2 h3 h4 h5 h6 ht
    have hb := bc_le x1 16
    exact c_X7_mostApart_st (by omega) hrA hrR hrL hrM hrw ht h3 (by omega) hsy h6 (fun hp n z g1 g2 g3 g4 => absurd (bc_le z 16) (by omega))
  | succ k ih =>
    intro hp n d x1 x2 h1 h2 h3 h4 h5 h6 ht
    have hb := bc_le x1 16
    exact c_X7_mostApart_st (by omega) hrA hrR hrL hrM hrw ht h3 (by omega) hsy h6 (fun hp n z g1 g2 g3 g4 => ih hp n (d - 1) z (x2 + 1) (by omega) (by omega) g2 (by omega) (by omega) (fun i g => h6 i (g3 i g)) g1)
set_option maxHeartbeats 4000000 in
set_option maxRecDepth 100000 in
theorem c_X7_leastOfGreatestx {D : va_G} {cI cJ cZ cT : ClassId} {lo b L : Nat} {xs : Nat → Int32} {hp : MH} {n d : Nat} {Γ : TG} {rA rL rM : Nat} {Nx : Nat → Int} {R : Nat → Nat → Prop} {x1 : Int} (hd0 : 18 ≤ d) (hrA : rd Γ rA (xI cI rL Nx)) (hrR : Rfx rL 0 65535 Nx) (hrL : rL ≤ 16) (hrM : rM ≤ rL) (hrw : ∀ i, i < rM → ∀ j, Me (Nx i) j ↔ R i j) (ht : Tw Γ hp) (hx1 : 0 ≤ x1 ∧ x1 ≤ 65535) (hsy : ∀ i j, R i j → R j i) (hS9 : ∀ i, Me x1 i → i < rM) : Mt (gG D cI cJ cZ cT lo b L xs) mX7_leastOfGreatest d 0 0 [.ref rA, .int (iv x1)] hp n (pI Γ n (fun r => (0 ≤ r ∧ r ≤ 65535) ∧ clA R x1 r)) := by
  refine Mt.of rfl (Nat.le_of_ble_eq_true rfl) ?_
  refine Rn.pick (lv' := [(0, .ref rA), (1, .int (iv x1))]) [0, 1] rfl ?_
  have hb1 := bc_le x1 16
  refine r_aload_n (pc := 0) dX7_leastOfGreatest_0 (i := 0) rfl rfl ?_
  refine r_iload_n (pc := 1) dX7_leastOfGreatest_1 (i := 1) rfl rfl ?_
  refine r_iconst (pc := 2) (v := iv 0) dX7_leastOfGreatest_2 (by decide) ?_
  refine t_callSI (pc := 3) (as := [.ref rA, .int (iv x1), .int (iv 0)]) (st := []) kX7_48 dX7_leastOfGreatest_3 (c_X7_mostApartx hrA hrR hrL hrM hrw hsy 16 _ _ (d - 1) x1 0 (by omega) (by omega) (by omega) (by omega) (by omega) hS9 ht) rfl (by omega) (Nat.le_of_ble_eq_true rfl) rfl (fun hp1 y3 ht2 by3 => ?_)
  obtain ⟨by31, hmx3⟩ := by3
  refine r_istore_n (pc := 6) (lv' := [(2, .int (iv y3)), (0, .ref rA), (1, .int (iv x1))]) dX7_leastOfGreatest_6 (i := 2) rfl (by decide) rfl ?_
  refine r_iconst (pc := 7) (v := iv 0) dX7_leastOfGreatest_7 (by decide) ?_
  refine r_istore_n (pc := 8) (lv' := [(3, .int (iv 0)), (2, .int (iv y3)), (0, .ref rA), (1, .int (iv x1))]) dX7_leastOfGreatest_8 (i := 3) rfl (by decide) rfl ?_
  refine r_iload_n (pc := 9) dX7_leastOfGreatest_9 (i := 1) rfl rfl ?_
  refine r_istore (pc := 10) (lv' := [(4, .int (iv x1)), (3, .int (iv 0)), (2, .int (iv y3)), (0, .ref rA), (1, .int (iv x1))]) dX7_leastOfGreatest_10 (by decide) rfl ?_
  refine r_aload_n (pc := 12) dX7_leastOfGreatest_12 (i := 0) rfl rfl ?_
  refine t_lenI (pc := 13) (t0 := 0) ht2 hrA dX7_leastOfGreatest_13 rfl ?_
  refine r_iconst (pc := 14) (v := iv 1) dX7_leastOfGreatest_14 (by decide) ?_
  refine r_isub (pc := 15) (v := iv ((rL : Int) - 1)) dX7_leastOfGreatest_15 (iv_sub _ _) ?_
  refine r_istore (pc := 16) (lv' := [(5, .int (iv ((rL : Int) - 1))), (4, .int (iv x1)), (3, .int (iv 0)), (2, .int (iv y3)), (0, .ref rA), (1, .int (iv x1))]) dX7_leastOfGreatest_16 (by decide) rfl ?_
  have B18 : ∀ k : Nat, ∀ hp18 : MH, Tw Γ hp18 → ∀  (v18_3 : Int) (v18_4 : Int) (v18_5 : Int), 0 ≤ v18_3 ∧ v18_3 ≤ 65535 ∧ 0 ≤ v18_4 ∧ v18_4 ≤ 65535 ∧ v18_4 ≤ x1 ∧ (-1) ≤ v18_5 ∧ v18_5 ≤ 15 ∧ v18_5 ≤ (rL : Int) - 1 ∧ (v18_5 < (rL : Int)) ∧ (clK R x1 y3 v18_3 v18_4 v18_5) → v18_5 + 1 ≤ (k : Int) → Rn (gG D cI cJ cZ cT lo b L xs) mX7_leastOfGreatest d 18 [(0, .ref rA), (2, .int (iv y3)), (3, .int (iv v18_3)), (4, .int (iv v18_4)), (5, .int (iv v18_5))] [] hp18 n 0 0 (pI Γ n (fun r => (0 ≤ r ∧ r ≤ 65535) ∧ clA R x1 r)) := by
    refine lpS _ ?_
    intro k18 ih18 hp18 ht18 v18_3 v18_4 v18_5 hf18 hm18
    obtain ⟨hf18_0, hf18_1, hf18_2, hf18_3, hf18_4, hf18_5, hf18_6, hf18_7, hf18_8, ha18_9⟩ := hf18
    refine r_iload (pc := 18) dX7_leastOfGreatest_18 rfl ?_
    refine t_if_lt (pc := 20) (tgt := 95) dX7_leastOfGreatest_20 (by decide) (by omega) (fun c20 => ?_) (fun c20 => ?_)
    · refine r_iload_n (pc := 95) dX7_leastOfGreatest_95 (i := 3) rfl rfl ?_
      exact r_iret (pc := 96) dX7_leastOfGreatest_96 rfl ⟨rfl, ht18, _, rfl, by omega, clk_e (by assumption : clK R x1 y3 v18_3 v18_4 v18_5) (by omega)⟩
    · refine r_iconst (pc := 23) (v := iv 1) dX7_leastOfGreatest_23 (by decide) ?_
      refine r_iload (pc := 24) dX7_leastOfGreatest_24 rfl ?_
      refine r_ishl (pc := 26) (v := iv ((2 ^ Int.toNat v18_5 : Nat) : Int)) dX7_leastOfGreatest_26 (shl_e (by omega)) ?_
      have mp26_3 : 1 ≤ 2 ^ Int.toNat v18_5 := Nat.one_le_two_pow
      have mq26_4 : 2 ^ Int.toNat v18_5 ≤ 2 ^ 15 := Nat.pow_le_pow_right (by omega) (by omega)
      have ms26 := Me_shl (Int.toNat v18_5)
      refine r_istore (pc := 27) (lv' := [(6, .int (iv ((2 ^ Int.toNat v18_5 : Nat) : Int))), (0, .ref rA), (2, .int (iv y3)), (3, .int (iv v18_3)), (4, .int (iv v18_4)), (5, .int (iv v18_5))]) dX7_leastOfGreatest_27 (by decide) rfl ?_
      refine r_iload (pc := 29) dX7_leastOfGreatest_29 rfl ?_
      refine r_iload (pc := 31) dX7_leastOfGreatest_31 rfl ?_
      obtain ⟨z5, hz5, bz5⟩ := and_2 v18_4 ((2 ^ Int.toNat v18_5 : Nat) : Int) (by omega) (by omega)
      refine r_iand (pc := 33) (v := iv z5) dX7_leastOfGreatest_33 hz5 ?_
      have mez5 := Me_and hz5 (by omega) (by omega) (by omega)
      refine t_if_eq (pc := 34) (tgt := 89) dX7_leastOfGreatest_34 (by decide) (by omega) (fun c34 => ?_) (fun c34 => ?_)
      · have hcl := clk_u (by assumption : clK R x1 y3 v18_3 v18_4 v18_5) (by omega)
        have hnv : ¬ Me v18_4 (Int.toNat v18_5) := fun g => by
          have h8 := (mez5 _).mpr ⟨g, (ms26 _).mpr rfl⟩
          rw [show z5 = 0 by omega] at h8
          exact Me_0 _ h8
        have hck := clj_no hsy hcl hnv
        refine r_iinc (pc := 89) (v := iv (v18_5 - 1)) (lv' := [(5, .int (iv (v18_5 - 1))), (6, .int (iv ((2 ^ Int.toNat v18_5 : Nat) : Int))), (0, .ref rA), (2, .int (iv y3)), (3, .int (iv v18_3)), (4, .int (iv v18_4))]) dX7_leastOfGreatest_89 rfl ((iv_add _ _).trans (congrArg iv (show v18_5 + (-1) = v18_5 - 1 by omega))) (by decide) rfl ?_
        refine r_goto (pc := 92) (tgt := 18) dX7_leastOfGreatest_92 (by decide) ?_
        refine Rn.pick (lv' := [(0, .ref rA), (2, .int (iv y3)), (3, .int (iv v18_3)), (4, .int (iv v18_4)), (5, .int (iv (v18_5 - 1)))]) [2, 3, 4, 5, 0] rfl ?_
        exact ih18 (Int.toNat ((v18_5 - 1) + 1)) (by omega) _ ht18 v18_3 v18_4 (v18_5 - 1) ⟨by omega, by omega, by omega, by omega, by omega, by omega, by omega, by omega, by omega, by (first | exact clk_d hck (by omega) | exact clk_0 (n := rL) (fun i g => Nat.lt_of_lt_of_le (hS9 i g) hrM) hmx3 (by omega))⟩ (by omega)
      · have hcl := clk_u (by assumption : clK R x1 y3 v18_3 v18_4 v18_5) (by omega)
        have hmo : Me v18_4 (Int.toNat v18_5) := by
          obtain ⟨i, hi⟩ := Me_ex (show 0 < z5 by omega)
          have h8 := (mez5 i).mp hi
          have h7 := (ms26 i).mp h8.2
          rw [← h7]; exact h8.1
        have hmS : Int.toNat v18_5 < rM := hS9 _ (hcl.2.2.2.2.1 _ |>.mp hmo).1.1
        refine r_iload_n (pc := 37) dX7_leastOfGreatest_37 (i := 3) rfl rfl ?_
        refine t_callSI (pc := 38) (as := [.int (iv v18_3)]) (st := []) kX7_52 dX7_leastOfGreatest_38 (t_bitCountx (d := d - 1) (x := v18_3) (by omega) ht18 (by omega)) rfl (by omega) (Nat.le_of_ble_eq_true rfl) rfl (fun hp7 y6 ht8 by6 => ?_)
        have ey6 : y6 = bcI v18_3 16 := by6
        subst ey6
        have ry6 := bc_le v18_3 16
        refine r_aload_n (pc := 41) dX7_leastOfGreatest_41 (i := 0) rfl rfl ?_
        refine r_iload (pc := 42) dX7_leastOfGreatest_42 rfl ?_
        refine r_iload (pc := 44) dX7_leastOfGreatest_44 rfl ?_
        refine r_iconst (pc := 46) (v := iv (-1)) dX7_leastOfGreatest_46 (by decide) ?_
        refine r_ixor (pc := 47) (v := iv (-((2 ^ Int.toNat v18_5 : Nat) : Int) - 1)) dX7_leastOfGreatest_47 (iv_not _) ?_
        obtain ⟨z9, hz9, bz9⟩ := and_l v18_4 (-((2 ^ Int.toNat v18_5 : Nat) : Int) - 1) (by omega) (by omega)
        refine r_iand (pc := 48) (v := iv z9) dX7_leastOfGreatest_48 hz9 ?_
        have mez9 := Me_not (y := ((2 ^ Int.toNat v18_5 : Nat) : Int)) hz9 (by omega) (by omega) (by omega)
        have ho1 : ∀ i, Me z9 i ↔ Me v18_4 i ∧ i ≠ Int.toNat v18_5 := fun i => by rw [mez9 i, ms26 i]
        refine r_iconst (pc := 49) (v := iv 0) dX7_leastOfGreatest_49 (by decide) ?_
        have hS50 : ∀ i, Me z9 i → i < rM := fun i g => hS9 i (hcl.2.2.2.2.1 i |>.mp ((ho1 i).mp g).1).1.1
        have hb50 := bc_le z9 16
        refine t_callSI (pc := 50) (as := [.ref rA, .int (iv z9), .int (iv 0)]) (st := [.int (iv (bcI v18_3 16))]) kX7_48 dX7_leastOfGreatest_50 (c_X7_mostApartx hrA hrR hrL hrM hrw hsy 16 _ _ (d - 1) z9 0 (by omega) (by omega) (by omega) (by omega) (by omega) hS50 ht8) rfl (by omega) (Nat.le_of_ble_eq_true rfl) rfl (fun hp10 y50 ht11 by50 => ?_)
        obtain ⟨by501, hmx50⟩ := by50
        refine r_iadd (pc := 53) (v := iv ((bcI v18_3 16) + y50)) dX7_leastOfGreatest_53 (iv_add _ _) ?_
        refine r_iload_n (pc := 54) dX7_leastOfGreatest_54 (i := 2) rfl rfl ?_
        refine t_icmp_lt (pc := 55) (tgt := 70) dX7_leastOfGreatest_55 (by decide) (by omega) (by omega) (fun c55 => ?_) (fun c55 => ?_)
        · refine r_iload_n (pc := 70) dX7_leastOfGreatest_70 (i := 3) rfl rfl ?_
          refine r_iload (pc := 71) dX7_leastOfGreatest_71 rfl ?_
          obtain ⟨z12, hz12, bz12⟩ := or_2 16 v18_3 ((2 ^ Int.toNat v18_5 : Nat) : Int) (by omega) (by omega) (by decide)
          refine r_ior (pc := 73) (v := iv z12) dX7_leastOfGreatest_73 hz12 ?_
          have mez12 := Me_or hz12 (by omega) (by omega) (by omega)
          have hc1 : (∀ i, Me z12 i ↔ Me v18_3 i ∨ i = Int.toNat v18_5) ∧ 0 ≤ z12 := ⟨fun i => by rw [mez12 i, ms26 i], by omega⟩
          refine r_istore_n (pc := 74) (lv' := [(3, .int (iv z12)), (6, .int (iv ((2 ^ Int.toNat v18_5 : Nat) : Int))), (0, .ref rA), (2, .int (iv y3)), (4, .int (iv v18_4)), (5, .int (iv v18_5))]) dX7_leastOfGreatest_74 (i := 3) rfl (by decide) rfl ?_
          refine r_iload (pc := 75) dX7_leastOfGreatest_75 rfl ?_
          refine r_aload_n (pc := 77) dX7_leastOfGreatest_77 (i := 0) rfl rfl ?_
          refine r_iload (pc := 78) dX7_leastOfGreatest_78 rfl ?_
          refine t_ialdX (pc := 80) (t0 := 0) ht11 hrA dX7_leastOfGreatest_80 rfl (by omega) (by omega) (fun b13 => ?_)
          have rb13 := (show Rfx rL 0 65535 Nx by assumption) (Int.toNat v18_5) (by omega)
          refine r_iload (pc := 81) dX7_leastOfGreatest_81 rfl ?_
          obtain ⟨z14, hz14, bz14⟩ := or_2 16 (Nx (Int.toNat v18_5)) ((2 ^ Int.toNat v18_5 : Nat) : Int) (by omega) (by omega) (by decide)
          refine r_ior (pc := 83) (v := iv z14) dX7_leastOfGreatest_83 hz14 ?_
          have mez14 := Me_or hz14 (by omega) (by omega) (by omega)
          refine r_iconst (pc := 84) (v := iv (-1)) dX7_leastOfGreatest_84 (by decide) ?_
          refine r_ixor (pc := 85) (v := iv (-z14 - 1)) dX7_leastOfGreatest_85 (iv_not _) ?_
          obtain ⟨z15, hz15, bz15⟩ := and_l v18_4 (-z14 - 1) (by omega) (by omega)
          refine r_iand (pc := 86) (v := iv z15) dX7_leastOfGreatest_86 hz15 ?_
          have mez15 := Me_not (y := z14) hz15 (by omega) (by omega) (by omega)
          have hlf : lfV R v18_4 (Int.toNat v18_5) z15 := fun i => by rw [mez15 i, mez14 i, ms26 i, hrw (Int.toNat v18_5) hmS i]
          obtain ⟨l9, hl9⟩ := mxa_ex R z15
          have hck := clj_tk hsy (by omega) hcl hmo ho1 hmx50 (by omega) hc1.1 hc1.2 hlf hl9
          refine r_istore (pc := 87) (lv' := [(4, .int (iv z15)), (3, .int (iv z12)), (6, .int (iv ((2 ^ Int.toNat v18_5 : Nat) : Int))), (0, .ref rA), (2, .int (iv y3)), (5, .int (iv v18_5))]) dX7_leastOfGreatest_87 (by decide) rfl ?_
          refine r_iinc (pc := 89) (v := iv (v18_5 - 1)) (lv' := [(5, .int (iv (v18_5 - 1))), (4, .int (iv z15)), (3, .int (iv z12)), (6, .int (iv ((2 ^ Int.toNat v18_5 : Nat) : Int))), (0, .ref rA), (2, .int (iv y3))]) dX7_leastOfGreatest_89 rfl ((iv_add _ _).trans (congrArg iv (show v18_5 + (-1) = v18_5 - 1 by omega))) (by decide) rfl ?_
          refine r_goto (pc := 92) (tgt := 18) dX7_leastOfGreatest_92 (by decide) ?_
          refine Rn.pick (lv' := [(0, .ref rA), (2, .int (iv y3)), (3, .int (iv z12)), (4, .int (iv z15)), (5, .int (iv (v18_5 - 1)))]) [4, 5, 2, 1, 0] rfl ?_
          exact ih18 (Int.toNat ((v18_5 - 1) + 1)) (by omega) _ ht11 z12 z15 (v18_5 - 1) ⟨by omega, by omega, by omega, by omega, by omega, by omega, by omega, by omega, by omega, by (first | exact clk_d hck (by omega) | exact clk_0 (n := rL) (fun i g => Nat.lt_of_lt_of_le (hS9 i g) hrM) hmx3 (by omega))⟩ (by omega)
        · refine r_iload (pc := 58) dX7_leastOfGreatest_58 rfl ?_
          refine r_iload (pc := 60) dX7_leastOfGreatest_60 rfl ?_
          refine r_iconst (pc := 62) (v := iv (-1)) dX7_leastOfGreatest_62 (by decide) ?_
          refine r_ixor (pc := 63) (v := iv (-((2 ^ Int.toNat v18_5 : Nat) : Int) - 1)) dX7_leastOfGreatest_63 (iv_not _) ?_
          obtain ⟨z16, hz16, bz16⟩ := and_l v18_4 (-((2 ^ Int.toNat v18_5 : Nat) : Int) - 1) (by omega) (by omega)
          refine r_iand (pc := 64) (v := iv z16) dX7_leastOfGreatest_64 hz16 ?_
          have mez16 := Me_not (y := ((2 ^ Int.toNat v18_5 : Nat) : Int)) hz16 (by omega) (by omega) (by omega)
          have ho2 : ∀ i, Me z16 i ↔ Me v18_4 i ∧ i ≠ Int.toNat v18_5 := fun i => by rw [mez16 i, ms26 i]
          have hck := clj_lv hcl ho2 (mx_cg (fun i => (ho1 i).trans (ho2 i).symm) hmx50) (by omega)
          refine r_istore (pc := 65) (lv' := [(4, .int (iv z16)), (6, .int (iv ((2 ^ Int.toNat v18_5 : Nat) : Int))), (0, .ref rA), (2, .int (iv y3)), (3, .int (iv v18_3)), (5, .int (iv v18_5))]) dX7_leastOfGreatest_65 (by decide) rfl ?_
          refine r_goto (pc := 67) (tgt := 89) dX7_leastOfGreatest_67 (by decide) ?_
          refine r_iinc (pc := 89) (v := iv (v18_5 - 1)) (lv' := [(5, .int (iv (v18_5 - 1))), (4, .int (iv z16)), (6, .int (iv ((2 ^ Int.toNat v18_5 : Nat) : Int))), (0, .ref rA), (2, .int (iv y3)), (3, .int (iv v18_3))]) dX7_leastOfGreatest_89 rfl ((iv_add _ _).trans (congrArg iv (show v18_5 + (-1) = v18_5 - 1 by omega))) (by decide) rfl ?_
          refine r_goto (pc := 92) (tgt := 18) dX7_leastOfGreatest_92 (by decide) ?_
          refine Rn.pick (lv' := [(0, .ref rA), (2, .int (iv y3)), (3, .int (iv v18_3)), (4, .int (iv z16)), (5, .int (iv (v18_5 - 1)))]) [3, 4, 5, 1, 0] rfl ?_
          exact ih18 (Int.toNat ((v18_5 - 1) + 1)) (by omega) _ ht11 v18_3 z16 (v18_5 - 1) ⟨by omega, by omega, by omega, by omega, by omega, by omega, by omega, by omega, by omega, by (first | exact clk_d hck (by omega) | exact clk_0 (n := rL) (fun i g => Nat.lt_of_lt_of_le (hS9 i g) hrM) hmx3 (by omega))⟩ (by omega)
  refine Rn.pick (lv' := [(0, .ref rA), (2, .int (iv y3)), (3, .int (iv 0)), (4, .int (iv x1)), (5, .int (iv ((rL : Int) - 1)))]) [4, 3, 2, 1, 0] rfl ?_
  exact B18 (Int.toNat (((rL : Int) - 1) + 1)) _ ht2 0 x1 ((rL : Int) - 1) ⟨by omega, by omega, by omega, by omega, by omega, by omega, by omega, by omega, by omega, by (first | exact clk_d hck (by omega) | exact clk_0 (n := rL) (fun i g => Nat.lt_of_lt_of_le (hS9 i g) hrM) hmx3 (by omega))⟩ (by omega)
