/-- what one going bears out of a set -/
def gwA (e : Int) (W Tl Hd By : Nat → Int) (sb : Nat → Bool) (k : Nat) : Int := xw sb (Tl k).toNat (Hd k).toNat (wfA e W (By k).toNat)
/-- the rooms when k goings have been put in -/
def gaI (r : Nat → Int) (e : Int) (W Tl Hd By : Nat → Int) (n : Nat) (k : Int) : Prop := rmP r n (1000 * k) ∧ ∀ sb, csF r sb n = sgm (gwA e W Tl Hd By sb) k.toNat
theorem ga_0 {e : Int} {W Tl Hd By : Nat → Int} {n : Nat} : gaI (fun _ => 0) e W Tl Hd By n 0 :=
  ⟨⟨fun _ _ _ _ => Int.le_refl _, by
    unfold toF
    rw [sgm_cg (g := fun _ => 0) (fun a ha => sgm_0 n), sgm_0]; omega⟩, fun sb => cs_zero (fun _ _ _ _ _ _ => rfl)⟩
theorem ga_st {r : Nat → Int} {e : Int} {W Tl Hd By : Nat → Int} {n : Nat} {k w : Int} (h : gaI r e W Tl Hd By n k) (h0 : 0 ≤ k) (hn : n ≤ 16) (hu : (Tl k.toNat).toNat < n) (hv : (Hd k.toNat).toNat < n) (hw : w = wfA e W (By k.toNat).toNat) (hb : 0 ≤ w ∧ w ≤ 1000) : gaI (fup r (16 * (Tl k.toNat).toNat + (Hd k.toNat).toNat) (r (16 * (Tl k.toNat).toNat + (Hd k.toNat).toNat) + w)) e W Tl Hd By n (k + 1) := by
  refine ⟨⟨fun a b ha hb9 => ?_, ?_⟩, fun sb => ?_⟩
  · rw [fu_at (by omega) (by omega)]
    by_cases g : a = (Tl k.toNat).toNat ∧ b = (Hd k.toNat).toNat
    · rw [if_pos g]
      have := h.1.1 _ _ hu hv
      omega
    · rw [if_neg g]; exact h.1.1 a b ha hb9
  · rw [to_upd hn hu hv]
    have := h.1.2
    omega
  · rw [cs_upd hn hu hv, h.2 sb, show (k + 1).toNat = k.toNat + 1 by omega, hw]
    rfl
theorem ga_rm {r : Nat → Int} {e : Int} {W Tl Hd By : Nat → Int} {n : Nat} {k : Int} (h : gaI r e W Tl Hd By n k) (hk : k ≤ 120) : rmP r n 120000 := ⟨h.1.1, by have := h.1.2; omega⟩
theorem wf_mx {e w z : Int} {W : Nat → Int} {k : Nat} (h : e = 0) (hw : w = W k) (hz : (z = 0 ∧ w ≤ z) ∨ (z = w ∧ 0 ≤ z)) : z = wfA e W k := by
  unfold wfA
  rw [if_pos h, ← hw]
  by_cases g : 0 < w
  · rw [if_pos g]; omega
  · rw [if_neg g]; omega
theorem ga_ou {m q : Nat} {d e : Int} {F T W Tl Hd By : Nat → Int} {pos : Nat → Nat} {sb : Nat → Bool} (h : GoS m q d F T Tl Hd By pos) : ∀ i, i ≤ m → sgm (gwA e W Tl Hd By sb) (pos i) = sgm (owA d e F T W sb) i := by
  obtain ⟨h0, hm, hs⟩ := h
  intro i
  induction i with
  | zero => intro _; rw [h0]; rfl
  | succ i ih =>
    intro hi
    obtain ⟨g1, g2, g3, g4, g5⟩ := hs i (by omega)
    have i1 := ih (by omega)
    have e1 : gwA e W Tl Hd By sb (pos i) = xw sb (F i).toNat (T i).toNat (wfA e W i) := by
      unfold gwA; rw [g1, g2, g3]; rfl
    show _ = sgm (owA d e F T W sb) i + owA d e F T W sb i
    by_cases c : d = 0 ∧ F i ≠ T i
    · obtain ⟨k1, k2, k3, k4⟩ := g4 c
      have e2 : gwA e W Tl Hd By sb (pos i + 1) = xw sb (T i).toNat (F i).toNat (wfA e W i) := by
        unfold gwA; rw [k2, k3, k4]; rfl
      rw [k1]
      show sgm (gwA e W Tl Hd By sb) (pos i) + gwA e W Tl Hd By sb (pos i) + gwA e W Tl Hd By sb (pos i + 1) = _
      rw [i1, e1, e2]
      have : xw sb (F i).toNat (T i).toNat (wfA e W i) + xw sb (T i).toNat (F i).toNat (wfA e W i) = owA d e F T W sb i := by
        unfold xw owA
        cases a1 : sb (F i).toNat <;> cases a2 : sb (T i).toNat <;> simp [c.1]
      omega
    · rw [g5 c]
      show sgm (gwA e W Tl Hd By sb) (pos i) + gwA e W Tl Hd By sb (pos i) = _
      rw [i1, e1]
      have : xw sb (F i).toNat (T i).toNat (wfA e W i) = owA d e F T W sb i := by
        unfold xw owA
        by_cases c1 : d = 0
        · have c2 : F i = T i := Classical.byContradiction (fun g => c ⟨c1, g⟩)
          rw [c2]
          cases a1 : sb (T i).toNat <;> simp
        · cases a1 : sb (F i).toNat <;> cases a2 : sb (T i).toNat <;> simp [c1]
      omega
/-- so much has gone -/
def moI (m : Nat) (d e : Int) (F T W r : Nat → Int) (n x y : Nat) (sum rd : Int) : Prop := rmP r n 120000 ∧ (∀ S, ctP n x y S → csF r (msk S) n + sum = ouA m d e F T W (msk S)) ∧ rd ≤ sum ∧ 0 ≤ sum
theorem mo_0 {m q : Nat} {d e : Int} {F T W Tl Hd By r : Nat → Int} {pos : Nat → Nat} {n x y : Nat} {k s : Int} (hgo : GoS m q d F T Tl Hd By pos) (h : gaI r e W Tl Hd By n k) (hk : k = (q : Int)) (hq : q ≤ 120) (hs : s = 0) : moI m d e F T W r n x y s 0 := by
  subst hk hs
  refine ⟨ga_rm h (by omega), fun S _ => ?_, by omega, by omega⟩
  have h1 := ga_ou (e := e) (W := W) (sb := msk S) hgo m (Nat.le_refl _)
  rw [hgo.2.1] at h1
  have h2 := h.2 (msk S)
  rw [Int.toNat_natCast] at h2
  have h3 : ouA m d e F T W (msk S) = sgm (owA d e F T W (msk S)) m := rfl
  omega
theorem mo_b {m : Nat} {d e : Int} {F T W r : Nat → Int} {n x y : Nat} {sum rd : Int} (hW : ∀ k, k < m → -1000 ≤ W k ∧ W k ≤ 1000) (hm : m ≤ 60) (h : moI m d e F T W r n x y sum rd) (hx : x < n) (hxy : x ≠ y) : sum ≤ 60000 := by
  have h1 := h.2.1 _ (ct_one hx hxy)
  have h2 := cs_nn (s := msk ((2 ^ x : Nat) : Int)) h.1.1
  have h3 := ou_b (d := d) (e := e) (F := F) (T := T) (s := msk ((2 ^ x : Nat) : Int)) hW m (Nat.le_refl _)
  have h4 : ouA m d e F T W (msk ((2 ^ x : Nat) : Int)) = sgm (owA d e F T W (msk ((2 ^ x : Nat) : Int))) m := rfl
  omega
theorem mo_st {m : Nat} {d e : Int} {F T W r r1 : Nat → Int} {n x y : Nat} {sum rd a s1 : Int} (h : moI m d e F T W r n x y sum rd) (hr : rmP r1 n 120000) (ha : 0 < a) (hc : ∀ sb, csF r1 sb n = csF r sb n - bw sb x a + bw sb y a) (hs : s1 = sum + a) : moI m d e F T W r1 n x y s1 (rd + 1) := by
  subst hs
  refine ⟨hr, fun S hS => ?_, by have := h.2.2.1; omega, by have := h.2.2.2; omega⟩
  have h1 := h.2.1 S hS
  have h2 := hc (msk S)
  have e1 : bw (msk S) x a = a := if_pos hS.2.1
  have e2 : bw (msk S) y a = 0 := if_neg hS.2.2
  omega
theorem mo_e {m : Nat} {d e : Int} {F T W r B : Nat → Int} {n x y : Nat} {sum rd R : Int} (h : moI m d e F T W r n x y sum rd) (hf : fdP r n x R B) (hR : 0 ≤ R) (hy : ¬ Me R y) : mcA m d e F T W n x y sum ∧ mcS m d e F T W n x y R := by
  obtain ⟨f1, f2, f3, -⟩ := id hf
  have hct : ctP n x y R := by
    refine ⟨⟨hR, ?_⟩, f1, hy⟩
    have h9 : R ≤ ((2 ^ n : Nat) : Int) - 1 := Me_sub_le hR (by have : 1 ≤ 2 ^ n := Nat.one_le_two_pow; omega) (fun i g => (Me_all i).mpr (f2 i g))
    omega
  have h0 : csF r (msk R) n = 0 := cs_zero (fun p q hp hq g1 g2 => by
    have a1 := h.1.1 p q hp hq
    have a2 : ¬ 0 < r (16 * p + q) := fun g => by
      have a3 : msk R q = true := f3 p g1 q hq g
      rw [a3] at g2; cases g2
    omega)
  have hs := h.2.1 R hct
  have hle : ∀ S, ctP n x y S → sum ≤ ouA m d e F T W (msk S) := fun S hS => by
    have a1 := h.2.1 S hS
    have a2 := cs_nn (s := msk S) h.1.1
    omega
  refine ⟨⟨⟨R, hct, by omega⟩, hle⟩, hct, fun S hS => by have := hle S hS; omega, fun S hS e => ?_⟩
  have a1 := h.2.1 S hS
  refine Me_sub_le hR hS.1.1 (fd_min hf hS.2.1 (fun u hu v hv hr => Classical.byContradiction (fun g => ?_)))
  have hun : u < n := by
    have a3 : S ≤ ((2 ^ n : Nat) : Int) - 1 := by have := hS.1.2; omega
    refine Classical.byContradiction (fun g9 => ?_)
    have a4 : S.toNat < 2 ^ u := Nat.lt_of_lt_of_le ((Int.toNat_lt hS.1.1).mpr hS.1.2) (Nat.pow_le_pow_right (by omega) (by omega))
    have a5 : S.toNat.testBit u = false := Nat.testBit_lt_two_pow a4
    have a6 : S.toNat.testBit u = true := hu
    rw [a5] at a6; cases a6
  have := cs_ge (s := msk S) h.1.1 hun hv ⟨hu, Bool.eq_false_iff.mpr g⟩
  omega
set_option maxHeartbeats 4000000 in
set_option maxRecDepth 100000 in
theorem c_X2_mostx {D : va_G} {cI cJ cZ cT : ClassId} {lo b L : Nat} {xs : Nat → Int32} {hp : MH} {n d : Nat} {Γ : TG} {ga : Nat} {gF : Nat} {gT : Nat} {gW : Nat} {gC : Nat} {gTl : Nat} {gHd : Nat} {gBy : Nat} {gOu : Nat} {gIn : Nat} {gJo : Nat} {gn : Nat} {gm : Nat} {gq : Nat} {gdr : Int} {F T W C Tl Hd By Ou In Jo : Nat → Int} {s : Nat} {R : Int} {r B Q : Nat → Int} {x2 x3 x4 : Int} {pos : Nat → Nat} (hd0 : 1 ≤ d) (hg : TyG Γ cI cJ cZ ga gF gT gW gC gTl gHd gBy gOu gIn gJo gn gm gq gdr) (hxg : XG Γ cI gF gT gW gC gTl gHd gBy gOu gIn gJo gn gm gq F T W C Tl Hd By Ou In Jo) (hsp : s + 9 ≤ ga ∧ s + 9 ≤ gF ∧ s + 9 ≤ gT ∧ s + 9 ≤ gW ∧ s + 9 ≤ gC ∧ s + 9 ≤ gTl ∧ s + 9 ≤ gHd ∧ s + 9 ≤ gBy ∧ s + 9 ≤ gOu ∧ s + 9 ≤ gIn ∧ s + 9 ≤ gJo) (hR0 : 0 ≤ R ∧ R ≤ 65535) (hB0 : Rfx 16 0 239 B) (hQ0 : Rfx 16 0 15 Q) (ht : Tw (FS Γ cI s R r B Q) hp) (hx2 : 0 ≤ x2 ∧ x2 ≤ 1) (hx3 : 0 ≤ x3 ∧ x3 < (gn : Int)) (hx4 : 0 ≤ x4 ∧ x4 < (gn : Int)) (hxy : x3 ≠ x4) (hgo : GoS gm gq gdr F T Tl Hd By pos) : Mt (gG D cI cJ cZ cT lo b L xs) mX2_most d 0 0 [.ref s, .ref ga, .int (iv x2), .int (iv x3), .int (iv x4)] hp n (fun r9 hp1 n1 => n1 = n ∧ ∃ (R1 : Int) (r1 B1 Q1 : Nat → Int) (q : Int64), Tw (FS Γ cI s R1 r1 B1 Q1) hp1 ∧ (0 ≤ R1 ∧ R1 ≤ 65535) ∧ Rfx 16 0 239 B1 ∧ Rfx 16 0 15 Q1 ∧ r9 = some (.long q) ∧ mcA gm gdr x2 F T W gn (Int.toNat x3) (Int.toNat x4) q.toInt ∧ mcS gm gdr x2 F T W gn (Int.toNat x3) (Int.toNat x4) R1) := by
  refine Mt.of rfl (Nat.le_of_ble_eq_true rfl) ?_
  refine Rn.pick (lv' := [(0, .ref s), (1, .ref ga), (2, .int (iv x2)), (3, .int (iv x3)), (4, .int (iv x4))]) [0, 1, 2, 3, 4] rfl ?_
  have t0 : Tw (ov (ov (ov (ov Γ s (tO 2 (flF s R))) (s + 1) (xI cI 256 r)) (s + 2) (xI cI 16 B)) (s + 3) (xI cI 16 Q)) hp := ht
  obtain ⟨hg_O, hg_from, hg_to, hg_weight, hg_cost, hg_tail, hg_head, hg_by, hg_out, hg_in, hg_joined, hg_b⟩ := id hg
  obtain ⟨⟨hxg_F, hxg_T, hxg_W, hxg_C, hxg_Tl, hxg_Hd, hxg_By, hxg_Ou, hxg_In, hxg_Jo⟩, ⟨hrg_F, hrg_T, hrg_W, hrg_C, hrg_Tl, hrg_Hd, hrg_By, hrg_Ou, hrg_In, hrg_Jo⟩, houg⟩ := id hxg
  have hgb := hg_b
  have hFT : ∀ k, k < gm → (0 ≤ F k ∧ F k < (gn : Int)) ∧ (0 ≤ T k ∧ T k < (gn : Int)) := fun k hk => by have h1 := hrg_F k hk; have h2 := hrg_T k hk; omega
  refine r_aload_n (pc := 0) dX2_most_0 (i := 0) rfl rfl ?_
  refine t_getE (pc := 1) (.ref (s + 1)) t0 (rd_ov (by omega) (rd_ov (by omega) (rd_ov (by omega) (rd_of (ov_s _ _ _))))) fX2_9 dX2_most_1 rfl ?_
  refine r_iconst (pc := 4) (v := iv 0) dX2_most_4 (by decide) ?_
  refine t_fillX (pc := 5) t0 (eq_ov (by omega) (eq_ov (by omega) (ov_s _ _ _))) kX2_37 dX2_most_5 (by omega) (by omega) (by omega) (Nat.le_of_ble_eq_true rfl) (fun hp1 ht2 => ?_)
  rw [ov_in3 (by omega) (by omega)] at ht2
  refine r_iconst (pc := 8) (v := iv 0) dX2_most_8 (by decide) ?_
  refine r_istore (pc := 9) (lv' := [(5, .int (iv 0)), (0, .ref s), (1, .ref ga), (2, .int (iv x2)), (3, .int (iv x3)), (4, .int (iv x4))]) dX2_most_9 (by decide) rfl ?_
  have B11 : ∀ k : Nat, ∀ r11 : Nat → Int, ∀ hp11 : MH, Tw (ov (ov (ov (ov Γ s (tO 2 (flF s R))) (s + 1) (xI cI 256 r11)) (s + 2) (xI cI 16 B)) (s + 3) (xI cI 16 Q)) hp11 → ∀  (v11_5 : Int), 0 ≤ v11_5 ∧ v11_5 ≤ 120 ∧ (v11_5 ≤ (gq : Int)) ∧ (gaI r11 x2 W Tl Hd By gn v11_5) → 120 - v11_5 ≤ (k : Int) → Rn (gG D cI cJ cZ cT lo b L xs) mX2_most d 11 [(0, .ref s), (1, .ref ga), (2, .int (iv x2)), (3, .int (iv x3)), (4, .int (iv x4)), (5, .int (iv v11_5))] [] hp11 n 0 0 (fun r9 hp1 n1 => n1 = n ∧ ∃ (R1 : Int) (r1 B1 Q1 : Nat → Int) (q : Int64), Tw (FS Γ cI s R1 r1 B1 Q1) hp1 ∧ (0 ≤ R1 ∧ R1 ≤ 65535) ∧ Rfx 16 0 239 B1 ∧ Rfx 16 0 15 Q1 ∧ r9 = some (.long q) ∧ mcA gm gdr x2 F T W gn (Int.toNat x3) (Int.toNat x4) q.toInt ∧ mcS gm gdr x2 F T W gn (Int.toNat x3) (Int.toNat x4) R1) := by
    refine lpS _ ?_
    intro k11 ih11 r11 hp11 ht11 v11_5 hf11 hm11
    obtain ⟨hf11_0, hf11_1, hf11_2, ha11_3⟩ := hf11
    refine r_iload (pc := 11) dX2_most_11 rfl ?_
    refine r_aload_n (pc := 13) dX2_most_13 (i := 1) rfl rfl ?_
    refine t_getE (pc := 14) (.int (iv (gq : Int))) ht11 (rd_ov (by omega) (rd_ov (by omega) (rd_ov (by omega) (rd_ov (by omega) hg_O)))) fX2_43 dX2_most_14 rfl ?_
    refine t_icmp_ge (pc := 17) (tgt := 80) dX2_most_17 (by decide) (by omega) (by omega) (fun c17 => ?_) (fun c17 => ?_)
    · refine r_lconst (pc := 80) (v := 0) dX2_most_80 (by decide) ?_
      have hk80 : (0 : Int64).toInt = 0 := by decide
      refine r_lstore (pc := 81) (lv' := [(5, .long (0 : Int64)), (0, .ref s), (1, .ref ga), (2, .int (iv x2)), (3, .int (iv x3)), (4, .int (iv x4))]) dX2_most_81 (by decide) rfl ?_
      refine r_iconst (pc := 83) (v := iv 0) dX2_most_83 (by decide) ?_
      refine r_istore (pc := 84) (lv' := [(7, .int (iv 0)), (5, .long (0 : Int64)), (0, .ref s), (1, .ref ga), (2, .int (iv x2)), (3, .int (iv x3)), (4, .int (iv x4))]) dX2_most_84 (by decide) rfl ?_
      have B86 : ∀ k : Nat, ∀ R86 : Int, ∀ r86 : Nat → Int, ∀ B86 : Nat → Int, ∀ Q86 : Nat → Int, ∀ hp86 : MH, Tw (ov (ov (ov (ov Γ s (tO 2 (flF s R86))) (s + 1) (xI cI 256 r86)) (s + 2) (xI cI 16 B86)) (s + 3) (xI cI 16 Q86)) hp86 → ∀  (v86_7 : Int) (w86_5 : Int64), 0 ≤ v86_7 ∧ v86_7 ≤ 60001 ∧ (0 ≤ R86 ∧ R86 ≤ 65535) ∧ (Rfx 16 0 239 B86) ∧ (Rfx 16 0 15 Q86) ∧ (moI gm gdr x2 F T W r86 gn (Int.toNat x3) (Int.toNat x4) w86_5.toInt v86_7) → 60001 - v86_7 ≤ (k : Int) → Rn (gG D cI cJ cZ cT lo b L xs) mX2_most d 86 [(0, .ref s), (1, .ref ga), (3, .int (iv x3)), (4, .int (iv x4)), (5, .long w86_5), (7, .int (iv v86_7))] [] hp86 n 0 0 (fun r9 hp1 n1 => n1 = n ∧ ∃ (R1 : Int) (r1 B1 Q1 : Nat → Int) (q : Int64), Tw (FS Γ cI s R1 r1 B1 Q1) hp1 ∧ (0 ≤ R1 ∧ R1 ≤ 65535) ∧ Rfx 16 0 239 B1 ∧ Rfx 16 0 15 Q1 ∧ r9 = some (.long q) ∧ mcA gm gdr x2 F T W gn (Int.toNat x3) (Int.toNat x4) q.toInt ∧ mcS gm gdr x2 F T W gn (Int.toNat x3) (Int.toNat x4) R1) := by
        refine lpS _ ?_
        intro k86 ih86 R86 r86 B86 Q86 hp86 ht86 v86_7 w86_5 hf86 hm86
        obtain ⟨hf86_0, hf86_1, hf86_2, ha86_3, ha86_4, ha86_5⟩ := hf86
        refine r_iload (pc := 86) dX2_most_86 rfl ?_
        have hmo := (by assumption : moI gm gdr x2 F T W r86 gn (Int.toNat x3) (Int.toNat x4) w86_5.toInt v86_7)
        have hmb := mo_b hrg_W (by omega) hmo (by omega) (by omega)
        have hrd := hmo.2.2.1
        have hs0 := hmo.2.2.2
        refine r_ldc (pc := 88) (v := iv 60001) dX2_most_88 kX2_67 ?_
        refine t_icmp_ge (pc := 90) (tgt := 126) dX2_most_90 (by decide) (by omega) (by omega) (fun c90 => ?_) (fun c90 => ?_)
        · exfalso
          omega
        · refine r_aload_n (pc := 93) dX2_most_93 (i := 0) rfl rfl ?_
          refine r_aload_n (pc := 94) dX2_most_94 (i := 1) rfl rfl ?_
          refine t_getE (pc := 95) (.int (iv (gn : Int))) ht86 (rd_ov (by omega) (rd_ov (by omega) (rd_ov (by omega) (rd_ov (by omega) hg_O)))) fX2_68 dX2_most_95 rfl ?_
          refine r_iload_n (pc := 98) dX2_most_98 (i := 3) rfl rfl ?_
          refine r_iload (pc := 99) dX2_most_99 rfl ?_
          obtain ⟨fs9, hfs9⟩ := t_obj ht86 (rd_ov (by omega) (rd_ov (by omega) (rd_ov (by omega) (rd_of (ov_s _ _ _)))))
          refine r_callV (pc := 101) (as := [.int (iv (gn : Int)), .int (iv x3), .int (iv x4)]) (st := []) kX2_71 rfl dX2_most_101 hfs9 (c_X2_findPathx (d := d - 1) (x1 := (gn : Int)) (x2 := x3) (x3 := x4) (by omega) (by omega) (by assumption : Rfx 16 0 239 B86) (by assumption : Rfx 16 0 15 Q86) ht86 (by omega) (by omega) (by omega) (by omega)) rfl (by omega) (Nat.le_of_ble_eq_true rfl) (Nat.zero_le _) (Nat.zero_le _) rfl (fun r3 hp4 n5 q6 => ?_)
          obtain ⟨hnn5, R1, B1, Q1, v1, ht7, hR1, hB1, hQ1, hrr3, hfd, hq1⟩ := q6
          subst n5 r3
          rw [Int.toNat_natCast] at hfd
          have bv1 : 0 ≤ v1 ∧ v1 ≤ 1 := by rcases hq1 with ⟨e9, -⟩ | ⟨e9, -⟩ <;> omega
          change Rn _ _ _ 104 _ [.int (iv v1)] _ _ _ _ _
          refine t_if_eq (pc := 104) (tgt := 126) dX2_most_104 (by decide) (by omega) (fun c104 => ?_) (fun c104 => ?_)
          · have hend := mo_e hmo hfd hR1.1 (hq1.resolve_left (fun g9 => by have := g9.1; omega)).2
            clear hq1
            refine r_lload (pc := 126) dX2_most_126 rfl ?_
            exact r_lret (pc := 128) dX2_most_128 rfl ⟨rfl, R1, r86, B1, Q1, _, ht7, hR1, hB1, hQ1, rfl, hend⟩
          · have hfy := (hq1.resolve_right (fun g9 => by have := g9.1; omega)).2
            clear hq1
            refine r_lload (pc := 107) dX2_most_107 rfl ?_
            refine r_aload_n (pc := 109) dX2_most_109 (i := 0) rfl rfl ?_
            refine r_iload_n (pc := 110) dX2_most_110 (i := 3) rfl rfl ?_
            refine r_iload (pc := 111) dX2_most_111 rfl ?_
            obtain ⟨fs8, hfs8⟩ := t_obj ht7 (rd_ov (by omega) (rd_ov (by omega) (rd_ov (by omega) (rd_of (ov_s _ _ _)))))
            refine r_callV (pc := 113) (as := [.int (iv x3), .int (iv x4)]) (st := [.long w86_5]) kX2_75 rfl dX2_most_113 hfs8 (c_X2_pushx (d := d - 1) (x1 := x3) (x2 := x4) (gn := gn) (by omega) hR1 hB1 hQ1 ht7 (by omega) (by omega) (by omega) (by omega) hmo.1 hfd hfy) rfl (by omega) (Nat.le_of_ble_eq_true rfl) (Nat.zero_le _) (Nat.zero_le _) rfl (fun r8 hp9 n10 q11 => ?_)
            obtain ⟨hnn10, r1, a1, ht12, hrr8, ha1, hrm1, hcs1⟩ := q11
            subst n10 r8
            change Rn _ _ _ 116 _ [.int (iv a1), .long w86_5] _ _ _ _ _
            refine r_i2l (pc := 116) (v := (iv a1).toInt64) dX2_most_116 rfl ?_
            refine r_ladd (pc := 117) (v := w86_5 + ((iv a1).toInt64)) dX2_most_117 rfl ?_
            have hmo1 : moI gm gdr x2 F T W r1 gn (Int.toNat x3) (Int.toNat x4) (w86_5 + ((iv a1).toInt64)).toInt (v86_7 + 1) := mo_st hmo hrm1 ha1.1 hcs1 (by have h9 := iv_long (x := a1) (by omega); rw [l_add (by omega), h9])
            refine r_lstore (pc := 118) (lv' := [(5, .long (w86_5 + ((iv a1).toInt64))), (0, .ref s), (1, .ref ga), (3, .int (iv x3)), (4, .int (iv x4)), (7, .int (iv v86_7))]) dX2_most_118 (by decide) rfl ?_
            refine r_iinc (pc := 120) (v := iv (v86_7 + 1)) (lv' := [(7, .int (iv (v86_7 + 1))), (5, .long (w86_5 + ((iv a1).toInt64))), (0, .ref s), (1, .ref ga), (3, .int (iv x3)), (4, .int (iv x4))]) dX2_most_120 rfl (iv_add _ _) (by decide) rfl ?_
            refine r_goto (pc := 123) (tgt := 86) dX2_most_123 (by decide) ?_
            refine Rn.pick (lv' := [(0, .ref s), (1, .ref ga), (3, .int (iv x3)), (4, .int (iv x4)), (5, .long (w86_5 + ((iv a1).toInt64))), (7, .int (iv (v86_7 + 1)))]) [2, 3, 4, 5, 1, 0] rfl ?_
            exact ih86 (Int.toNat (60001 - (v86_7 + 1))) (by omega) R1 r1 B1 Q1 _ ht12 (v86_7 + 1) (w86_5 + ((iv a1).toInt64)) ⟨by omega, by omega, by omega, by (first | exact hB1 | exact hB0), by (first | exact hQ1 | exact hQ0), by (first | exact hmo1 | exact mo_0 hgo (by assumption : gaI r11 x2 W Tl Hd By gn v11_5) (by omega) (by omega) hk80)⟩ (by omega)
      refine Rn.pick (lv' := [(0, .ref s), (1, .ref ga), (3, .int (iv x3)), (4, .int (iv x4)), (5, .long (0 : Int64)), (7, .int (iv 0))]) [2, 3, 5, 6, 1, 0] rfl ?_
      exact B86 (Int.toNat (60001 - 0)) R r11 B Q _ ht11 0 (0 : Int64) ⟨by omega, by omega, by omega, by (first | exact hB1 | exact hB0), by (first | exact hQ1 | exact hQ0), by (first | exact hmo1 | exact mo_0 hgo (by assumption : gaI r11 x2 W Tl Hd By gn v11_5) (by omega) (by omega) hk80)⟩ (by omega)
    · refine r_iload_n (pc := 20) dX2_most_20 (i := 2) rfl rfl ?_
      refine t_if_eq (pc := 21) (tgt := 28) dX2_most_21 (by decide) (by omega) (fun c21 => ?_) (fun c21 => ?_)
      · refine r_iconst (pc := 28) (v := iv 0) dX2_most_28 (by decide) ?_
        refine r_aload_n (pc := 29) dX2_most_29 (i := 1) rfl rfl ?_
        refine t_getE (pc := 30) (.ref gW) ht11 (rd_ov (by omega) (rd_ov (by omega) (rd_ov (by omega) (rd_ov (by omega) hg_O)))) fX2_49 dX2_most_30 rfl ?_
        refine r_aload_n (pc := 33) dX2_most_33 (i := 1) rfl rfl ?_
        refine t_getE (pc := 34) (.ref gBy) ht11 (rd_ov (by omega) (rd_ov (by omega) (rd_ov (by omega) (rd_ov (by omega) hg_O)))) fX2_52 dX2_most_34 rfl ?_
        refine r_iload (pc := 37) dX2_most_37 rfl ?_
        refine t_ialdX (pc := 39) (t0 := 0) ht11 (rd_ov (by omega) (rd_ov (by omega) (rd_ov (by omega) (rd_ov (by omega) hxg_By)))) dX2_most_39 rfl (by omega) (by omega) (fun b13 => ?_)
        have rb13 := (show Rfx gq 0 ((gm : Int) - 1) By by assumption) (Int.toNat v11_5) (by omega)
        refine t_ialdX (pc := 40) (t0 := 0) ht11 (rd_ov (by omega) (rd_ov (by omega) (rd_ov (by omega) (rd_ov (by omega) hxg_W)))) dX2_most_40 rfl (by omega) (by omega) (fun b14 => ?_)
        have rb14 := (show Rfx gm (-1000) 1000 W by assumption) (Int.toNat (By (Int.toNat v11_5))) (by omega)
        obtain ⟨z15, hz15, bz15⟩ := max_b 0 (W (Int.toNat (By (Int.toNat v11_5)))) (by omega) (by omega)
        refine r_mmax (pc := 41) (v := iv z15) qX2_55 dX2_most_41 (Nat.le_of_ble_eq_true rfl) hz15 ?_
        refine r_istore (pc := 44) (lv' := [(6, .int (iv z15)), (0, .ref s), (1, .ref ga), (2, .int (iv x2)), (3, .int (iv x3)), (4, .int (iv x4)), (5, .int (iv v11_5))]) dX2_most_44 (by decide) rfl ?_
        have hByk := hrg_By (Int.toNat v11_5) (by omega)
        have hTlk := hrg_Tl (Int.toNat v11_5) (by omega)
        have hHdk := hrg_Hd (Int.toNat v11_5) (by omega)
        have hw44 : z15 = wfA x2 W (By (Int.toNat v11_5)).toNat := wf_mx (by omega) rfl (by omega)
        have hwb44 : (0 : Int) ≤ z15 ∧ z15 ≤ (1000 : Int) := by have h9 := hrg_W (By (Int.toNat v11_5)).toNat (by omega); omega
        have hga := (by assumption : gaI r11 x2 W Tl Hd By gn v11_5)
        refine r_aload_n (pc := 46) dX2_most_46 (i := 0) rfl rfl ?_
        refine t_getE (pc := 47) (.ref (s + 1)) ht11 (rd_ov (by omega) (rd_ov (by omega) (rd_ov (by omega) (rd_of (ov_s _ _ _))))) fX2_9 dX2_most_47 rfl ?_
        refine r_aload_n (pc := 50) dX2_most_50 (i := 1) rfl rfl ?_
        refine t_getE (pc := 51) (.ref gTl) ht11 (rd_ov (by omega) (rd_ov (by omega) (rd_ov (by omega) (rd_ov (by omega) hg_O)))) fX2_61 dX2_most_51 rfl ?_
        refine r_iload (pc := 54) dX2_most_54 rfl ?_
        refine t_ialdX (pc := 56) (t0 := 0) ht11 (rd_ov (by omega) (rd_ov (by omega) (rd_ov (by omega) (rd_ov (by omega) hxg_Tl)))) dX2_most_56 rfl (by omega) (by omega) (fun b16 => ?_)
        have rb16 := (show Rfx gq 0 ((gn : Int) - 1) Tl by assumption) (Int.toNat v11_5) (by omega)
        refine r_bipush (pc := 57) (v := iv 16) dX2_most_57 (by decide) ?_
        refine r_imul (pc := 59) (v := iv ((Tl (Int.toNat v11_5)) * 16)) dX2_most_59 (iv_mul _ _) ?_
        refine r_aload_n (pc := 60) dX2_most_60 (i := 1) rfl rfl ?_
        refine t_getE (pc := 61) (.ref gHd) ht11 (rd_ov (by omega) (rd_ov (by omega) (rd_ov (by omega) (rd_ov (by omega) hg_O)))) fX2_64 dX2_most_61 rfl ?_
        refine r_iload (pc := 64) dX2_most_64 rfl ?_
        refine t_ialdX (pc := 66) (t0 := 0) ht11 (rd_ov (by omega) (rd_ov (by omega) (rd_ov (by omega) (rd_ov (by omega) hxg_Hd)))) dX2_most_66 rfl (by omega) (by omega) (fun b17 => ?_)
        have rb17 := (show Rfx gq 0 ((gn : Int) - 1) Hd by assumption) (Int.toNat v11_5) (by omega)
        refine r_iadd (pc := 67) (v := iv (((Tl (Int.toNat v11_5)) * 16) + (Hd (Int.toNat v11_5)))) dX2_most_67 (iv_add _ _) ?_
        refine r_dup2_11 (pc := 68) dX2_most_68 rfl rfl ?_
        refine t_ialdX (pc := 69) (t0 := 0) ht11 (rd_ov (by omega) (rd_ov (by omega) (rd_of (ov_s _ _ _)))) dX2_most_69 rfl (by decide) (by omega) (fun b18 => ?_)
        have ei := rix (u := Tl (Int.toNat v11_5)) (v := Hd (Int.toNat v11_5)) (by omega) (by omega)
        have hb69 : 0 ≤ r11 (Int.toNat (((Tl (Int.toNat v11_5)) * 16) + (Hd (Int.toNat v11_5)))) ∧ r11 (Int.toNat (((Tl (Int.toNat v11_5)) * 16) + (Hd (Int.toNat v11_5)))) ≤ 120000 := by rw [ei]; exact rmp_b (ga_rm hga (by omega)) (by omega) (by omega)
        refine r_iload (pc := 70) dX2_most_70 rfl ?_
        refine r_iadd (pc := 72) (v := iv ((r11 (Int.toNat (((Tl (Int.toNat v11_5)) * 16) + (Hd (Int.toNat v11_5))))) + z15)) dX2_most_72 (iv_add _ _) ?_
        refine t_iastX (pc := 73) (t0 := 0) ht11 (eq_ov (by omega) (eq_ov (by omega) (ov_s _ _ _))) dX2_most_73 rfl (by decide) (by omega) (by omega) (fun hp19 ht20 => ?_)
        rw [ov_in3 (by omega) (by omega) ] at ht20
        have hga1 : gaI (fup r11 (Int.toNat (((Tl (Int.toNat v11_5)) * 16) + (Hd (Int.toNat v11_5)))) ((r11 (Int.toNat (((Tl (Int.toNat v11_5)) * 16) + (Hd (Int.toNat v11_5))))) + z15)) x2 W Tl Hd By gn (v11_5 + 1) := by
          rw [ei]
          exact ga_st hga (by omega) (by omega) (by omega) (by omega) hw44 hwb44
        refine r_iinc (pc := 74) (v := iv (v11_5 + 1)) (lv' := [(5, .int (iv (v11_5 + 1))), (6, .int (iv z15)), (0, .ref s), (1, .ref ga), (2, .int (iv x2)), (3, .int (iv x3)), (4, .int (iv x4))]) dX2_most_74 rfl (iv_add _ _) (by decide) rfl ?_
        refine r_goto (pc := 77) (tgt := 11) dX2_most_77 (by decide) ?_
        refine Rn.pick (lv' := [(0, .ref s), (1, .ref ga), (2, .int (iv x2)), (3, .int (iv x3)), (4, .int (iv x4)), (5, .int (iv (v11_5 + 1)))]) [2, 3, 4, 5, 6, 0] rfl ?_
        exact ih11 (Int.toNat (120 - (v11_5 + 1))) (by omega) (fup r11 (Int.toNat (((Tl (Int.toNat v11_5)) * 16) + (Hd (Int.toNat v11_5)))) ((r11 (Int.toNat (((Tl (Int.toNat v11_5)) * 16) + (Hd (Int.toNat v11_5))))) + z15)) _ ht20 (v11_5 + 1) ⟨by omega, by omega, by omega, by (first | exact hga1 | exact ga_0)⟩ (by omega)
      · refine r_iconst (pc := 24) (v := iv 1) dX2_most_24 (by decide) ?_
        refine r_goto (pc := 25) (tgt := 44) dX2_most_25 (by decide) ?_
        refine r_istore (pc := 44) (lv' := [(6, .int (iv 1)), (0, .ref s), (1, .ref ga), (2, .int (iv x2)), (3, .int (iv x3)), (4, .int (iv x4)), (5, .int (iv v11_5))]) dX2_most_44 (by decide) rfl ?_
        have hByk := hrg_By (Int.toNat v11_5) (by omega)
        have hTlk := hrg_Tl (Int.toNat v11_5) (by omega)
        have hHdk := hrg_Hd (Int.toNat v11_5) (by omega)
        have hw44 : 1 = wfA x2 W (By (Int.toNat v11_5)).toNat := (wfa_1 (by omega)).symm
        have hwb44 : (0 : Int) ≤ 1 ∧ 1 ≤ (1000 : Int) := by have h9 := hrg_W (By (Int.toNat v11_5)).toNat (by omega); omega
        have hga := (by assumption : gaI r11 x2 W Tl Hd By gn v11_5)
        refine r_aload_n (pc := 46) dX2_most_46 (i := 0) rfl rfl ?_
        refine t_getE (pc := 47) (.ref (s + 1)) ht11 (rd_ov (by omega) (rd_ov (by omega) (rd_ov (by omega) (rd_of (ov_s _ _ _))))) fX2_9 dX2_most_47 rfl ?_
        refine r_aload_n (pc := 50) dX2_most_50 (i := 1) rfl rfl ?_
        refine t_getE (pc := 51) (.ref gTl) ht11 (rd_ov (by omega) (rd_ov (by omega) (rd_ov (by omega) (rd_ov (by omega) hg_O)))) fX2_61 dX2_most_51 rfl ?_
        refine r_iload (pc := 54) dX2_most_54 rfl ?_
        refine t_ialdX (pc := 56) (t0 := 0) ht11 (rd_ov (by omega) (rd_ov (by omega) (rd_ov (by omega) (rd_ov (by omega) hxg_Tl)))) dX2_most_56 rfl (by omega) (by omega) (fun b21 => ?_)
        have rb21 := (show Rfx gq 0 ((gn : Int) - 1) Tl by assumption) (Int.toNat v11_5) (by omega)
        refine r_bipush (pc := 57) (v := iv 16) dX2_most_57 (by decide) ?_
        refine r_imul (pc := 59) (v := iv ((Tl (Int.toNat v11_5)) * 16)) dX2_most_59 (iv_mul _ _) ?_
        refine r_aload_n (pc := 60) dX2_most_60 (i := 1) rfl rfl ?_
        refine t_getE (pc := 61) (.ref gHd) ht11 (rd_ov (by omega) (rd_ov (by omega) (rd_ov (by omega) (rd_ov (by omega) hg_O)))) fX2_64 dX2_most_61 rfl ?_
        refine r_iload (pc := 64) dX2_most_64 rfl ?_
        refine t_ialdX (pc := 66) (t0 := 0) ht11 (rd_ov (by omega) (rd_ov (by omega) (rd_ov (by omega) (rd_ov (by omega) hxg_Hd)))) dX2_most_66 rfl (by omega) (by omega) (fun b22 => ?_)
        have rb22 := (show Rfx gq 0 ((gn : Int) - 1) Hd by assumption) (Int.toNat v11_5) (by omega)
        refine r_iadd (pc := 67) (v := iv (((Tl (Int.toNat v11_5)) * 16) + (Hd (Int.toNat v11_5)))) dX2_most_67 (iv_add _ _) ?_
        refine r_dup2_11 (pc := 68) dX2_most_68 rfl rfl ?_
        refine t_ialdX (pc := 69) (t0 := 0) ht11 (rd_ov (by omega) (rd_ov (by omega) (rd_of (ov_s _ _ _)))) dX2_most_69 rfl (by decide) (by omega) (fun b23 => ?_)
        have ei := rix (u := Tl (Int.toNat v11_5)) (v := Hd (Int.toNat v11_5)) (by omega) (by omega)
        have hb69 : 0 ≤ r11 (Int.toNat (((Tl (Int.toNat v11_5)) * 16) + (Hd (Int.toNat v11_5)))) ∧ r11 (Int.toNat (((Tl (Int.toNat v11_5)) * 16) + (Hd (Int.toNat v11_5)))) ≤ 120000 := by rw [ei]; exact rmp_b (ga_rm hga (by omega)) (by omega) (by omega)
        refine r_iload (pc := 70) dX2_most_70 rfl ?_
        refine r_iadd (pc := 72) (v := iv ((r11 (Int.toNat (((Tl (Int.toNat v11_5)) * 16) + (Hd (Int.toNat v11_5))))) + 1)) dX2_most_72 (iv_add _ _) ?_
        refine t_iastX (pc := 73) (t0 := 0) ht11 (eq_ov (by omega) (eq_ov (by omega) (ov_s _ _ _))) dX2_most_73 rfl (by decide) (by omega) (by omega) (fun hp24 ht25 => ?_)
        rw [ov_in3 (by omega) (by omega) ] at ht25
        have hga1 : gaI (fup r11 (Int.toNat (((Tl (Int.toNat v11_5)) * 16) + (Hd (Int.toNat v11_5)))) ((r11 (Int.toNat (((Tl (Int.toNat v11_5)) * 16) + (Hd (Int.toNat v11_5))))) + 1)) x2 W Tl Hd By gn (v11_5 + 1) := by
          rw [ei]
          exact ga_st hga (by omega) (by omega) (by omega) (by omega) hw44 hwb44
        refine r_iinc (pc := 74) (v := iv (v11_5 + 1)) (lv' := [(5, .int (iv (v11_5 + 1))), (6, .int (iv 1)), (0, .ref s), (1, .ref ga), (2, .int (iv x2)), (3, .int (iv x3)), (4, .int (iv x4))]) dX2_most_74 rfl (iv_add _ _) (by decide) rfl ?_
        refine r_goto (pc := 77) (tgt := 11) dX2_most_77 (by decide) ?_
        refine Rn.pick (lv' := [(0, .ref s), (1, .ref ga), (2, .int (iv x2)), (3, .int (iv x3)), (4, .int (iv x4)), (5, .int (iv (v11_5 + 1)))]) [2, 3, 4, 5, 6, 0] rfl ?_
        exact ih11 (Int.toNat (120 - (v11_5 + 1))) (by omega) (fup r11 (Int.toNat (((Tl (Int.toNat v11_5)) * 16) + (Hd (Int.toNat v11_5)))) ((r11 (Int.toNat (((Tl (Int.toNat v11_5)) * 16) + (Hd (Int.toNat v11_5))))) + 1)) _ ht25 (v11_5 + 1) ⟨by omega, by omega, by omega, by (first | exact hga1 | exact ga_0)⟩ (by omega)
  refine Rn.pick (lv' := [(0, .ref s), (1, .ref ga), (2, .int (iv x2)), (3, .int (iv x3)), (4, .int (iv x4)), (5, .int (iv 0))]) [1, 2, 3, 4, 5, 0] rfl ?_
  exact B11 (Int.toNat (120 - 0)) (fun _ => 0) _ ht2 0 ⟨by omega, by omega, by omega, by (first | exact hga1 | exact ga_0)⟩ (by omega)
set_option maxHeartbeats 4000000 in
set_option maxRecDepth 100000 in
theorem c_X2_cutx {D : va_G} {cI cJ cZ cT : ClassId} {lo b L : Nat} {xs : Nat → Int32} {hp : MH} {n d : Nat} {Γ : TG} {ga : Nat} {gF : Nat} {gT : Nat} {gW : Nat} {gC : Nat} {gTl : Nat} {gHd : Nat} {gBy : Nat} {gOu : Nat} {gIn : Nat} {gJo : Nat} {gn : Nat} {gm : Nat} {gq : Nat} {gdr : Int} {F T W C Tl Hd By Ou In Jo : Nat → Int} {s : Nat} {R : Int} {r B Q : Nat → Int} {x3 x4 : Int} {pos : Nat → Nat} (hd0 : 2 ≤ d) (hg : TyG Γ cI cJ cZ ga gF gT gW gC gTl gHd gBy gOu gIn gJo gn gm gq gdr) (hxg : XG Γ cI gF gT gW gC gTl gHd gBy gOu gIn gJo gn gm gq F T W C Tl Hd By Ou In Jo) (hsp : s + 9 ≤ ga ∧ s + 9 ≤ gF ∧ s + 9 ≤ gT ∧ s + 9 ≤ gW ∧ s + 9 ≤ gC ∧ s + 9 ≤ gTl ∧ s + 9 ≤ gHd ∧ s + 9 ≤ gBy ∧ s + 9 ≤ gOu ∧ s + 9 ≤ gIn ∧ s + 9 ≤ gJo) (hR0 : 0 ≤ R ∧ R ≤ 65535) (hB0 : Rfx 16 0 239 B) (hQ0 : Rfx 16 0 15 Q) (ht : Tw (FS Γ cI s R r B Q) hp) (hx3 : 0 ≤ x3 ∧ x3 < (gn : Int)) (hx4 : 0 ≤ x4 ∧ x4 < (gn : Int)) (hxy : x3 ≠ x4) (hgo : GoS gm gq gdr F T Tl Hd By pos) : Mt (gG D cI cJ cZ cT lo b L xs) mX2_cut d 0 0 [.ref s, .ref ga, .int (iv x3), .int (iv x4)] hp n (fun r9 hp1 n1 => n1 = n ∧ ∃ (R1 : Int) (r1 B1 Q1 : Nat → Int), Tw (FS Γ cI s R1 r1 B1 Q1) hp1 ∧ (0 ≤ R1 ∧ R1 ≤ 65535) ∧ Rfx 16 0 239 B1 ∧ Rfx 16 0 15 Q1 ∧ r9 = some (.int (iv R1)) ∧ mcS gm gdr 0 F T W gn (Int.toNat x3) (Int.toNat x4) R1) := by
  refine Mt.of rfl (Nat.le_of_ble_eq_true rfl) ?_
  refine Rn.pick (lv' := [(0, .ref s), (1, .ref ga), (2, .int (iv x3)), (3, .int (iv x4))]) [0, 1, 2, 3] rfl ?_
  have t0 : Tw (ov (ov (ov (ov Γ s (tO 2 (flF s R))) (s + 1) (xI cI 256 r)) (s + 2) (xI cI 16 B)) (s + 3) (xI cI 16 Q)) hp := ht
  obtain ⟨hg_O, hg_from, hg_to, hg_weight, hg_cost, hg_tail, hg_head, hg_by, hg_out, hg_in, hg_joined, hg_b⟩ := id hg
  obtain ⟨⟨hxg_F, hxg_T, hxg_W, hxg_C, hxg_Tl, hxg_Hd, hxg_By, hxg_Ou, hxg_In, hxg_Jo⟩, ⟨hrg_F, hrg_T, hrg_W, hrg_C, hrg_Tl, hrg_Hd, hrg_By, hrg_Ou, hrg_In, hrg_Jo⟩, houg⟩ := id hxg
  have hgb := hg_b
  refine r_aload_n (pc := 0) dX2_cut_0 (i := 0) rfl rfl ?_
  refine r_aload_n (pc := 1) dX2_cut_1 (i := 1) rfl rfl ?_
  refine r_iconst (pc := 2) (v := iv 0) dX2_cut_2 (by decide) ?_
  refine r_iload_n (pc := 3) dX2_cut_3 (i := 2) rfl rfl ?_
  refine r_iload_n (pc := 4) dX2_cut_4 (i := 3) rfl rfl ?_
  obtain ⟨fs8, hfs8⟩ := t_obj t0 (rd_ov (by omega) (rd_ov (by omega) (rd_ov (by omega) (rd_of (ov_s _ _ _)))))
  refine r_callV (pc := 5) (as := [.ref ga, .int (iv 0), .int (iv x3), .int (iv x4)]) (st := []) kX2_78 rfl dX2_cut_5 hfs8 (c_X2_mostx (d := d - 1) (x2 := 0) (x3 := x3) (x4 := x4) (by omega) hg hxg hsp hR0 hB0 hQ0 t0 (by omega) (by omega) (by omega) hxy hgo) rfl (by omega) (Nat.le_of_ble_eq_true rfl) (Nat.zero_le _) (Nat.zero_le _) rfl (fun r1 hp2 n3 q4 => ?_)
  obtain ⟨hnn3, R1, rr1, B1, Q1, q1, ht5, hR1, hB1, hQ1, hrr1, hmcA, hmcS⟩ := q4
  subst n3 r1
  change Rn _ _ _ 8 _ [.long q1] _ _ _ _ _
  refine r_pop2_2 (pc := 8) dX2_cut_8 rfl ?_
  refine r_aload_n (pc := 9) dX2_cut_9 (i := 0) rfl rfl ?_
  refine t_getE (pc := 10) (.int (iv R1)) ht5 (rd_ov (by omega) (rd_ov (by omega) (rd_ov (by omega) (rd_of (ov_s _ _ _))))) fX2_82 dX2_cut_10 rfl ?_
  exact r_iret (pc := 13) dX2_cut_13 rfl ⟨rfl, R1, rr1, B1, Q1, ht5, hR1, hB1, hQ1, rfl, hmcS⟩
