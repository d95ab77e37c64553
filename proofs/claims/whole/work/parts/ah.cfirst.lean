theorem bcI_pw {i : Nat} : ∀ k : Nat, bcI (((2 ^ i : Nat) : Int) - 1) k = ((if k < i then k else i : Nat) : Int) := by
  intro k
  induction k with
  | zero => show (0 : Int) = _; split <;> omega
  | succ k ih =>
    have e1 : bcI (((2 ^ i : Nat) : Int) - 1) (k + 1) = bcI (((2 ^ i : Nat) : Int) - 1) k + (((((2 ^ i : Nat) : Int) - 1).toNat >>> k : Nat) : Int) % 2 := rfl
    have hb := @Me_bit (((2 ^ i : Nat) : Int) - 1) (k : Int)
    rw [Int.toNat_natCast] at hb
    have ha := @Me_all i k
    rw [e1, ih]
    have h2 : 0 ≤ ((((((2 ^ i : Nat) : Int) - 1).toNat >>> k : Nat) : Int) % 2) ∧ ((((((2 ^ i : Nat) : Int) - 1).toNat >>> k : Nat) : Int) % 2) < 2 := ⟨Int.emod_nonneg _ (by decide), Int.emod_lt_of_pos _ (by decide)⟩
    by_cases hk : k < i
    · have := hb.mpr (ha.mpr hk)
      rw [if_pos hk]
      split <;> omega
    · have h3 : ¬ ((((((2 ^ i : Nat) : Int) - 1).toNat >>> k : Nat) : Int) % 2 ≠ 0) := fun h9 => hk (ha.mp (hb.mp h9))
      rw [if_neg hk, if_neg (by omega)]
      omega
/-- the lowest node of a set -/
def lwP (S r : Int) : Prop := 0 ≤ r ∧ Me S r.toNat ∧ ∀ j, j < r.toNat → ¬ Me S j
theorem lw_of {S z : Int} {i : Nat} (hz : z = ((2 ^ i : Nat) : Int)) (hm : Me S i) (hn : ∀ j, j < i → ¬ Me S j) (hi : i < 16) : lwP S (bcI (z - 1) 16) := by
  subst hz
  rw [bcI_pw, if_neg (by omega)]
  exact ⟨by omega, by rw [Int.toNat_natCast]; exact hm, fun j hj => hn j (by rw [Int.toNat_natCast] at hj; exact hj)⟩
/-- the first node of its part -/
def fpP (E : Nat → Nat → Prop) (v : Nat) (r : Int) : Prop := 0 ≤ r ∧ r ≤ (v : Int) ∧ E r.toNat v ∧ ∀ w, w < r.toNat → ¬ E w v
theorem fp_low {E : Nat → Nat → Prop} {v : Nat} {S r : Int} (hS : ∀ u, Me S u ↔ E u v) (hv : E v v) (h : lwP S r) : fpP E v r := by
  obtain ⟨q1, q2, q3⟩ := h
  refine ⟨q1, ?_, (hS _).mp q2, fun w hw h9 => q3 w hw ((hS w).mpr h9)⟩
  apply Classical.byContradiction
  intro g
  exact q3 v (by omega) ((hS v).mpr hv)
theorem go_ne {d : Int} {F T : Nat → Int} {k u j : Nat} (h : goP d F T k (u : Int) (j : Int)) : F k ≠ T k ↔ j ≠ u := by
  unfold goP at h
  rcases h with h | h <;> constructor <;> intro g <;> omega
/-- nodes that a node has beside itself -/
theorem nb_me {m : Nat} {d : Int} {F T : Nat → Int} {u : Nat} {z b w : Int} (hz : ∀ i, Me z i ↔ Me w i ∧ ¬ Me b i) (hb : ∀ i, Me b i ↔ i = u) (hw : ∀ j, Me w j ↔ stP m d F T u j) (j : Nat) : Me z j ↔ ∃ k, k < m ∧ F k ≠ T k ∧ goP d F T k (u : Int) (j : Int) := by
  rw [hz j, hb j, hw j]
  constructor
  · rintro ⟨⟨k, g1, g2⟩, g3⟩
    exact ⟨k, g1, (go_ne g2).mpr g3, g2⟩
  · rintro ⟨k, g1, g2, g3⟩
    exact ⟨⟨k, g1, g3⟩, (go_ne g3).mp g2⟩
theorem nb_mi {m : Nat} {d : Int} {F T : Nat → Int} {u : Nat} {z b w : Int} (hz : ∀ i, Me z i ↔ Me w i ∧ ¬ Me b i) (hb : ∀ i, Me b i ↔ i = u) (hw : ∀ j, Me w j ↔ stP m d F T j u) (j : Nat) : Me z j ↔ ∃ k, k < m ∧ F k ≠ T k ∧ goP d F T k (j : Int) (u : Int) := by
  rw [hz j, hb j, hw j]
  constructor
  · rintro ⟨⟨k, g1, g2⟩, g3⟩
    exact ⟨k, g1, (go_ne g2).mpr (Ne.symm g3), g2⟩
  · rintro ⟨k, g1, g2, g3⟩
    exact ⟨⟨k, g1, g3⟩, Ne.symm ((go_ne g3).mp g2)⟩
theorem sn_iff {m : Nat} {d : Int} {F T : Nat → Int} {nu : Nat → Int64} {u v : Nat} {a b c e : Int} (p0 : 0 ≤ a ∧ 0 ≤ b ∧ 0 ≤ c ∧ 0 ≤ e) (ha : ∀ j, Me a j ↔ ∃ k, k < m ∧ F k ≠ T k ∧ goP d F T k (u : Int) (j : Int)) (hb : ∀ j, Me b j ↔ ∃ k, k < m ∧ F k ≠ T k ∧ goP d F T k (v : Int) (j : Int)) (hc : ∀ j, Me c j ↔ ∃ k, k < m ∧ F k ≠ T k ∧ goP d F T k (j : Int) (u : Int)) (he : ∀ j, Me e j ↔ ∃ k, k < m ∧ F k ≠ T k ∧ goP d F T k (j : Int) (v : Int)) : (a = b ∧ c = e) ↔ ptE m d F T nu 3 u v := by
  constructor
  · rintro ⟨g1, g2⟩
    refine ⟨fun e => by omega, fun e => by omega, fun e => by omega, fun _ => ⟨fun j => ?_, fun j => ?_⟩, fun e => by omega⟩
    · rw [← ha j, ← hb j, g1]
    · rw [← hc j, ← he j, g2]
  · intro g
    obtain ⟨g1, g2⟩ := g.2.2.2.1 rfl
    exact ⟨Me_ext p0.1 p0.2.1 (fun i => by rw [ha i, hb i]; exact g1 i), Me_ext p0.2.2.1 p0.2.2.2 (fun i => by rw [hc i, he i]; exact g2 i)⟩
theorem pt4_iff {m : Nat} {d : Int} {F T : Nat → Int} {nu : Nat → Int64} {u v : Nat} : nu u = nu v ↔ ptE m d F T nu 4 u v :=
  ⟨fun g => ⟨fun e => by omega, fun e => by omega, fun e => by omega, fun e => by omega, fun _ => g⟩, fun g => g.2.2.2.2 rfl⟩
theorem pt0_iff {m : Nat} {d : Int} {F T : Nat → Int} {nu : Nat → Int64} {u v : Nat} : (RC (stP m d F T) (fun x => x = v) u ∧ RC (fun i j => stP m d F T j i) (fun x => x = v) u) ↔ ptE m d F T nu 0 u v :=
  ⟨fun g => ⟨fun _ => ⟨g.1, RC_inv (R := fun i j => stP m d F T j i) g.2⟩, fun e => by omega, fun e => by omega, fun e => by omega, fun e => by omega⟩, fun g => ⟨(g.1 rfl).1, RC_inv (g.1 rfl).2⟩⟩
theorem pt12_iff {m : Nat} {d kind : Int} {F T : Nat → Int} {nu : Nat → Int64} {R : Nat → Nat → Prop} {u v : Nat} (h : (kind = 1 ∧ R = joX m F T (fun _ => True)) ∨ (kind = 2 ∧ R = joX m F T (fun k => ¬ brX m F T (fun _ => True) k))) : RC R (fun x => x = v) u ↔ ptE m d F T nu kind u v := by
  rcases h with ⟨e, rfl⟩ | ⟨e, rfl⟩
  · subst e
    exact ⟨fun g => ⟨fun e => by omega, fun _ => g, fun e => by omega, fun e => by omega, fun e => by omega⟩, fun g => g.2.1 rfl⟩
  · subst e
    exact ⟨fun g => ⟨fun e => by omega, fun e => by omega, fun _ => g, fun e => by omega, fun e => by omega⟩, fun g => g.2.2.1 rfl⟩
/-- none before -/
def nfP (E : Nat → Nat → Prop) (v : Nat) (u : Int) : Prop := ∀ w : Nat, (w : Int) < u → ¬ E w v
theorem nfq_up {E : Nat → Nat → Prop} {v : Nat} {u : Int} (h : nfP E v u) (h0 : 0 ≤ u) (hn : ¬ E u.toNat v) : nfP E v (u + 1) := by
  intro w hw
  by_cases e : w = u.toNat
  · rw [e]; exact hn
  · exact h w (by omega)
theorem pt_rf {m : Nat} {d kind : Int} {F T : Nat → Int} {nu : Nat → Int64} {v : Nat} : ptE m d F T nu kind v v :=
  ⟨fun _ => ⟨RC_in rfl, RC_in rfl⟩, fun _ => RC_in rfl, fun _ => RC_in rfl, fun _ => ⟨fun _ => Iff.rfl, fun _ => Iff.rfl⟩, fun _ => rfl⟩
set_option maxHeartbeats 4000000 in
set_option maxRecDepth 100000 in
theorem c_X8_lowestx {D : va_G} {cI cJ cZ cT : ClassId} {lo b L : Nat} {xs : Nat → Int32} {hp : MH} {n d : Nat} {Γ : TG} {x0 : Int} (hd0 : 1 ≤ d) (ht : Tw Γ hp) (hx0 : 1 ≤ x0 ∧ x0 ≤ 65535) : Mt (gG D cI cJ cZ cT lo b L xs) mX8_lowest d 0 0 [.int (iv x0)] hp n (pI Γ n (fun r => (0 ≤ r ∧ r ≤ 16) ∧ lwP x0 r)) := by
  refine Mt.of rfl (Nat.le_of_ble_eq_true rfl) ?_
  refine Rn.pick (lv' := [(0, .int (iv x0))]) [0] rfl ?_
  refine r_iload_n (pc := 0) dX8_lowest_0 (i := 0) rfl rfl ?_
  refine r_iload_n (pc := 1) dX8_lowest_1 (i := 0) rfl rfl ?_
  refine r_ineg (pc := 2) (v := iv (-x0)) dX8_lowest_2 (iv_neg _) ?_
  obtain ⟨z1, hz1, bz1⟩ := and_l x0 (-x0) (by omega) (by omega)
  refine r_iand (pc := 3) (v := iv z1) dX8_lowest_3 hz1 ?_
  have mez1 := Me_low hz1 (by omega) (by omega)
  obtain ⟨u3, hz3, hm3, hn3⟩ := mez1.2 (by omega)
  have hu3 := Me_lt hm3 (by omega)
  have hw3 : 1 ≤ 2 ^ u3 := Nat.one_le_two_pow
  refine r_iconst (pc := 4) (v := iv 1) dX8_lowest_4 (by decide) ?_
  refine r_isub (pc := 5) (v := iv (z1 - 1)) dX8_lowest_5 (iv_sub _ _) ?_
  refine t_callSI (pc := 6) (as := [.int (iv (z1 - 1))]) (st := []) kX8_15 dX8_lowest_6 (t_bitCountx (d := d - 1) (x := z1 - 1) (by omega) ht (by omega)) rfl (by omega) (Nat.le_of_ble_eq_true rfl) rfl (fun hp3 y2 ht4 by2 => ?_)
  have ey2 : y2 = bcI (z1 - 1) 16 := by2
  subst ey2
  have ry2 := bc_le (z1 - 1) 16
  exact r_iret (pc := 9) dX8_lowest_9 rfl ⟨rfl, ht4, _, rfl, by omega, lw_of hz3 hm3 hn3 hu3⟩
set_option maxHeartbeats 4000000 in
set_option maxRecDepth 100000 in
theorem c_X5_sameNx {D : va_G} {cI cJ cZ cT : ClassId} {lo b L : Nat} {xs : Nat → Int32} {hp : MH} {n d : Nat} {Γ : TG} {ga : Nat} {gF : Nat} {gT : Nat} {gW : Nat} {gC : Nat} {gTl : Nat} {gHd : Nat} {gBy : Nat} {gOu : Nat} {gIn : Nat} {gJo : Nat} {gn : Nat} {gm : Nat} {gq : Nat} {gdr : Int} {F T W C Tl Hd By Ou In Jo : Nat → Int} {x1 x2 : Int} {nuc : Nat → Int64} (hd0 : 0 ≤ d) (hg : TyG Γ cI cJ cZ ga gF gT gW gC gTl gHd gBy gOu gIn gJo gn gm gq gdr) (hxg : XG Γ cI gF gT gW gC gTl gHd gBy gOu gIn gJo gn gm gq F T W C Tl Hd By Ou In Jo) (ht : Tw Γ hp) (hx1 : 0 ≤ x1 ∧ x1 ≤ 15) (hx2 : 0 ≤ x2 ∧ x2 ≤ 15) (hxn : x1 < (gn : Int) ∧ x2 < (gn : Int)) (hou9 : rwP Ou gn (stP gm gdr F T)) (hin9 : rwP In gn (fun i j => stP gm gdr F T j i)) : Mt (gG D cI cJ cZ cT lo b L xs) mX5_haveSameNeighbours d 0 0 [.ref ga, .int (iv x1), .int (iv x2)] hp n (pI Γ n (fun r => ((0 ≤ r ∧ r ≤ 1) ∧ (r = 1 ↔ ptE gm gdr F T nuc 3 (Int.toNat x1) (Int.toNat x2))))) := by
  refine Mt.of rfl (Nat.le_of_ble_eq_true rfl) ?_
  refine Rn.pick (lv' := [(0, .ref ga), (1, .int (iv x1)), (2, .int (iv x2))]) [0, 1, 2] rfl ?_
  obtain ⟨hg_O, hg_from, hg_to, hg_weight, hg_cost, hg_tail, hg_head, hg_by, hg_out, hg_in, hg_joined, hg_b⟩ := id hg
  obtain ⟨⟨hxg_F, hxg_T, hxg_W, hxg_C, hxg_Tl, hxg_Hd, hxg_By, hxg_Ou, hxg_In, hxg_Jo⟩, ⟨hrg_F, hrg_T, hrg_W, hrg_C, hrg_Tl, hrg_Hd, hrg_By, hrg_Ou, hrg_In, hrg_Jo⟩, houg⟩ := id hxg
  have hgb := hg_b
  refine r_aload_n (pc := 0) dX5_haveSameNeighbours_0 (i := 0) rfl rfl ?_
  refine t_getE (pc := 1) (.ref gOu) ht hg_O fX5_45 dX5_haveSameNeighbours_1 rfl ?_
  refine r_iload_n (pc := 4) dX5_haveSameNeighbours_4 (i := 1) rfl rfl ?_
  refine t_ialdX (pc := 5) (t0 := 0) ht hxg_Ou dX5_haveSameNeighbours_5 rfl (by omega) (by omega) (fun b1 => ?_)
  have rb1 := (show Rfx gn 0 65535 Ou by assumption) (Int.toNat x1) (by omega)
  refine r_iconst (pc := 6) (v := iv 1) dX5_haveSameNeighbours_6 (by decide) ?_
  refine r_iload_n (pc := 7) dX5_haveSameNeighbours_7 (i := 1) rfl rfl ?_
  refine r_ishl (pc := 8) (v := iv ((2 ^ Int.toNat x1 : Nat) : Int)) dX5_haveSameNeighbours_8 (shl_e (by omega)) ?_
  have mp8_2 : 1 ≤ 2 ^ Int.toNat x1 := Nat.one_le_two_pow
  have mq8_3 : 2 ^ Int.toNat x1 ≤ 2 ^ 15 := Nat.pow_le_pow_right (by omega) (by omega)
  have ms8 := Me_shl (Int.toNat x1)
  refine r_iconst (pc := 9) (v := iv (-1)) dX5_haveSameNeighbours_9 (by decide) ?_
  refine r_ixor (pc := 10) (v := iv (-((2 ^ Int.toNat x1 : Nat) : Int) - 1)) dX5_haveSameNeighbours_10 (iv_not _) ?_
  obtain ⟨z4, hz4, bz4⟩ := and_l (Ou (Int.toNat x1)) (-((2 ^ Int.toNat x1 : Nat) : Int) - 1) (by omega) (by omega)
  refine r_iand (pc := 11) (v := iv z4) dX5_haveSameNeighbours_11 hz4 ?_
  have mez4 := Me_not (y := ((2 ^ Int.toNat x1 : Nat) : Int)) hz4 (by omega) (by omega) (by omega)
  have hk1 := fun j => nb_me (m := gm) (d := gdr) (F := F) (T := T) (u := Int.toNat x1) mez4 ms8 (fun j => hou9.1 (Int.toNat x1) (by omega) j) j
  refine r_aload_n (pc := 12) dX5_haveSameNeighbours_12 (i := 0) rfl rfl ?_
  refine t_getE (pc := 13) (.ref gOu) ht hg_O fX5_45 dX5_haveSameNeighbours_13 rfl ?_
  refine r_iload_n (pc := 16) dX5_haveSameNeighbours_16 (i := 2) rfl rfl ?_
  refine t_ialdX (pc := 17) (t0 := 0) ht hxg_Ou dX5_haveSameNeighbours_17 rfl (by omega) (by omega) (fun b5 => ?_)
  have rb5 := (show Rfx gn 0 65535 Ou by assumption) (Int.toNat x2) (by omega)
  refine r_iconst (pc := 18) (v := iv 1) dX5_haveSameNeighbours_18 (by decide) ?_
  refine r_iload_n (pc := 19) dX5_haveSameNeighbours_19 (i := 2) rfl rfl ?_
  refine r_ishl (pc := 20) (v := iv ((2 ^ Int.toNat x2 : Nat) : Int)) dX5_haveSameNeighbours_20 (shl_e (by omega)) ?_
  have mp20_6 : 1 ≤ 2 ^ Int.toNat x2 := Nat.one_le_two_pow
  have mq20_7 : 2 ^ Int.toNat x2 ≤ 2 ^ 15 := Nat.pow_le_pow_right (by omega) (by omega)
  have ms20 := Me_shl (Int.toNat x2)
  refine r_iconst (pc := 21) (v := iv (-1)) dX5_haveSameNeighbours_21 (by decide) ?_
  refine r_ixor (pc := 22) (v := iv (-((2 ^ Int.toNat x2 : Nat) : Int) - 1)) dX5_haveSameNeighbours_22 (iv_not _) ?_
  obtain ⟨z8, hz8, bz8⟩ := and_l (Ou (Int.toNat x2)) (-((2 ^ Int.toNat x2 : Nat) : Int) - 1) (by omega) (by omega)
  refine r_iand (pc := 23) (v := iv z8) dX5_haveSameNeighbours_23 hz8 ?_
  have mez8 := Me_not (y := ((2 ^ Int.toNat x2 : Nat) : Int)) hz8 (by omega) (by omega) (by omega)
  have hk2 := fun j => nb_me (m := gm) (d := gdr) (F := F) (T := T) (u := Int.toNat x2) mez8 ms20 (fun j => hou9.1 (Int.toNat x2) (by omega) j) j
  refine t_icmp_ne (pc := 24) (tgt := 58) dX5_haveSameNeighbours_24 (by decide) (by omega) (by omega) (fun c24 => ?_) (fun c24 => ?_)
  · have hno : ¬ ptE gm gdr F T nuc 3 (Int.toNat x1) (Int.toNat x2) := fun h9 => absurd (Me_ext (by omega) (by omega) (fun i => by rw [hk1 i, hk2 i]; exact (h9.2.2.2.1 rfl).1 i)) c24
    refine r_iconst (pc := 58) (v := iv 0) dX5_haveSameNeighbours_58 (by decide) ?_
    exact r_zret (pc := 59) dX5_haveSameNeighbours_59 rfl (iv_nar (by omega)) ⟨rfl, ht, _, rfl, by first | exact ⟨by omega, fun _ => hsn.mp (by omega), fun _ => rfl⟩ | exact ⟨by omega, fun h9 => by omega, fun h9 => absurd (hsn.mpr h9).2 c51⟩ | exact ⟨by omega, fun h9 => by omega, fun h9 => absurd h9 hno⟩⟩
  · refine r_aload_n (pc := 27) dX5_haveSameNeighbours_27 (i := 0) rfl rfl ?_
    refine t_getE (pc := 28) (.ref gIn) ht hg_O fX5_52 dX5_haveSameNeighbours_28 rfl ?_
    refine r_iload_n (pc := 31) dX5_haveSameNeighbours_31 (i := 1) rfl rfl ?_
    refine t_ialdX (pc := 32) (t0 := 0) ht hxg_In dX5_haveSameNeighbours_32 rfl (by omega) (by omega) (fun b9 => ?_)
    have rb9 := (show Rfx gn 0 65535 In by assumption) (Int.toNat x1) (by omega)
    refine r_iconst (pc := 33) (v := iv 1) dX5_haveSameNeighbours_33 (by decide) ?_
    refine r_iload_n (pc := 34) dX5_haveSameNeighbours_34 (i := 1) rfl rfl ?_
    refine r_ishl (pc := 35) (v := iv ((2 ^ Int.toNat x1 : Nat) : Int)) dX5_haveSameNeighbours_35 (shl_e (by omega)) ?_
    have mp35_10 : 1 ≤ 2 ^ Int.toNat x1 := Nat.one_le_two_pow
    have mq35_11 : 2 ^ Int.toNat x1 ≤ 2 ^ 15 := Nat.pow_le_pow_right (by omega) (by omega)
    have ms35 := Me_shl (Int.toNat x1)
    refine r_iconst (pc := 36) (v := iv (-1)) dX5_haveSameNeighbours_36 (by decide) ?_
    refine r_ixor (pc := 37) (v := iv (-((2 ^ Int.toNat x1 : Nat) : Int) - 1)) dX5_haveSameNeighbours_37 (iv_not _) ?_
    obtain ⟨z12, hz12, bz12⟩ := and_l (In (Int.toNat x1)) (-((2 ^ Int.toNat x1 : Nat) : Int) - 1) (by omega) (by omega)
    refine r_iand (pc := 38) (v := iv z12) dX5_haveSameNeighbours_38 hz12 ?_
    have mez12 := Me_not (y := ((2 ^ Int.toNat x1 : Nat) : Int)) hz12 (by omega) (by omega) (by omega)
    have hk3 := fun j => nb_mi (m := gm) (d := gdr) (F := F) (T := T) (u := Int.toNat x1) mez12 ms35 (fun j => hin9.1 (Int.toNat x1) (by omega) j) j
    refine r_aload_n (pc := 39) dX5_haveSameNeighbours_39 (i := 0) rfl rfl ?_
    refine t_getE (pc := 40) (.ref gIn) ht hg_O fX5_52 dX5_haveSameNeighbours_40 rfl ?_
    refine r_iload_n (pc := 43) dX5_haveSameNeighbours_43 (i := 2) rfl rfl ?_
    refine t_ialdX (pc := 44) (t0 := 0) ht hxg_In dX5_haveSameNeighbours_44 rfl (by omega) (by omega) (fun b13 => ?_)
    have rb13 := (show Rfx gn 0 65535 In by assumption) (Int.toNat x2) (by omega)
    refine r_iconst (pc := 45) (v := iv 1) dX5_haveSameNeighbours_45 (by decide) ?_
    refine r_iload_n (pc := 46) dX5_haveSameNeighbours_46 (i := 2) rfl rfl ?_
    refine r_ishl (pc := 47) (v := iv ((2 ^ Int.toNat x2 : Nat) : Int)) dX5_haveSameNeighbours_47 (shl_e (by omega)) ?_
    have mp47_14 : 1 ≤ 2 ^ Int.toNat x2 := Nat.one_le_two_pow
    have mq47_15 : 2 ^ Int.toNat x2 ≤ 2 ^ 15 := Nat.pow_le_pow_right (by omega) (by omega)
    have ms47 := Me_shl (Int.toNat x2)
    refine r_iconst (pc := 48) (v := iv (-1)) dX5_haveSameNeighbours_48 (by decide) ?_
    refine r_ixor (pc := 49) (v := iv (-((2 ^ Int.toNat x2 : Nat) : Int) - 1)) dX5_haveSameNeighbours_49 (iv_not _) ?_
    obtain ⟨z16, hz16, bz16⟩ := and_l (In (Int.toNat x2)) (-((2 ^ Int.toNat x2 : Nat) : Int) - 1) (by omega) (by omega)
    refine r_iand (pc := 50) (v := iv z16) dX5_haveSameNeighbours_50 hz16 ?_
    have mez16 := Me_not (y := ((2 ^ Int.toNat x2 : Nat) : Int)) hz16 (by omega) (by omega) (by omega)
    have hk4 := fun j => nb_mi (m := gm) (d := gdr) (F := F) (T := T) (u := Int.toNat x2) mez16 ms47 (fun j => hin9.1 (Int.toNat x2) (by omega) j) j
    have hsn := sn_iff (nu := nuc) (by omega) hk1 hk2 hk3 hk4
    refine t_icmp_ne (pc := 51) (tgt := 58) dX5_haveSameNeighbours_51 (by decide) (by omega) (by omega) (fun c51 => ?_) (fun c51 => ?_)
    · refine r_iconst (pc := 58) (v := iv 0) dX5_haveSameNeighbours_58 (by decide) ?_
      exact r_zret (pc := 59) dX5_haveSameNeighbours_59 rfl (iv_nar (by omega)) ⟨rfl, ht, _, rfl, by first | exact ⟨by omega, fun _ => hsn.mp (by omega), fun _ => rfl⟩ | exact ⟨by omega, fun h9 => by omega, fun h9 => absurd (hsn.mpr h9).2 c51⟩ | exact ⟨by omega, fun h9 => by omega, fun h9 => absurd h9 hno⟩⟩
    · refine r_iconst (pc := 54) (v := iv 1) dX5_haveSameNeighbours_54 (by decide) ?_
      refine r_goto (pc := 55) (tgt := 59) dX5_haveSameNeighbours_55 (by decide) ?_
      exact r_zret (pc := 59) dX5_haveSameNeighbours_59 rfl (iv_nar (by omega)) ⟨rfl, ht, _, rfl, by first | exact ⟨by omega, fun _ => hsn.mp (by omega), fun _ => rfl⟩ | exact ⟨by omega, fun h9 => by omega, fun h9 => absurd (hsn.mpr h9).2 c51⟩ | exact ⟨by omega, fun h9 => by omega, fun h9 => absurd h9 hno⟩⟩
set_option maxHeartbeats 4000000 in
set_option maxRecDepth 100000 in
theorem c_X5_sameVx {D : va_G} {cI cJ cZ cT : ClassId} {lo b L : Nat} {xs : Nat → Int32} {hp : MH} {n d : Nat} {Γ : TG} {gn aa aM : Nat} {fa : Nat → Int64} {x1 x2 : Int} (hd0 : 0 ≤ d) (hgn : 1 ≤ gn ∧ gn ≤ 16) (haO : rd Γ aa (tO 0 [fE (.int (iv (gn : Int))), fE (.ref aM)])) (haM : rd Γ aM (xJ cJ gn fa)) (ht : Tw Γ hp) (hx1 : 0 ≤ x1 ∧ x1 < (gn : Int)) (hx2 : 0 ≤ x2 ∧ x2 < (gn : Int)) : Mt (gG D cI cJ cZ cT lo b L xs) mX5_haveSameNumber d 0 0 [.ref aa, .int (iv x1), .int (iv x2)] hp n (pI Γ n (fun r => ((0 ≤ r ∧ r ≤ 1) ∧ (r = 1 ↔ fa (Int.toNat x1) = fa (Int.toNat x2))))) := by
  refine Mt.of rfl (Nat.le_of_ble_eq_true rfl) ?_
  refine Rn.pick (lv' := [(0, .ref aa), (1, .int (iv x1)), (2, .int (iv x2))]) [0, 1, 2] rfl ?_
  refine r_iload_n (pc := 0) dX5_haveSameNumber_0 (i := 1) rfl rfl ?_
  refine r_aload_n (pc := 1) dX5_haveSameNumber_1 (i := 0) rfl rfl ?_
  refine t_getE (pc := 2) (.int (iv (gn : Int))) ht haO fX5_67 dX5_haveSameNumber_2 rfl ?_
  refine t_icmp_ge (pc := 5) (tgt := 36) dX5_haveSameNumber_5 (by decide) (by omega) (by omega) (fun c5 => ?_) (fun c5 => ?_)
  · refine r_iconst (pc := 36) (v := iv 0) dX5_haveSameNumber_36 (by decide) ?_
    exact r_zret (pc := 37) dX5_haveSameNumber_37 rfl (iv_nar (by omega)) ⟨rfl, ht, _, rfl, by first | exact ⟨by omega, fun _ => Int64.toInt_inj.mp (by omega), fun _ => rfl⟩ | exact ⟨by omega, fun h9 => by omega, fun h9 => absurd (congrArg Int64.toInt h9) (by omega)⟩⟩
  · refine r_iload_n (pc := 8) dX5_haveSameNumber_8 (i := 2) rfl rfl ?_
    refine r_aload_n (pc := 9) dX5_haveSameNumber_9 (i := 0) rfl rfl ?_
    refine t_getE (pc := 10) (.int (iv (gn : Int))) ht haO fX5_67 dX5_haveSameNumber_10 rfl ?_
    refine t_icmp_ge (pc := 13) (tgt := 36) dX5_haveSameNumber_13 (by decide) (by omega) (by omega) (fun c13 => ?_) (fun c13 => ?_)
    · refine r_iconst (pc := 36) (v := iv 0) dX5_haveSameNumber_36 (by decide) ?_
      exact r_zret (pc := 37) dX5_haveSameNumber_37 rfl (iv_nar (by omega)) ⟨rfl, ht, _, rfl, by first | exact ⟨by omega, fun _ => Int64.toInt_inj.mp (by omega), fun _ => rfl⟩ | exact ⟨by omega, fun h9 => by omega, fun h9 => absurd (congrArg Int64.toInt h9) (by omega)⟩⟩
    · refine r_aload_n (pc := 16) dX5_haveSameNumber_16 (i := 0) rfl rfl ?_
      refine t_getE (pc := 17) (.ref aM) ht haO fX5_70 dX5_haveSameNumber_17 rfl ?_
      refine r_iload_n (pc := 20) dX5_haveSameNumber_20 (i := 1) rfl rfl ?_
      refine t_laldX (pc := 21) (t0 := 1) ht haM dX5_haveSameNumber_21 rfl (by omega) (by omega) ?_
      refine r_aload_n (pc := 22) dX5_haveSameNumber_22 (i := 0) rfl rfl ?_
      refine t_getE (pc := 23) (.ref aM) ht haO fX5_70 dX5_haveSameNumber_23 rfl ?_
      refine r_iload_n (pc := 26) dX5_haveSameNumber_26 (i := 2) rfl rfl ?_
      refine t_laldX (pc := 27) (t0 := 1) ht haM dX5_haveSameNumber_27 rfl (by omega) (by omega) ?_
      refine r_lcmp (pc := 28) dX5_haveSameNumber_28 ?_
      refine t_lif_ne (pc := 29) (tgt := 36) dX5_haveSameNumber_29 (by decide) (fun c29 => ?_) (fun c29 => ?_)
      · refine r_iconst (pc := 36) (v := iv 0) dX5_haveSameNumber_36 (by decide) ?_
        exact r_zret (pc := 37) dX5_haveSameNumber_37 rfl (iv_nar (by omega)) ⟨rfl, ht, _, rfl, by first | exact ⟨by omega, fun _ => Int64.toInt_inj.mp (by omega), fun _ => rfl⟩ | exact ⟨by omega, fun h9 => by omega, fun h9 => absurd (congrArg Int64.toInt h9) (by omega)⟩⟩
      · refine r_iconst (pc := 32) (v := iv 1) dX5_haveSameNumber_32 (by decide) ?_
        refine r_goto (pc := 33) (tgt := 37) dX5_haveSameNumber_33 (by decide) ?_
        exact r_zret (pc := 37) dX5_haveSameNumber_37 rfl (iv_nar (by omega)) ⟨rfl, ht, _, rfl, by first | exact ⟨by omega, fun _ => Int64.toInt_inj.mp (by omega), fun _ => rfl⟩ | exact ⟨by omega, fun h9 => by omega, fun h9 => absurd (congrArg Int64.toInt h9) (by omega)⟩⟩
set_option maxHeartbeats 4000000 in
set_option maxRecDepth 100000 in
theorem c_X5_firstnx {D : va_G} {cI cJ cZ cT : ClassId} {lo b L : Nat} {xs : Nat → Int32} {hp : MH} {n d : Nat} {Γ : TG} {ga : Nat} {gF : Nat} {gT : Nat} {gW : Nat} {gC : Nat} {gTl : Nat} {gHd : Nat} {gBy : Nat} {gOu : Nat} {gIn : Nat} {gJo : Nat} {gn : Nat} {gm : Nat} {gq : Nat} {gdr : Int} {F T W C Tl Hd By Ou In Jo : Nat → Int} {rA : Nat} {Nx : Nat → Int} {R : Nat → Nat → Prop} {nuc : Nat → Int64} {x1 x4 : Int} (hd0 : 2 ≤ d) (hg : TyG Γ cI cJ cZ ga gF gT gW gC gTl gHd gBy gOu gIn gJo gn gm gq gdr) (hxg : XG Γ cI gF gT gW gC gTl gHd gBy gOu gIn gJo gn gm gq F T W C Tl Hd By Ou In Jo) (ht : Tw Γ hp) (hx1 : 0 ≤ x1 ∧ x1 ≤ 3) (hx4 : 0 ≤ x4 ∧ x4 < (gn : Int)) (hou9 : rwP Ou gn (stP gm gdr F T)) (hin9 : rwP In gn (fun i j => stP gm gdr F T j i)) (hrA : rd Γ rA (xI cI gn Nx)) (hrR : Rfx gn 0 65535 Nx) (hrw : rwP Nx gn R) (hkR : x1 = 1 ∨ x1 = 2 → (x1 = 1 ∧ R = joX gm F T (fun _ => True)) ∨ (x1 = 2 ∧ R = joX gm F T (fun k => ¬ brX gm F T (fun _ => True) k))) : Mt (gG D cI cJ cZ cT lo b L xs) mX5_firstOfItsPart d 0 0 [.ref ga, .int (iv x1), .ref rA, .null, .int (iv x4)] hp n (pI Γ n (fun r => (0 ≤ r ∧ r ≤ 16) ∧ fpP (ptE gm gdr F T nuc x1) (Int.toNat x4) r)) := by
  refine Mt.of rfl (Nat.le_of_ble_eq_true rfl) ?_
  refine Rn.pick (lv' := [(0, .ref ga), (1, .int (iv x1)), (2, .ref rA), (3, .null), (4, .int (iv x4))]) [0, 1, 2, 3, 4] rfl ?_
  obtain ⟨hg_O, hg_from, hg_to, hg_weight, hg_cost, hg_tail, hg_head, hg_by, hg_out, hg_in, hg_joined, hg_b⟩ := id hg
  obtain ⟨⟨hxg_F, hxg_T, hxg_W, hxg_C, hxg_Tl, hxg_Hd, hxg_By, hxg_Ou, hxg_In, hxg_Jo⟩, ⟨hrg_F, hrg_T, hrg_W, hrg_C, hrg_Tl, hrg_Hd, hrg_By, hrg_Ou, hrg_In, hrg_Jo⟩, houg⟩ := id hxg
  have hgb := hg_b
  refine r_aload_n (pc := 0) dX5_firstOfItsPart_0 (i := 0) rfl rfl ?_
  refine t_callVI (pc := 1) (as := []) (st := []) ht hg_O kX5_41 rfl dX5_firstOfItsPart_1 (c_X3_allNodesx (d := d - 1)  (by omega) hg hxg ht  ) rfl (by omega) (Nat.le_of_ble_eq_true rfl) rfl (fun hp2 y1 ht3 by1 => ?_)
  have fy1 : (y1 = ((2 ^ gn : Nat) : Int) - 1) := by1
  have ey1 : y1 = ((2 ^ gn : Nat) : Int) - 1 := fy1
  subst ey1
  have mpa1 : 1 ≤ 2 ^ gn := Nat.one_le_two_pow
  have mqa1 : 2 ^ gn ≤ 2 ^ 16 := Nat.pow_le_pow_right (by omega) (by omega)
  refine r_istore (pc := 4) (lv' := [(5, .int (iv (((2 ^ gn : Nat) : Int) - 1))), (0, .ref ga), (1, .int (iv x1)), (2, .ref rA), (3, .null), (4, .int (iv x4))]) dX5_firstOfItsPart_4 (by decide) rfl ?_
  refine r_iload_n (pc := 6) dX5_firstOfItsPart_6 (i := 1) rfl rfl ?_
  refine t_if_ne (pc := 7) (tgt := 41) dX5_firstOfItsPart_7 (by decide) (by omega) (fun c7 => ?_) (fun c7 => ?_)
  · refine r_iload_n (pc := 41) dX5_firstOfItsPart_41 (i := 1) rfl rfl ?_
    refine r_iconst (pc := 42) (v := iv 1) dX5_firstOfItsPart_42 (by decide) ?_
    refine t_icmp_eq (pc := 43) (tgt := 51) dX5_firstOfItsPart_43 (by decide) (by omega) (by omega) (fun c43 => ?_) (fun c43 => ?_)
    · refine r_aload_n (pc := 51) dX5_firstOfItsPart_51 (i := 2) rfl rfl ?_
      refine r_iconst (pc := 52) (v := iv 1) dX5_firstOfItsPart_52 (by decide) ?_
      refine r_iload (pc := 53) dX5_firstOfItsPart_53 rfl ?_
      refine r_ishl (pc := 55) (v := iv ((2 ^ Int.toNat x4 : Nat) : Int)) dX5_firstOfItsPart_55 (shl_e (by omega)) ?_
      have mp55_4 : 1 ≤ 2 ^ Int.toNat x4 := Nat.one_le_two_pow
      have mq55_5 : 2 ^ Int.toNat x4 ≤ 2 ^ 15 := Nat.pow_le_pow_right (by omega) (by omega)
      have ms55 := Me_shl (Int.toNat x4)
      refine r_iload (pc := 56) dX5_firstOfItsPart_56 rfl ?_
      refine t_callSI (pc := 58) (as := [.ref rA, .int (iv ((2 ^ Int.toNat x4 : Nat) : Int)), .int (iv (((2 ^ gn : Nat) : Int) - 1))]) (st := []) kX5_48 dX5_firstOfItsPart_58 (t_X8_reachx (d := d - 1) (Nx := Nx) (rL := gn) (x1 := ((2 ^ Int.toNat x4 : Nat) : Int)) (x2 := (((2 ^ gn : Nat) : Int) - 1)) (by omega) hrA hrR (by omega) ht3 (by omega) (by omega)) rfl (by omega) (Nat.le_of_ble_eq_true rfl) rfl (fun hp7 y6 ht8 by6 => ?_)
      obtain ⟨by61, hrx58⟩ := by6
      have hS58 : ∀ u, Me y6 u ↔ (ptE gm gdr F T nuc x1) u (Int.toNat x4) := fun u => (rx_all (v := Int.toNat x4) hrx58 hrw ms55 (by omega) u).trans (pt12_iff (d := gdr) (nu := nuc) (hkR (by omega)))
      have hp58 : 1 ≤ y6 := by have h9 := (hS58 (Int.toNat x4)).mpr pt_rf; apply Classical.byContradiction; intro h8; rw [show y6 = 0 by omega] at h9; exact Me_0 _ h9
      refine t_callSI (pc := 61) (as := [.int (iv y6)]) (st := []) kX5_55 dX5_firstOfItsPart_61 (c_X8_lowestx (d := d - 1) (x0 := y6) (by omega) ht8 (by omega)) rfl (by omega) (Nat.le_of_ble_eq_true rfl) rfl (fun hp10 y9 ht11 by9 => ?_)
      obtain ⟨by91, hlw61⟩ := by9
      exact r_iret (pc := 64) dX5_firstOfItsPart_64 rfl ⟨rfl, ht11, _, rfl, by omega, fp_low hS58 pt_rf hlw61⟩
    · refine r_iload_n (pc := 46) dX5_firstOfItsPart_46 (i := 1) rfl rfl ?_
      refine r_iconst (pc := 47) (v := iv 2) dX5_firstOfItsPart_47 (by decide) ?_
      refine t_icmp_ne (pc := 48) (tgt := 65) dX5_firstOfItsPart_48 (by decide) (by omega) (by omega) (fun c48 => ?_) (fun c48 => ?_)
      · refine r_iconst (pc := 65) (v := iv 0) dX5_firstOfItsPart_65 (by decide) ?_
        refine r_istore (pc := 66) (lv' := [(6, .int (iv 0)), (5, .int (iv (((2 ^ gn : Nat) : Int) - 1))), (0, .ref ga), (1, .int (iv x1)), (2, .ref rA), (3, .null), (4, .int (iv x4))]) dX5_firstOfItsPart_66 (by decide) rfl ?_
        have B68 : ∀ k : Nat, ∀ hp68 : MH, Tw Γ hp68 → ∀  (v68_6 : Int), 0 ≤ v68_6 ∧ v68_6 ≤ 15 ∧ (v68_6 ≤ x4) ∧ (x1 = 3) ∧ (nfP (ptE gm gdr F T nuc 3) (Int.toNat x4) v68_6) → 15 - v68_6 ≤ (k : Int) → Rn (gG D cI cJ cZ cT lo b L xs) mX5_firstOfItsPart d 68 [(0, .ref ga), (3, .null), (4, .int (iv x4)), (6, .int (iv v68_6))] [] hp68 n 0 0 (pI Γ n (fun r => (0 ≤ r ∧ r ≤ 16) ∧ fpP (ptE gm gdr F T nuc x1) (Int.toNat x4) r)) := by
          refine lpS _ ?_
          intro k68 ih68 hp68 ht68 v68_6 hf68 hm68
          obtain ⟨hf68_0, hf68_1, hf68_2, hf68_3, ha68_4⟩ := hf68
          refine r_iload (pc := 68) dX5_firstOfItsPart_68 rfl ?_
          refine r_iload (pc := 70) dX5_firstOfItsPart_70 rfl ?_
          refine t_icmp_ge (pc := 72) (tgt := 113) dX5_firstOfItsPart_72 (by decide) (by omega) (by omega) (fun c72 => ?_) (fun c72 => ?_)
          · refine r_iload (pc := 113) dX5_firstOfItsPart_113 rfl ?_
            exact r_iret (pc := 115) dX5_firstOfItsPart_115 rfl ⟨rfl, ht68, _, rfl, by omega, by rw [show x1 = 3 by omega]; exact ⟨by omega, by omega, pt_rf, fun w hw => (by assumption : nfP (ptE gm gdr F T nuc 3) (Int.toNat x4) v68_6) w (by omega)⟩⟩
          · refine r_aload_nN (pc := 75) dX5_firstOfItsPart_75 (i := 3) rfl rfl ?_
            refine r_ifnonnullN (pc := 76) dX5_firstOfItsPart_76 ?_
            refine r_aload_n (pc := 79) dX5_firstOfItsPart_79 (i := 0) rfl rfl ?_
            refine r_iload (pc := 80) dX5_firstOfItsPart_80 rfl ?_
            refine r_iload (pc := 82) dX5_firstOfItsPart_82 rfl ?_
            refine t_callSI (pc := 84) (as := [.ref ga, .int (iv v68_6), .int (iv x4)]) (st := []) kX5_59 dX5_firstOfItsPart_84 (c_X5_sameNx (nuc := nuc) (d := d - 1) (x1 := v68_6) (x2 := x4) (by omega) hg hxg ht68 (by omega) (by omega) (by omega) hou9 hin9) rfl (by omega) (Nat.le_of_ble_eq_true rfl) rfl (fun hp13 y12 ht14 by12 => ?_)
            have fy12 : ((0 ≤ y12 ∧ y12 ≤ 1) ∧ (y12 = 1 ↔ ptE gm gdr F T nuc 3 (Int.toNat v68_6) (Int.toNat x4))) := by12
            have hsv := fy12
            refine t_if_eq (pc := 87) (tgt := 107) dX5_firstOfItsPart_87 (by decide) (by omega) (fun c87 => ?_) (fun c87 => ?_)
            · refine r_iinc (pc := 107) (v := iv (v68_6 + 1)) (lv' := [(6, .int (iv (v68_6 + 1))), (0, .ref ga), (3, .null), (4, .int (iv x4))]) dX5_firstOfItsPart_107 rfl (iv_add _ _) (by decide) rfl ?_
              refine r_goto (pc := 110) (tgt := 68) dX5_firstOfItsPart_110 (by decide) ?_
              refine Rn.pick (lv' := [(0, .ref ga), (3, .null), (4, .int (iv x4)), (6, .int (iv (v68_6 + 1)))]) [1, 2, 3, 0] rfl ?_
              exact ih68 (Int.toNat (15 - (v68_6 + 1))) (by omega) _ ht14 (v68_6 + 1) ⟨by omega, by omega, by omega, by omega, by (first | (intro w hw; exfalso; omega) | exact nfq_up (by assumption) (by omega) (fun h9 => by have h8 := hsv.2.mpr h9; omega))⟩ (by omega)
            · refine r_goto (pc := 90) (tgt := 104) dX5_firstOfItsPart_90 (by decide) ?_
              refine r_iload (pc := 104) dX5_firstOfItsPart_104 rfl ?_
              exact r_iret (pc := 106) dX5_firstOfItsPart_106 rfl ⟨rfl, ht14, _, rfl, by omega, by rw [show x1 = 3 by omega]; exact ⟨by omega, by omega, hsv.2.mp (by omega), fun w hw => (by assumption : nfP (ptE gm gdr F T nuc 3) (Int.toNat x4) v68_6) w (by omega)⟩⟩
        refine Rn.pick (lv' := [(0, .ref ga), (3, .null), (4, .int (iv x4)), (6, .int (iv 0))]) [2, 5, 6, 0] rfl ?_
        exact B68 (Int.toNat (15 - 0)) _ ht3 0 ⟨by omega, by omega, by omega, by omega, by (first | (intro w hw; exfalso; omega) | exact nfq_up (by assumption) (by omega) (fun h9 => by have h8 := hsv.2.mpr h9; omega))⟩ (by omega)
      · refine r_aload_n (pc := 51) dX5_firstOfItsPart_51 (i := 2) rfl rfl ?_
        refine r_iconst (pc := 52) (v := iv 1) dX5_firstOfItsPart_52 (by decide) ?_
        refine r_iload (pc := 53) dX5_firstOfItsPart_53 rfl ?_
        refine r_ishl (pc := 55) (v := iv ((2 ^ Int.toNat x4 : Nat) : Int)) dX5_firstOfItsPart_55 (shl_e (by omega)) ?_
        have mp55_15 : 1 ≤ 2 ^ Int.toNat x4 := Nat.one_le_two_pow
        have mq55_16 : 2 ^ Int.toNat x4 ≤ 2 ^ 15 := Nat.pow_le_pow_right (by omega) (by omega)
        have ms55 := Me_shl (Int.toNat x4)
        refine r_iload (pc := 56) dX5_firstOfItsPart_56 rfl ?_
        refine t_callSI (pc := 58) (as := [.ref rA, .int (iv ((2 ^ Int.toNat x4 : Nat) : Int)), .int (iv (((2 ^ gn : Nat) : Int) - 1))]) (st := []) kX5_48 dX5_firstOfItsPart_58 (t_X8_reachx (d := d - 1) (Nx := Nx) (rL := gn) (x1 := ((2 ^ Int.toNat x4 : Nat) : Int)) (x2 := (((2 ^ gn : Nat) : Int) - 1)) (by omega) hrA hrR (by omega) ht3 (by omega) (by omega)) rfl (by omega) (Nat.le_of_ble_eq_true rfl) rfl (fun hp18 y17 ht19 by17 => ?_)
        obtain ⟨by171, hrx58⟩ := by17
        have hS58 : ∀ u, Me y17 u ↔ (ptE gm gdr F T nuc x1) u (Int.toNat x4) := fun u => (rx_all (v := Int.toNat x4) hrx58 hrw ms55 (by omega) u).trans (pt12_iff (d := gdr) (nu := nuc) (hkR (by omega)))
        have hp58 : 1 ≤ y17 := by have h9 := (hS58 (Int.toNat x4)).mpr pt_rf; apply Classical.byContradiction; intro h8; rw [show y17 = 0 by omega] at h9; exact Me_0 _ h9
        refine t_callSI (pc := 61) (as := [.int (iv y17)]) (st := []) kX5_55 dX5_firstOfItsPart_61 (c_X8_lowestx (d := d - 1) (x0 := y17) (by omega) ht19 (by omega)) rfl (by omega) (Nat.le_of_ble_eq_true rfl) rfl (fun hp21 y20 ht22 by20 => ?_)
        obtain ⟨by201, hlw61⟩ := by20
        exact r_iret (pc := 64) dX5_firstOfItsPart_64 rfl ⟨rfl, ht22, _, rfl, by omega, fp_low hS58 pt_rf hlw61⟩
  · refine r_aload_n (pc := 10) dX5_firstOfItsPart_10 (i := 0) rfl rfl ?_
    refine t_getE (pc := 11) (.ref gOu) ht3 hg_O fX5_45 dX5_firstOfItsPart_11 rfl ?_
    refine r_iconst (pc := 14) (v := iv 1) dX5_firstOfItsPart_14 (by decide) ?_
    refine r_iload (pc := 15) dX5_firstOfItsPart_15 rfl ?_
    refine r_ishl (pc := 17) (v := iv ((2 ^ Int.toNat x4 : Nat) : Int)) dX5_firstOfItsPart_17 (shl_e (by omega)) ?_
    have mp17_23 : 1 ≤ 2 ^ Int.toNat x4 := Nat.one_le_two_pow
    have mq17_24 : 2 ^ Int.toNat x4 ≤ 2 ^ 15 := Nat.pow_le_pow_right (by omega) (by omega)
    have ms17 := Me_shl (Int.toNat x4)
    refine r_iload (pc := 18) dX5_firstOfItsPart_18 rfl ?_
    refine t_callSI (pc := 20) (as := [.ref gOu, .int (iv ((2 ^ Int.toNat x4 : Nat) : Int)), .int (iv (((2 ^ gn : Nat) : Int) - 1))]) (st := []) kX5_48 dX5_firstOfItsPart_20 (t_X8_reachx (d := d - 1) (Nx := Ou) (rL := gn) (x1 := ((2 ^ Int.toNat x4 : Nat) : Int)) (x2 := (((2 ^ gn : Nat) : Int) - 1)) (by omega) hxg_Ou hrg_Ou (by omega) ht3 (by omega) (by omega)) rfl (by omega) (Nat.le_of_ble_eq_true rfl) rfl (fun hp26 y25 ht27 by25 => ?_)
    obtain ⟨by251, hrx20⟩ := by25
    refine r_aload_n (pc := 23) dX5_firstOfItsPart_23 (i := 0) rfl rfl ?_
    refine t_getE (pc := 24) (.ref gIn) ht27 hg_O fX5_52 dX5_firstOfItsPart_24 rfl ?_
    refine r_iconst (pc := 27) (v := iv 1) dX5_firstOfItsPart_27 (by decide) ?_
    refine r_iload (pc := 28) dX5_firstOfItsPart_28 rfl ?_
    refine r_ishl (pc := 30) (v := iv ((2 ^ Int.toNat x4 : Nat) : Int)) dX5_firstOfItsPart_30 (shl_e (by omega)) ?_
    have mp30_28 : 1 ≤ 2 ^ Int.toNat x4 := Nat.one_le_two_pow
    have mq30_29 : 2 ^ Int.toNat x4 ≤ 2 ^ 15 := Nat.pow_le_pow_right (by omega) (by omega)
    have ms30 := Me_shl (Int.toNat x4)
    refine r_iload (pc := 31) dX5_firstOfItsPart_31 rfl ?_
    refine t_callSI (pc := 33) (as := [.ref gIn, .int (iv ((2 ^ Int.toNat x4 : Nat) : Int)), .int (iv (((2 ^ gn : Nat) : Int) - 1))]) (st := [.int (iv y25)]) kX5_48 dX5_firstOfItsPart_33 (t_X8_reachx (d := d - 1) (Nx := In) (rL := gn) (x1 := ((2 ^ Int.toNat x4 : Nat) : Int)) (x2 := (((2 ^ gn : Nat) : Int) - 1)) (by omega) hxg_In hrg_In (by omega) ht27 (by omega) (by omega)) rfl (by omega) (Nat.le_of_ble_eq_true rfl) rfl (fun hp31 y30 ht32 by30 => ?_)
    obtain ⟨by301, hrx33⟩ := by30
    obtain ⟨z33, hz33, bz33⟩ := and_2 y25 y30 (by omega) (by omega)
    refine r_iand (pc := 36) (v := iv z33) dX5_firstOfItsPart_36 hz33 ?_
    have mez33 := Me_and hz33 (by omega) (by omega) (by omega)
    have hS36 : ∀ u, Me z33 u ↔ ptE gm gdr F T nuc 0 u (Int.toNat x4) := fun u => by rw [mez33 u, rx_all (v := Int.toNat x4) hrx20 hou9 ms17 (by omega) u, rx_all (v := Int.toNat x4) hrx33 hin9 ms30 (by omega) u]; exact pt0_iff
    have hp36 : 1 ≤ z33 := by have h9 := (hS36 (Int.toNat x4)).mpr pt_rf; apply Classical.byContradiction; intro h8; rw [show z33 = 0 by omega] at h9; exact Me_0 _ h9
    refine t_callSI (pc := 37) (as := [.int (iv z33)]) (st := []) kX5_55 dX5_firstOfItsPart_37 (c_X8_lowestx (d := d - 1) (x0 := z33) (by omega) ht32 (by omega)) rfl (by omega) (Nat.le_of_ble_eq_true rfl) rfl (fun hp35 y34 ht36 by34 => ?_)
    obtain ⟨by341, hlw37⟩ := by34
    exact r_iret (pc := 40) dX5_firstOfItsPart_40 rfl ⟨rfl, ht36, _, rfl, by omega, by rw [show x1 = 0 by omega]; exact fp_low hS36 pt_rf hlw37⟩
set_option maxHeartbeats 4000000 in
set_option maxRecDepth 100000 in
theorem c_X5_firstcx {D : va_G} {cI cJ cZ cT : ClassId} {lo b L : Nat} {xs : Nat → Int32} {hp : MH} {n d : Nat} {Γ : TG} {ga : Nat} {gF : Nat} {gT : Nat} {gW : Nat} {gC : Nat} {gTl : Nat} {gHd : Nat} {gBy : Nat} {gOu : Nat} {gIn : Nat} {gJo : Nat} {gn : Nat} {gm : Nat} {gq : Nat} {gdr : Int} {F T W C Tl Hd By Ou In Jo : Nat → Int} {rA aa aM : Nat} {Nx : Nat → Int} {R : Nat → Nat → Prop} {nuc : Nat → Int64} {x1 x4 : Int} (hd0 : 1 ≤ d) (hg : TyG Γ cI cJ cZ ga gF gT gW gC gTl gHd gBy gOu gIn gJo gn gm gq gdr) (hxg : XG Γ cI gF gT gW gC gTl gHd gBy gOu gIn gJo gn gm gq F T W C Tl Hd By Ou In Jo) (ht : Tw Γ hp) (hx1 : 4 ≤ x1 ∧ x1 ≤ 4) (hx4 : 0 ≤ x4 ∧ x4 < (gn : Int)) (hou9 : rwP Ou gn (stP gm gdr F T)) (hin9 : rwP In gn (fun i j => stP gm gdr F T j i)) (hrA : rd Γ rA (xI cI gn Nx)) (hrR : Rfx gn 0 65535 Nx) (hrw : rwP Nx gn R) (hkR : x1 = 1 ∨ x1 = 2 → (x1 = 1 ∧ R = joX gm F T (fun _ => True)) ∨ (x1 = 2 ∧ R = joX gm F T (fun k => ¬ brX gm F T (fun _ => True) k))) (haO : rd Γ aa (tO 0 [fE (.int (iv (gn : Int))), fE (.ref aM)])) (haM : rd Γ aM (xJ cJ gn nuc)) : Mt (gG D cI cJ cZ cT lo b L xs) mX5_firstOfItsPart d 0 0 [.ref ga, .int (iv x1), .ref rA, .ref aa, .int (iv x4)] hp n (pI Γ n (fun r => (0 ≤ r ∧ r ≤ 16) ∧ fpP (ptE gm gdr F T nuc x1) (Int.toNat x4) r)) := by
  refine Mt.of rfl (Nat.le_of_ble_eq_true rfl) ?_
  refine Rn.pick (lv' := [(0, .ref ga), (1, .int (iv x1)), (2, .ref rA), (3, .ref aa), (4, .int (iv x4))]) [0, 1, 2, 3, 4] rfl ?_
  obtain ⟨hg_O, hg_from, hg_to, hg_weight, hg_cost, hg_tail, hg_head, hg_by, hg_out, hg_in, hg_joined, hg_b⟩ := id hg
  obtain ⟨⟨hxg_F, hxg_T, hxg_W, hxg_C, hxg_Tl, hxg_Hd, hxg_By, hxg_Ou, hxg_In, hxg_Jo⟩, ⟨hrg_F, hrg_T, hrg_W, hrg_C, hrg_Tl, hrg_Hd, hrg_By, hrg_Ou, hrg_In, hrg_Jo⟩, houg⟩ := id hxg
  have hgb := hg_b
  refine r_aload_n (pc := 0) dX5_firstOfItsPart_0 (i := 0) rfl rfl ?_
  refine t_callVI (pc := 1) (as := []) (st := []) ht hg_O kX5_41 rfl dX5_firstOfItsPart_1 (c_X3_allNodesx (d := d - 1)  (by omega) hg hxg ht  ) rfl (by omega) (Nat.le_of_ble_eq_true rfl) rfl (fun hp2 y1 ht3 by1 => ?_)
  have fy1 : (y1 = ((2 ^ gn : Nat) : Int) - 1) := by1
  have ey1 : y1 = ((2 ^ gn : Nat) : Int) - 1 := fy1
  subst ey1
  have mpa1 : 1 ≤ 2 ^ gn := Nat.one_le_two_pow
  have mqa1 : 2 ^ gn ≤ 2 ^ 16 := Nat.pow_le_pow_right (by omega) (by omega)
  refine r_istore (pc := 4) (lv' := [(5, .int (iv (((2 ^ gn : Nat) : Int) - 1))), (0, .ref ga), (1, .int (iv x1)), (2, .ref rA), (3, .ref aa), (4, .int (iv x4))]) dX5_firstOfItsPart_4 (by decide) rfl ?_
  refine r_iload_n (pc := 6) dX5_firstOfItsPart_6 (i := 1) rfl rfl ?_
  refine t_if_ne (pc := 7) (tgt := 41) dX5_firstOfItsPart_7 (by decide) (by omega) (fun c7 => ?_) (fun c7 => ?_)
  · refine r_iload_n (pc := 41) dX5_firstOfItsPart_41 (i := 1) rfl rfl ?_
    refine r_iconst (pc := 42) (v := iv 1) dX5_firstOfItsPart_42 (by decide) ?_
    refine t_icmp_eq (pc := 43) (tgt := 51) dX5_firstOfItsPart_43 (by decide) (by omega) (by omega) (fun c43 => ?_) (fun c43 => ?_)
    · exfalso
      omega
    · refine r_iload_n (pc := 46) dX5_firstOfItsPart_46 (i := 1) rfl rfl ?_
      refine r_iconst (pc := 47) (v := iv 2) dX5_firstOfItsPart_47 (by decide) ?_
      refine t_icmp_ne (pc := 48) (tgt := 65) dX5_firstOfItsPart_48 (by decide) (by omega) (by omega) (fun c48 => ?_) (fun c48 => ?_)
      · refine r_iconst (pc := 65) (v := iv 0) dX5_firstOfItsPart_65 (by decide) ?_
        refine r_istore (pc := 66) (lv' := [(6, .int (iv 0)), (5, .int (iv (((2 ^ gn : Nat) : Int) - 1))), (0, .ref ga), (1, .int (iv x1)), (2, .ref rA), (3, .ref aa), (4, .int (iv x4))]) dX5_firstOfItsPart_66 (by decide) rfl ?_
        have B68 : ∀ k : Nat, ∀ hp68 : MH, Tw Γ hp68 → ∀  (v68_6 : Int), 0 ≤ v68_6 ∧ v68_6 ≤ 15 ∧ (v68_6 ≤ x4) ∧ (x1 = 4) ∧ (nfP (ptE gm gdr F T nuc 4) (Int.toNat x4) v68_6) → 15 - v68_6 ≤ (k : Int) → Rn (gG D cI cJ cZ cT lo b L xs) mX5_firstOfItsPart d 68 [(0, .ref ga), (3, .ref aa), (4, .int (iv x4)), (6, .int (iv v68_6))] [] hp68 n 0 0 (pI Γ n (fun r => (0 ≤ r ∧ r ≤ 16) ∧ fpP (ptE gm gdr F T nuc x1) (Int.toNat x4) r)) := by
          refine lpS _ ?_
          intro k68 ih68 hp68 ht68 v68_6 hf68 hm68
          obtain ⟨hf68_0, hf68_1, hf68_2, hf68_3, ha68_4⟩ := hf68
          refine r_iload (pc := 68) dX5_firstOfItsPart_68 rfl ?_
          refine r_iload (pc := 70) dX5_firstOfItsPart_70 rfl ?_
          refine t_icmp_ge (pc := 72) (tgt := 113) dX5_firstOfItsPart_72 (by decide) (by omega) (by omega) (fun c72 => ?_) (fun c72 => ?_)
          · refine r_iload (pc := 113) dX5_firstOfItsPart_113 rfl ?_
            exact r_iret (pc := 115) dX5_firstOfItsPart_115 rfl ⟨rfl, ht68, _, rfl, by omega, by rw [show x1 = 4 by omega]; exact ⟨by omega, by omega, pt_rf, fun w hw => (by assumption : nfP (ptE gm gdr F T nuc 4) (Int.toNat x4) v68_6) w (by omega)⟩⟩
          · refine r_aload_n (pc := 75) dX5_firstOfItsPart_75 (i := 3) rfl rfl ?_
            refine r_ifnonnull (pc := 76) (tgt := 93) dX5_firstOfItsPart_76 (by decide) ?_
            refine r_aload_n (pc := 93) dX5_firstOfItsPart_93 (i := 3) rfl rfl ?_
            refine r_iload (pc := 94) dX5_firstOfItsPart_94 rfl ?_
            refine r_iload (pc := 96) dX5_firstOfItsPart_96 rfl ?_
            refine t_callSI (pc := 98) (as := [.ref aa, .int (iv v68_6), .int (iv x4)]) (st := []) kX5_63 dX5_firstOfItsPart_98 (c_X5_sameVx (d := d - 1) (x1 := v68_6) (x2 := x4) (by omega) (by omega) haO haM ht68 (by omega) (by omega)) rfl (by omega) (Nat.le_of_ble_eq_true rfl) rfl (fun hp5 y4 ht6 by4 => ?_)
            have hsv98 := by4
            have hsv : (0 ≤ y4 ∧ y4 ≤ 1) ∧ (y4 = 1 ↔ ptE gm gdr F T nuc 4 (Int.toNat v68_6) (Int.toNat x4)) := ⟨hsv98.1, hsv98.2.trans pt4_iff⟩
            refine t_if_eq (pc := 101) (tgt := 107) dX5_firstOfItsPart_101 (by decide) (by omega) (fun c101 => ?_) (fun c101 => ?_)
            · refine r_iinc (pc := 107) (v := iv (v68_6 + 1)) (lv' := [(6, .int (iv (v68_6 + 1))), (0, .ref ga), (3, .ref aa), (4, .int (iv x4))]) dX5_firstOfItsPart_107 rfl (iv_add _ _) (by decide) rfl ?_
              refine r_goto (pc := 110) (tgt := 68) dX5_firstOfItsPart_110 (by decide) ?_
              refine Rn.pick (lv' := [(0, .ref ga), (3, .ref aa), (4, .int (iv x4)), (6, .int (iv (v68_6 + 1)))]) [1, 2, 3, 0] rfl ?_
              exact ih68 (Int.toNat (15 - (v68_6 + 1))) (by omega) _ ht6 (v68_6 + 1) ⟨by omega, by omega, by omega, by omega, by (first | (intro w hw; exfalso; omega) | exact nfq_up (by assumption) (by omega) (fun h9 => by have h8 := hsv.2.mpr h9; omega))⟩ (by omega)
            · refine r_iload (pc := 104) dX5_firstOfItsPart_104 rfl ?_
              exact r_iret (pc := 106) dX5_firstOfItsPart_106 rfl ⟨rfl, ht6, _, rfl, by omega, by rw [show x1 = 4 by omega]; exact ⟨by omega, by omega, hsv.2.mp (by omega), fun w hw => (by assumption : nfP (ptE gm gdr F T nuc 4) (Int.toNat x4) v68_6) w (by omega)⟩⟩
        refine Rn.pick (lv' := [(0, .ref ga), (3, .ref aa), (4, .int (iv x4)), (6, .int (iv 0))]) [2, 5, 6, 0] rfl ?_
        exact B68 (Int.toNat (15 - 0)) _ ht3 0 ⟨by omega, by omega, by omega, by omega, by (first | (intro w hw; exfalso; omega) | exact nfq_up (by assumption) (by omega) (fun h9 => by have h8 := hsv.2.mpr h9; omega))⟩ (by omega)
      · exfalso
        omega
  · exfalso
    omega
