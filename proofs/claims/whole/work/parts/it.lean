/-- the pairs behind v nodes -/
def grI (R : Nat → Nat → Prop) (n : Nat) (mt : Nat → Int) (f v : Int) : Prop := vmP R (fun j => j < n ∧ ¬ Me 0 j) mt ∧ (0 ≤ f ∧ cvN (fun j => j < n ∧ ¬ Me 0 j) n mt = 2 * f.toNat) ∧ ∀ x : Nat, (x : Int) < v → x < n → mt x < 0 → ¬ ∃ N : Nat → Int, vmP R (fun j => j < n ∧ ¬ Me 0 j) N ∧ 0 ≤ N x ∧ ∀ z, (z < n ∧ ¬ Me 0 z) → 0 ≤ mt z → 0 ≤ N z
theorem grz_0 {R : Nat → Nat → Prop} {n : Nat} {mt : Nat → Int} (h : ∀ x, mt x < 0) : grI R n mt 0 0 := ⟨fun a _ => Or.inl (h a), ⟨Int.le_refl 0, cnP_none (fun i _ g => by have := h i; have h2 := g.2; omega)⟩, fun x hx => by omega⟩
theorem grz_sk {R : Nat → Nat → Prop} {n : Nat} {mt : Nat → Int} {f v : Int} (h : grI R n mt f v) (hv : 0 ≤ v) (hm : 0 ≤ mt v.toNat ∨ ¬ ∃ N : Nat → Int, vmP R (fun j => j < n ∧ ¬ Me 0 j) N ∧ 0 ≤ N v.toNat ∧ ∀ z, (z < n ∧ ¬ Me 0 z) → 0 ≤ mt z → 0 ≤ N z) : grI R n mt f (v + 1) := ⟨h.1, h.2.1, fun x hx hxn hmx => by
  by_cases c : (x : Int) < v
  · exact h.2.2 x c hxn hmx
  · have e : x = v.toNat := by omega
    rw [e] at hmx ⊢
    exact hm.resolve_left (by omega)⟩
theorem grz_up {R : Nat → Nat → Prop} {n : Nat} {mt N1 : Nat → Int} {f v : Int} {w : Nat} (h : grI R n mt f v) (hv : 0 ≤ v ∧ v < (n : Int)) (hM : vmP R (fun j => j < n ∧ ¬ Me 0 j) N1) (hc : ∀ y, 0 ≤ N1 y ↔ (0 ≤ mt y ∨ y = w ∨ y = v.toNat)) (h2 : cvN (fun j => j < n ∧ ¬ Me 0 j) n N1 = cvN (fun j => j < n ∧ ¬ Me 0 j) n mt + 2) : grI R n N1 (f + 1) (v + 1) := by
  refine ⟨hM, ⟨by have := h.2.1.1; omega, by rw [h2, h.2.1.2]; have := h.2.1.1; omega⟩, fun x hx hxn hmx => ?_⟩
  have hn : ¬ 0 ≤ N1 x := by omega
  rw [hc x] at hn
  have e : x ≠ v.toNat := fun q => hn (Or.inr (Or.inr q))
  have hm : mt x < 0 := Classical.byContradiction (fun q => hn (Or.inl (by omega)))
  intro ⟨N, n1, n2, n3⟩
  exact h.2.2 x (by omega) hxn hm ⟨N, n1, n2, fun z hz hmz => n3 z hz ((hc z).mpr (Or.inl hmz))⟩
theorem vm_0 {R : Nat → Nat → Prop} {n : Nat} {mt : Nat → Int} (h : vmP R (fun j => j < n ∧ ¬ Me 0 j) mt) : vmP R (fun j => j < n) mt := fun a ha => by
  rcases h a ⟨ha, Me_0 a⟩ with g | ⟨b, b1, b2, b3, b4, b5⟩
  · exact Or.inl g
  · exact Or.inr ⟨b, b1, b2.1, b3, b4, b5⟩
/-- what greatest leaves -/
def gtP (R : Nat → Nat → Prop) (n : Nat) (mt : Nat → Int) (k : Int) : Prop := vmP R (fun j => j < n) mt ∧ (0 ≤ k ∧ cvN (fun j => j < n) n mt = 2 * k.toNat) ∧ maA R (fun j => j < n) k
theorem grz_e {R : Nat → Nat → Prop} (hsy : ∀ i j, R i j → R j i) {n : Nat} {mt : Nat → Int} {f v : Int} (h : grI R n mt f v) (hv : (n : Int) ≤ v) : gtP R n mt f := by
  have hk : cvN (fun j => j < n) n mt = 2 * f.toNat := by
    rw [← h.2.1.2]
    exact cnP_eq (fun i _ => ⟨fun g => ⟨⟨g.1, Me_0 i⟩, g.2⟩, fun g => ⟨g.1.1, g.2⟩⟩)
  have hm := ma_of hsy (n := n) (S := fun j => j < n) (fun a ha => ha) (vm_0 h.1) (k := f.toNat) hk (fun x hx hmx ⟨N, n1, n2, n3⟩ => h.2.2 x (by omega) hx hmx ⟨N, fun a ha => by
    rcases n1 a ha.1 with g | ⟨b, b1, b2, b3, b4, b5⟩
    · exact Or.inl g
    · exact Or.inr ⟨b, b1, ⟨b2, Me_0 b⟩, b3, b4, b5⟩, n2, fun z hz hmz => n3 z hz.1 hmz⟩)
  rw [show ((f.toNat : Nat) : Int) = f by have := h.2.1.1; omega] at hm
  exact ⟨vm_0 h.1, ⟨h.2.1.1, hk⟩, hm⟩
set_option maxHeartbeats 4000000 in
set_option maxRecDepth 100000 in
theorem c_X4_greatestx {D : va_G} {cI cJ cZ cT : ClassId} {lo b L : Nat} {xs : Nat → Int32} {hp : MH} {n d : Nat} {Γ : TG} {ga : Nat} {gF : Nat} {gT : Nat} {gW : Nat} {gC : Nat} {gTl : Nat} {gHd : Nat} {gBy : Nat} {gOu : Nat} {gIn : Nat} {gJo : Nat} {gn : Nat} {gm : Nat} {gq : Nat} {gdr : Int} {F T W C Tl Hd By Ou In Jo : Nat → Int} {s : Nat} {Wt qd : Int} {mt pa ba Q : Nat → Int} (hd0 : 3 ≤ d) (hg : TyG Γ cI cJ cZ ga gF gT gW gC gTl gHd gBy gOu gIn gJo gn gm gq gdr) (hxg : XG Γ cI gF gT gW gC gTl gHd gBy gOu gIn gJo gn gm gq F T W C Tl Hd By Ou In Jo) (hsp : s + 5 ≤ ga ∧ s + 5 ≤ gF ∧ s + 5 ≤ gT ∧ s + 5 ≤ gW ∧ s + 5 ≤ gC ∧ s + 5 ≤ gTl ∧ s + 5 ≤ gHd ∧ s + 5 ≤ gBy ∧ s + 5 ≤ gOu ∧ s + 5 ≤ gIn ∧ s + 5 ≤ gJo) (hm0 : Rfx 16 (-1) 15 mt) (hp0 : Rfx 16 (-1) 15 pa) (hb0 : Rfx 16 0 15 ba) (hQ0 : Rfx 16 0 15 Q) (hW0 : 0 ≤ Wt ∧ Wt ≤ 16) (hqd0 : 0 ≤ qd ∧ qd ≤ 65535) (ht : Tw (PrS Γ cI s Wt qd mt pa ba Q) hp) (hjo : rwP Jo gn (joX gm F T (fun _ => True))) : Mt (gG D cI cJ cZ cT lo b L xs) mX4_greatest d 0 0 [.ref s, .ref ga] hp n (fun r9 hp1 n1 => n1 = n ∧ ∃ (W1 qd1 : Int) (mt1 pa1 ba1 Q1 : Nat → Int) (r : Int), Tw (PrS Γ cI s W1 qd1 mt1 pa1 ba1 Q1) hp1 ∧ Rfx 16 (-1) 15 mt1 ∧ Rfx 16 (-1) 15 pa1 ∧ Rfx 16 0 15 ba1 ∧ Rfx 16 0 15 Q1 ∧ (0 ≤ W1 ∧ W1 ≤ 16) ∧ (0 ≤ qd1 ∧ qd1 ≤ 65535) ∧ r9 = some (.int (iv r)) ∧ (0 ≤ r ∧ r ≤ (gn : Int)) ∧ gtP (joA gm F T) gn mt1 r) := by
  refine Mt.of rfl (Nat.le_of_ble_eq_true rfl) ?_
  refine Rn.pick (lv' := [(0, .ref s), (1, .ref ga)]) [0, 1] rfl ?_
  have t0 : Tw (ov (ov (ov (ov (ov Γ s (tO 4 (prG9 s Wt qd))) (s + 1) (xI cI 16 mt)) (s + 2) (xI cI 16 pa)) (s + 3) (xI cI 16 ba)) (s + 4) (xI cI 16 Q)) hp := ht
  obtain ⟨hg_O, hg_from, hg_to, hg_weight, hg_cost, hg_tail, hg_head, hg_by, hg_out, hg_in, hg_joined, hg_b⟩ := id hg
  obtain ⟨⟨hxg_F, hxg_T, hxg_W, hxg_C, hxg_Tl, hxg_Hd, hxg_By, hxg_Ou, hxg_In, hxg_Jo⟩, ⟨hrg_F, hrg_T, hrg_W, hrg_C, hrg_Tl, hrg_Hd, hrg_By, hrg_Ou, hrg_In, hrg_Jo⟩, houg⟩ := id hxg
  have hgb := hg_b
  refine r_aload_n (pc := 0) dX4_greatest_0 (i := 0) rfl rfl ?_
  refine t_getE (pc := 1) (.ref (s + 1)) t0 (rd_ov (by omega) (rd_ov (by omega) (rd_ov (by omega) (rd_ov (by omega) (rd_of (ov_s _ _ _)))))) fX4_9 dX4_greatest_1 rfl ?_
  refine r_iconst (pc := 4) (v := iv (-1)) dX4_greatest_4 (by decide) ?_
  refine t_fillX (pc := 5) t0 (eq_ov (by omega) (eq_ov (by omega) (eq_ov (by omega) (ov_s _ _ _)))) kX4_24 dX4_greatest_5 (by omega) (by omega) (by omega) (Nat.le_of_ble_eq_true rfl) (fun hp1 ht2 => ?_)
  rw [ov_in4 (by omega) (by omega) (by omega)] at ht2
  have hmF5 : Rfx 16 (-1) 15 (fun _ => (-1)) := fun _ _ => ⟨Int.le_refl _, show (-1 : Int) ≤ 15 by decide⟩
  refine r_iconst (pc := 8) (v := iv 0) dX4_greatest_8 (by decide) ?_
  refine r_istore_n (pc := 9) (lv' := [(2, .int (iv 0)), (0, .ref s), (1, .ref ga)]) dX4_greatest_9 (i := 2) rfl (by decide) rfl ?_
  refine r_iconst (pc := 10) (v := iv 0) dX4_greatest_10 (by decide) ?_
  refine r_istore_n (pc := 11) (lv' := [(3, .int (iv 0)), (2, .int (iv 0)), (0, .ref s), (1, .ref ga)]) dX4_greatest_11 (i := 3) rfl (by decide) rfl ?_
  have B12 : ∀ k : Nat, ∀ W12 : Int, ∀ qd12 : Int, ∀ mt12 : Nat → Int, ∀ pa12 : Nat → Int, ∀ ba12 : Nat → Int, ∀ Q12 : Nat → Int, ∀ hp12 : MH, Tw (ov (ov (ov (ov (ov Γ s (tO 4 (prG9 s W12 qd12))) (s + 1) (xI cI 16 mt12)) (s + 2) (xI cI 16 pa12)) (s + 3) (xI cI 16 ba12)) (s + 4) (xI cI 16 Q12)) hp12 → ∀  (v12_2 : Int) (v12_3 : Int), 0 ≤ v12_2 ∧ v12_2 ≤ 16 ∧ 0 ≤ v12_3 ∧ v12_3 ≤ 16 ∧ (v12_3 ≤ (gn : Int)) ∧ (v12_2 ≤ v12_3) ∧ (0 ≤ W12 ∧ W12 ≤ 16) ∧ (0 ≤ qd12 ∧ qd12 ≤ 65535) ∧ (Rfx 16 (-1) 15 mt12) ∧ (Rfx 16 (-1) 15 pa12) ∧ (Rfx 16 0 15 ba12) ∧ (Rfx 16 0 15 Q12) ∧ (grI (joA gm F T) gn mt12 v12_2 v12_3) → 16 - v12_3 ≤ (k : Int) → Rn (gG D cI cJ cZ cT lo b L xs) mX4_greatest d 12 [(0, .ref s), (1, .ref ga), (2, .int (iv v12_2)), (3, .int (iv v12_3))] [] hp12 n 0 0 (fun r9 hp1 n1 => n1 = n ∧ ∃ (W1 qd1 : Int) (mt1 pa1 ba1 Q1 : Nat → Int) (r : Int), Tw (PrS Γ cI s W1 qd1 mt1 pa1 ba1 Q1) hp1 ∧ Rfx 16 (-1) 15 mt1 ∧ Rfx 16 (-1) 15 pa1 ∧ Rfx 16 0 15 ba1 ∧ Rfx 16 0 15 Q1 ∧ (0 ≤ W1 ∧ W1 ≤ 16) ∧ (0 ≤ qd1 ∧ qd1 ≤ 65535) ∧ r9 = some (.int (iv r)) ∧ (0 ≤ r ∧ r ≤ (gn : Int)) ∧ gtP (joA gm F T) gn mt1 r) := by
    refine lpS _ ?_
    intro k12 ih12 W12 qd12 mt12 pa12 ba12 Q12 hp12 ht12 v12_2 v12_3 hf12 hm12
    obtain ⟨hf12_0, hf12_1, hf12_2, hf12_3, hf12_4, hf12_5, hf12_6, hf12_7, ha12_8, ha12_9, ha12_10, ha12_11, ha12_12⟩ := hf12
    refine r_iload_n (pc := 12) dX4_greatest_12 (i := 3) rfl rfl ?_
    refine r_aload_n (pc := 13) dX4_greatest_13 (i := 1) rfl rfl ?_
    refine t_getE (pc := 14) (.int (iv (gn : Int))) ht12 (rd_ov (by omega) (rd_ov (by omega) (rd_ov (by omega) (rd_ov (by omega) (rd_ov (by omega) hg_O))))) fX4_30 dX4_greatest_14 rfl ?_
    refine t_icmp_ge (pc := 17) (tgt := 61) dX4_greatest_17 (by decide) (by omega) (by omega) (fun c17 => ?_) (fun c17 => ?_)
    · have hend := grz_e (fun i j h => joX_sym i j h) (by assumption : grI (joA gm F T) gn mt12 v12_2 v12_3) (by omega)
      refine r_iload_n (pc := 61) dX4_greatest_61 (i := 2) rfl rfl ?_
      exact r_iret (pc := 62) dX4_greatest_62 rfl ⟨rfl, W12, qd12, mt12, pa12, ba12, Q12, _, ht12, by assumption, by assumption, by assumption, by assumption, by omega, by omega, rfl, by omega, hend⟩
    · refine r_aload_n (pc := 20) dX4_greatest_20 (i := 0) rfl rfl ?_
      refine t_getE (pc := 21) (.ref (s + 1)) ht12 (rd_ov (by omega) (rd_ov (by omega) (rd_ov (by omega) (rd_ov (by omega) (rd_of (ov_s _ _ _)))))) fX4_9 dX4_greatest_21 rfl ?_
      refine r_iload_n (pc := 24) dX4_greatest_24 (i := 3) rfl rfl ?_
      refine t_ialdX (pc := 25) (t0 := 0) ht12 (rd_ov (by omega) (rd_ov (by omega) (rd_ov (by omega) (rd_of (ov_s _ _ _))))) dX4_greatest_25 rfl (by decide) (by omega) (fun b3 => ?_)
      have rb3 := (show Rfx 16 (-1) 15 mt12 by assumption) (Int.toNat v12_3) (by omega)
      refine t_if_ge (pc := 26) (tgt := 55) dX4_greatest_26 (by decide) (by omega) (fun c26 => ?_) (fun c26 => ?_)
      · have hgr : grI (joA gm F T) gn mt12 v12_2 (v12_3 + 1) := grz_sk (by assumption : grI (joA gm F T) gn mt12 v12_2 v12_3) (by omega) (Or.inl (by omega))
        refine r_iinc (pc := 55) (v := iv (v12_3 + 1)) (lv' := [(3, .int (iv (v12_3 + 1))), (0, .ref s), (1, .ref ga), (2, .int (iv v12_2))]) dX4_greatest_55 rfl (iv_add _ _) (by decide) rfl ?_
        refine r_goto (pc := 58) (tgt := 12) dX4_greatest_58 (by decide) ?_
        refine Rn.pick (lv' := [(0, .ref s), (1, .ref ga), (2, .int (iv v12_2)), (3, .int (iv (v12_3 + 1)))]) [1, 2, 3, 0] rfl ?_
        exact ih12 (Int.toNat (16 - (v12_3 + 1))) (by omega) W12 qd12 mt12 pa12 ba12 Q12 _ ht12 v12_2 (v12_3 + 1) ⟨by omega, by omega, by omega, by omega, by omega, by omega, by omega, by omega, by (first | exact hm49 | assumption | exact hmF5), by (first | exact hp369 | assumption | exact hp0), by (first | exact hb36 | assumption | exact hb0), by (first | exact hQ36 | assumption | exact hQ0), by (first | exact hgr | exact grz_0 (fun _ => by decide))⟩ (by omega)
      · refine r_aload_n (pc := 29) dX4_greatest_29 (i := 0) rfl rfl ?_
        refine r_aload_n (pc := 30) dX4_greatest_30 (i := 1) rfl rfl ?_
        refine t_getE (pc := 31) (.ref gJo) ht12 (rd_ov (by omega) (rd_ov (by omega) (rd_ov (by omega) (rd_ov (by omega) (rd_ov (by omega) hg_O))))) fX4_36 dX4_greatest_31 rfl ?_
        refine r_iload_n (pc := 34) dX4_greatest_34 (i := 3) rfl rfl ?_
        refine r_iconst (pc := 35) (v := iv 0) dX4_greatest_35 (by decide) ?_
        have hg0 := (by assumption : grI (joA gm F T) gn mt12 v12_2 v12_3)
        obtain ⟨fs9, hfs9⟩ := t_obj ht12 (rd_ov (by omega) (rd_ov (by omega) (rd_ov (by omega) (rd_ov (by omega) (rd_of (ov_s _ _ _))))))
        refine r_callV (pc := 36) (as := [.ref gJo, .int (iv v12_3), .int (iv 0)]) (st := []) kX4_39 rfl dX4_greatest_36 hfs9 (c_X4_searchx (d := d - 1) (rA := gJo) (rL := gn) (Nx := Jo) (R := (joA gm F T)) (x2 := v12_3) (x3 := 0) (by omega) hxg_Jo hrg_Jo (by omega) (fun i hi j => hjo.1 i hi j) (by omega) (fun i j h => joX_sym i j h) (by assumption : Rfx 16 (-1) 15 mt12) (by assumption : Rfx 16 (-1) 15 pa12) (by assumption : Rfx 16 0 15 ba12) (by assumption : Rfx 16 0 15 Q12) (by omega) (by omega) ht12 (by omega) (by omega) hg0.1 ⟨by omega, Me_0 _⟩ (by omega)) rfl (by omega) (Nat.le_of_ble_eq_true rfl) (Nat.zero_le _) (Nat.zero_le _) rfl (fun r4 hp5 n6 q7 => ?_)
        obtain ⟨hnn6, W36, qd36, pa36, ba36, Q36, r36, ht8, hp369, hb36, hQ36, bW36, bq36, hrr4, br36, hsn36, hsy36⟩ := q7
        subst n6 r4
        change Rn _ _ _ 39 _ [.int (iv r36)] _ _ _ _ _
        refine r_istore (pc := 39) (lv' := [(4, .int (iv r36)), (0, .ref s), (1, .ref ga), (2, .int (iv v12_2)), (3, .int (iv v12_3))]) dX4_greatest_39 (by decide) rfl ?_
        refine r_iload (pc := 41) dX4_greatest_41 rfl ?_
        refine t_if_lt (pc := 43) (tgt := 55) dX4_greatest_43 (by decide) (by omega) (fun c43 => ?_) (fun c43 => ?_)
        · have hgr : grI (joA gm F T) gn mt12 v12_2 (v12_3 + 1) := grz_sk hg0 (by omega) (Or.inr (hsn36 (by omega)))
          refine r_iinc (pc := 55) (v := iv (v12_3 + 1)) (lv' := [(3, .int (iv (v12_3 + 1))), (4, .int (iv r36)), (0, .ref s), (1, .ref ga), (2, .int (iv v12_2))]) dX4_greatest_55 rfl (iv_add _ _) (by decide) rfl ?_
          refine r_goto (pc := 58) (tgt := 12) dX4_greatest_58 (by decide) ?_
          refine Rn.pick (lv' := [(0, .ref s), (1, .ref ga), (2, .int (iv v12_2)), (3, .int (iv (v12_3 + 1)))]) [2, 3, 4, 0] rfl ?_
          exact ih12 (Int.toNat (16 - (v12_3 + 1))) (by omega) W36 qd36 mt12 pa36 ba36 Q36 _ ht8 v12_2 (v12_3 + 1) ⟨by omega, by omega, by omega, by omega, by omega, by omega, by omega, by omega, by (first | exact hm49 | assumption | exact hmF5), by (first | exact hp369 | assumption | exact hp0), by (first | exact hb36 | assumption | exact hb0), by (first | exact hQ36 | assumption | exact hQ0), by (first | exact hgr | exact grz_0 (fun _ => by decide))⟩ (by omega)
        · obtain ⟨po, ev9, v9, k9, e1, e2, e3, e4, e5, e6, e7, e8, e9⟩ := hsy36 (by omega)
          refine r_aload_n (pc := 46) dX4_greatest_46 (i := 0) rfl rfl ?_
          refine r_iload (pc := 47) dX4_greatest_47 rfl ?_
          obtain ⟨fs15, hfs15⟩ := t_obj ht8 (rd_ov (by omega) (rd_ov (by omega) (rd_ov (by omega) (rd_ov (by omega) (rd_of (ov_s _ _ _))))))
          refine r_callV (pc := 49) (as := [.int (iv r36)]) (st := []) kX4_43 rfl dX4_greatest_49 hfs15 (c_X4_flipx (d := d - 1) (x1 := r36) (nn := gn) (by omega) (by assumption : Rfx 16 (-1) 15 mt12) hp369 hb36 hQ36 bW36 bq36 ht8 (by omega) hg0.1 (fun a h9 => h9.1) (by omega) e1 e2 e3 e4 e5 e7) rfl (by omega) (Nat.le_of_ble_eq_true rfl) (Nat.zero_le _) (Nat.zero_le _) rfl (fun r10 hp11 n12 q13 => ?_)
          obtain ⟨hnn12, hrr10, mt49, ht14, hm49, hfl49⟩ := q13
          subst n12 r10
          change Rn _ _ _ 52 _ [] _ _ _ _ _
          obtain ⟨hvm, hcv⟩ := fl_vm (fun i j h => joX_sym i j h) hg0.1 e2 e7 e3 e4 e5 e6 hfl49
          have hc2 := fl_cv (S := fun j => j < gn ∧ ¬ Me 0 j) (n := gn) (fun a h9 => h9.1) e8 e7 e3 e4 e9 hcv
          have hgr : grI (joA gm F T) gn mt49 (v12_2 + 1) (v12_3 + 1) := grz_up hg0 (by omega) hvm hcv hc2
          refine r_iinc (pc := 52) (v := iv (v12_2 + 1)) (lv' := [(2, .int (iv (v12_2 + 1))), (4, .int (iv r36)), (0, .ref s), (1, .ref ga), (3, .int (iv v12_3))]) dX4_greatest_52 rfl (iv_add _ _) (by decide) rfl ?_
          refine r_iinc (pc := 55) (v := iv (v12_3 + 1)) (lv' := [(3, .int (iv (v12_3 + 1))), (2, .int (iv (v12_2 + 1))), (4, .int (iv r36)), (0, .ref s), (1, .ref ga)]) dX4_greatest_55 rfl (iv_add _ _) (by decide) rfl ?_
          refine r_goto (pc := 58) (tgt := 12) dX4_greatest_58 (by decide) ?_
          refine Rn.pick (lv' := [(0, .ref s), (1, .ref ga), (2, .int (iv (v12_2 + 1))), (3, .int (iv (v12_3 + 1)))]) [3, 4, 1, 0] rfl ?_
          exact ih12 (Int.toNat (16 - (v12_3 + 1))) (by omega) W36 qd36 mt49 pa36 ba36 Q36 _ ht14 (v12_2 + 1) (v12_3 + 1) ⟨by omega, by omega, by omega, by omega, by omega, by omega, by omega, by omega, by (first | exact hm49 | assumption | exact hmF5), by (first | exact hp369 | assumption | exact hp0), by (first | exact hb36 | assumption | exact hb0), by (first | exact hQ36 | assumption | exact hQ0), by (first | exact hgr | exact grz_0 (fun _ => by decide))⟩ (by omega)
  refine Rn.pick (lv' := [(0, .ref s), (1, .ref ga), (2, .int (iv 0)), (3, .int (iv 0))]) [2, 3, 1, 0] rfl ?_
  exact B12 (Int.toNat (16 - 0)) Wt qd (fun _ => (-1)) pa ba Q _ ht2 0 0 ⟨by omega, by omega, by omega, by omega, by omega, by omega, by omega, by omega, by (first | exact hm49 | assumption | exact hmF5), by (first | exact hp369 | assumption | exact hp0), by (first | exact hb36 | assumption | exact hb0), by (first | exact hQ36 | assumption | exact hQ0), by (first | exact hgr | exact grz_0 (fun _ => by decide))⟩ (by omega)
