set_option maxHeartbeats 4000000 in
set_option maxRecDepth 100000 in
theorem c_X8_ringx {D : va_G} {cI cJ cZ cT : ClassId} {lo b L : Nat} {xs : Nat → Int32} {hp : MH} {n d : Nat} {Γ : TG} {ga : Nat} {gF : Nat} {gT : Nat} {gW : Nat} {gC : Nat} {gTl : Nat} {gHd : Nat} {gBy : Nat} {gOu : Nat} {gIn : Nat} {gJo : Nat} {gn : Nat} {gm : Nat} {gq : Nat} {gdr : Int} {F T W C Tl Hd By Ou In Jo : Nat → Int} (hd0 : 4 ≤ d) (hg : TyG Γ cI cJ cZ ga gF gT gW gC gTl gHd gBy gOu gIn gJo gn gm gq gdr) (hxg : XG Γ cI gF gT gW gC gTl gHd gBy gOu gIn gJo gn gm gq F T W C Tl Hd By Ou In Jo) (ht : Tw Γ hp) (hou9 : rwP Ou gn (stP gm gdr F T)) (hjo : rwP Jo gn (joX gm F T (fun _ => True))) : Mt (gG D cI cJ cZ cT lo b L xs) mX8_ring d 1 gn [.ref ga] hp n (fun r hp1 n1 => (n1 = n ∨ n1 = n + 1) ∧ Tw Γ hp1 ∧ ∃ v : Int, r = some (.int (iv v)) ∧ (0 ≤ v ∧ v ≤ 17) ∧ rgA gm gdr F T v) := by
  refine Mt.of rfl (Nat.le_of_ble_eq_true rfl) ?_
  refine Rn.pick (lv' := [(0, .ref ga)]) [0] rfl ?_
  obtain ⟨hg_O, hg_from, hg_to, hg_weight, hg_cost, hg_tail, hg_head, hg_by, hg_out, hg_in, hg_joined, hg_b⟩ := id hg
  obtain ⟨⟨hxg_F, hxg_T, hxg_W, hxg_C, hxg_Tl, hxg_Hd, hxg_By, hxg_Ou, hxg_In, hxg_Jo⟩, ⟨hrg_F, hrg_T, hrg_W, hrg_C, hrg_Tl, hrg_Hd, hrg_By, hrg_Ou, hrg_In, hrg_Jo⟩, houg⟩ := id hxg
  have hgb := hg_b
  have hFT : ∀ k, k < gm → (0 ≤ F k ∧ F k < (gn : Int)) ∧ (0 ≤ T k ∧ T k < (gn : Int)) := fun k hk => by have h1 := hrg_F k hk; have h2 := hrg_T k hk; omega
  refine r_aload_n (pc := 0) dX8_ring_0 (i := 0) rfl rfl ?_
  refine t_getE (pc := 1) (.int (iv gdr)) ht hg_O fX8_25 dX8_ring_1 rfl ?_
  refine t_if_eq (pc := 4) (tgt := 14) dX8_ring_4 (by decide) (by omega) (fun c4 => ?_) (fun c4 => ?_)
  · refine r_aload_n (pc := 14) dX8_ring_14 (i := 0) rfl rfl ?_
    refine r_callS (pc := 15) (as := [.ref ga]) (st := []) kX8_50 dX8_ring_15 (c_X8_undirectedRingx (d := d - 1) (by omega) hg hxg ht (by omega) hjo) rfl (by omega) (Nat.le_of_ble_eq_true rfl) (by omega) (by omega) rfl (fun r1 hp2 n3 q4 => ?_)
    obtain ⟨hnn3, ht5, y6, hrr1, by61, hrg⟩ := q4
    subst n3 r1
    change Rn _ _ _ 18 _ [.int (iv y6)] _ _ _ _ _
    exact r_iret (pc := 18) dX8_ring_18 rfl ⟨Or.inr rfl, ht5, _, rfl, by omega, hrg⟩
  · refine r_aload_n (pc := 7) dX8_ring_7 (i := 0) rfl rfl ?_
    refine t_callSI (pc := 8) (as := [.ref ga]) (st := []) kX8_46 dX8_ring_8 (c_X8_directedRingx (d := d - 1) (by omega) hg hxg ht hou9) rfl (by omega) (Nat.le_of_ble_eq_true rfl) rfl (fun hp8 y7 ht9 by7 => ?_)
    obtain ⟨by71, hls9⟩ := by7
    have hrg : rgA gm gdr F T y7 := rg_v (by omega) hFT hls9
    refine r_goto (pc := 11) (tgt := 18) dX8_ring_11 (by decide) ?_
    exact r_iret (pc := 18) dX8_ring_18 rfl ⟨Or.inl rfl, ht9, _, rfl, by omega, hrg⟩
