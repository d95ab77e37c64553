set_option maxHeartbeats 4000000 in
set_option maxRecDepth 100000 in
theorem c_X7_greatestApartx {D : va_G} {cI cJ cZ cT : ClassId} {lo b L : Nat} {xs : Nat → Int32} {hp : MH} {n d : Nat} {Γ : TG} {ga : Nat} {gF : Nat} {gT : Nat} {gW : Nat} {gC : Nat} {gTl : Nat} {gHd : Nat} {gBy : Nat} {gOu : Nat} {gIn : Nat} {gJo : Nat} {gn : Nat} {gm : Nat} {gq : Nat} {gdr : Int} {F T W C Tl Hd By Ou In Jo : Nat → Int} {s : Nat} (hd0 : 19 ≤ d) (hg : TyG Γ cI cJ cZ ga gF gT gW gC gTl gHd gBy gOu gIn gJo gn gm gq gdr) (hxg : XG Γ cI gF gT gW gC gTl gHd gBy gOu gIn gJo gn gm gq F T W C Tl Hd By Ou In Jo) (ht : Tw Γ hp) (hjo : rwP Jo gn (joX gm F T (fun _ => True))) : Mt (gG D cI cJ cZ cT lo b L xs) mX7_greatestApart d 0 0 [.ref s, .ref ga] hp n (pI Γ n (fun r => (0 ≤ r ∧ r ≤ 65535) ∧ clA (joA gm F T) (((2 ^ gn : Nat) : Int) - 1) r)) := by
  refine Mt.of rfl (Nat.le_of_ble_eq_true rfl) ?_
  refine Rn.pick (lv' := [(0, .ref s), (1, .ref ga)]) [0, 1] rfl ?_
  obtain ⟨hg_O, hg_from, hg_to, hg_weight, hg_cost, hg_tail, hg_head, hg_by, hg_out, hg_in, hg_joined, hg_b⟩ := id hg
  obtain ⟨⟨hxg_F, hxg_T, hxg_W, hxg_C, hxg_Tl, hxg_Hd, hxg_By, hxg_Ou, hxg_In, hxg_Jo⟩, ⟨hrg_F, hrg_T, hrg_W, hrg_C, hrg_Tl, hrg_Hd, hrg_By, hrg_Ou, hrg_In, hrg_Jo⟩, houg⟩ := id hxg
  have hgb := hg_b
  refine r_aload_n (pc := 0) dX7_greatestApart_0 (i := 1) rfl rfl ?_
  refine t_getE (pc := 1) (.ref gJo) ht hg_O fX7_41 dX7_greatestApart_1 rfl ?_
  refine r_aload_n (pc := 4) dX7_greatestApart_4 (i := 1) rfl rfl ?_
  refine t_callVI (pc := 5) (as := []) (st := [.ref gJo]) ht hg_O kX7_31 rfl dX7_greatestApart_5 (c_X3_allNodesx (d := d - 1)  (by omega) hg hxg ht  ) rfl (by omega) (Nat.le_of_ble_eq_true rfl) rfl (fun hp2 y1 ht3 by1 => ?_)
  have fy1 : (y1 = ((2 ^ gn : Nat) : Int) - 1) := by1
  have ey5 : y1 = ((2 ^ gn : Nat) : Int) - 1 := fy1
  subst ey5
  have mp5 : 1 ≤ 2 ^ gn := Nat.one_le_two_pow
  have mq5 : 2 ^ gn ≤ 2 ^ 16 := Nat.pow_le_pow_right (by omega) (by omega)
  refine t_callSI (pc := 8) (as := [.ref gJo, .int (iv (((2 ^ gn : Nat) : Int) - 1))]) (st := []) kX7_37 dX7_greatestApart_8 (c_X7_leastOfGreatestx (d := d - 1) (x1 := (((2 ^ gn : Nat) : Int) - 1)) (by omega) hxg_Jo hrg_Jo (by omega) (Nat.le_refl gn) (fun i hi j => hjo.1 i hi j) ht3 (by omega) (fun i j h => joX_sym i j h) (fun i g => (Me_all i).mp g)) rfl (by omega) (Nat.le_of_ble_eq_true rfl) rfl (fun hp5 y4 ht6 by4 => ?_)
  obtain ⟨by41, hcl9⟩ := by4
  exact r_iret (pc := 11) dX7_greatestApart_11 rfl ⟨rfl, ht6, _, rfl, by omega, hcl9⟩
