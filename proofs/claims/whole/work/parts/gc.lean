set_option maxHeartbeats 4000000 in
set_option maxRecDepth 100000 in
theorem c_X7_greatestJoinedx {D : va_G} {cI cJ cZ cT : ClassId} {lo b L : Nat} {xs : Nat → Int32} {hp : MH} {n d : Nat} {Γ : TG} {ga : Nat} {gF : Nat} {gT : Nat} {gW : Nat} {gC : Nat} {gTl : Nat} {gHd : Nat} {gBy : Nat} {gOu : Nat} {gIn : Nat} {gJo : Nat} {gn : Nat} {gm : Nat} {gq : Nat} {gdr : Int} {F T W C Tl Hd By Ou In Jo : Nat → Int} {s : Nat} (hd0 : 19 ≤ d) (hg : TyG Γ cI cJ cZ ga gF gT gW gC gTl gHd gBy gOu gIn gJo gn gm gq gdr) (hxg : XG Γ cI gF gT gW gC gTl gHd gBy gOu gIn gJo gn gm gq F T W C Tl Hd By Ou In Jo) (hne : nE (s + 1) ga ∧ nE (s + 1) gF ∧ nE (s + 1) gT ∧ nE (s + 1) gW ∧ nE (s + 1) gC ∧ nE (s + 1) gTl ∧ nE (s + 1) gHd ∧ nE (s + 1) gBy ∧ nE (s + 1) gOu ∧ nE (s + 1) gIn ∧ nE (s + 1) gJo) (hs : TySets Γ cI cJ cZ s) (ht : Tw Γ hp) (hjo : rwP Jo gn (joX gm F T (fun _ => True))) : Mt (gG D cI cJ cZ cT lo b L xs) mX7_greatestJoined d 0 0 [.ref s, .ref ga] hp n (pI Γ n (fun r => (0 ≤ r ∧ r ≤ 65535) ∧ clA (fun i j => ¬ joA gm F T i j) (((2 ^ gn : Nat) : Int) - 1) r)) := by
  refine Mt.of rfl (Nat.le_of_ble_eq_true rfl) ?_
  refine Rn.pick (lv' := [(0, .ref s), (1, .ref ga)]) [0, 1] rfl ?_
  obtain ⟨hg_O, hg_from, hg_to, hg_weight, hg_cost, hg_tail, hg_head, hg_by, hg_out, hg_in, hg_joined, hg_b⟩ := id hg
  obtain ⟨⟨hxg_F, hxg_T, hxg_W, hxg_C, hxg_Tl, hxg_Hd, hxg_By, hxg_Ou, hxg_In, hxg_Jo⟩, ⟨hrg_F, hrg_T, hrg_W, hrg_C, hrg_Tl, hrg_Hd, hrg_By, hrg_Ou, hrg_In, hrg_Jo⟩, houg⟩ := id hxg
  obtain ⟨hq_ga, hq_gF, hq_gT, hq_gW, hq_gC, hq_gTl, hq_gHd, hq_gBy, hq_gOu, hq_gIn, hq_gJo⟩ := id hne
  have hgb := hg_b
  have t8 := Tw.ovr ht hs.2.1
  obtain ⟨Sf, hSf, t9⟩ := t8.unI
  have hR9 : Rfx 16 0 65535 Sf := fun i hi => (hSf i hi).1
  refine r_aload_n (pc := 0) dX7_greatestJoined_0 (i := 0) rfl rfl ?_
  refine r_aload_n (pc := 1) dX7_greatestJoined_1 (i := 1) rfl rfl ?_
  obtain ⟨fs9, hfs9⟩ := t_obj t9 (rd_ov (by omega) (rd_of hs.1))
  refine r_callV (pc := 2) (as := [.ref ga]) (st := []) kX7_27 rfl dX7_greatestJoined_2 hfs9 (c_X7_fillStrangersx (d := d - 1) (by omega) hg hxg hne (rd_of hs.1) hR9 t9) rfl (by omega) (Nat.le_of_ble_eq_true rfl) (Nat.zero_le _) (Nat.zero_le _) rfl (fun r9 hp9 n9 q9 => ?_)
  obtain ⟨hn9, hr9, f2, t2, hR2, hsn⟩ := q9
  subst n9 r9
  change Rn _ _ _ 5 _ [] _ _ _ _ _
  refine r_aload_n (pc := 5) dX7_greatestJoined_5 (i := 0) rfl rfl ?_
  refine t_getE (pc := 6) (.ref (s + 1)) t2 (rd_ov (by omega) (rd_of hs.1)) fX7_9 dX7_greatestJoined_6 rfl ?_
  refine r_aload_n (pc := 9) dX7_greatestJoined_9 (i := 1) rfl rfl ?_
  refine t_callVI (pc := 10) (as := []) (st := [.ref (s + 1)]) t2 (rd_ov (Ne.symm hq_ga) hg_O) kX7_31 rfl dX7_greatestJoined_10 (c_X3_allNodesx (d := d - 1)  (by omega) (TyG.ovx ⟨hq_ga, hq_gF, hq_gT, hq_gW, hq_gC, hq_gTl, hq_gHd, hq_gBy, hq_gOu, hq_gIn, hq_gJo⟩ hg) (XG.ovx ⟨hq_gF, hq_gT, hq_gW, hq_gC, hq_gTl, hq_gHd, hq_gBy, hq_gOu, hq_gIn, hq_gJo⟩ hxg) t2  ) rfl (by omega) (Nat.le_of_ble_eq_true rfl) rfl (fun hp2 y1 ht3 by1 => ?_)
  have fy1 : (y1 = ((2 ^ gn : Nat) : Int) - 1) := by1
  have ey10 : y1 = ((2 ^ gn : Nat) : Int) - 1 := fy1
  subst ey10
  have mp5 : 1 ≤ 2 ^ gn := Nat.one_le_two_pow
  have mq5 : 2 ^ gn ≤ 2 ^ 16 := Nat.pow_le_pow_right (by omega) (by omega)
  refine t_callSI (pc := 13) (as := [.ref (s + 1), .int (iv (((2 ^ gn : Nat) : Int) - 1))]) (st := []) kX7_37 dX7_greatestJoined_13 (c_X7_leastOfGreatestx (d := d - 1) (x1 := (((2 ^ gn : Nat) : Int) - 1)) (by omega) (rd_of (ov_s _ _ _)) hR2 (by omega) (show gn ≤ 16 by omega) (sn_nj hsn (fun i hi j => hjo.1 i hi j)) ht3 (by omega) (fun i j h => nj_sym i j h) (fun i g => (Me_all i).mp g)) rfl (by omega) (Nat.le_of_ble_eq_true rfl) rfl (fun hp5 y4 ht6 by4 => ?_)
  obtain ⟨by41, hcl9⟩ := by4
  exact r_iret (pc := 16) dX7_greatestJoined_16 rfl ⟨rfl, Tw.weak ht6 hs.2.1 (xI_rg hR2), _, rfl, by omega, cl_nj hcl9⟩
