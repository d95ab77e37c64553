set_option maxHeartbeats 4000000 in
set_option maxRecDepth 100000 in
theorem c_X6_sameArcx {D : va_G} {cI cJ cZ cT : ClassId} {lo b L : Nat} {xs : Nat → Int32} {hp : MH} {n d : Nat} {Γ : TG} {ga : Nat} {gF : Nat} {gT : Nat} {gW : Nat} {gC : Nat} {gTl : Nat} {gHd : Nat} {gBy : Nat} {gOu : Nat} {gIn : Nat} {gJo : Nat} {gn : Nat} {gm : Nat} {gq : Nat} {gdr : Int} {F T W C Tl Hd By Ou In Jo : Nat → Int} {ka : Nat} {kF : Nat} {kT : Nat} {kW : Nat} {kC : Nat} {kTl : Nat} {kHd : Nat} {kBy : Nat} {kOu : Nat} {kIn : Nat} {kJo : Nat} {kn : Nat} {km : Nat} {kq : Nat} {kdr : Int} {F2 T2 W2 C2 Tl2 Hd2 By2 Ou2 In2 Jo2 : Nat → Int} {s : Nat} {Ti Co Fr : Nat → Int64} {Nu : Nat → Int} {x1 : Int} {j2 : Int64} (hd0 : 0 ≤ d) (hg : TyG Γ cI cJ cZ ga gF gT gW gC gTl gHd gBy gOu gIn gJo gn gm gq gdr) (hxg : XG Γ cI gF gT gW gC gTl gHd gBy gOu gIn gJo gn gm gq F T W C Tl Hd By Ou In Jo) (hk : TyG Γ cI cJ cZ ka kF kT kW kC kTl kHd kBy kOu kIn kJo kn km kq kdr) (hxk : XG Γ cI kF kT kW kC kTl kHd kBy kOu kIn kJo kn km kq F2 T2 W2 C2 Tl2 Hd2 By2 Ou2 In2 Jo2) (hsp : s + 5 ≤ ga ∧ s + 5 ≤ gF ∧ s + 5 ≤ gT ∧ s + 5 ≤ gW ∧ s + 5 ≤ gC ∧ s + 5 ≤ gTl ∧ s + 5 ≤ gHd ∧ s + 5 ≤ gBy ∧ s + 5 ≤ gOu ∧ s + 5 ≤ gIn ∧ s + 5 ≤ gJo) (hspk : s + 5 ≤ ka ∧ s + 5 ≤ kF ∧ s + 5 ≤ kT ∧ s + 5 ≤ kW ∧ s + 5 ≤ kC ∧ s + 5 ≤ kTl ∧ s + 5 ≤ kHd ∧ s + 5 ≤ kBy ∧ s + 5 ≤ kOu ∧ s + 5 ≤ kIn ∧ s + 5 ≤ kJo) (hkm : km = gm) (hkd : kdr = gdr) (hNu : Rfx 16 0 15 Nu) (ht : Tw (SmS Γ cI cJ s Ti Co Fr Nu) hp) (hx1 : 0 ≤ x1 ∧ x1 < (gm : Int)) : Mt (gG D cI cJ cZ cT lo b L xs) mX6_sameArc d 0 0 [.ref s, .ref ga, .ref ka, .int (iv x1), .long j2] hp n (pI (SmS Γ cI cJ s Ti Co Fr Nu) n (fun r => (-1 ≤ r ∧ r < (gm : Int)) ∧ (r < 0 → ∀ j, j < gm → ¬ MeL j2 j → ¬ amP gdr F T W C F2 T2 W2 C2 Nu (Int.toNat x1) j) ∧ (0 ≤ r → ¬ MeL j2 (Int.toNat r) ∧ amP gdr F T W C F2 T2 W2 C2 Nu (Int.toNat x1) (Int.toNat r)))) := by
  refine Mt.of rfl (Nat.le_of_ble_eq_true rfl) ?_
  refine Rn.pick (lv' := [(0, .ref s), (1, .ref ga), (2, .ref ka), (3, .int (iv x1)), (4, .long j2)]) [0, 1, 2, 3, 4] rfl ?_
  have t0 : Tw (ov (ov (ov (ov (ov Γ s (tO 6 (smnR s))) (s + 1) (xJ cJ 512 Ti)) (s + 2) (xJ cJ 544 Co)) (s + 3) (xJ cJ 32 Fr)) (s + 4) (xI cI 16 Nu)) hp := ht
  obtain ⟨hg_O, hg_from, hg_to, hg_weight, hg_cost, hg_tail, hg_head, hg_by, hg_out, hg_in, hg_joined, hg_b⟩ := id hg
  obtain ⟨⟨hxg_F, hxg_T, hxg_W, hxg_C, hxg_Tl, hxg_Hd, hxg_By, hxg_Ou, hxg_In, hxg_Jo⟩, ⟨hrg_F, hrg_T, hrg_W, hrg_C, hrg_Tl, hrg_Hd, hrg_By, hrg_Ou, hrg_In, hrg_Jo⟩, houg⟩ := id hxg
  obtain ⟨hk_O, hk_from, hk_to, hk_weight, hk_cost, hk_tail, hk_head, hk_by, hk_out, hk_in, hk_joined, hk_b⟩ := id hk
  obtain ⟨⟨hxk_F, hxk_T, hxk_W, hxk_C, hxk_Tl, hxk_Hd, hxk_By, hxk_Ou, hxk_In, hxk_Jo⟩, ⟨hrk_F, hrk_T, hrk_W, hrk_C, hrk_Tl, hrk_Hd, hrk_By, hrk_Ou, hrk_In, hrk_Jo⟩, houk⟩ := id hxk
  have hgb := hg_b
  have hkb := hk_b
  refine r_aload_n (pc := 0) dX6_sameArc_0 (i := 0) rfl rfl ?_
  refine t_getE (pc := 1) (.ref (s + 4)) t0 (rd_ov (by omega) (rd_ov (by omega) (rd_ov (by omega) (rd_ov (by omega) (rd_of (ov_s _ _ _)))))) fX6_21 dX6_sameArc_1 rfl ?_
  refine r_aload_n (pc := 4) dX6_sameArc_4 (i := 1) rfl rfl ?_
  refine t_getE (pc := 5) (.ref gF) t0 (rd_ov (by omega) (rd_ov (by omega) (rd_ov (by omega) (rd_ov (by omega) (rd_ov (by omega) hg_O))))) fX6_74 dX6_sameArc_5 rfl ?_
  refine r_iload_n (pc := 8) dX6_sameArc_8 (i := 3) rfl rfl ?_
  refine t_ialdX (pc := 9) (t0 := 0) t0 (rd_ov (by omega) (rd_ov (by omega) (rd_ov (by omega) (rd_ov (by omega) (rd_ov (by omega) hxg_F))))) dX6_sameArc_9 rfl (by omega) (by omega) (fun b1 => ?_)
  have rb1 := (show Rfx gm 0 ((gn : Int) - 1) F by assumption) (Int.toNat x1) (by omega)
  refine t_ialdX (pc := 10) (t0 := 0) t0 (rd_of (ov_s _ _ _)) dX6_sameArc_10 rfl (by decide) (by omega) (fun b2 => ?_)
  have rb2 := (show Rfx 16 0 15 Nu by assumption) (Int.toNat (F (Int.toNat x1))) (by omega)
  refine r_istore (pc := 11) (lv' := [(6, .int (iv (Nu (Int.toNat (F (Int.toNat x1)))))), (0, .ref s), (1, .ref ga), (2, .ref ka), (3, .int (iv x1)), (4, .long j2)]) dX6_sameArc_11 (by decide) rfl ?_
  refine r_aload_n (pc := 13) dX6_sameArc_13 (i := 0) rfl rfl ?_
  refine t_getE (pc := 14) (.ref (s + 4)) t0 (rd_ov (by omega) (rd_ov (by omega) (rd_ov (by omega) (rd_ov (by omega) (rd_of (ov_s _ _ _)))))) fX6_21 dX6_sameArc_14 rfl ?_
  refine r_aload_n (pc := 17) dX6_sameArc_17 (i := 1) rfl rfl ?_
  refine t_getE (pc := 18) (.ref gT) t0 (rd_ov (by omega) (rd_ov (by omega) (rd_ov (by omega) (rd_ov (by omega) (rd_ov (by omega) hg_O))))) fX6_77 dX6_sameArc_18 rfl ?_
  refine r_iload_n (pc := 21) dX6_sameArc_21 (i := 3) rfl rfl ?_
  refine t_ialdX (pc := 22) (t0 := 0) t0 (rd_ov (by omega) (rd_ov (by omega) (rd_ov (by omega) (rd_ov (by omega) (rd_ov (by omega) hxg_T))))) dX6_sameArc_22 rfl (by omega) (by omega) (fun b3 => ?_)
  have rb3 := (show Rfx gm 0 ((gn : Int) - 1) T by assumption) (Int.toNat x1) (by omega)
  refine t_ialdX (pc := 23) (t0 := 0) t0 (rd_of (ov_s _ _ _)) dX6_sameArc_23 rfl (by decide) (by omega) (fun b4 => ?_)
  have rb4 := (show Rfx 16 0 15 Nu by assumption) (Int.toNat (T (Int.toNat x1))) (by omega)
  refine r_istore (pc := 24) (lv' := [(7, .int (iv (Nu (Int.toNat (T (Int.toNat x1)))))), (6, .int (iv (Nu (Int.toNat (F (Int.toNat x1)))))), (0, .ref s), (1, .ref ga), (2, .ref ka), (3, .int (iv x1)), (4, .long j2)]) dX6_sameArc_24 (by decide) rfl ?_
  refine r_iconst (pc := 26) (v := iv 0) dX6_sameArc_26 (by decide) ?_
  refine r_istore (pc := 27) (lv' := [(8, .int (iv 0)), (7, .int (iv (Nu (Int.toNat (T (Int.toNat x1)))))), (6, .int (iv (Nu (Int.toNat (F (Int.toNat x1)))))), (0, .ref s), (1, .ref ga), (2, .ref ka), (3, .int (iv x1)), (4, .long j2)]) dX6_sameArc_27 (by decide) rfl ?_
  have B29 : ∀ k : Nat, ∀ hp29 : MH, Tw (ov (ov (ov (ov (ov Γ s (tO 6 (smnR s))) (s + 1) (xJ cJ 512 Ti)) (s + 2) (xJ cJ 544 Co)) (s + 3) (xJ cJ 32 Fr)) (s + 4) (xI cI 16 Nu)) hp29 → ∀  (v29_8 : Int), 0 ≤ v29_8 ∧ v29_8 ≤ 60 ∧ (v29_8 ≤ (gm : Int)) ∧ (sjI gdr F T W C F2 T2 W2 C2 Nu j2 (Int.toNat x1) v29_8) → 60 - v29_8 ≤ (k : Int) → Rn (gG D cI cJ cZ cT lo b L xs) mX6_sameArc d 29 [(1, .ref ga), (2, .ref ka), (3, .int (iv x1)), (4, .long j2), (6, .int (iv (Nu (Int.toNat (F (Int.toNat x1)))))), (7, .int (iv (Nu (Int.toNat (T (Int.toNat x1)))))), (8, .int (iv v29_8))] [] hp29 n 0 0 (pI (SmS Γ cI cJ s Ti Co Fr Nu) n (fun r => (-1 ≤ r ∧ r < (gm : Int)) ∧ (r < 0 → ∀ j, j < gm → ¬ MeL j2 j → ¬ amP gdr F T W C F2 T2 W2 C2 Nu (Int.toNat x1) j) ∧ (0 ≤ r → ¬ MeL j2 (Int.toNat r) ∧ amP gdr F T W C F2 T2 W2 C2 Nu (Int.toNat x1) (Int.toNat r)))) := by
    refine lpS _ ?_
    intro k29 ih29 hp29 ht29 v29_8 hf29 hm29
    obtain ⟨hf29_0, hf29_1, hf29_2, ha29_3⟩ := hf29
    refine r_iload (pc := 29) dX6_sameArc_29 rfl ?_
    refine r_aload_n (pc := 31) dX6_sameArc_31 (i := 2) rfl rfl ?_
    refine t_getE (pc := 32) (.int (iv (km : Int))) ht29 (rd_ov (by omega) (rd_ov (by omega) (rd_ov (by omega) (rd_ov (by omega) (rd_ov (by omega) hk_O))))) fX6_35 dX6_sameArc_32 rfl ?_
    refine t_icmp_ge (pc := 35) (tgt := 182) dX6_sameArc_35 (by decide) (by omega) (by omega) (fun c35 => ?_) (fun c35 => ?_)
    · refine r_iconst (pc := 182) (v := iv (-1)) dX6_sameArc_182 (by decide) ?_
      exact r_iret (pc := 183) dX6_sameArc_183 rfl ⟨rfl, ht29, _, rfl, by omega, fun _ j9 hj9 hm9 => (by assumption : sjI gdr F T W C F2 T2 W2 C2 Nu j2 (Int.toNat x1) v29_8) j9 (by omega) hm9, fun h9 => absurd h9 (by omega)⟩
    · refine r_aload_n (pc := 38) dX6_sameArc_38 (i := 2) rfl rfl ?_
      refine t_getE (pc := 39) (.ref kF) ht29 (rd_ov (by omega) (rd_ov (by omega) (rd_ov (by omega) (rd_ov (by omega) (rd_ov (by omega) hk_O))))) fX6_74 dX6_sameArc_39 rfl ?_
      refine r_iload (pc := 42) dX6_sameArc_42 rfl ?_
      refine t_ialdX (pc := 44) (t0 := 0) ht29 (rd_ov (by omega) (rd_ov (by omega) (rd_ov (by omega) (rd_ov (by omega) (rd_ov (by omega) hxk_F))))) dX6_sameArc_44 rfl (by omega) (by omega) (fun b5 => ?_)
      have rb5 := (show Rfx km 0 ((kn : Int) - 1) F2 by assumption) (Int.toNat v29_8) (by omega)
      refine r_iload (pc := 45) dX6_sameArc_45 rfl ?_
      have B67 : ∀ hp67 : MH, Tw (ov (ov (ov (ov (ov Γ s (tO 6 (smnR s))) (s + 1) (xJ cJ 512 Ti)) (s + 2) (xJ cJ 544 Co)) (s + 3) (xJ cJ 32 Fr)) (s + 4) (xI cI 16 Nu)) hp67 → ∀  (u67_0 : Int), 0 ≤ u67_0 ∧ u67_0 ≤ 1 ∧ ((u67_0 = 1 ∧ (F2 (Int.toNat v29_8) = Nu (Int.toNat (F (Int.toNat x1))) ∧ T2 (Int.toNat v29_8) = Nu (Int.toNat (T (Int.toNat x1))))) ∨ (u67_0 = 0 ∧ ¬ (F2 (Int.toNat v29_8) = Nu (Int.toNat (F (Int.toNat x1))) ∧ T2 (Int.toNat v29_8) = Nu (Int.toNat (T (Int.toNat x1)))))) → Rn (gG D cI cJ cZ cT lo b L xs) mX6_sameArc d 67 [(1, .ref ga), (2, .ref ka), (3, .int (iv x1)), (4, .long j2), (6, .int (iv (Nu (Int.toNat (F (Int.toNat x1)))))), (7, .int (iv (Nu (Int.toNat (T (Int.toNat x1)))))), (8, .int (iv v29_8))] [.int (iv u67_0)] hp67 n 0 0 (pI (SmS Γ cI cJ s Ti Co Fr Nu) n (fun r => (-1 ≤ r ∧ r < (gm : Int)) ∧ (r < 0 → ∀ j, j < gm → ¬ MeL j2 j → ¬ amP gdr F T W C F2 T2 W2 C2 Nu (Int.toNat x1) j) ∧ (0 ≤ r → ¬ MeL j2 (Int.toNat r) ∧ amP gdr F T W C F2 T2 W2 C2 Nu (Int.toNat x1) (Int.toNat r)))) := by
        intro hp67 ht67 u67_0 hf67
        obtain ⟨hf67_0, hf67_1, ha67_2⟩ := hf67
        refine r_istore (pc := 67) (lv' := [(9, .int (iv u67_0)), (1, .ref ga), (2, .ref ka), (3, .int (iv x1)), (4, .long j2), (6, .int (iv (Nu (Int.toNat (F (Int.toNat x1)))))), (7, .int (iv (Nu (Int.toNat (T (Int.toNat x1)))))), (8, .int (iv v29_8))]) dX6_sameArc_67 (by decide) rfl ?_
        refine r_aload_n (pc := 69) dX6_sameArc_69 (i := 2) rfl rfl ?_
        refine t_getE (pc := 70) (.int (iv kdr)) ht67 (rd_ov (by omega) (rd_ov (by omega) (rd_ov (by omega) (rd_ov (by omega) (rd_ov (by omega) hk_O))))) fX6_31 dX6_sameArc_70 rfl ?_
        have B105 : ∀ hp105 : MH, Tw (ov (ov (ov (ov (ov Γ s (tO 6 (smnR s))) (s + 1) (xJ cJ 512 Ti)) (s + 2) (xJ cJ 544 Co)) (s + 3) (xJ cJ 32 Fr)) (s + 4) (xI cI 16 Nu)) hp105 → ∀  (u105_0 : Int), 0 ≤ u105_0 ∧ u105_0 ≤ 1 ∧ ((u105_0 = 1 ∧ (gdr = 0 ∧ F2 (Int.toNat v29_8) = Nu (Int.toNat (T (Int.toNat x1))) ∧ T2 (Int.toNat v29_8) = Nu (Int.toNat (F (Int.toNat x1))))) ∨ (u105_0 = 0 ∧ ¬ (gdr = 0 ∧ F2 (Int.toNat v29_8) = Nu (Int.toNat (T (Int.toNat x1))) ∧ T2 (Int.toNat v29_8) = Nu (Int.toNat (F (Int.toNat x1)))))) → Rn (gG D cI cJ cZ cT lo b L xs) mX6_sameArc d 105 [(1, .ref ga), (2, .ref ka), (3, .int (iv x1)), (4, .long j2), (6, .int (iv (Nu (Int.toNat (F (Int.toNat x1)))))), (7, .int (iv (Nu (Int.toNat (T (Int.toNat x1)))))), (8, .int (iv v29_8)), (9, .int (iv u67_0))] [.int (iv u105_0)] hp105 n 0 0 (pI (SmS Γ cI cJ s Ti Co Fr Nu) n (fun r => (-1 ≤ r ∧ r < (gm : Int)) ∧ (r < 0 → ∀ j, j < gm → ¬ MeL j2 j → ¬ amP gdr F T W C F2 T2 W2 C2 Nu (Int.toNat x1) j) ∧ (0 ≤ r → ¬ MeL j2 (Int.toNat r) ∧ amP gdr F T W C F2 T2 W2 C2 Nu (Int.toNat x1) (Int.toNat r)))) := by
          intro hp105 ht105 u105_0 hf105
          obtain ⟨hf105_0, hf105_1, ha105_2⟩ := hf105
          refine r_istore (pc := 105) (lv' := [(10, .int (iv u105_0)), (1, .ref ga), (2, .ref ka), (3, .int (iv x1)), (4, .long j2), (6, .int (iv (Nu (Int.toNat (F (Int.toNat x1)))))), (7, .int (iv (Nu (Int.toNat (T (Int.toNat x1)))))), (8, .int (iv v29_8)), (9, .int (iv u67_0))]) dX6_sameArc_105 (by decide) rfl ?_
          refine r_aload_n (pc := 107) dX6_sameArc_107 (i := 2) rfl rfl ?_
          refine t_getE (pc := 108) (.ref kW) ht105 (rd_ov (by omega) (rd_ov (by omega) (rd_ov (by omega) (rd_ov (by omega) (rd_ov (by omega) hk_O))))) fX6_62 dX6_sameArc_108 rfl ?_
          refine r_iload (pc := 111) dX6_sameArc_111 rfl ?_
          refine t_ialdX (pc := 113) (t0 := 0) ht105 (rd_ov (by omega) (rd_ov (by omega) (rd_ov (by omega) (rd_ov (by omega) (rd_ov (by omega) hxk_W))))) dX6_sameArc_113 rfl (by omega) (by omega) (fun b6 => ?_)
          have rb6 := (show Rfx km (-1000) 1000 W2 by assumption) (Int.toNat v29_8) (by omega)
          refine r_aload_n (pc := 114) dX6_sameArc_114 (i := 1) rfl rfl ?_
          refine t_getE (pc := 115) (.ref gW) ht105 (rd_ov (by omega) (rd_ov (by omega) (rd_ov (by omega) (rd_ov (by omega) (rd_ov (by omega) hg_O))))) fX6_62 dX6_sameArc_115 rfl ?_
          refine r_iload_n (pc := 118) dX6_sameArc_118 (i := 3) rfl rfl ?_
          refine t_ialdX (pc := 119) (t0 := 0) ht105 (rd_ov (by omega) (rd_ov (by omega) (rd_ov (by omega) (rd_ov (by omega) (rd_ov (by omega) hxg_W))))) dX6_sameArc_119 rfl (by omega) (by omega) (fun b7 => ?_)
          have rb7 := (show Rfx gm (-1000) 1000 W by assumption) (Int.toNat x1) (by omega)
          have B144 : ∀ hp144 : MH, Tw (ov (ov (ov (ov (ov Γ s (tO 6 (smnR s))) (s + 1) (xJ cJ 512 Ti)) (s + 2) (xJ cJ 544 Co)) (s + 3) (xJ cJ 32 Fr)) (s + 4) (xI cI 16 Nu)) hp144 → ∀  (u144_0 : Int), 0 ≤ u144_0 ∧ u144_0 ≤ 1 ∧ ((u144_0 = 1 ∧ (W2 (Int.toNat v29_8) = W (Int.toNat x1) ∧ C2 (Int.toNat v29_8) = C (Int.toNat x1))) ∨ (u144_0 = 0 ∧ ¬ (W2 (Int.toNat v29_8) = W (Int.toNat x1) ∧ C2 (Int.toNat v29_8) = C (Int.toNat x1)))) → Rn (gG D cI cJ cZ cT lo b L xs) mX6_sameArc d 144 [(1, .ref ga), (2, .ref ka), (3, .int (iv x1)), (4, .long j2), (6, .int (iv (Nu (Int.toNat (F (Int.toNat x1)))))), (7, .int (iv (Nu (Int.toNat (T (Int.toNat x1)))))), (8, .int (iv v29_8)), (9, .int (iv u67_0)), (10, .int (iv u105_0))] [.int (iv u144_0)] hp144 n 0 0 (pI (SmS Γ cI cJ s Ti Co Fr Nu) n (fun r => (-1 ≤ r ∧ r < (gm : Int)) ∧ (r < 0 → ∀ j, j < gm → ¬ MeL j2 j → ¬ amP gdr F T W C F2 T2 W2 C2 Nu (Int.toNat x1) j) ∧ (0 ≤ r → ¬ MeL j2 (Int.toNat r) ∧ amP gdr F T W C F2 T2 W2 C2 Nu (Int.toNat x1) (Int.toNat r)))) := by
            intro hp144 ht144 u144_0 hf144
            obtain ⟨hf144_0, hf144_1, ha144_2⟩ := hf144
            refine r_istore (pc := 144) (lv' := [(11, .int (iv u144_0)), (1, .ref ga), (2, .ref ka), (3, .int (iv x1)), (4, .long j2), (6, .int (iv (Nu (Int.toNat (F (Int.toNat x1)))))), (7, .int (iv (Nu (Int.toNat (T (Int.toNat x1)))))), (8, .int (iv v29_8)), (9, .int (iv u67_0)), (10, .int (iv u105_0))]) dX6_sameArc_144 (by decide) rfl ?_
            refine r_lload (pc := 146) dX6_sameArc_146 rfl ?_
            refine r_iload (pc := 148) dX6_sameArc_148 rfl ?_
            refine r_lshr (pc := 150) dX6_sameArc_150 ?_
            refine r_lconst (pc := 151) (v := 1) dX6_sameArc_151 (by decide) ?_
            have hk151 : (1 : Int64).toInt = 1 := by decide
            refine r_land (pc := 152) (v := (j2 >>> ((iv v29_8).toInt64 &&& 63)) &&& (1 : Int64)) dX6_sameArc_152 rfl ?_
            refine r_lconst (pc := 153) (v := 0) dX6_sameArc_153 (by decide) ?_
            have hk153 : (0 : Int64).toInt = 0 := by decide
            refine r_lcmp (pc := 154) dX6_sameArc_154 ?_
            refine t_lif_ne (pc := 155) (tgt := 176) dX6_sameArc_155 (by decide) (fun c155 => ?_) (fun c155 => ?_)
            · have hmb := mel_bit j2 (k := (Int.toNat v29_8)) (by omega)
              rw [show (((Int.toNat v29_8) : Nat) : Int) = v29_8 by omega] at hmb
              have hLy := Classical.byContradiction (fun g => c155 (hmb.mpr g))
              have hsj := sj_up (by assumption : sjI gdr F T W C F2 T2 W2 C2 Nu j2 (Int.toNat x1) v29_8) (by omega) (fun g9 => absurd hLy g9)
              refine r_iinc (pc := 176) (v := iv (v29_8 + 1)) (lv' := [(8, .int (iv (v29_8 + 1))), (11, .int (iv u144_0)), (1, .ref ga), (2, .ref ka), (3, .int (iv x1)), (4, .long j2), (6, .int (iv (Nu (Int.toNat (F (Int.toNat x1)))))), (7, .int (iv (Nu (Int.toNat (T (Int.toNat x1)))))), (9, .int (iv u67_0)), (10, .int (iv u105_0))]) dX6_sameArc_176 rfl (iv_add _ _) (by decide) rfl ?_
              refine r_goto (pc := 179) (tgt := 29) dX6_sameArc_179 (by decide) ?_
              refine Rn.pick (lv' := [(1, .ref ga), (2, .ref ka), (3, .int (iv x1)), (4, .long j2), (6, .int (iv (Nu (Int.toNat (F (Int.toNat x1)))))), (7, .int (iv (Nu (Int.toNat (T (Int.toNat x1)))))), (8, .int (iv (v29_8 + 1)))]) [2, 3, 4, 5, 6, 7, 0] rfl ?_
              exact ih29 (Int.toNat (60 - (v29_8 + 1))) (by omega) _ ht144 (v29_8 + 1) ⟨by omega, by omega, by omega, by (first | exact hsj | exact sj_0)⟩ (by omega)
            · have hmb := mel_bit j2 (k := (Int.toNat v29_8)) (by omega)
              rw [show (((Int.toNat v29_8) : Nat) : Int) = v29_8 by omega] at hmb
              have hLn := hmb.mp (Classical.byContradiction c155)
              refine r_iload (pc := 158) dX6_sameArc_158 rfl ?_
              refine t_if_eq (pc := 160) (tgt := 176) dX6_sameArc_160 (by decide) (by omega) (fun c160 => ?_) (fun c160 => ?_)
              · have hsj := sj_up (by assumption : sjI gdr F T W C F2 T2 W2 C2 Nu j2 (Int.toNat x1) v29_8) (by omega) (fun _ g9 => ((by assumption : (u144_0 = 1 ∧ (W2 (Int.toNat v29_8) = W (Int.toNat x1) ∧ C2 (Int.toNat v29_8) = C (Int.toNat x1))) ∨ (u144_0 = 0 ∧ ¬ (W2 (Int.toNat v29_8) = W (Int.toNat x1) ∧ C2 (Int.toNat v29_8) = C (Int.toNat x1)))).resolve_left (fun q9 => by have := q9.1; omega)).2 g9.2)
                refine r_iinc (pc := 176) (v := iv (v29_8 + 1)) (lv' := [(8, .int (iv (v29_8 + 1))), (11, .int (iv u144_0)), (1, .ref ga), (2, .ref ka), (3, .int (iv x1)), (4, .long j2), (6, .int (iv (Nu (Int.toNat (F (Int.toNat x1)))))), (7, .int (iv (Nu (Int.toNat (T (Int.toNat x1)))))), (9, .int (iv u67_0)), (10, .int (iv u105_0))]) dX6_sameArc_176 rfl (iv_add _ _) (by decide) rfl ?_
                refine r_goto (pc := 179) (tgt := 29) dX6_sameArc_179 (by decide) ?_
                refine Rn.pick (lv' := [(1, .ref ga), (2, .ref ka), (3, .int (iv x1)), (4, .long j2), (6, .int (iv (Nu (Int.toNat (F (Int.toNat x1)))))), (7, .int (iv (Nu (Int.toNat (T (Int.toNat x1)))))), (8, .int (iv (v29_8 + 1)))]) [2, 3, 4, 5, 6, 7, 0] rfl ?_
                exact ih29 (Int.toNat (60 - (v29_8 + 1))) (by omega) _ ht144 (v29_8 + 1) ⟨by omega, by omega, by omega, by (first | exact hsj | exact sj_0)⟩ (by omega)
              · have heq := ((by assumption : (u144_0 = 1 ∧ (W2 (Int.toNat v29_8) = W (Int.toNat x1) ∧ C2 (Int.toNat v29_8) = C (Int.toNat x1))) ∨ (u144_0 = 0 ∧ ¬ (W2 (Int.toNat v29_8) = W (Int.toNat x1) ∧ C2 (Int.toNat v29_8) = C (Int.toNat x1)))).resolve_right (fun q9 => by have := q9.1; omega)).2
                refine r_iload (pc := 163) dX6_sameArc_163 rfl ?_
                refine t_if_ne (pc := 165) (tgt := 173) dX6_sameArc_165 (by decide) (by omega) (fun c165 => ?_) (fun c165 => ?_)
                · have hend : amP gdr F T W C F2 T2 W2 C2 Nu (Int.toNat x1) (Int.toNat v29_8) := ⟨Or.inl ((by assumption : (u67_0 = 1 ∧ (F2 (Int.toNat v29_8) = Nu (Int.toNat (F (Int.toNat x1))) ∧ T2 (Int.toNat v29_8) = Nu (Int.toNat (T (Int.toNat x1))))) ∨ (u67_0 = 0 ∧ ¬ (F2 (Int.toNat v29_8) = Nu (Int.toNat (F (Int.toNat x1))) ∧ T2 (Int.toNat v29_8) = Nu (Int.toNat (T (Int.toNat x1)))))).resolve_right (fun q9 => by have := q9.1; omega)).2, heq⟩
                  refine r_iload (pc := 173) dX6_sameArc_173 rfl ?_
                  exact r_iret (pc := 175) dX6_sameArc_175 rfl ⟨rfl, ht144, _, rfl, by omega, fun h9 => absurd h9 (by omega), fun _ => ⟨hLn, hend⟩⟩
                · have hna := ((by assumption : (u67_0 = 1 ∧ (F2 (Int.toNat v29_8) = Nu (Int.toNat (F (Int.toNat x1))) ∧ T2 (Int.toNat v29_8) = Nu (Int.toNat (T (Int.toNat x1))))) ∨ (u67_0 = 0 ∧ ¬ (F2 (Int.toNat v29_8) = Nu (Int.toNat (F (Int.toNat x1))) ∧ T2 (Int.toNat v29_8) = Nu (Int.toNat (T (Int.toNat x1)))))).resolve_left (fun q9 => by have := q9.1; omega)).2
                  refine r_iload (pc := 168) dX6_sameArc_168 rfl ?_
                  refine t_if_eq (pc := 170) (tgt := 176) dX6_sameArc_170 (by decide) (by omega) (fun c170 => ?_) (fun c170 => ?_)
                  · have hsj := sj_up (by assumption : sjI gdr F T W C F2 T2 W2 C2 Nu j2 (Int.toNat x1) v29_8) (by omega) (fun _ g9 => g9.1.elim hna ((by assumption : (u105_0 = 1 ∧ (gdr = 0 ∧ F2 (Int.toNat v29_8) = Nu (Int.toNat (T (Int.toNat x1))) ∧ T2 (Int.toNat v29_8) = Nu (Int.toNat (F (Int.toNat x1))))) ∨ (u105_0 = 0 ∧ ¬ (gdr = 0 ∧ F2 (Int.toNat v29_8) = Nu (Int.toNat (T (Int.toNat x1))) ∧ T2 (Int.toNat v29_8) = Nu (Int.toNat (F (Int.toNat x1)))))).resolve_left (fun q9 => by have := q9.1; omega)).2)
                    refine r_iinc (pc := 176) (v := iv (v29_8 + 1)) (lv' := [(8, .int (iv (v29_8 + 1))), (11, .int (iv u144_0)), (1, .ref ga), (2, .ref ka), (3, .int (iv x1)), (4, .long j2), (6, .int (iv (Nu (Int.toNat (F (Int.toNat x1)))))), (7, .int (iv (Nu (Int.toNat (T (Int.toNat x1)))))), (9, .int (iv u67_0)), (10, .int (iv u105_0))]) dX6_sameArc_176 rfl (iv_add _ _) (by decide) rfl ?_
                    refine r_goto (pc := 179) (tgt := 29) dX6_sameArc_179 (by decide) ?_
                    refine Rn.pick (lv' := [(1, .ref ga), (2, .ref ka), (3, .int (iv x1)), (4, .long j2), (6, .int (iv (Nu (Int.toNat (F (Int.toNat x1)))))), (7, .int (iv (Nu (Int.toNat (T (Int.toNat x1)))))), (8, .int (iv (v29_8 + 1)))]) [2, 3, 4, 5, 6, 7, 0] rfl ?_
                    exact ih29 (Int.toNat (60 - (v29_8 + 1))) (by omega) _ ht144 (v29_8 + 1) ⟨by omega, by omega, by omega, by (first | exact hsj | exact sj_0)⟩ (by omega)
                  · have hend : amP gdr F T W C F2 T2 W2 C2 Nu (Int.toNat x1) (Int.toNat v29_8) := ⟨Or.inr ((by assumption : (u105_0 = 1 ∧ (gdr = 0 ∧ F2 (Int.toNat v29_8) = Nu (Int.toNat (T (Int.toNat x1))) ∧ T2 (Int.toNat v29_8) = Nu (Int.toNat (F (Int.toNat x1))))) ∨ (u105_0 = 0 ∧ ¬ (gdr = 0 ∧ F2 (Int.toNat v29_8) = Nu (Int.toNat (T (Int.toNat x1))) ∧ T2 (Int.toNat v29_8) = Nu (Int.toNat (F (Int.toNat x1)))))).resolve_right (fun q9 => by have := q9.1; omega)).2, heq⟩
                    refine r_iload (pc := 173) dX6_sameArc_173 rfl ?_
                    exact r_iret (pc := 175) dX6_sameArc_175 rfl ⟨rfl, ht144, _, rfl, by omega, fun h9 => absurd h9 (by omega), fun _ => ⟨hLn, hend⟩⟩
          refine t_icmp_ne (pc := 120) (tgt := 143) dX6_sameArc_120 (by decide) (by omega) (by omega) (fun c120 => ?_) (fun c120 => ?_)
          · refine r_iconst (pc := 143) (v := iv 0) dX6_sameArc_143 (by decide) ?_
            refine Rn.pick (lv' := [(1, .ref ga), (2, .ref ka), (3, .int (iv x1)), (4, .long j2), (6, .int (iv (Nu (Int.toNat (F (Int.toNat x1)))))), (7, .int (iv (Nu (Int.toNat (T (Int.toNat x1)))))), (8, .int (iv v29_8)), (9, .int (iv u67_0)), (10, .int (iv u105_0))]) [1, 2, 3, 4, 5, 6, 7, 8, 0] rfl ?_
            exact B144 _ ht105 0 ⟨by omega, by omega, by (first | exact Or.inl ⟨rfl, by omega⟩ | exact Or.inr ⟨rfl, fun h9 => by omega⟩)⟩
          · refine r_aload_n (pc := 123) dX6_sameArc_123 (i := 2) rfl rfl ?_
            refine t_getE (pc := 124) (.ref kC) ht105 (rd_ov (by omega) (rd_ov (by omega) (rd_ov (by omega) (rd_ov (by omega) (rd_ov (by omega) hk_O))))) fX6_67 dX6_sameArc_124 rfl ?_
            refine r_iload (pc := 127) dX6_sameArc_127 rfl ?_
            refine t_ialdX (pc := 129) (t0 := 0) ht105 (rd_ov (by omega) (rd_ov (by omega) (rd_ov (by omega) (rd_ov (by omega) (rd_ov (by omega) hxk_C))))) dX6_sameArc_129 rfl (by omega) (by omega) (fun b8 => ?_)
            have rb8 := (show Rfx km (-1000) 1000 C2 by assumption) (Int.toNat v29_8) (by omega)
            refine r_aload_n (pc := 130) dX6_sameArc_130 (i := 1) rfl rfl ?_
            refine t_getE (pc := 131) (.ref gC) ht105 (rd_ov (by omega) (rd_ov (by omega) (rd_ov (by omega) (rd_ov (by omega) (rd_ov (by omega) hg_O))))) fX6_67 dX6_sameArc_131 rfl ?_
            refine r_iload_n (pc := 134) dX6_sameArc_134 (i := 3) rfl rfl ?_
            refine t_ialdX (pc := 135) (t0 := 0) ht105 (rd_ov (by omega) (rd_ov (by omega) (rd_ov (by omega) (rd_ov (by omega) (rd_ov (by omega) hxg_C))))) dX6_sameArc_135 rfl (by omega) (by omega) (fun b9 => ?_)
            have rb9 := (show Rfx gm (-1000) 1000 C by assumption) (Int.toNat x1) (by omega)
            refine t_icmp_ne (pc := 136) (tgt := 143) dX6_sameArc_136 (by decide) (by omega) (by omega) (fun c136 => ?_) (fun c136 => ?_)
            · refine r_iconst (pc := 143) (v := iv 0) dX6_sameArc_143 (by decide) ?_
              refine Rn.pick (lv' := [(1, .ref ga), (2, .ref ka), (3, .int (iv x1)), (4, .long j2), (6, .int (iv (Nu (Int.toNat (F (Int.toNat x1)))))), (7, .int (iv (Nu (Int.toNat (T (Int.toNat x1)))))), (8, .int (iv v29_8)), (9, .int (iv u67_0)), (10, .int (iv u105_0))]) [1, 2, 3, 4, 5, 6, 7, 8, 0] rfl ?_
              exact B144 _ ht105 0 ⟨by omega, by omega, by (first | exact Or.inl ⟨rfl, by omega⟩ | exact Or.inr ⟨rfl, fun h9 => by omega⟩)⟩
            · refine r_iconst (pc := 139) (v := iv 1) dX6_sameArc_139 (by decide) ?_
              refine r_goto (pc := 140) (tgt := 144) dX6_sameArc_140 (by decide) ?_
              refine Rn.pick (lv' := [(1, .ref ga), (2, .ref ka), (3, .int (iv x1)), (4, .long j2), (6, .int (iv (Nu (Int.toNat (F (Int.toNat x1)))))), (7, .int (iv (Nu (Int.toNat (T (Int.toNat x1)))))), (8, .int (iv v29_8)), (9, .int (iv u67_0)), (10, .int (iv u105_0))]) [1, 2, 3, 4, 5, 6, 7, 8, 0] rfl ?_
              exact B144 _ ht105 1 ⟨by omega, by omega, by (first | exact Or.inl ⟨rfl, by omega⟩ | exact Or.inr ⟨rfl, fun h9 => by omega⟩)⟩
        refine t_if_ne (pc := 73) (tgt := 104) dX6_sameArc_73 (by decide) (by omega) (fun c73 => ?_) (fun c73 => ?_)
        · refine r_iconst (pc := 104) (v := iv 0) dX6_sameArc_104 (by decide) ?_
          refine Rn.pick (lv' := [(1, .ref ga), (2, .ref ka), (3, .int (iv x1)), (4, .long j2), (6, .int (iv (Nu (Int.toNat (F (Int.toNat x1)))))), (7, .int (iv (Nu (Int.toNat (T (Int.toNat x1)))))), (8, .int (iv v29_8)), (9, .int (iv u67_0))]) [1, 2, 3, 4, 5, 6, 7, 0] rfl ?_
          exact B105 _ ht67 0 ⟨by omega, by omega, by (first | exact Or.inl ⟨rfl, by omega⟩ | exact Or.inr ⟨rfl, fun h9 => by omega⟩)⟩
        · refine r_aload_n (pc := 76) dX6_sameArc_76 (i := 2) rfl rfl ?_
          refine t_getE (pc := 77) (.ref kF) ht67 (rd_ov (by omega) (rd_ov (by omega) (rd_ov (by omega) (rd_ov (by omega) (rd_ov (by omega) hk_O))))) fX6_74 dX6_sameArc_77 rfl ?_
          refine r_iload (pc := 80) dX6_sameArc_80 rfl ?_
          refine t_ialdX (pc := 82) (t0 := 0) ht67 (rd_ov (by omega) (rd_ov (by omega) (rd_ov (by omega) (rd_ov (by omega) (rd_ov (by omega) hxk_F))))) dX6_sameArc_82 rfl (by omega) (by omega) (fun b10 => ?_)
          have rb10 := (show Rfx km 0 ((kn : Int) - 1) F2 by assumption) (Int.toNat v29_8) (by omega)
          refine r_iload (pc := 83) dX6_sameArc_83 rfl ?_
          refine t_icmp_ne (pc := 85) (tgt := 104) dX6_sameArc_85 (by decide) (by omega) (by omega) (fun c85 => ?_) (fun c85 => ?_)
          · refine r_iconst (pc := 104) (v := iv 0) dX6_sameArc_104 (by decide) ?_
            refine Rn.pick (lv' := [(1, .ref ga), (2, .ref ka), (3, .int (iv x1)), (4, .long j2), (6, .int (iv (Nu (Int.toNat (F (Int.toNat x1)))))), (7, .int (iv (Nu (Int.toNat (T (Int.toNat x1)))))), (8, .int (iv v29_8)), (9, .int (iv u67_0))]) [1, 2, 3, 4, 5, 6, 7, 0] rfl ?_
            exact B105 _ ht67 0 ⟨by omega, by omega, by (first | exact Or.inl ⟨rfl, by omega⟩ | exact Or.inr ⟨rfl, fun h9 => by omega⟩)⟩
          · refine r_aload_n (pc := 88) dX6_sameArc_88 (i := 2) rfl rfl ?_
            refine t_getE (pc := 89) (.ref kT) ht67 (rd_ov (by omega) (rd_ov (by omega) (rd_ov (by omega) (rd_ov (by omega) (rd_ov (by omega) hk_O))))) fX6_77 dX6_sameArc_89 rfl ?_
            refine r_iload (pc := 92) dX6_sameArc_92 rfl ?_
            refine t_ialdX (pc := 94) (t0 := 0) ht67 (rd_ov (by omega) (rd_ov (by omega) (rd_ov (by omega) (rd_ov (by omega) (rd_ov (by omega) hxk_T))))) dX6_sameArc_94 rfl (by omega) (by omega) (fun b11 => ?_)
            have rb11 := (show Rfx km 0 ((kn : Int) - 1) T2 by assumption) (Int.toNat v29_8) (by omega)
            refine r_iload (pc := 95) dX6_sameArc_95 rfl ?_
            refine t_icmp_ne (pc := 97) (tgt := 104) dX6_sameArc_97 (by decide) (by omega) (by omega) (fun c97 => ?_) (fun c97 => ?_)
            · refine r_iconst (pc := 104) (v := iv 0) dX6_sameArc_104 (by decide) ?_
              refine Rn.pick (lv' := [(1, .ref ga), (2, .ref ka), (3, .int (iv x1)), (4, .long j2), (6, .int (iv (Nu (Int.toNat (F (Int.toNat x1)))))), (7, .int (iv (Nu (Int.toNat (T (Int.toNat x1)))))), (8, .int (iv v29_8)), (9, .int (iv u67_0))]) [1, 2, 3, 4, 5, 6, 7, 0] rfl ?_
              exact B105 _ ht67 0 ⟨by omega, by omega, by (first | exact Or.inl ⟨rfl, by omega⟩ | exact Or.inr ⟨rfl, fun h9 => by omega⟩)⟩
            · refine r_iconst (pc := 100) (v := iv 1) dX6_sameArc_100 (by decide) ?_
              refine r_goto (pc := 101) (tgt := 105) dX6_sameArc_101 (by decide) ?_
              refine Rn.pick (lv' := [(1, .ref ga), (2, .ref ka), (3, .int (iv x1)), (4, .long j2), (6, .int (iv (Nu (Int.toNat (F (Int.toNat x1)))))), (7, .int (iv (Nu (Int.toNat (T (Int.toNat x1)))))), (8, .int (iv v29_8)), (9, .int (iv u67_0))]) [1, 2, 3, 4, 5, 6, 7, 0] rfl ?_
              exact B105 _ ht67 1 ⟨by omega, by omega, by (first | exact Or.inl ⟨rfl, by omega⟩ | exact Or.inr ⟨rfl, fun h9 => by omega⟩)⟩
      refine t_icmp_ne (pc := 47) (tgt := 66) dX6_sameArc_47 (by decide) (by omega) (by omega) (fun c47 => ?_) (fun c47 => ?_)
      · refine r_iconst (pc := 66) (v := iv 0) dX6_sameArc_66 (by decide) ?_
        refine Rn.pick (lv' := [(1, .ref ga), (2, .ref ka), (3, .int (iv x1)), (4, .long j2), (6, .int (iv (Nu (Int.toNat (F (Int.toNat x1)))))), (7, .int (iv (Nu (Int.toNat (T (Int.toNat x1)))))), (8, .int (iv v29_8))]) [0, 1, 2, 3, 4, 5, 6] rfl ?_
        exact B67 _ ht29 0 ⟨by omega, by omega, by (first | exact Or.inl ⟨rfl, by omega⟩ | exact Or.inr ⟨rfl, fun h9 => by omega⟩)⟩
      · refine r_aload_n (pc := 50) dX6_sameArc_50 (i := 2) rfl rfl ?_
        refine t_getE (pc := 51) (.ref kT) ht29 (rd_ov (by omega) (rd_ov (by omega) (rd_ov (by omega) (rd_ov (by omega) (rd_ov (by omega) hk_O))))) fX6_77 dX6_sameArc_51 rfl ?_
        refine r_iload (pc := 54) dX6_sameArc_54 rfl ?_
        refine t_ialdX (pc := 56) (t0 := 0) ht29 (rd_ov (by omega) (rd_ov (by omega) (rd_ov (by omega) (rd_ov (by omega) (rd_ov (by omega) hxk_T))))) dX6_sameArc_56 rfl (by omega) (by omega) (fun b12 => ?_)
        have rb12 := (show Rfx km 0 ((kn : Int) - 1) T2 by assumption) (Int.toNat v29_8) (by omega)
        refine r_iload (pc := 57) dX6_sameArc_57 rfl ?_
        refine t_icmp_ne (pc := 59) (tgt := 66) dX6_sameArc_59 (by decide) (by omega) (by omega) (fun c59 => ?_) (fun c59 => ?_)
        · refine r_iconst (pc := 66) (v := iv 0) dX6_sameArc_66 (by decide) ?_
          refine Rn.pick (lv' := [(1, .ref ga), (2, .ref ka), (3, .int (iv x1)), (4, .long j2), (6, .int (iv (Nu (Int.toNat (F (Int.toNat x1)))))), (7, .int (iv (Nu (Int.toNat (T (Int.toNat x1)))))), (8, .int (iv v29_8))]) [0, 1, 2, 3, 4, 5, 6] rfl ?_
          exact B67 _ ht29 0 ⟨by omega, by omega, by (first | exact Or.inl ⟨rfl, by omega⟩ | exact Or.inr ⟨rfl, fun h9 => by omega⟩)⟩
        · refine r_iconst (pc := 62) (v := iv 1) dX6_sameArc_62 (by decide) ?_
          refine r_goto (pc := 63) (tgt := 67) dX6_sameArc_63 (by decide) ?_
          refine Rn.pick (lv' := [(1, .ref ga), (2, .ref ka), (3, .int (iv x1)), (4, .long j2), (6, .int (iv (Nu (Int.toNat (F (Int.toNat x1)))))), (7, .int (iv (Nu (Int.toNat (T (Int.toNat x1)))))), (8, .int (iv v29_8))]) [0, 1, 2, 3, 4, 5, 6] rfl ?_
          exact B67 _ ht29 1 ⟨by omega, by omega, by (first | exact Or.inl ⟨rfl, by omega⟩ | exact Or.inr ⟨rfl, fun h9 => by omega⟩)⟩
  refine Rn.pick (lv' := [(1, .ref ga), (2, .ref ka), (3, .int (iv x1)), (4, .long j2), (6, .int (iv (Nu (Int.toNat (F (Int.toNat x1)))))), (7, .int (iv (Nu (Int.toNat (T (Int.toNat x1)))))), (8, .int (iv 0))]) [4, 5, 6, 7, 2, 1, 0] rfl ?_
  exact B29 (Int.toNat (60 - 0)) _ t0 0 ⟨by omega, by omega, by omega, by (first | exact hsj | exact sj_0)⟩ (by omega)
