set_option maxHeartbeats 4000000 in
set_option maxRecDepth 100000 in
theorem c_X6_sameArcx {D : va_G} {cI cJ cZ cT : ClassId} {lo b L : Nat} {xs : Nat → Int32} {hp : MH} {n d : Nat} {Γ : TG} {ga : Nat} {gF : Nat} {gT : Nat} {gW : Nat} {gC : Nat} {gTl : Nat} {gHd : Nat} {gBy : Nat} {gOu : Nat} {gIn : Nat} {gJo : Nat} {gn : Nat} {gm : Nat} {gq : Nat} {gdr : Int} {F T W C Tl Hd By Ou In Jo : Nat → Int} {ka : Nat} {kF : Nat} {kT : Nat} {kW : Nat} {kC : Nat} {kTl : Nat} {kHd : Nat} {kBy : Nat} {kOu : Nat} {kIn : Nat} {kJo : Nat} {kn : Nat} {km : Nat} {kq : Nat} {kdr : Int} {F2 T2 W2 C2 Tl2 Hd2 By2 Ou2 In2 Jo2 : Nat → Int} {s : Nat} {Ti Co Fr : Nat → Int64} {Nu : Nat → Int} {x1 : Int} {j2 : Int64} (hd0 : 0 ≤ d) (hg : TyG Γ cI cJ cZ ga gF gT gW gC gTl gHd gBy gOu gIn gJo gn gm gq gdr) (hxg : XG Γ cI gF gT gW gC gTl gHd gBy gOu gIn gJo gn gm gq F T W C Tl Hd By Ou In Jo) (hk : TyG Γ cI cJ cZ ka kF kT kW kC kTl kHd kBy kOu kIn kJo kn km kq kdr) (hxk : XG Γ cI kF kT kW kC kTl kHd kBy kOu kIn kJo kn km kq F2 T2 W2 C2 Tl2 Hd2 By2 Ou2 In2 Jo2) (hsp : s + 5 ≤ ga ∧ s + 5 ≤ gF ∧ s + 5 ≤ gT ∧ s + 5 ≤ gW ∧ s + 5 ≤ gC ∧ s + 5 ≤ gTl ∧ s + 5 ≤ gHd ∧ s + 5 ≤ gBy ∧ s + 5 ≤ gOu ∧ s + 5 ≤ gIn ∧ s + 5 ≤ gJo) (hspk : s + 5 ≤ ka ∧ s + 5 ≤ kF ∧ s + 5 ≤ kT ∧ s + 5 ≤ kW ∧ s + 5 ≤ kC ∧ s + 5 ≤ kTl ∧ s + 5 ≤ kHd ∧ s + 5 ≤ kBy ∧ s + 5 ≤ kOu ∧ s + 5 ≤ kIn ∧ s + 5 ≤ kJo) (hkm : km = gm) (hkd : kdr = gdr) (hNu : Rfx 16 0 15 Nu) (ht : Tw (SmS Γ cI cJ s ga ka Ti Co Fr Nu) hp) (hx1 : 0 ≤ x1 ∧ x1 < (gm : Int)) : Mt (gG D cI cJ cZ cT lo b L xs) mX6_sameArc d 0 0 [.ref s, .int (iv x1), .long j2] hp n (pI (SmS Γ cI cJ s ga ka Ti Co Fr Nu) n (fun r => (-1 ≤ r ∧ r < (gm : Int)) ∧ (r < 0 → ∀ j, j < gm → ¬ MeL j2 j → ¬ amP gdr F T W C F2 T2 W2 C2 Nu (Int.toNat x1) j) ∧ (0 ≤ r → ¬ MeL j2 (Int.toNat r) ∧ amP gdr F T W C F2 T2 W2 C2 Nu (Int.toNat x1) (Int.toNat r)))) := by
  refine Mt.of rfl (Nat.le_of_ble_eq_true rfl) ?_
  refine Rn.pick (lv' := [(0, .ref s), (1, .int (iv x1)), (2, .long j2)]) [0, 1, 2] rfl ?_
  have t0 : Tw (ov (ov (ov (ov (ov Γ s (tO 6 (smnF s ga ka))) (s + 1) (xJ cJ 512 Ti)) (s + 2) (xJ cJ 544 Co)) (s + 3) (xJ cJ 32 Fr)) (s + 4) (xI cI 16 Nu)) hp := ht
  obtain ⟨hg_O, hg_from, hg_to, hg_weight, hg_cost, hg_tail, hg_head, hg_by, hg_out, hg_in, hg_joined, hg_b⟩ := id hg
  obtain ⟨⟨hxg_F, hxg_T, hxg_W, hxg_C, hxg_Tl, hxg_Hd, hxg_By, hxg_Ou, hxg_In, hxg_Jo⟩, ⟨hrg_F, hrg_T, hrg_W, hrg_C, hrg_Tl, hrg_Hd, hrg_By, hrg_Ou, hrg_In, hrg_Jo⟩, houg⟩ := id hxg
  obtain ⟨hk_O, hk_from, hk_to, hk_weight, hk_cost, hk_tail, hk_head, hk_by, hk_out, hk_in, hk_joined, hk_b⟩ := id hk
  obtain ⟨⟨hxk_F, hxk_T, hxk_W, hxk_C, hxk_Tl, hxk_Hd, hxk_By, hxk_Ou, hxk_In, hxk_Jo⟩, ⟨hrk_F, hrk_T, hrk_W, hrk_C, hrk_Tl, hrk_Hd, hrk_By, hrk_Ou, hrk_In, hrk_Jo⟩, houk⟩ := id hxk
  have hgb := hg_b
  have hkb := hk_b
  refine r_aload_n (pc := 0) dX6_sameArc_0 (i := 0) rfl rfl ?_
  refine t_getE (pc := 1) (.ref (s + 4)) t0 (rd_ov (by omega) (rd_ov (by omega) (rd_ov (by omega) (rd_ov (by omega) (rd_of (ov_s _ _ _)))))) fX6_21 dX6_sameArc_1 rfl ?_
  refine r_aload_n (pc := 4) dX6_sameArc_4 (i := 0) rfl rfl ?_
  refine t_getE (pc := 5) (.ref ga) t0 (rd_ov (by omega) (rd_ov (by omega) (rd_ov (by omega) (rd_ov (by omega) (rd_of (ov_s _ _ _)))))) fX6_38 dX6_sameArc_5 rfl ?_
  refine t_getE (pc := 8) (.ref gF) t0 (rd_ov (by omega) (rd_ov (by omega) (rd_ov (by omega) (rd_ov (by omega) (rd_ov (by omega) hg_O))))) fX6_81 dX6_sameArc_8 rfl ?_
  refine r_iload_n (pc := 11) dX6_sameArc_11 (i := 1) rfl rfl ?_
  refine t_ialdX (pc := 12) (t0 := 0) t0 (rd_ov (by omega) (rd_ov (by omega) (rd_ov (by omega) (rd_ov (by omega) (rd_ov (by omega) hxg_F))))) dX6_sameArc_12 rfl (by omega) (by omega) (fun b1 => ?_)
  have rb1 := (show Rfx gm 0 ((gn : Int) - 1) F by assumption) (Int.toNat x1) (by omega)
  refine t_ialdX (pc := 13) (t0 := 0) t0 (rd_of (ov_s _ _ _)) dX6_sameArc_13 rfl (by decide) (by omega) (fun b2 => ?_)
  have rb2 := (show Rfx 16 0 15 Nu by assumption) (Int.toNat (F (Int.toNat x1))) (by omega)
  refine r_istore (pc := 14) (lv' := [(4, .int (iv (Nu (Int.toNat (F (Int.toNat x1)))))), (0, .ref s), (1, .int (iv x1)), (2, .long j2)]) dX6_sameArc_14 (by decide) rfl ?_
  refine r_aload_n (pc := 16) dX6_sameArc_16 (i := 0) rfl rfl ?_
  refine t_getE (pc := 17) (.ref (s + 4)) t0 (rd_ov (by omega) (rd_ov (by omega) (rd_ov (by omega) (rd_ov (by omega) (rd_of (ov_s _ _ _)))))) fX6_21 dX6_sameArc_17 rfl ?_
  refine r_aload_n (pc := 20) dX6_sameArc_20 (i := 0) rfl rfl ?_
  refine t_getE (pc := 21) (.ref ga) t0 (rd_ov (by omega) (rd_ov (by omega) (rd_ov (by omega) (rd_ov (by omega) (rd_of (ov_s _ _ _)))))) fX6_38 dX6_sameArc_21 rfl ?_
  refine t_getE (pc := 24) (.ref gT) t0 (rd_ov (by omega) (rd_ov (by omega) (rd_ov (by omega) (rd_ov (by omega) (rd_ov (by omega) hg_O))))) fX6_84 dX6_sameArc_24 rfl ?_
  refine r_iload_n (pc := 27) dX6_sameArc_27 (i := 1) rfl rfl ?_
  refine t_ialdX (pc := 28) (t0 := 0) t0 (rd_ov (by omega) (rd_ov (by omega) (rd_ov (by omega) (rd_ov (by omega) (rd_ov (by omega) hxg_T))))) dX6_sameArc_28 rfl (by omega) (by omega) (fun b3 => ?_)
  have rb3 := (show Rfx gm 0 ((gn : Int) - 1) T by assumption) (Int.toNat x1) (by omega)
  refine t_ialdX (pc := 29) (t0 := 0) t0 (rd_of (ov_s _ _ _)) dX6_sameArc_29 rfl (by decide) (by omega) (fun b4 => ?_)
  have rb4 := (show Rfx 16 0 15 Nu by assumption) (Int.toNat (T (Int.toNat x1))) (by omega)
  refine r_istore (pc := 30) (lv' := [(5, .int (iv (Nu (Int.toNat (T (Int.toNat x1)))))), (4, .int (iv (Nu (Int.toNat (F (Int.toNat x1)))))), (0, .ref s), (1, .int (iv x1)), (2, .long j2)]) dX6_sameArc_30 (by decide) rfl ?_
  refine r_iconst (pc := 32) (v := iv 0) dX6_sameArc_32 (by decide) ?_
  refine r_istore (pc := 33) (lv' := [(6, .int (iv 0)), (5, .int (iv (Nu (Int.toNat (T (Int.toNat x1)))))), (4, .int (iv (Nu (Int.toNat (F (Int.toNat x1)))))), (0, .ref s), (1, .int (iv x1)), (2, .long j2)]) dX6_sameArc_33 (by decide) rfl ?_
  have B35 : ∀ k : Nat, ∀ hp35 : MH, Tw (ov (ov (ov (ov (ov Γ s (tO 6 (smnF s ga ka))) (s + 1) (xJ cJ 512 Ti)) (s + 2) (xJ cJ 544 Co)) (s + 3) (xJ cJ 32 Fr)) (s + 4) (xI cI 16 Nu)) hp35 → ∀  (v35_6 : Int), 0 ≤ v35_6 ∧ v35_6 ≤ 60 ∧ (v35_6 ≤ (gm : Int)) ∧ (sjI gdr F T W C F2 T2 W2 C2 Nu j2 (Int.toNat x1) v35_6) → 60 - v35_6 ≤ (k : Int) → Rn (gG D cI cJ cZ cT lo b L xs) mX6_sameArc d 35 [(0, .ref s), (1, .int (iv x1)), (2, .long j2), (4, .int (iv (Nu (Int.toNat (F (Int.toNat x1)))))), (5, .int (iv (Nu (Int.toNat (T (Int.toNat x1)))))), (6, .int (iv v35_6))] [] hp35 n 0 0 (pI (SmS Γ cI cJ s ga ka Ti Co Fr Nu) n (fun r => (-1 ≤ r ∧ r < (gm : Int)) ∧ (r < 0 → ∀ j, j < gm → ¬ MeL j2 j → ¬ amP gdr F T W C F2 T2 W2 C2 Nu (Int.toNat x1) j) ∧ (0 ≤ r → ¬ MeL j2 (Int.toNat r) ∧ amP gdr F T W C F2 T2 W2 C2 Nu (Int.toNat x1) (Int.toNat r)))) := by
    refine lpS _ ?_
    intro k35 ih35 hp35 ht35 v35_6 hf35 hm35
    obtain ⟨hf35_0, hf35_1, hf35_2, ha35_3⟩ := hf35
    refine r_iload (pc := 35) dX6_sameArc_35 rfl ?_
    refine r_aload_n (pc := 37) dX6_sameArc_37 (i := 0) rfl rfl ?_
    refine t_getE (pc := 38) (.ref ka) ht35 (rd_ov (by omega) (rd_ov (by omega) (rd_ov (by omega) (rd_ov (by omega) (rd_of (ov_s _ _ _)))))) fX6_42 dX6_sameArc_38 rfl ?_
    refine t_getE (pc := 41) (.int (iv (km : Int))) ht35 (rd_ov (by omega) (rd_ov (by omega) (rd_ov (by omega) (rd_ov (by omega) (rd_ov (by omega) hk_O))))) fX6_35 dX6_sameArc_41 rfl ?_
    refine t_icmp_ge (pc := 44) (tgt := 217) dX6_sameArc_44 (by decide) (by omega) (by omega) (fun c44 => ?_) (fun c44 => ?_)
    · refine r_iconst (pc := 217) (v := iv (-1)) dX6_sameArc_217 (by decide) ?_
      exact r_iret (pc := 218) dX6_sameArc_218 rfl ⟨rfl, ht35, _, rfl, by omega, fun _ j9 hj9 hm9 => (by assumption : sjI gdr F T W C F2 T2 W2 C2 Nu j2 (Int.toNat x1) v35_6) j9 (by omega) hm9, fun h9 => absurd h9 (by omega)⟩
    · refine r_aload_n (pc := 47) dX6_sameArc_47 (i := 0) rfl rfl ?_
      refine t_getE (pc := 48) (.ref ka) ht35 (rd_ov (by omega) (rd_ov (by omega) (rd_ov (by omega) (rd_ov (by omega) (rd_of (ov_s _ _ _)))))) fX6_42 dX6_sameArc_48 rfl ?_
      refine t_getE (pc := 51) (.ref kF) ht35 (rd_ov (by omega) (rd_ov (by omega) (rd_ov (by omega) (rd_ov (by omega) (rd_ov (by omega) hk_O))))) fX6_81 dX6_sameArc_51 rfl ?_
      refine r_iload (pc := 54) dX6_sameArc_54 rfl ?_
      refine t_ialdX (pc := 56) (t0 := 0) ht35 (rd_ov (by omega) (rd_ov (by omega) (rd_ov (by omega) (rd_ov (by omega) (rd_ov (by omega) hxk_F))))) dX6_sameArc_56 rfl (by omega) (by omega) (fun b5 => ?_)
      have rb5 := (show Rfx km 0 ((kn : Int) - 1) F2 by assumption) (Int.toNat v35_6) (by omega)
      refine r_iload (pc := 57) dX6_sameArc_57 rfl ?_
      have B82 : ∀ hp82 : MH, Tw (ov (ov (ov (ov (ov Γ s (tO 6 (smnF s ga ka))) (s + 1) (xJ cJ 512 Ti)) (s + 2) (xJ cJ 544 Co)) (s + 3) (xJ cJ 32 Fr)) (s + 4) (xI cI 16 Nu)) hp82 → ∀  (u82_0 : Int), 0 ≤ u82_0 ∧ u82_0 ≤ 1 ∧ ((u82_0 = 1 ∧ (F2 (Int.toNat v35_6) = Nu (Int.toNat (F (Int.toNat x1))) ∧ T2 (Int.toNat v35_6) = Nu (Int.toNat (T (Int.toNat x1))))) ∨ (u82_0 = 0 ∧ ¬ (F2 (Int.toNat v35_6) = Nu (Int.toNat (F (Int.toNat x1))) ∧ T2 (Int.toNat v35_6) = Nu (Int.toNat (T (Int.toNat x1)))))) → Rn (gG D cI cJ cZ cT lo b L xs) mX6_sameArc d 82 [(0, .ref s), (1, .int (iv x1)), (2, .long j2), (4, .int (iv (Nu (Int.toNat (F (Int.toNat x1)))))), (5, .int (iv (Nu (Int.toNat (T (Int.toNat x1)))))), (6, .int (iv v35_6))] [.int (iv u82_0)] hp82 n 0 0 (pI (SmS Γ cI cJ s ga ka Ti Co Fr Nu) n (fun r => (-1 ≤ r ∧ r < (gm : Int)) ∧ (r < 0 → ∀ j, j < gm → ¬ MeL j2 j → ¬ amP gdr F T W C F2 T2 W2 C2 Nu (Int.toNat x1) j) ∧ (0 ≤ r → ¬ MeL j2 (Int.toNat r) ∧ amP gdr F T W C F2 T2 W2 C2 Nu (Int.toNat x1) (Int.toNat r)))) := by
        intro hp82 ht82 u82_0 hf82
        obtain ⟨hf82_0, hf82_1, ha82_2⟩ := hf82
        refine r_istore (pc := 82) (lv' := [(7, .int (iv u82_0)), (0, .ref s), (1, .int (iv x1)), (2, .long j2), (4, .int (iv (Nu (Int.toNat (F (Int.toNat x1)))))), (5, .int (iv (Nu (Int.toNat (T (Int.toNat x1)))))), (6, .int (iv v35_6))]) dX6_sameArc_82 (by decide) rfl ?_
        refine r_aload_n (pc := 84) dX6_sameArc_84 (i := 0) rfl rfl ?_
        refine t_getE (pc := 85) (.ref ka) ht82 (rd_ov (by omega) (rd_ov (by omega) (rd_ov (by omega) (rd_ov (by omega) (rd_of (ov_s _ _ _)))))) fX6_42 dX6_sameArc_85 rfl ?_
        refine t_getE (pc := 88) (.int (iv kdr)) ht82 (rd_ov (by omega) (rd_ov (by omega) (rd_ov (by omega) (rd_ov (by omega) (rd_ov (by omega) hk_O))))) fX6_31 dX6_sameArc_88 rfl ?_
        have B129 : ∀ hp129 : MH, Tw (ov (ov (ov (ov (ov Γ s (tO 6 (smnF s ga ka))) (s + 1) (xJ cJ 512 Ti)) (s + 2) (xJ cJ 544 Co)) (s + 3) (xJ cJ 32 Fr)) (s + 4) (xI cI 16 Nu)) hp129 → ∀  (u129_0 : Int), 0 ≤ u129_0 ∧ u129_0 ≤ 1 ∧ ((u129_0 = 1 ∧ (gdr = 0 ∧ F2 (Int.toNat v35_6) = Nu (Int.toNat (T (Int.toNat x1))) ∧ T2 (Int.toNat v35_6) = Nu (Int.toNat (F (Int.toNat x1))))) ∨ (u129_0 = 0 ∧ ¬ (gdr = 0 ∧ F2 (Int.toNat v35_6) = Nu (Int.toNat (T (Int.toNat x1))) ∧ T2 (Int.toNat v35_6) = Nu (Int.toNat (F (Int.toNat x1)))))) → Rn (gG D cI cJ cZ cT lo b L xs) mX6_sameArc d 129 [(0, .ref s), (1, .int (iv x1)), (2, .long j2), (4, .int (iv (Nu (Int.toNat (F (Int.toNat x1)))))), (5, .int (iv (Nu (Int.toNat (T (Int.toNat x1)))))), (6, .int (iv v35_6)), (7, .int (iv u82_0))] [.int (iv u129_0)] hp129 n 0 0 (pI (SmS Γ cI cJ s ga ka Ti Co Fr Nu) n (fun r => (-1 ≤ r ∧ r < (gm : Int)) ∧ (r < 0 → ∀ j, j < gm → ¬ MeL j2 j → ¬ amP gdr F T W C F2 T2 W2 C2 Nu (Int.toNat x1) j) ∧ (0 ≤ r → ¬ MeL j2 (Int.toNat r) ∧ amP gdr F T W C F2 T2 W2 C2 Nu (Int.toNat x1) (Int.toNat r)))) := by
          intro hp129 ht129 u129_0 hf129
          obtain ⟨hf129_0, hf129_1, ha129_2⟩ := hf129
          refine r_istore (pc := 129) (lv' := [(8, .int (iv u129_0)), (0, .ref s), (1, .int (iv x1)), (2, .long j2), (4, .int (iv (Nu (Int.toNat (F (Int.toNat x1)))))), (5, .int (iv (Nu (Int.toNat (T (Int.toNat x1)))))), (6, .int (iv v35_6)), (7, .int (iv u82_0))]) dX6_sameArc_129 (by decide) rfl ?_
          refine r_aload_n (pc := 131) dX6_sameArc_131 (i := 0) rfl rfl ?_
          refine t_getE (pc := 132) (.ref ka) ht129 (rd_ov (by omega) (rd_ov (by omega) (rd_ov (by omega) (rd_ov (by omega) (rd_of (ov_s _ _ _)))))) fX6_42 dX6_sameArc_132 rfl ?_
          refine t_getE (pc := 135) (.ref kW) ht129 (rd_ov (by omega) (rd_ov (by omega) (rd_ov (by omega) (rd_ov (by omega) (rd_ov (by omega) hk_O))))) fX6_69 dX6_sameArc_135 rfl ?_
          refine r_iload (pc := 138) dX6_sameArc_138 rfl ?_
          refine t_ialdX (pc := 140) (t0 := 0) ht129 (rd_ov (by omega) (rd_ov (by omega) (rd_ov (by omega) (rd_ov (by omega) (rd_ov (by omega) hxk_W))))) dX6_sameArc_140 rfl (by omega) (by omega) (fun b6 => ?_)
          have rb6 := (show Rfx km (-1000) 1000 W2 by assumption) (Int.toNat v35_6) (by omega)
          refine r_aload_n (pc := 141) dX6_sameArc_141 (i := 0) rfl rfl ?_
          refine t_getE (pc := 142) (.ref ga) ht129 (rd_ov (by omega) (rd_ov (by omega) (rd_ov (by omega) (rd_ov (by omega) (rd_of (ov_s _ _ _)))))) fX6_38 dX6_sameArc_142 rfl ?_
          refine t_getE (pc := 145) (.ref gW) ht129 (rd_ov (by omega) (rd_ov (by omega) (rd_ov (by omega) (rd_ov (by omega) (rd_ov (by omega) hg_O))))) fX6_69 dX6_sameArc_145 rfl ?_
          refine r_iload_n (pc := 148) dX6_sameArc_148 (i := 1) rfl rfl ?_
          refine t_ialdX (pc := 149) (t0 := 0) ht129 (rd_ov (by omega) (rd_ov (by omega) (rd_ov (by omega) (rd_ov (by omega) (rd_ov (by omega) hxg_W))))) dX6_sameArc_149 rfl (by omega) (by omega) (fun b7 => ?_)
          have rb7 := (show Rfx gm (-1000) 1000 W by assumption) (Int.toNat x1) (by omega)
          have B180 : ∀ hp180 : MH, Tw (ov (ov (ov (ov (ov Γ s (tO 6 (smnF s ga ka))) (s + 1) (xJ cJ 512 Ti)) (s + 2) (xJ cJ 544 Co)) (s + 3) (xJ cJ 32 Fr)) (s + 4) (xI cI 16 Nu)) hp180 → ∀  (u180_0 : Int), 0 ≤ u180_0 ∧ u180_0 ≤ 1 ∧ ((u180_0 = 1 ∧ (W2 (Int.toNat v35_6) = W (Int.toNat x1) ∧ C2 (Int.toNat v35_6) = C (Int.toNat x1))) ∨ (u180_0 = 0 ∧ ¬ (W2 (Int.toNat v35_6) = W (Int.toNat x1) ∧ C2 (Int.toNat v35_6) = C (Int.toNat x1)))) → Rn (gG D cI cJ cZ cT lo b L xs) mX6_sameArc d 180 [(0, .ref s), (1, .int (iv x1)), (2, .long j2), (4, .int (iv (Nu (Int.toNat (F (Int.toNat x1)))))), (5, .int (iv (Nu (Int.toNat (T (Int.toNat x1)))))), (6, .int (iv v35_6)), (7, .int (iv u82_0)), (8, .int (iv u129_0))] [.int (iv u180_0)] hp180 n 0 0 (pI (SmS Γ cI cJ s ga ka Ti Co Fr Nu) n (fun r => (-1 ≤ r ∧ r < (gm : Int)) ∧ (r < 0 → ∀ j, j < gm → ¬ MeL j2 j → ¬ amP gdr F T W C F2 T2 W2 C2 Nu (Int.toNat x1) j) ∧ (0 ≤ r → ¬ MeL j2 (Int.toNat r) ∧ amP gdr F T W C F2 T2 W2 C2 Nu (Int.toNat x1) (Int.toNat r)))) := by
            intro hp180 ht180 u180_0 hf180
            obtain ⟨hf180_0, hf180_1, ha180_2⟩ := hf180
            refine r_istore (pc := 180) (lv' := [(9, .int (iv u180_0)), (0, .ref s), (1, .int (iv x1)), (2, .long j2), (4, .int (iv (Nu (Int.toNat (F (Int.toNat x1)))))), (5, .int (iv (Nu (Int.toNat (T (Int.toNat x1)))))), (6, .int (iv v35_6)), (7, .int (iv u82_0)), (8, .int (iv u129_0))]) dX6_sameArc_180 (by decide) rfl ?_
            refine r_lload_n (pc := 182) dX6_sameArc_182 (i := 2) rfl rfl ?_
            refine r_iload (pc := 183) dX6_sameArc_183 rfl ?_
            refine r_lshr (pc := 185) dX6_sameArc_185 ?_
            refine r_lconst (pc := 186) (v := 1) dX6_sameArc_186 (by decide) ?_
            have hk186 : (1 : Int64).toInt = 1 := by decide
            refine r_land (pc := 187) (v := (j2 >>> ((iv v35_6).toInt64 &&& 63)) &&& (1 : Int64)) dX6_sameArc_187 rfl ?_
            refine r_lconst (pc := 188) (v := 0) dX6_sameArc_188 (by decide) ?_
            have hk188 : (0 : Int64).toInt = 0 := by decide
            refine r_lcmp (pc := 189) dX6_sameArc_189 ?_
            refine t_lif_ne (pc := 190) (tgt := 211) dX6_sameArc_190 (by decide) (fun c190 => ?_) (fun c190 => ?_)
            · have hmb := mel_bit j2 (k := (Int.toNat v35_6)) (by omega)
              rw [show (((Int.toNat v35_6) : Nat) : Int) = v35_6 by omega] at hmb
              have hLy := Classical.byContradiction (fun g => c190 (hmb.mpr g))
              have hsj := sj_up (by assumption : sjI gdr F T W C F2 T2 W2 C2 Nu j2 (Int.toNat x1) v35_6) (by omega) (fun g9 => absurd hLy g9)
              refine r_iinc (pc := 211) (v := iv (v35_6 + 1)) (lv' := [(6, .int (iv (v35_6 + 1))), (9, .int (iv u180_0)), (0, .ref s), (1, .int (iv x1)), (2, .long j2), (4, .int (iv (Nu (Int.toNat (F (Int.toNat x1)))))), (5, .int (iv (Nu (Int.toNat (T (Int.toNat x1)))))), (7, .int (iv u82_0)), (8, .int (iv u129_0))]) dX6_sameArc_211 rfl (iv_add _ _) (by decide) rfl ?_
              refine r_goto (pc := 214) (tgt := 35) dX6_sameArc_214 (by decide) ?_
              refine Rn.pick (lv' := [(0, .ref s), (1, .int (iv x1)), (2, .long j2), (4, .int (iv (Nu (Int.toNat (F (Int.toNat x1)))))), (5, .int (iv (Nu (Int.toNat (T (Int.toNat x1)))))), (6, .int (iv (v35_6 + 1)))]) [2, 3, 4, 5, 6, 0] rfl ?_
              exact ih35 (Int.toNat (60 - (v35_6 + 1))) (by omega) _ ht180 (v35_6 + 1) ⟨by omega, by omega, by omega, by (first | exact hsj | exact sj_0)⟩ (by omega)
            · have hmb := mel_bit j2 (k := (Int.toNat v35_6)) (by omega)
              rw [show (((Int.toNat v35_6) : Nat) : Int) = v35_6 by omega] at hmb
              have hLn := hmb.mp (Classical.byContradiction c190)
              refine r_iload (pc := 193) dX6_sameArc_193 rfl ?_
              refine t_if_eq (pc := 195) (tgt := 211) dX6_sameArc_195 (by decide) (by omega) (fun c195 => ?_) (fun c195 => ?_)
              · have hsj := sj_up (by assumption : sjI gdr F T W C F2 T2 W2 C2 Nu j2 (Int.toNat x1) v35_6) (by omega) (fun _ g9 => ((by assumption : (u180_0 = 1 ∧ (W2 (Int.toNat v35_6) = W (Int.toNat x1) ∧ C2 (Int.toNat v35_6) = C (Int.toNat x1))) ∨ (u180_0 = 0 ∧ ¬ (W2 (Int.toNat v35_6) = W (Int.toNat x1) ∧ C2 (Int.toNat v35_6) = C (Int.toNat x1)))).resolve_left (fun q9 => by have := q9.1; omega)).2 g9.2)
                refine r_iinc (pc := 211) (v := iv (v35_6 + 1)) (lv' := [(6, .int (iv (v35_6 + 1))), (9, .int (iv u180_0)), (0, .ref s), (1, .int (iv x1)), (2, .long j2), (4, .int (iv (Nu (Int.toNat (F (Int.toNat x1)))))), (5, .int (iv (Nu (Int.toNat (T (Int.toNat x1)))))), (7, .int (iv u82_0)), (8, .int (iv u129_0))]) dX6_sameArc_211 rfl (iv_add _ _) (by decide) rfl ?_
                refine r_goto (pc := 214) (tgt := 35) dX6_sameArc_214 (by decide) ?_
                refine Rn.pick (lv' := [(0, .ref s), (1, .int (iv x1)), (2, .long j2), (4, .int (iv (Nu (Int.toNat (F (Int.toNat x1)))))), (5, .int (iv (Nu (Int.toNat (T (Int.toNat x1)))))), (6, .int (iv (v35_6 + 1)))]) [2, 3, 4, 5, 6, 0] rfl ?_
                exact ih35 (Int.toNat (60 - (v35_6 + 1))) (by omega) _ ht180 (v35_6 + 1) ⟨by omega, by omega, by omega, by (first | exact hsj | exact sj_0)⟩ (by omega)
              · have heq := ((by assumption : (u180_0 = 1 ∧ (W2 (Int.toNat v35_6) = W (Int.toNat x1) ∧ C2 (Int.toNat v35_6) = C (Int.toNat x1))) ∨ (u180_0 = 0 ∧ ¬ (W2 (Int.toNat v35_6) = W (Int.toNat x1) ∧ C2 (Int.toNat v35_6) = C (Int.toNat x1)))).resolve_right (fun q9 => by have := q9.1; omega)).2
                refine r_iload (pc := 198) dX6_sameArc_198 rfl ?_
                refine t_if_ne (pc := 200) (tgt := 208) dX6_sameArc_200 (by decide) (by omega) (fun c200 => ?_) (fun c200 => ?_)
                · have hend : amP gdr F T W C F2 T2 W2 C2 Nu (Int.toNat x1) (Int.toNat v35_6) := ⟨Or.inl ((by assumption : (u82_0 = 1 ∧ (F2 (Int.toNat v35_6) = Nu (Int.toNat (F (Int.toNat x1))) ∧ T2 (Int.toNat v35_6) = Nu (Int.toNat (T (Int.toNat x1))))) ∨ (u82_0 = 0 ∧ ¬ (F2 (Int.toNat v35_6) = Nu (Int.toNat (F (Int.toNat x1))) ∧ T2 (Int.toNat v35_6) = Nu (Int.toNat (T (Int.toNat x1)))))).resolve_right (fun q9 => by have := q9.1; omega)).2, heq⟩
                  refine r_iload (pc := 208) dX6_sameArc_208 rfl ?_
                  exact r_iret (pc := 210) dX6_sameArc_210 rfl ⟨rfl, ht180, _, rfl, by omega, fun h9 => absurd h9 (by omega), fun _ => ⟨hLn, hend⟩⟩
                · have hna := ((by assumption : (u82_0 = 1 ∧ (F2 (Int.toNat v35_6) = Nu (Int.toNat (F (Int.toNat x1))) ∧ T2 (Int.toNat v35_6) = Nu (Int.toNat (T (Int.toNat x1))))) ∨ (u82_0 = 0 ∧ ¬ (F2 (Int.toNat v35_6) = Nu (Int.toNat (F (Int.toNat x1))) ∧ T2 (Int.toNat v35_6) = Nu (Int.toNat (T (Int.toNat x1)))))).resolve_left (fun q9 => by have := q9.1; omega)).2
                  refine r_iload (pc := 203) dX6_sameArc_203 rfl ?_
                  refine t_if_eq (pc := 205) (tgt := 211) dX6_sameArc_205 (by decide) (by omega) (fun c205 => ?_) (fun c205 => ?_)
                  · have hsj := sj_up (by assumption : sjI gdr F T W C F2 T2 W2 C2 Nu j2 (Int.toNat x1) v35_6) (by omega) (fun _ g9 => g9.1.elim hna ((by assumption : (u129_0 = 1 ∧ (gdr = 0 ∧ F2 (Int.toNat v35_6) = Nu (Int.toNat (T (Int.toNat x1))) ∧ T2 (Int.toNat v35_6) = Nu (Int.toNat (F (Int.toNat x1))))) ∨ (u129_0 = 0 ∧ ¬ (gdr = 0 ∧ F2 (Int.toNat v35_6) = Nu (Int.toNat (T (Int.toNat x1))) ∧ T2 (Int.toNat v35_6) = Nu (Int.toNat (F (Int.toNat x1)))))).resolve_left (fun q9 => by have := q9.1; omega)).2)
                    refine r_iinc (pc := 211) (v := iv (v35_6 + 1)) (lv' := [(6, .int (iv (v35_6 + 1))), (9, .int (iv u180_0)), (0, .ref s), (1, .int (iv x1)), (2, .long j2), (4, .int (iv (Nu (Int.toNat (F (Int.toNat x1)))))), (5, .int (iv (Nu (Int.toNat (T (Int.toNat x1)))))), (7, .int (iv u82_0)), (8, .int (iv u129_0))]) dX6_sameArc_211 rfl (iv_add _ _) (by decide) rfl ?_
                    refine r_goto (pc := 214) (tgt := 35) dX6_sameArc_214 (by decide) ?_
                    refine Rn.pick (lv' := [(0, .ref s), (1, .int (iv x1)), (2, .long j2), (4, .int (iv (Nu (Int.toNat (F (Int.toNat x1)))))), (5, .int (iv (Nu (Int.toNat (T (Int.toNat x1)))))), (6, .int (iv (v35_6 + 1)))]) [2, 3, 4, 5, 6, 0] rfl ?_
                    exact ih35 (Int.toNat (60 - (v35_6 + 1))) (by omega) _ ht180 (v35_6 + 1) ⟨by omega, by omega, by omega, by (first | exact hsj | exact sj_0)⟩ (by omega)
                  · have hend : amP gdr F T W C F2 T2 W2 C2 Nu (Int.toNat x1) (Int.toNat v35_6) := ⟨Or.inr ((by assumption : (u129_0 = 1 ∧ (gdr = 0 ∧ F2 (Int.toNat v35_6) = Nu (Int.toNat (T (Int.toNat x1))) ∧ T2 (Int.toNat v35_6) = Nu (Int.toNat (F (Int.toNat x1))))) ∨ (u129_0 = 0 ∧ ¬ (gdr = 0 ∧ F2 (Int.toNat v35_6) = Nu (Int.toNat (T (Int.toNat x1))) ∧ T2 (Int.toNat v35_6) = Nu (Int.toNat (F (Int.toNat x1)))))).resolve_right (fun q9 => by have := q9.1; omega)).2, heq⟩
                    refine r_iload (pc := 208) dX6_sameArc_208 rfl ?_
                    exact r_iret (pc := 210) dX6_sameArc_210 rfl ⟨rfl, ht180, _, rfl, by omega, fun h9 => absurd h9 (by omega), fun _ => ⟨hLn, hend⟩⟩
          refine t_icmp_ne (pc := 150) (tgt := 179) dX6_sameArc_150 (by decide) (by omega) (by omega) (fun c150 => ?_) (fun c150 => ?_)
          · refine r_iconst (pc := 179) (v := iv 0) dX6_sameArc_179 (by decide) ?_
            refine Rn.pick (lv' := [(0, .ref s), (1, .int (iv x1)), (2, .long j2), (4, .int (iv (Nu (Int.toNat (F (Int.toNat x1)))))), (5, .int (iv (Nu (Int.toNat (T (Int.toNat x1)))))), (6, .int (iv v35_6)), (7, .int (iv u82_0)), (8, .int (iv u129_0))]) [1, 2, 3, 4, 5, 6, 7, 0] rfl ?_
            exact B180 _ ht129 0 ⟨by omega, by omega, by (first | exact Or.inl ⟨rfl, by omega⟩ | exact Or.inr ⟨rfl, fun h9 => by omega⟩)⟩
          · refine r_aload_n (pc := 153) dX6_sameArc_153 (i := 0) rfl rfl ?_
            refine t_getE (pc := 154) (.ref ka) ht129 (rd_ov (by omega) (rd_ov (by omega) (rd_ov (by omega) (rd_ov (by omega) (rd_of (ov_s _ _ _)))))) fX6_42 dX6_sameArc_154 rfl ?_
            refine t_getE (pc := 157) (.ref kC) ht129 (rd_ov (by omega) (rd_ov (by omega) (rd_ov (by omega) (rd_ov (by omega) (rd_ov (by omega) hk_O))))) fX6_74 dX6_sameArc_157 rfl ?_
            refine r_iload (pc := 160) dX6_sameArc_160 rfl ?_
            refine t_ialdX (pc := 162) (t0 := 0) ht129 (rd_ov (by omega) (rd_ov (by omega) (rd_ov (by omega) (rd_ov (by omega) (rd_ov (by omega) hxk_C))))) dX6_sameArc_162 rfl (by omega) (by omega) (fun b8 => ?_)
            have rb8 := (show Rfx km (-1000) 1000 C2 by assumption) (Int.toNat v35_6) (by omega)
            refine r_aload_n (pc := 163) dX6_sameArc_163 (i := 0) rfl rfl ?_
            refine t_getE (pc := 164) (.ref ga) ht129 (rd_ov (by omega) (rd_ov (by omega) (rd_ov (by omega) (rd_ov (by omega) (rd_of (ov_s _ _ _)))))) fX6_38 dX6_sameArc_164 rfl ?_
            refine t_getE (pc := 167) (.ref gC) ht129 (rd_ov (by omega) (rd_ov (by omega) (rd_ov (by omega) (rd_ov (by omega) (rd_ov (by omega) hg_O))))) fX6_74 dX6_sameArc_167 rfl ?_
            refine r_iload_n (pc := 170) dX6_sameArc_170 (i := 1) rfl rfl ?_
            refine t_ialdX (pc := 171) (t0 := 0) ht129 (rd_ov (by omega) (rd_ov (by omega) (rd_ov (by omega) (rd_ov (by omega) (rd_ov (by omega) hxg_C))))) dX6_sameArc_171 rfl (by omega) (by omega) (fun b9 => ?_)
            have rb9 := (show Rfx gm (-1000) 1000 C by assumption) (Int.toNat x1) (by omega)
            refine t_icmp_ne (pc := 172) (tgt := 179) dX6_sameArc_172 (by decide) (by omega) (by omega) (fun c172 => ?_) (fun c172 => ?_)
            · refine r_iconst (pc := 179) (v := iv 0) dX6_sameArc_179 (by decide) ?_
              refine Rn.pick (lv' := [(0, .ref s), (1, .int (iv x1)), (2, .long j2), (4, .int (iv (Nu (Int.toNat (F (Int.toNat x1)))))), (5, .int (iv (Nu (Int.toNat (T (Int.toNat x1)))))), (6, .int (iv v35_6)), (7, .int (iv u82_0)), (8, .int (iv u129_0))]) [1, 2, 3, 4, 5, 6, 7, 0] rfl ?_
              exact B180 _ ht129 0 ⟨by omega, by omega, by (first | exact Or.inl ⟨rfl, by omega⟩ | exact Or.inr ⟨rfl, fun h9 => by omega⟩)⟩
            · refine r_iconst (pc := 175) (v := iv 1) dX6_sameArc_175 (by decide) ?_
              refine r_goto (pc := 176) (tgt := 180) dX6_sameArc_176 (by decide) ?_
              refine Rn.pick (lv' := [(0, .ref s), (1, .int (iv x1)), (2, .long j2), (4, .int (iv (Nu (Int.toNat (F (Int.toNat x1)))))), (5, .int (iv (Nu (Int.toNat (T (Int.toNat x1)))))), (6, .int (iv v35_6)), (7, .int (iv u82_0)), (8, .int (iv u129_0))]) [1, 2, 3, 4, 5, 6, 7, 0] rfl ?_
              exact B180 _ ht129 1 ⟨by omega, by omega, by (first | exact Or.inl ⟨rfl, by omega⟩ | exact Or.inr ⟨rfl, fun h9 => by omega⟩)⟩
        refine t_if_ne (pc := 91) (tgt := 128) dX6_sameArc_91 (by decide) (by omega) (fun c91 => ?_) (fun c91 => ?_)
        · refine r_iconst (pc := 128) (v := iv 0) dX6_sameArc_128 (by decide) ?_
          refine Rn.pick (lv' := [(0, .ref s), (1, .int (iv x1)), (2, .long j2), (4, .int (iv (Nu (Int.toNat (F (Int.toNat x1)))))), (5, .int (iv (Nu (Int.toNat (T (Int.toNat x1)))))), (6, .int (iv v35_6)), (7, .int (iv u82_0))]) [1, 2, 3, 4, 5, 6, 0] rfl ?_
          exact B129 _ ht82 0 ⟨by omega, by omega, by (first | exact Or.inl ⟨rfl, by omega⟩ | exact Or.inr ⟨rfl, fun h9 => by omega⟩)⟩
        · refine r_aload_n (pc := 94) dX6_sameArc_94 (i := 0) rfl rfl ?_
          refine t_getE (pc := 95) (.ref ka) ht82 (rd_ov (by omega) (rd_ov (by omega) (rd_ov (by omega) (rd_ov (by omega) (rd_of (ov_s _ _ _)))))) fX6_42 dX6_sameArc_95 rfl ?_
          refine t_getE (pc := 98) (.ref kF) ht82 (rd_ov (by omega) (rd_ov (by omega) (rd_ov (by omega) (rd_ov (by omega) (rd_ov (by omega) hk_O))))) fX6_81 dX6_sameArc_98 rfl ?_
          refine r_iload (pc := 101) dX6_sameArc_101 rfl ?_
          refine t_ialdX (pc := 103) (t0 := 0) ht82 (rd_ov (by omega) (rd_ov (by omega) (rd_ov (by omega) (rd_ov (by omega) (rd_ov (by omega) hxk_F))))) dX6_sameArc_103 rfl (by omega) (by omega) (fun b10 => ?_)
          have rb10 := (show Rfx km 0 ((kn : Int) - 1) F2 by assumption) (Int.toNat v35_6) (by omega)
          refine r_iload (pc := 104) dX6_sameArc_104 rfl ?_
          refine t_icmp_ne (pc := 106) (tgt := 128) dX6_sameArc_106 (by decide) (by omega) (by omega) (fun c106 => ?_) (fun c106 => ?_)
          · refine r_iconst (pc := 128) (v := iv 0) dX6_sameArc_128 (by decide) ?_
            refine Rn.pick (lv' := [(0, .ref s), (1, .int (iv x1)), (2, .long j2), (4, .int (iv (Nu (Int.toNat (F (Int.toNat x1)))))), (5, .int (iv (Nu (Int.toNat (T (Int.toNat x1)))))), (6, .int (iv v35_6)), (7, .int (iv u82_0))]) [1, 2, 3, 4, 5, 6, 0] rfl ?_
            exact B129 _ ht82 0 ⟨by omega, by omega, by (first | exact Or.inl ⟨rfl, by omega⟩ | exact Or.inr ⟨rfl, fun h9 => by omega⟩)⟩
          · refine r_aload_n (pc := 109) dX6_sameArc_109 (i := 0) rfl rfl ?_
            refine t_getE (pc := 110) (.ref ka) ht82 (rd_ov (by omega) (rd_ov (by omega) (rd_ov (by omega) (rd_ov (by omega) (rd_of (ov_s _ _ _)))))) fX6_42 dX6_sameArc_110 rfl ?_
            refine t_getE (pc := 113) (.ref kT) ht82 (rd_ov (by omega) (rd_ov (by omega) (rd_ov (by omega) (rd_ov (by omega) (rd_ov (by omega) hk_O))))) fX6_84 dX6_sameArc_113 rfl ?_
            refine r_iload (pc := 116) dX6_sameArc_116 rfl ?_
            refine t_ialdX (pc := 118) (t0 := 0) ht82 (rd_ov (by omega) (rd_ov (by omega) (rd_ov (by omega) (rd_ov (by omega) (rd_ov (by omega) hxk_T))))) dX6_sameArc_118 rfl (by omega) (by omega) (fun b11 => ?_)
            have rb11 := (show Rfx km 0 ((kn : Int) - 1) T2 by assumption) (Int.toNat v35_6) (by omega)
            refine r_iload (pc := 119) dX6_sameArc_119 rfl ?_
            refine t_icmp_ne (pc := 121) (tgt := 128) dX6_sameArc_121 (by decide) (by omega) (by omega) (fun c121 => ?_) (fun c121 => ?_)
            · refine r_iconst (pc := 128) (v := iv 0) dX6_sameArc_128 (by decide) ?_
              refine Rn.pick (lv' := [(0, .ref s), (1, .int (iv x1)), (2, .long j2), (4, .int (iv (Nu (Int.toNat (F (Int.toNat x1)))))), (5, .int (iv (Nu (Int.toNat (T (Int.toNat x1)))))), (6, .int (iv v35_6)), (7, .int (iv u82_0))]) [1, 2, 3, 4, 5, 6, 0] rfl ?_
              exact B129 _ ht82 0 ⟨by omega, by omega, by (first | exact Or.inl ⟨rfl, by omega⟩ | exact Or.inr ⟨rfl, fun h9 => by omega⟩)⟩
            · refine r_iconst (pc := 124) (v := iv 1) dX6_sameArc_124 (by decide) ?_
              refine r_goto (pc := 125) (tgt := 129) dX6_sameArc_125 (by decide) ?_
              refine Rn.pick (lv' := [(0, .ref s), (1, .int (iv x1)), (2, .long j2), (4, .int (iv (Nu (Int.toNat (F (Int.toNat x1)))))), (5, .int (iv (Nu (Int.toNat (T (Int.toNat x1)))))), (6, .int (iv v35_6)), (7, .int (iv u82_0))]) [1, 2, 3, 4, 5, 6, 0] rfl ?_
              exact B129 _ ht82 1 ⟨by omega, by omega, by (first | exact Or.inl ⟨rfl, by omega⟩ | exact Or.inr ⟨rfl, fun h9 => by omega⟩)⟩
      refine t_icmp_ne (pc := 59) (tgt := 81) dX6_sameArc_59 (by decide) (by omega) (by omega) (fun c59 => ?_) (fun c59 => ?_)
      · refine r_iconst (pc := 81) (v := iv 0) dX6_sameArc_81 (by decide) ?_
        refine Rn.pick (lv' := [(0, .ref s), (1, .int (iv x1)), (2, .long j2), (4, .int (iv (Nu (Int.toNat (F (Int.toNat x1)))))), (5, .int (iv (Nu (Int.toNat (T (Int.toNat x1)))))), (6, .int (iv v35_6))]) [0, 1, 2, 3, 4, 5] rfl ?_
        exact B82 _ ht35 0 ⟨by omega, by omega, by (first | exact Or.inl ⟨rfl, by omega⟩ | exact Or.inr ⟨rfl, fun h9 => by omega⟩)⟩
      · refine r_aload_n (pc := 62) dX6_sameArc_62 (i := 0) rfl rfl ?_
        refine t_getE (pc := 63) (.ref ka) ht35 (rd_ov (by omega) (rd_ov (by omega) (rd_ov (by omega) (rd_ov (by omega) (rd_of (ov_s _ _ _)))))) fX6_42 dX6_sameArc_63 rfl ?_
        refine t_getE (pc := 66) (.ref kT) ht35 (rd_ov (by omega) (rd_ov (by omega) (rd_ov (by omega) (rd_ov (by omega) (rd_ov (by omega) hk_O))))) fX6_84 dX6_sameArc_66 rfl ?_
        refine r_iload (pc := 69) dX6_sameArc_69 rfl ?_
        refine t_ialdX (pc := 71) (t0 := 0) ht35 (rd_ov (by omega) (rd_ov (by omega) (rd_ov (by omega) (rd_ov (by omega) (rd_ov (by omega) hxk_T))))) dX6_sameArc_71 rfl (by omega) (by omega) (fun b12 => ?_)
        have rb12 := (show Rfx km 0 ((kn : Int) - 1) T2 by assumption) (Int.toNat v35_6) (by omega)
        refine r_iload (pc := 72) dX6_sameArc_72 rfl ?_
        refine t_icmp_ne (pc := 74) (tgt := 81) dX6_sameArc_74 (by decide) (by omega) (by omega) (fun c74 => ?_) (fun c74 => ?_)
        · refine r_iconst (pc := 81) (v := iv 0) dX6_sameArc_81 (by decide) ?_
          refine Rn.pick (lv' := [(0, .ref s), (1, .int (iv x1)), (2, .long j2), (4, .int (iv (Nu (Int.toNat (F (Int.toNat x1)))))), (5, .int (iv (Nu (Int.toNat (T (Int.toNat x1)))))), (6, .int (iv v35_6))]) [0, 1, 2, 3, 4, 5] rfl ?_
          exact B82 _ ht35 0 ⟨by omega, by omega, by (first | exact Or.inl ⟨rfl, by omega⟩ | exact Or.inr ⟨rfl, fun h9 => by omega⟩)⟩
        · refine r_iconst (pc := 77) (v := iv 1) dX6_sameArc_77 (by decide) ?_
          refine r_goto (pc := 78) (tgt := 82) dX6_sameArc_78 (by decide) ?_
          refine Rn.pick (lv' := [(0, .ref s), (1, .int (iv x1)), (2, .long j2), (4, .int (iv (Nu (Int.toNat (F (Int.toNat x1)))))), (5, .int (iv (Nu (Int.toNat (T (Int.toNat x1)))))), (6, .int (iv v35_6))]) [0, 1, 2, 3, 4, 5] rfl ?_
          exact B82 _ ht35 1 ⟨by omega, by omega, by (first | exact Or.inl ⟨rfl, by omega⟩ | exact Or.inr ⟨rfl, fun h9 => by omega⟩)⟩
  refine Rn.pick (lv' := [(0, .ref s), (1, .int (iv x1)), (2, .long j2), (4, .int (iv (Nu (Int.toNat (F (Int.toNat x1)))))), (5, .int (iv (Nu (Int.toNat (T (Int.toNat x1)))))), (6, .int (iv 0))]) [3, 4, 5, 2, 1, 0] rfl ?_
  exact B35 (Int.toNat (60 - 0)) _ t0 0 ⟨by omega, by omega, by omega, by (first | exact hsj | exact sj_0)⟩ (by omega)
