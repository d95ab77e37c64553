theorem CG_RW {Γ : TG} {cI cJ cZ cT : ClassId} {a : Nat} {ct : Int} {rv : Int} {th : Nat → Option Nat} {dn : Int} {dd : Int} {da : Int} {df : Nat → Int} {dt : Nat → Int} {dw : Nat → Int} {dc : Nat → Int} {kn : Int} {kd : Int} {ka : Int} {kf : Nat → Int} {kt : Nat → Int} {kw : Nat → Int} {kc : Nat → Int} {y : Nat} {rf cn nm : Int} {so sz dr mn fr tt wt co : Nat → Int} {nu : Nat → Int64} {qi qc nf nt nw nc : Nat → Int} {sa : Nat → Int} {wo : Nat → Int64} {ln : Nat → Int} {hw : Nat → Int64} {ro : Nat → Int} (hy : a + 14 ≤ y) : CG (RW Γ cI cJ cZ y rf cn nm so sz dr mn fr tt wt co nu qi qc nf nt nw nc sa wo ln hw ro) cI cJ cZ cT a ct rv th dn dd da df dt dw dc kn kd ka kf kt kw kc = RW (CG Γ cI cJ cZ cT a ct rv th dn dd da df dt dw dc kn kd ka kf kt kw kc) cI cJ cZ y rf cn nm so sz dr mn fr tt wt co nu qi qc nf nt nw nc sa wo ln hw ro := by
  funext q
  unfold CG RW
  by_cases h1 : a ≤ q ∧ q < a + 14
  · simp only [if_pos h1, if_neg (show ¬ (y ≤ q ∧ q < y + 43) by omega)]
  · by_cases h2 : y ≤ q ∧ q < y + 43
    · simp only [if_neg h1, if_pos h2]
    · simp only [if_neg h1, if_neg h2]
theorem EK.swapW {Γ : TG} {cI cJ cZ : ClassId} {a : Nat} {ct : Int} {th : Nat → Option Nat} {dn : Int} {dd : Int} {da : Int} {df : Nat → Int} {dt : Nat → Int} {dw : Nat → Int} {dc : Nat → Int} {kn : Int} {kd : Int} {ka : Int} {rf cn nm : Int} {so sz dr mn fr tt wt co : Nat → Int} {nu : Nat → Int64} {qi qc nf nt nw nc : Nat → Int} {sa : Nat → Int} {wo : Nat → Int64} {ln : Nat → Int} {hw : Nat → Int64} {ro : Nat → Int} {rf1 cn1 nm1 : Int} {so1 sz1 dr1 mn1 fr1 tt1 wt1 co1 : Nat → Int} {nu1 : Nat → Int64} {qi1 qc1 nf1 nt1 nw1 nc1 : Nat → Int} {sa1 : Nat → Int} {wo1 : Nat → Int64} {ln1 : Nat → Int} {hw1 : Nat → Int64} {ro1 : Nat → Int} (h : EK (RW Γ cI cJ cZ (a + 41) rf cn nm so sz dr mn fr tt wt co nu qi qc nf nt nw nc sa wo ln hw ro) cI cJ cZ a ct th dn dd da df dt dw dc kn kd ka) : EK (RW Γ cI cJ cZ (a + 41) rf1 cn1 nm1 so1 sz1 dr1 mn1 fr1 tt1 wt1 co1 nu1 qi1 qc1 nf1 nt1 nw1 nc1 sa1 wo1 ln1 hw1 ro1) cI cJ cZ a ct th dn dd da df dt dw dc kn kd ka := EK.same (fun q hq => by rw [RW_o hq, RW_o hq]) h
set_option maxHeartbeats 8000000 in
set_option maxRecDepth 100000 in
theorem init_twW {cI cJ cZ cT : ClassId} {hp : MH} {a : Nat} (g0 : hp a = some (.inr (10, [.ref (a + 1), .int 0, .int 0, .ref (((a + 1) + 1)), .ref (((a + 1) + 7)), .ref (((a + 1) + 13)), .ref (((a + 1) + 15)), .ref (((a + 1) + 21)), .ref (((a + 1) + 26)), .ref (((a + 1) + 35))]))) (g1 : hp (a + 1) = some (.inl (cT, 120, .inr (.inr (.inr (.inr (fun _ => none))))))) (g2 : hp ((a + 1) + 1) = some (.inr (1, [.int 1, .int 0, .int 0, .ref (((a + 1) + 2)), .ref (((a + 1) + 3)), .ref (((a + 1) + 4)), .ref (((a + 1) + 5)), .ref (((a + 1) + 6))]))) (g3 : hp ((a + 1) + 2) = some (.inl (cI, 60, .inl (fun _ => 0)))) (g4 : hp ((a + 1) + 3) = some (.inl (cI, 60, .inl (fun _ => 0)))) (g5 : hp ((a + 1) + 4) = some (.inl (cI, 60, .inl (fun _ => 0)))) (g6 : hp ((a + 1) + 5) = some (.inl (cI, 60, .inl (fun _ => 0)))) (g7 : hp ((a + 1) + 6) = some (.inl (cI, 256, .inl (fun _ => 0)))) (g8 : hp ((a + 1) + 7) = some (.inr (1, [.int 1, .int 0, .int 0, .ref (((a + 1) + 8)), .ref (((a + 1) + 9)), .ref (((a + 1) + 10)), .ref (((a + 1) + 11)), .ref (((a + 1) + 12))]))) (g9 : hp ((a + 1) + 8) = some (.inl (cI, 60, .inl (fun _ => 0)))) (g10 : hp ((a + 1) + 9) = some (.inl (cI, 60, .inl (fun _ => 0)))) (g11 : hp ((a + 1) + 10) = some (.inl (cI, 60, .inl (fun _ => 0)))) (g12 : hp ((a + 1) + 11) = some (.inl (cI, 60, .inl (fun _ => 0)))) (g13 : hp ((a + 1) + 12) = some (.inl (cI, 256, .inl (fun _ => 0)))) (g14 : hp ((a + 1) + 13) = some (.inr (8, [.ref (((a + 1) + 14))]))) (g15 : hp ((a + 1) + 14) = some (.inl (cJ, 256, .inr (.inl (fun _ => 0))))) (g16 : hp ((a + 1) + 15) = some (.inr (7, [.ref (((a + 1) + 16)), .ref (((a + 1) + 17)), .ref (((a + 1) + 18)), .ref (((a + 1) + 19)), .ref (((a + 1) + 20))]))) (g17 : hp ((a + 1) + 16) = some (.inl (cI, 16, .inl (fun _ => 0)))) (g18 : hp ((a + 1) + 17) = some (.inl (cI, 16, .inl (fun _ => 0)))) (g19 : hp ((a + 1) + 18) = some (.inl (cI, 272, .inl (fun _ => 0)))) (g20 : hp ((a + 1) + 19) = some (.inl (cI, 16, .inl (fun _ => 0)))) (g21 : hp ((a + 1) + 20) = some (.inl (cI, 2048, .inl (fun _ => 0)))) (g22 : hp ((a + 1) + 21) = some (.inr (4, [.ref (((a + 1) + 22)), .ref (((a + 1) + 23)), .ref (((a + 1) + 24)), .ref (((a + 1) + 25)), .int 0, .int 0]))) (g23 : hp ((a + 1) + 22) = some (.inl (cI, 16, .inl (fun _ => 0)))) (g24 : hp ((a + 1) + 23) = some (.inl (cI, 16, .inl (fun _ => 0)))) (g25 : hp ((a + 1) + 24) = some (.inl (cI, 16, .inl (fun _ => 0)))) (g26 : hp ((a + 1) + 25) = some (.inl (cI, 16, .inl (fun _ => 0)))) (g27 : hp ((a + 1) + 26) = some (.inr (2, [.ref (((a + 1) + 27)), .ref (((a + 1) + 28)), .ref (((a + 1) + 29)), .int 0, .int 0, .ref (((a + 1) + 30)), .ref (((a + 1) + 31)), .ref (((a + 1) + 32)), .ref (((a + 1) + 33)), .ref (((a + 1) + 34))]))) (g28 : hp ((a + 1) + 27) = some (.inl (cI, 256, .inl (fun _ => 0)))) (g29 : hp ((a + 1) + 28) = some (.inl (cI, 16, .inl (fun _ => 0)))) (g30 : hp ((a + 1) + 29) = some (.inl (cI, 16, .inl (fun _ => 0)))) (g31 : hp ((a + 1) + 30) = some (.inl (cI, 240, .inl (fun _ => 0)))) (g32 : hp ((a + 1) + 31) = some (.inl (cI, 240, .inl (fun _ => 0)))) (g33 : hp ((a + 1) + 32) = some (.inl (cI, 240, .inl (fun _ => 0)))) (g34 : hp ((a + 1) + 33) = some (.inl (cI, 240, .inl (fun _ => 0)))) (g35 : hp ((a + 1) + 34) = some (.inl (cJ, 16, .inr (.inl (fun _ => 0))))) (g36 : hp ((a + 1) + 35) = some (.inr (6, [.ref (((a + 1) + 36)), .ref (((a + 1) + 37)), .ref (((a + 1) + 38)), .ref (((a + 1) + 39))]))) (g37 : hp ((a + 1) + 36) = some (.inl (cJ, 512, .inr (.inl (fun _ => 0))))) (g38 : hp ((a + 1) + 37) = some (.inl (cJ, 544, .inr (.inl (fun _ => 0))))) (g39 : hp ((a + 1) + 38) = some (.inl (cJ, 32, .inr (.inl (fun _ => 0))))) (g40 : hp ((a + 1) + 39) = some (.inl (cI, 16, .inl (fun _ => 0)))) (g41 : hp (a + 41) = some (.inr (11, [.int 0, .int 0, .ref (a + 41 + 1), .ref (((a + 41 + 1) + 1)), .ref (((a + 41 + 1) + 2)), .ref (((a + 41 + 1) + 3)), .ref (((a + 41 + 1) + 4)), .ref (((a + 41 + 1) + 5)), .ref (((a + 41 + 1) + 6)), .ref (((a + 41 + 1) + 7)), .ref (((a + 41 + 1) + 8)), .ref (((a + 41 + 1) + 9)), .ref (((a + 41 + 1) + 10)), .ref (((a + 41 + 1) + 11)), .ref (((a + 41 + 1) + 12)), .ref (((a + 41 + 1) + 13)), .ref (((a + 41 + 1) + 14)), .ref (((a + 41 + 1) + 15)), .ref (((a + 41 + 1) + 16)), .ref (((a + 41 + 1) + 17)), .ref (((a + 41 + 1) + 18)), .ref (((a + 41 + 1) + 19)), .int 0, .ref (((a + 41 + 1) + 20)), .ref (((a + 41 + 1) + 21)), .ref (((a + 41 + 1) + 22)), .ref (((a + 41 + 1) + 23)), .ref (((a + 41 + 1) + 24)), .ref (((a + 41 + 1) + 25)), .ref (((a + 41 + 1) + 26)), .ref (((a + 41 + 1) + 27)), .ref (((a + 41 + 1) + 28)), .ref (((a + 41 + 1) + 29)), .ref (((a + 41 + 1) + 30)), .ref (((a + 41 + 1) + 31)), .ref (((a + 41 + 1) + 32)), .ref (((a + 41 + 1) + 33)), .ref (((a + 41 + 1) + 34)), .ref (((a + 41 + 1) + 35)), .ref (((a + 41 + 1) + 36)), .ref (((a + 41 + 1) + 37)), .ref (((a + 41 + 1) + 38)), .ref (((a + 41 + 1) + 39)), .ref (((a + 41 + 1) + 40)), .ref (((a + 41 + 1) + 41))]))) (g42 : hp (a + 41 + 1) = some (.inl (cI, 121, .inl (fun _ => 0)))) (g43 : hp ((a + 41 + 1) + 1) = some (.inl (cI, 121, .inl (upd (fun _ => 0) 120 1)))) (g44 : hp ((a + 41 + 1) + 2) = some (.inl (cZ, 121, .inl (upd (fun _ => 0) 120 0)))) (g45 : hp ((a + 41 + 1) + 3) = some (.inl (cI, 121, .inl (upd (fun _ => 0) 120 0)))) (g46 : hp ((a + 41 + 1) + 4) = some (.inl (cI, 7260, .inl (fun _ => 0)))) (g47 : hp ((a + 41 + 1) + 5) = some (.inl (cI, 7260, .inl (fun _ => 0)))) (g48 : hp ((a + 41 + 1) + 6) = some (.inl (cI, 7260, .inl (fun _ => 0)))) (g49 : hp ((a + 41 + 1) + 7) = some (.inl (cI, 7260, .inl (fun _ => 0)))) (g50 : hp ((a + 41 + 1) + 8) = some (.inl (cJ, 1936, .inr (.inl (fun _ => 0))))) (g51 : hp ((a + 41 + 1) + 9) = some (.inl (cI, 1936, .inl (fun _ => 0)))) (g52 : hp ((a + 41 + 1) + 10) = some (.inl (cJ, 1936, .inr (.inl (fun _ => 0))))) (g53 : hp ((a + 41 + 1) + 11) = some (.inl (cI, 1936, .inl (fun _ => 0)))) (g54 : hp ((a + 41 + 1) + 12) = some (.inl (cJ, 1936, .inr (.inl (fun _ => 0))))) (g55 : hp ((a + 41 + 1) + 13) = some (.inl (cI, 30976, .inl (fun _ => 0)))) (g56 : hp ((a + 41 + 1) + 14) = some (.inl (cI, 1936, .inl (fun _ => 0)))) (g57 : hp ((a + 41 + 1) + 15) = some (.inl (cI, 121, .inl (fun _ => 0)))) (g58 : hp ((a + 41 + 1) + 16) = some (.inl (cI, 300, .inl (fun _ => 0)))) (g59 : hp ((a + 41 + 1) + 17) = some (.inl (cI, 300, .inl (fun _ => 0)))) (g60 : hp ((a + 41 + 1) + 18) = some (.inl (cI, 300, .inl (fun _ => 0)))) (g61 : hp ((a + 41 + 1) + 19) = some (.inl (cI, 300, .inl (fun _ => 0)))) (g62 : hp ((a + 41 + 1) + 20) = some (.inl (cJ, 16, .inr (.inl (fun _ => 0))))) (g63 : hp ((a + 41 + 1) + 21) = some (.inl (cJ, 16, .inr (.inl (fun _ => 0))))) (g64 : hp ((a + 41 + 1) + 22) = some (.inl (cI, 16, .inl (fun _ => 0)))) (g65 : hp ((a + 41 + 1) + 23) = some (.inl (cI, 16, .inl (fun _ => 0)))) (g66 : hp ((a + 41 + 1) + 24) = some (.inl (cZ, 65536, .inl (fun _ => 0)))) (g67 : hp ((a + 41 + 1) + 25) = some (.inl (cZ, 65536, .inl (fun _ => 0)))) (g68 : hp ((a + 41 + 1) + 26) = some (.inl (cJ, 272, .inr (.inl (fun _ => 0))))) (g69 : hp ((a + 41 + 1) + 27) = some (.inl (cJ, 272, .inr (.inl (fun _ => 0))))) (g70 : hp ((a + 41 + 1) + 28) = some (.inl (cJ, 16, .inr (.inl (fun _ => 0))))) (g71 : hp ((a + 41 + 1) + 29) = some (.inl (cJ, 16, .inr (.inl (fun _ => 0))))) (g72 : hp ((a + 41 + 1) + 30) = some (.inl (cI, 16, .inl (fun _ => 0)))) (g73 : hp ((a + 41 + 1) + 31) = some (.inl (cZ, 60, .inl (fun _ => 0)))) (g74 : hp ((a + 41 + 1) + 32) = some (.inl (cI, 16, .inl (fun _ => 0)))) (g75 : hp ((a + 41 + 1) + 33) = some (.inl (cI, 16, .inl (fun _ => 0)))) (g76 : hp ((a + 41 + 1) + 34) = some (.inl (cI, 65536, .inl (fun _ => 0)))) (g77 : hp ((a + 41 + 1) + 35) = some (.inl (cJ, 65536, .inr (.inl (fun _ => 0))))) (g78 : hp ((a + 41 + 1) + 36) = some (.inl (cI, 16, .inl (fun _ => 0)))) (g79 : hp ((a + 41 + 1) + 37) = some (.inl (cI, 60, .inl (fun _ => 0)))) (g80 : hp ((a + 41 + 1) + 38) = some (.inl (cJ, 16, .inr (.inl (fun _ => 0))))) (g81 : hp ((a + 41 + 1) + 39) = some (.inl (cI, 16, .inl (fun _ => 0)))) (g82 : hp ((a + 41 + 1) + 40) = some (.inl (cZ, 16, .inl (fun _ => 0)))) (g83 : hp ((a + 41 + 1) + 41) = some (.inl (cI, 16, .inl (fun _ => 0)))) : Tw (CG (RW (Γs cI cJ cZ a) cI cJ cZ (a + 41) 0 0 0 (fun _ => ((0 : Int32)).toInt) (fun i => (upd (fun _ => 0) 120 1 i).toInt) (fun i => (upd (fun _ => 0) 120 0 i).toInt) (fun i => (upd (fun _ => 0) 120 0 i).toInt) (fun _ => ((0 : Int32)).toInt) (fun _ => ((0 : Int32)).toInt) (fun _ => ((0 : Int32)).toInt) (fun _ => ((0 : Int32)).toInt) (fun _ => 0) (fun _ => ((0 : Int32)).toInt) (fun _ => ((0 : Int32)).toInt) (fun _ => ((0 : Int32)).toInt) (fun _ => ((0 : Int32)).toInt) (fun _ => ((0 : Int32)).toInt) (fun _ => ((0 : Int32)).toInt) (fun _ => ((0 : Int32)).toInt) (fun _ => 0) (fun _ => ((0 : Int32)).toInt) (fun _ => 0) (fun _ => ((0 : Int32)).toInt)) cI cJ cZ cT a 0 0 (fun _ => none) 1 0 0 (fun _ => ((0 : Int32)).toInt) (fun _ => ((0 : Int32)).toInt) (fun _ => ((0 : Int32)).toInt) (fun _ => ((0 : Int32)).toInt) 1 0 0 (fun _ => ((0 : Int32)).toInt) (fun _ => ((0 : Int32)).toInt) (fun _ => ((0 : Int32)).toInt) (fun _ => ((0 : Int32)).toInt)) hp := by
  intro q T h
  by_cases h1 : a ≤ q ∧ q < a + 14
  · obtain ⟨j, hj, rfl⟩ : ∃ j, j < 14 ∧ q = a + j := ⟨q - a, by omega, by omega⟩
    match j, hj with
    | 0, _ =>
      rw [CG_e 0 (by decide) rfl] at h
      cases h
      exact ⟨_, g0, tO_mk (vs := [.ref (a + 1), .int (iv 0), .int (iv 0), .ref (((a + 1) + 1)), .ref (((a + 1) + 7)), .ref (((a + 1) + 13)), .ref (((a + 1) + 15)), .ref (((a + 1) + 21)), .ref (((a + 1) + 26)), .ref (((a + 1) + 35))])⟩
    | 1, _ =>
      rw [CG_e 1 (by decide) rfl] at h
      cases h
      exact ⟨_, g1, ⟨_, rfl, fun _ _ => rfl⟩⟩
    | 2, _ =>
      rw [CG_e 2 (by decide) rfl] at h
      cases h
      exact ⟨_, g2, tO_mk (vs := [.int (iv 1), .int (iv 0), .int (iv 0), .ref (((a + 1) + 2)), .ref (((a + 1) + 3)), .ref (((a + 1) + 4)), .ref (((a + 1) + 5)), .ref (((a + 1) + 6))])⟩
    | 3, _ =>
      rw [CG_e 3 (by decide) rfl] at h
      cases h
      exact ⟨_, g3, ⟨_, rfl, fun _ _ => rfl⟩⟩
    | 4, _ =>
      rw [CG_e 4 (by decide) rfl] at h
      cases h
      exact ⟨_, g4, ⟨_, rfl, fun _ _ => rfl⟩⟩
    | 5, _ =>
      rw [CG_e 5 (by decide) rfl] at h
      cases h
      exact ⟨_, g5, ⟨_, rfl, fun _ _ => rfl⟩⟩
    | 6, _ =>
      rw [CG_e 6 (by decide) rfl] at h
      cases h
      exact ⟨_, g6, ⟨_, rfl, fun _ _ => rfl⟩⟩
    | 7, _ =>
      rw [CG_e 7 (by decide) rfl] at h
      cases h
      exact ⟨_, g7, ⟨_, rfl, fun _ _ => ⟨by decide, by decide⟩⟩⟩
    | 8, _ =>
      rw [CG_e 8 (by decide) rfl] at h
      cases h
      exact ⟨_, g8, tO_mk (vs := [.int (iv 1), .int (iv 0), .int (iv 0), .ref (((a + 1) + 8)), .ref (((a + 1) + 9)), .ref (((a + 1) + 10)), .ref (((a + 1) + 11)), .ref (((a + 1) + 12))])⟩
    | 9, _ =>
      rw [CG_e 9 (by decide) rfl] at h
      cases h
      exact ⟨_, g9, ⟨_, rfl, fun _ _ => rfl⟩⟩
    | 10, _ =>
      rw [CG_e 10 (by decide) rfl] at h
      cases h
      exact ⟨_, g10, ⟨_, rfl, fun _ _ => rfl⟩⟩
    | 11, _ =>
      rw [CG_e 11 (by decide) rfl] at h
      cases h
      exact ⟨_, g11, ⟨_, rfl, fun _ _ => rfl⟩⟩
    | 12, _ =>
      rw [CG_e 12 (by decide) rfl] at h
      cases h
      exact ⟨_, g12, ⟨_, rfl, fun _ _ => rfl⟩⟩
    | 13, _ =>
      rw [CG_e 13 (by decide) rfl] at h
      cases h
      exact ⟨_, g13, ⟨_, rfl, fun _ _ => ⟨by decide, by decide⟩⟩⟩
    | j + 14, hj => omega
  · rw [CG_o (by omega)] at h
    by_cases h2 : a + 41 ≤ q ∧ q < a + 41 + 43
    · obtain ⟨j, hj, rfl⟩ : ∃ j, j < 43 ∧ q = a + 41 + j := ⟨q - (a + 41), by omega, by omega⟩
      match j, hj with
      | 0, _ =>
        rw [RW_e 0 (by decide) rfl] at h
        cases h
        exact ⟨_, g41, tO_mk (vs := [.int (iv 0), .int (iv 0), .ref (a + 41 + 1), .ref (((a + 41 + 1) + 1)), .ref (((a + 41 + 1) + 2)), .ref (((a + 41 + 1) + 3)), .ref (((a + 41 + 1) + 4)), .ref (((a + 41 + 1) + 5)), .ref (((a + 41 + 1) + 6)), .ref (((a + 41 + 1) + 7)), .ref (((a + 41 + 1) + 8)), .ref (((a + 41 + 1) + 9)), .ref (((a + 41 + 1) + 10)), .ref (((a + 41 + 1) + 11)), .ref (((a + 41 + 1) + 12)), .ref (((a + 41 + 1) + 13)), .ref (((a + 41 + 1) + 14)), .ref (((a + 41 + 1) + 15)), .ref (((a + 41 + 1) + 16)), .ref (((a + 41 + 1) + 17)), .ref (((a + 41 + 1) + 18)), .ref (((a + 41 + 1) + 19)), .int (iv 0), .ref (((a + 41 + 1) + 20)), .ref (((a + 41 + 1) + 21)), .ref (((a + 41 + 1) + 22)), .ref (((a + 41 + 1) + 23)), .ref (((a + 41 + 1) + 24)), .ref (((a + 41 + 1) + 25)), .ref (((a + 41 + 1) + 26)), .ref (((a + 41 + 1) + 27)), .ref (((a + 41 + 1) + 28)), .ref (((a + 41 + 1) + 29)), .ref (((a + 41 + 1) + 30)), .ref (((a + 41 + 1) + 31)), .ref (((a + 41 + 1) + 32)), .ref (((a + 41 + 1) + 33)), .ref (((a + 41 + 1) + 34)), .ref (((a + 41 + 1) + 35)), .ref (((a + 41 + 1) + 36)), .ref (((a + 41 + 1) + 37)), .ref (((a + 41 + 1) + 38)), .ref (((a + 41 + 1) + 39)), .ref (((a + 41 + 1) + 40)), .ref (((a + 41 + 1) + 41))])⟩
      | 1, _ =>
        rw [RW_e 1 (by decide) rfl] at h
        cases h
        exact ⟨_, g42, ⟨_, rfl, fun _ _ => rfl⟩⟩
      | 2, _ =>
        rw [RW_e 2 (by decide) rfl] at h
        cases h
        exact ⟨_, g43, ⟨_, rfl, fun _ _ => rfl⟩⟩
      | 3, _ =>
        rw [RW_e 3 (by decide) rfl] at h
        cases h
        exact ⟨_, g44, ⟨_, rfl, fun _ _ => rfl⟩⟩
      | 4, _ =>
        rw [RW_e 4 (by decide) rfl] at h
        cases h
        exact ⟨_, g45, ⟨_, rfl, fun _ _ => rfl⟩⟩
      | 5, _ =>
        rw [RW_e 5 (by decide) rfl] at h
        cases h
        exact ⟨_, g46, ⟨_, rfl, fun _ _ => rfl⟩⟩
      | 6, _ =>
        rw [RW_e 6 (by decide) rfl] at h
        cases h
        exact ⟨_, g47, ⟨_, rfl, fun _ _ => rfl⟩⟩
      | 7, _ =>
        rw [RW_e 7 (by decide) rfl] at h
        cases h
        exact ⟨_, g48, ⟨_, rfl, fun _ _ => rfl⟩⟩
      | 8, _ =>
        rw [RW_e 8 (by decide) rfl] at h
        cases h
        exact ⟨_, g49, ⟨_, rfl, fun _ _ => rfl⟩⟩
      | 9, _ =>
        rw [RW_e 9 (by decide) rfl] at h
        cases h
        exact ⟨_, g50, ⟨_, rfl, fun _ _ => rfl⟩⟩
      | 10, _ =>
        rw [RW_e 10 (by decide) rfl] at h
        cases h
        exact ⟨_, g51, ⟨_, rfl, fun _ _ => rfl⟩⟩
      | 11, _ =>
        rw [RW_e 11 (by decide) rfl] at h
        cases h
        exact ⟨_, g52, ⟨_, rfl, fun _ _ => rfl⟩⟩
      | 12, _ =>
        rw [RW_e 12 (by decide) rfl] at h
        cases h
        exact ⟨_, g53, ⟨_, rfl, fun _ _ => rfl⟩⟩
      | 13, _ =>
        rw [RW_e 13 (by decide) rfl] at h
        cases h
        exact ⟨_, g54, ⟨_, rfl, fun _ _ => rfl⟩⟩
      | 14, _ =>
        rw [RW_e 14 (by decide) rfl] at h
        cases h
        exact ⟨_, g55, ⟨_, rfl, fun _ _ => rfl⟩⟩
      | 15, _ =>
        rw [RW_e 15 (by decide) rfl] at h
        cases h
        exact ⟨_, g56, ⟨_, rfl, fun _ _ => rfl⟩⟩
      | 16, _ =>
        rw [RW_e 16 (by decide) rfl] at h
        cases h
        exact ⟨_, g57, ⟨_, rfl, fun _ _ => rfl⟩⟩
      | 17, _ =>
        rw [RW_e 17 (by decide) rfl] at h
        cases h
        exact ⟨_, g58, ⟨_, rfl, fun _ _ => rfl⟩⟩
      | 18, _ =>
        rw [RW_e 18 (by decide) rfl] at h
        cases h
        exact ⟨_, g59, ⟨_, rfl, fun _ _ => rfl⟩⟩
      | 19, _ =>
        rw [RW_e 19 (by decide) rfl] at h
        cases h
        exact ⟨_, g60, ⟨_, rfl, fun _ _ => rfl⟩⟩
      | 20, _ =>
        rw [RW_e 20 (by decide) rfl] at h
        cases h
        exact ⟨_, g61, ⟨_, rfl, fun _ _ => rfl⟩⟩
      | 21, _ =>
        rw [RW_e 21 (by decide) rfl] at h
        cases h
        exact ⟨_, g62, ⟨_, rfl, fun _ _ => by first | exact trivial | exact ⟨by decide, by decide⟩⟩⟩
      | 22, _ =>
        rw [RW_e 22 (by decide) rfl] at h
        cases h
        exact ⟨_, g63, ⟨_, rfl, fun _ _ => by first | exact trivial | exact ⟨by decide, by decide⟩⟩⟩
      | 23, _ =>
        rw [RW_e 23 (by decide) rfl] at h
        cases h
        exact ⟨_, g64, ⟨_, rfl, fun _ _ => by first | exact trivial | exact ⟨by decide, by decide⟩⟩⟩
      | 24, _ =>
        rw [RW_e 24 (by decide) rfl] at h
        cases h
        exact ⟨_, g65, ⟨_, rfl, fun _ _ => ⟨by decide, by decide⟩⟩⟩
      | 25, _ =>
        rw [RW_e 25 (by decide) rfl] at h
        cases h
        exact ⟨_, g66, ⟨_, rfl, fun _ _ => ⟨by decide, by decide⟩⟩⟩
      | 26, _ =>
        rw [RW_e 26 (by decide) rfl] at h
        cases h
        exact ⟨_, g67, ⟨_, rfl, fun _ _ => ⟨by decide, by decide⟩⟩⟩
      | 27, _ =>
        rw [RW_e 27 (by decide) rfl] at h
        cases h
        exact ⟨_, g68, ⟨_, rfl, fun _ _ => by first | exact trivial | exact ⟨by decide, by decide⟩⟩⟩
      | 28, _ =>
        rw [RW_e 28 (by decide) rfl] at h
        cases h
        exact ⟨_, g69, ⟨_, rfl, fun _ _ => by first | exact trivial | exact ⟨by decide, by decide⟩⟩⟩
      | 29, _ =>
        rw [RW_e 29 (by decide) rfl] at h
        cases h
        exact ⟨_, g70, ⟨_, rfl, fun _ _ => by first | exact trivial | exact ⟨by decide, by decide⟩⟩⟩
      | 30, _ =>
        rw [RW_e 30 (by decide) rfl] at h
        cases h
        exact ⟨_, g71, ⟨_, rfl, fun _ _ => by first | exact trivial | exact ⟨by decide, by decide⟩⟩⟩
      | 31, _ =>
        rw [RW_e 31 (by decide) rfl] at h
        cases h
        exact ⟨_, g72, ⟨_, rfl, fun _ _ => ⟨by decide, by decide⟩⟩⟩
      | 32, _ =>
        rw [RW_e 32 (by decide) rfl] at h
        cases h
        exact ⟨_, g73, ⟨_, rfl, fun _ _ => ⟨by decide, by decide⟩⟩⟩
      | 33, _ =>
        rw [RW_e 33 (by decide) rfl] at h
        cases h
        exact ⟨_, g74, ⟨_, rfl, fun _ _ => ⟨by decide, by decide⟩⟩⟩
      | 34, _ =>
        rw [RW_e 34 (by decide) rfl] at h
        cases h
        exact ⟨_, g75, ⟨_, rfl, fun _ _ => ⟨by decide, by decide⟩⟩⟩
      | 35, _ =>
        rw [RW_e 35 (by decide) rfl] at h
        cases h
        exact ⟨_, g76, ⟨_, rfl, fun _ _ => by first | exact trivial | exact ⟨by decide, by decide⟩⟩⟩
      | 36, _ =>
        rw [RW_e 36 (by decide) rfl] at h
        cases h
        exact ⟨_, g77, ⟨_, rfl, fun _ _ => by first | exact trivial | exact ⟨by decide, by decide⟩⟩⟩
      | 37, _ =>
        rw [RW_e 37 (by decide) rfl] at h
        cases h
        exact ⟨_, g78, ⟨_, rfl, fun _ _ => ⟨by decide, by decide⟩⟩⟩
      | 38, _ =>
        rw [RW_e 38 (by decide) rfl] at h
        cases h
        exact ⟨_, g79, ⟨_, rfl, fun _ _ => ⟨by decide, by decide⟩⟩⟩
      | 39, _ =>
        rw [RW_e 39 (by decide) rfl] at h
        cases h
        exact ⟨_, g80, ⟨_, rfl, fun _ _ => ⟨by decide, by decide⟩⟩⟩
      | 40, _ =>
        rw [RW_e 40 (by decide) rfl] at h
        cases h
        exact ⟨_, g81, ⟨_, rfl, fun _ _ => ⟨by decide, by decide⟩⟩⟩
      | 41, _ =>
        rw [RW_e 41 (by decide) rfl] at h
        cases h
        exact ⟨_, g82, ⟨_, rfl, fun _ _ => ⟨by decide, by decide⟩⟩⟩
      | 42, _ =>
        rw [RW_e 42 (by decide) rfl] at h
        cases h
        exact ⟨_, g83, ⟨_, rfl, fun _ _ => ⟨by decide, by decide⟩⟩⟩
      | j + 43, hj => omega
    · rw [RW_o (by omega)] at h
      have h3 : a + 14 ≤ q ∧ q < a + 14 + 27 := by
        unfold Γs nwG at h
        by_cases h9 : a + 14 ≤ q ∧ q < a + 14 + (sbL cI cJ cZ a).length
        · exact h9
        · rw [if_neg h9] at h; cases h
      obtain ⟨j, hj, rfl⟩ : ∃ j, j < 27 ∧ q = a + 14 + j := ⟨q - (a + 14), by omega, by omega⟩
      match j, hj with
      | 0, _ =>
        have h8 : nwG (fun _ => none) (a + 14) (sbL cI cJ cZ a) (a + 14 + 0) = some T := h
        rw [nw_at (L := sbL cI cJ cZ a) 0 rfl] at h8
        cases h8
        exact ⟨_, g14, tO_mk (vs := [.ref (((a + 1) + 14))])⟩
      | 1, _ =>
        have h8 : nwG (fun _ => none) (a + 14) (sbL cI cJ cZ a) (a + 14 + 1) = some T := h
        rw [nw_at (L := sbL cI cJ cZ a) 1 rfl] at h8
        cases h8
        exact ⟨_, g15, ⟨_, rfl, fun _ _ => by first | exact trivial | exact ⟨by decide, by decide⟩⟩⟩
      | 2, _ =>
        have h8 : nwG (fun _ => none) (a + 14) (sbL cI cJ cZ a) (a + 14 + 2) = some T := h
        rw [nw_at (L := sbL cI cJ cZ a) 2 rfl] at h8
        cases h8
        exact ⟨_, g16, tO_mk (vs := [.ref (((a + 1) + 16)), .ref (((a + 1) + 17)), .ref (((a + 1) + 18)), .ref (((a + 1) + 19)), .ref (((a + 1) + 20))])⟩
      | 3, _ =>
        have h8 : nwG (fun _ => none) (a + 14) (sbL cI cJ cZ a) (a + 14 + 3) = some T := h
        rw [nw_at (L := sbL cI cJ cZ a) 3 rfl] at h8
        cases h8
        exact ⟨_, g17, ⟨_, rfl, fun _ _ => ⟨by decide, by decide⟩⟩⟩
      | 4, _ =>
        have h8 : nwG (fun _ => none) (a + 14) (sbL cI cJ cZ a) (a + 14 + 4) = some T := h
        rw [nw_at (L := sbL cI cJ cZ a) 4 rfl] at h8
        cases h8
        exact ⟨_, g18, ⟨_, rfl, fun _ _ => ⟨by decide, by decide⟩⟩⟩
      | 5, _ =>
        have h8 : nwG (fun _ => none) (a + 14) (sbL cI cJ cZ a) (a + 14 + 5) = some T := h
        rw [nw_at (L := sbL cI cJ cZ a) 5 rfl] at h8
        cases h8
        exact ⟨_, g19, ⟨_, rfl, fun _ _ => ⟨by decide, by decide⟩⟩⟩
      | 6, _ =>
        have h8 : nwG (fun _ => none) (a + 14) (sbL cI cJ cZ a) (a + 14 + 6) = some T := h
        rw [nw_at (L := sbL cI cJ cZ a) 6 rfl] at h8
        cases h8
        exact ⟨_, g20, ⟨_, rfl, fun _ _ => ⟨by decide, by decide⟩⟩⟩
      | 7, _ =>
        have h8 : nwG (fun _ => none) (a + 14) (sbL cI cJ cZ a) (a + 14 + 7) = some T := h
        rw [nw_at (L := sbL cI cJ cZ a) 7 rfl] at h8
        cases h8
        exact ⟨_, g21, ⟨_, rfl, fun _ _ => by first | exact trivial | exact ⟨by decide, by decide⟩⟩⟩
      | 8, _ =>
        have h8 : nwG (fun _ => none) (a + 14) (sbL cI cJ cZ a) (a + 14 + 8) = some T := h
        rw [nw_at (L := sbL cI cJ cZ a) 8 rfl] at h8
        cases h8
        exact ⟨_, g22, ⟨_, rfl, rfl, fun k T hk => by
        match k, hk with
        | 0, hk => cases hk; first | exact ⟨_, rfl, rfl⟩ | exact ⟨_, rfl, 0, rfl, by decide, by decide⟩ | exact ⟨_, rfl, trivial⟩
        | 1, hk => cases hk; first | exact ⟨_, rfl, rfl⟩ | exact ⟨_, rfl, 0, rfl, by decide, by decide⟩ | exact ⟨_, rfl, trivial⟩
        | 2, hk => cases hk; first | exact ⟨_, rfl, rfl⟩ | exact ⟨_, rfl, 0, rfl, by decide, by decide⟩ | exact ⟨_, rfl, trivial⟩
        | 3, hk => cases hk; first | exact ⟨_, rfl, rfl⟩ | exact ⟨_, rfl, 0, rfl, by decide, by decide⟩ | exact ⟨_, rfl, trivial⟩
        | 4, hk => cases hk; first | exact ⟨_, rfl, rfl⟩ | exact ⟨_, rfl, 0, rfl, by decide, by decide⟩ | exact ⟨_, rfl, trivial⟩
        | 5, hk => cases hk; first | exact ⟨_, rfl, rfl⟩ | exact ⟨_, rfl, 0, rfl, by decide, by decide⟩ | exact ⟨_, rfl, trivial⟩
        | k + 6, hk => cases hk⟩⟩
      | 9, _ =>
        have h8 : nwG (fun _ => none) (a + 14) (sbL cI cJ cZ a) (a + 14 + 9) = some T := h
        rw [nw_at (L := sbL cI cJ cZ a) 9 rfl] at h8
        cases h8
        exact ⟨_, g23, ⟨_, rfl, fun _ _ => ⟨by decide, by decide⟩⟩⟩
      | 10, _ =>
        have h8 : nwG (fun _ => none) (a + 14) (sbL cI cJ cZ a) (a + 14 + 10) = some T := h
        rw [nw_at (L := sbL cI cJ cZ a) 10 rfl] at h8
        cases h8
        exact ⟨_, g24, ⟨_, rfl, fun _ _ => ⟨by decide, by decide⟩⟩⟩
      | 11, _ =>
        have h8 : nwG (fun _ => none) (a + 14) (sbL cI cJ cZ a) (a + 14 + 11) = some T := h
        rw [nw_at (L := sbL cI cJ cZ a) 11 rfl] at h8
        cases h8
        exact ⟨_, g25, ⟨_, rfl, fun _ _ => ⟨by decide, by decide⟩⟩⟩
      | 12, _ =>
        have h8 : nwG (fun _ => none) (a + 14) (sbL cI cJ cZ a) (a + 14 + 12) = some T := h
        rw [nw_at (L := sbL cI cJ cZ a) 12 rfl] at h8
        cases h8
        exact ⟨_, g26, ⟨_, rfl, fun _ _ => ⟨by decide, by decide⟩⟩⟩
      | 13, _ =>
        have h8 : nwG (fun _ => none) (a + 14) (sbL cI cJ cZ a) (a + 14 + 13) = some T := h
        rw [nw_at (L := sbL cI cJ cZ a) 13 rfl] at h8
        cases h8
        exact ⟨_, g27, ⟨_, rfl, rfl, fun k T hk => by
        match k, hk with
        | 0, hk => cases hk; first | exact ⟨_, rfl, rfl⟩ | exact ⟨_, rfl, 0, rfl, by decide, by decide⟩ | exact ⟨_, rfl, trivial⟩
        | 1, hk => cases hk; first | exact ⟨_, rfl, rfl⟩ | exact ⟨_, rfl, 0, rfl, by decide, by decide⟩ | exact ⟨_, rfl, trivial⟩
        | 2, hk => cases hk; first | exact ⟨_, rfl, rfl⟩ | exact ⟨_, rfl, 0, rfl, by decide, by decide⟩ | exact ⟨_, rfl, trivial⟩
        | 3, hk => cases hk; first | exact ⟨_, rfl, rfl⟩ | exact ⟨_, rfl, 0, rfl, by decide, by decide⟩ | exact ⟨_, rfl, trivial⟩
        | 4, hk => cases hk; first | exact ⟨_, rfl, rfl⟩ | exact ⟨_, rfl, 0, rfl, by decide, by decide⟩ | exact ⟨_, rfl, trivial⟩
        | 5, hk => cases hk; first | exact ⟨_, rfl, rfl⟩ | exact ⟨_, rfl, 0, rfl, by decide, by decide⟩ | exact ⟨_, rfl, trivial⟩
        | 6, hk => cases hk; first | exact ⟨_, rfl, rfl⟩ | exact ⟨_, rfl, 0, rfl, by decide, by decide⟩ | exact ⟨_, rfl, trivial⟩
        | 7, hk => cases hk; first | exact ⟨_, rfl, rfl⟩ | exact ⟨_, rfl, 0, rfl, by decide, by decide⟩ | exact ⟨_, rfl, trivial⟩
        | 8, hk => cases hk; first | exact ⟨_, rfl, rfl⟩ | exact ⟨_, rfl, 0, rfl, by decide, by decide⟩ | exact ⟨_, rfl, trivial⟩
        | 9, hk => cases hk; first | exact ⟨_, rfl, rfl⟩ | exact ⟨_, rfl, 0, rfl, by decide, by decide⟩ | exact ⟨_, rfl, trivial⟩
        | k + 10, hk => cases hk⟩⟩
      | 14, _ =>
        have h8 : nwG (fun _ => none) (a + 14) (sbL cI cJ cZ a) (a + 14 + 14) = some T := h
        rw [nw_at (L := sbL cI cJ cZ a) 14 rfl] at h8
        cases h8
        exact ⟨_, g28, ⟨_, rfl, fun _ _ => by first | exact trivial | exact ⟨by decide, by decide⟩⟩⟩
      | 15, _ =>
        have h8 : nwG (fun _ => none) (a + 14) (sbL cI cJ cZ a) (a + 14 + 15) = some T := h
        rw [nw_at (L := sbL cI cJ cZ a) 15 rfl] at h8
        cases h8
        exact ⟨_, g29, ⟨_, rfl, fun _ _ => ⟨by decide, by decide⟩⟩⟩
      | 16, _ =>
        have h8 : nwG (fun _ => none) (a + 14) (sbL cI cJ cZ a) (a + 14 + 16) = some T := h
        rw [nw_at (L := sbL cI cJ cZ a) 16 rfl] at h8
        cases h8
        exact ⟨_, g30, ⟨_, rfl, fun _ _ => ⟨by decide, by decide⟩⟩⟩
      | 17, _ =>
        have h8 : nwG (fun _ => none) (a + 14) (sbL cI cJ cZ a) (a + 14 + 17) = some T := h
        rw [nw_at (L := sbL cI cJ cZ a) 17 rfl] at h8
        cases h8
        exact ⟨_, g31, ⟨_, rfl, fun _ _ => ⟨by decide, by decide⟩⟩⟩
      | 18, _ =>
        have h8 : nwG (fun _ => none) (a + 14) (sbL cI cJ cZ a) (a + 14 + 18) = some T := h
        rw [nw_at (L := sbL cI cJ cZ a) 18 rfl] at h8
        cases h8
        exact ⟨_, g32, ⟨_, rfl, fun _ _ => ⟨by decide, by decide⟩⟩⟩
      | 19, _ =>
        have h8 : nwG (fun _ => none) (a + 14) (sbL cI cJ cZ a) (a + 14 + 19) = some T := h
        rw [nw_at (L := sbL cI cJ cZ a) 19 rfl] at h8
        cases h8
        exact ⟨_, g33, ⟨_, rfl, fun _ _ => by first | exact trivial | exact ⟨by decide, by decide⟩⟩⟩
      | 20, _ =>
        have h8 : nwG (fun _ => none) (a + 14) (sbL cI cJ cZ a) (a + 14 + 20) = some T := h
        rw [nw_at (L := sbL cI cJ cZ a) 20 rfl] at h8
        cases h8
        exact ⟨_, g34, ⟨_, rfl, fun _ _ => by first | exact trivial | exact ⟨by decide, by decide⟩⟩⟩
      | 21, _ =>
        have h8 : nwG (fun _ => none) (a + 14) (sbL cI cJ cZ a) (a + 14 + 21) = some T := h
        rw [nw_at (L := sbL cI cJ cZ a) 21 rfl] at h8
        cases h8
        exact ⟨_, g35, ⟨_, rfl, fun _ _ => by first | exact trivial | exact ⟨by decide, by decide⟩⟩⟩
      | 22, _ =>
        have h8 : nwG (fun _ => none) (a + 14) (sbL cI cJ cZ a) (a + 14 + 22) = some T := h
        rw [nw_at (L := sbL cI cJ cZ a) 22 rfl] at h8
        cases h8
        exact ⟨_, g36, ⟨_, rfl, rfl, fun k T hk => by
        match k, hk with
        | 0, hk => cases hk; first | exact ⟨_, rfl, rfl⟩ | exact ⟨_, rfl, 0, rfl, by decide, by decide⟩ | exact ⟨_, rfl, trivial⟩
        | 1, hk => cases hk; first | exact ⟨_, rfl, rfl⟩ | exact ⟨_, rfl, 0, rfl, by decide, by decide⟩ | exact ⟨_, rfl, trivial⟩
        | 2, hk => cases hk; first | exact ⟨_, rfl, rfl⟩ | exact ⟨_, rfl, 0, rfl, by decide, by decide⟩ | exact ⟨_, rfl, trivial⟩
        | 3, hk => cases hk; first | exact ⟨_, rfl, rfl⟩ | exact ⟨_, rfl, 0, rfl, by decide, by decide⟩ | exact ⟨_, rfl, trivial⟩
        | k + 4, hk => cases hk⟩⟩
      | 23, _ =>
        have h8 : nwG (fun _ => none) (a + 14) (sbL cI cJ cZ a) (a + 14 + 23) = some T := h
        rw [nw_at (L := sbL cI cJ cZ a) 23 rfl] at h8
        cases h8
        exact ⟨_, g37, ⟨_, rfl, fun _ _ => by first | exact trivial | exact ⟨by decide, by decide⟩⟩⟩
      | 24, _ =>
        have h8 : nwG (fun _ => none) (a + 14) (sbL cI cJ cZ a) (a + 14 + 24) = some T := h
        rw [nw_at (L := sbL cI cJ cZ a) 24 rfl] at h8
        cases h8
        exact ⟨_, g38, ⟨_, rfl, fun _ _ => by first | exact trivial | exact ⟨by decide, by decide⟩⟩⟩
      | 25, _ =>
        have h8 : nwG (fun _ => none) (a + 14) (sbL cI cJ cZ a) (a + 14 + 25) = some T := h
        rw [nw_at (L := sbL cI cJ cZ a) 25 rfl] at h8
        cases h8
        exact ⟨_, g39, ⟨_, rfl, fun _ _ => by first | exact trivial | exact ⟨by decide, by decide⟩⟩⟩
      | 26, _ =>
        have h8 : nwG (fun _ => none) (a + 14) (sbL cI cJ cZ a) (a + 14 + 26) = some T := h
        rw [nw_at (L := sbL cI cJ cZ a) 26 rfl] at h8
        cases h8
        exact ⟨_, g40, ⟨_, rfl, fun _ _ => ⟨by decide, by decide⟩⟩⟩
      | j + 27, hj => omega
theorem init_EKW {cI cJ cZ : ClassId} {a : Nat} {rf cn nm : Int} {so sz dr mn fr tt wt co : Nat → Int} {nu : Nat → Int64} {qi qc nf nt nw nc : Nat → Int} {sa : Nat → Int} {wo : Nat → Int64} {ln : Nat → Int} {hw : Nat → Int64} {ro : Nat → Int} : EK (RW (Γs cI cJ cZ a) cI cJ cZ (a + 41) rf cn nm so sz dr mn fr tt wt co nu qi qc nf nt nw nc sa wo ln hw ro) cI cJ cZ a 0 (fun _ => none) 1 0 0 (fun _ => ((0 : Int32)).toInt) (fun _ => ((0 : Int32)).toInt) (fun _ => ((0 : Int32)).toInt) (fun _ => ((0 : Int32)).toInt) 1 0 0 := EK.same (Γ := RG (Γs cI cJ cZ a) cI cJ cZ (a + 41) rf cn nm so sz dr mn fr tt wt co nu qi qc nf nt nw nc) (fun q hq => by rw [RG_o hq, RW_o hq]) init_EK
theorem init_WR : WRk (fun _ => ((0 : Int32)).toInt) (fun _ => ((0 : Int32)).toInt) (fun _ => ((0 : Int32)).toInt) := by
  have z : ∀ (L : Nat) (lo hi : Int), lo ≤ 0 → 0 ≤ hi → Rfx L lo hi (fun _ => ((0 : Int32)).toInt) := fun L lo hi h0 h1 i _ => ⟨h0, h1⟩
  exact ⟨z _ _ _ (by decide) (by decide), z _ _ _ (by decide) (by decide), z _ _ _ (by decide) (by decide)⟩
theorem rd_qL {w8 w9 : Int} {v8 v9 X : Int64} (e : w8 = w9) (a1 : w8 ≠ 0 → v8 = 0) (a2 : w8 = 0 → v8 = X) (b1 : w9 ≠ 0 → v9 = 0) (b2 : w9 = 0 → v9 = X) : v8 = v9 := by
  subst e
  by_cases h : w8 = 0
  · rw [a2 h, b2 h]
  · rw [a1 h, b1 h]
