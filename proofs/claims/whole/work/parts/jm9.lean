set_option maxHeartbeats 4000000 in
set_option maxRecDepth 100000 in
theorem lm_6 {D : va_G} {cI cJ cZ cT : ClassId} {lo b L : Nat} {xs : Nat → Int32} {hp : MH} {n d kr wr a : Nat} {i : Int} {Po : Option Value → MH → Nat → Prop} (hd : 60 ≤ d) (hL : L ≤ 3584) (hi : 0 ≤ i ∧ i + 7 ≤ (L : Int))  (h : LK cI cJ cZ cT a L i hp n kr wr) (kk : ∀ (hp1 : MH) (n1 kr1 wr1 : Nat), LK cI cJ cZ cT a L (i + 7) hp1 n1 kr1 wr1 → Rn (gG D cI cJ cZ cT lo b L xs) mL_law d 1077 [(0, .ref b), (1, .ref a), (2, .ref (a + 41)), (3, .int (iv i))] [] hp1 n1 kr1 wr1 Po) : Rn (gG D cI cJ cZ cT lo b L xs) mL_law d 396 [(0, .ref b), (1, .ref a), (2, .ref (a + 41)), (3, .int (iv i))] [] hp n kr wr Po := by
  obtain ⟨Γ, rf, cn, nm, so, sz, dr, mn, fr, tt, wt, co, nu, qi, qc, nf, nt, nw, nc, sa, wo, ln, hw, ro, th, dn, dd, da, df, dt, dw, dc, kn, kd, ka, kf, kt, kw, kc, ht, hk, hrk, hdq, hm, hv, hwr9, hna, hkr, hwr⟩ := h
  have hmR := HM.same (fun q hq => (RW_o hq).symm : ∀ q : Nat, (q < a + 41 ∨ a + 41 + 43 ≤ q) → Γ q = (RW Γ cI cJ cZ (a + 41) rf cn nm so sz dr mn fr tt wt co nu qi qc nf nt nw nc sa wo ln hw ro) q) hm
  have hvR := HV.same (fun q hq => (RW_o hq).symm : ∀ q : Nat, (q < a + 41 ∨ a + 41 + 43 ≤ q) → Γ q = (RW Γ cI cJ cZ (a + 41) rf cn nm so sz dr mn fr tt wt co nu qi qc nf nt nw nc sa wo ln hw ro) q) hv
  have hcn9 := hk.1
  have hrv : -2147483648 ≤ rf ∧ rf ≤ 2147483647 := hrk.2.2.2.2.2.2.2.2.2.2.2.1
  refine r_aload_n (pc := 396) dL_law_396 (i := 1) rfl rfl ?_
  refine r_aload_n (pc := 397) dL_law_397 (i := 0) rfl rfl ?_
  refine r_iload_n (pc := 398) dL_law_398 (i := 3) rfl rfl ?_
  refine r_iconst (pc := 399) (v := iv 1) dL_law_399 (by decide) ?_
  refine r_iadd (pc := 400) (v := iv (i + 1)) dL_law_400 (iv_add _ _) ?_
  refine w_sld (pc := 401) (v := iv ((xs (Int.toNat (i + 1))).toInt)) dL_law_401 (iv_in (L := L) (by omega) (by omega)) (by rw [iv_clamp (by omega) (by omega)]; exact (iv_of _).symm) ?_
  have lo401 := iv_lo (xs (Int.toNat (i + 1)))
  have hi401 := iv_hi (xs (Int.toNat (i + 1)))
  refine r_aload_n (pc := 402) dL_law_402 (i := 0) rfl rfl ?_
  refine r_iload_n (pc := 403) dL_law_403 (i := 3) rfl rfl ?_
  refine r_iconst (pc := 404) (v := iv 2) dL_law_404 (by decide) ?_
  refine r_iadd (pc := 405) (v := iv (i + 2)) dL_law_405 (iv_add _ _) ?_
  refine w_sld (pc := 406) (v := iv ((xs (Int.toNat (i + 2))).toInt)) dL_law_406 (iv_in (L := L) (by omega) (by omega)) (by rw [iv_clamp (by omega) (by omega)]; exact (iv_of _).symm) ?_
  have lo406 := iv_lo (xs (Int.toNat (i + 2)))
  have hi406 := iv_hi (xs (Int.toNat (i + 2)))
  refine r_i2l (pc := 407) (v := (iv ((xs (Int.toNat (i + 2))).toInt)).toInt64) dL_law_407 rfl ?_
  refine r_bipush (pc := 408) (v := iv 32) dL_law_408 (by decide) ?_
  refine r_lshl (pc := 410) dL_law_410 ?_
  refine r_aload_n (pc := 411) dL_law_411 (i := 0) rfl rfl ?_
  refine r_iload_n (pc := 412) dL_law_412 (i := 3) rfl rfl ?_
  refine r_iconst (pc := 413) (v := iv 3) dL_law_413 (by decide) ?_
  refine r_iadd (pc := 414) (v := iv (i + 3)) dL_law_414 (iv_add _ _) ?_
  refine w_sld (pc := 415) (v := iv ((xs (Int.toNat (i + 3))).toInt)) dL_law_415 (iv_in (L := L) (by omega) (by omega)) (by rw [iv_clamp (by omega) (by omega)]; exact (iv_of _).symm) ?_
  have lo415 := iv_lo (xs (Int.toNat (i + 3)))
  have hi415 := iv_hi (xs (Int.toNat (i + 3)))
  refine r_i2l (pc := 416) (v := (iv ((xs (Int.toNat (i + 3))).toInt)).toInt64) dL_law_416 rfl ?_
  refine r_ldc2 (pc := 417) (v := 4294967295) dL_law_417 kL_42 ?_
  have hk417 : (4294967295 : Int64).toInt = 4294967295 := by decide
  refine r_land (pc := 420) (v := ((iv ((xs (Int.toNat (i + 3))).toInt)).toInt64) &&& (4294967295 : Int64)) dL_law_420 rfl ?_
  refine r_lor (pc := 421) (v := (((iv ((xs (Int.toNat (i + 2))).toInt)).toInt64) <<< ((iv 32).toInt64 &&& 63)) ||| (((iv ((xs (Int.toNat (i + 3))).toInt)).toInt64) &&& (4294967295 : Int64))) dL_law_421 rfl ?_
  refine r_aload_n (pc := 422) dL_law_422 (i := 0) rfl rfl ?_
  refine r_iload_n (pc := 423) dL_law_423 (i := 3) rfl rfl ?_
  refine r_iconst (pc := 424) (v := iv 4) dL_law_424 (by decide) ?_
  refine r_iadd (pc := 425) (v := iv (i + 4)) dL_law_425 (iv_add _ _) ?_
  refine w_sld (pc := 426) (v := iv ((xs (Int.toNat (i + 4))).toInt)) dL_law_426 (iv_in (L := L) (by omega) (by omega)) (by rw [iv_clamp (by omega) (by omega)]; exact (iv_of _).symm) ?_
  have lo426 := iv_lo (xs (Int.toNat (i + 4)))
  have hi426 := iv_hi (xs (Int.toNat (i + 4)))
  refine r_aload_n (pc := 427) dL_law_427 (i := 0) rfl rfl ?_
  refine r_iload_n (pc := 428) dL_law_428 (i := 3) rfl rfl ?_
  refine r_iconst (pc := 429) (v := iv 5) dL_law_429 (by decide) ?_
  refine r_iadd (pc := 430) (v := iv (i + 5)) dL_law_430 (iv_add _ _) ?_
  refine w_sld (pc := 431) (v := iv ((xs (Int.toNat (i + 5))).toInt)) dL_law_431 (iv_in (L := L) (by omega) (by omega)) (by rw [iv_clamp (by omega) (by omega)]; exact (iv_of _).symm) ?_
  have lo431 := iv_lo (xs (Int.toNat (i + 5)))
  have hi431 := iv_hi (xs (Int.toNat (i + 5)))
  refine r_i2l (pc := 432) (v := (iv ((xs (Int.toNat (i + 5))).toInt)).toInt64) dL_law_432 rfl ?_
  refine r_bipush (pc := 433) (v := iv 32) dL_law_433 (by decide) ?_
  refine r_lshl (pc := 435) dL_law_435 ?_
  refine r_aload_n (pc := 436) dL_law_436 (i := 0) rfl rfl ?_
  refine r_iload_n (pc := 437) dL_law_437 (i := 3) rfl rfl ?_
  refine r_bipush (pc := 438) (v := iv 6) dL_law_438 (by decide) ?_
  refine r_iadd (pc := 440) (v := iv (i + 6)) dL_law_440 (iv_add _ _) ?_
  refine w_sld (pc := 441) (v := iv ((xs (Int.toNat (i + 6))).toInt)) dL_law_441 (iv_in (L := L) (by omega) (by omega)) (by rw [iv_clamp (by omega) (by omega)]; exact (iv_of _).symm) ?_
  have lo441 := iv_lo (xs (Int.toNat (i + 6)))
  have hi441 := iv_hi (xs (Int.toNat (i + 6)))
  refine r_i2l (pc := 442) (v := (iv ((xs (Int.toNat (i + 6))).toInt)).toInt64) dL_law_442 rfl ?_
  refine r_ldc2 (pc := 443) (v := 4294967295) dL_law_443 kL_42 ?_
  have hk443 : (4294967295 : Int64).toInt = 4294967295 := by decide
  refine r_land (pc := 446) (v := ((iv ((xs (Int.toNat (i + 6))).toInt)).toInt64) &&& (4294967295 : Int64)) dL_law_446 rfl ?_
  refine r_lor (pc := 447) (v := (((iv ((xs (Int.toNat (i + 5))).toInt)).toInt64) <<< ((iv 32).toInt64 &&& 63)) ||| (((iv ((xs (Int.toNat (i + 6))).toInt)).toInt64) &&& (4294967295 : Int64))) dL_law_447 rfl ?_
  obtain ⟨fs7, hfs7⟩ := t_obj ht (rd_of CG_0)
  refine r_callV (pc := 448) (as := [.int (iv ((xs (Int.toNat (i + 1))).toInt)), .long ((((iv ((xs (Int.toNat (i + 2))).toInt)).toInt64) <<< ((iv 32).toInt64 &&& 63)) ||| (((iv ((xs (Int.toNat (i + 3))).toInt)).toInt64) &&& (4294967295 : Int64))), .int (iv ((xs (Int.toNat (i + 4))).toInt)), .long ((((iv ((xs (Int.toNat (i + 5))).toInt)).toInt64) <<< ((iv 32).toInt64 &&& 63)) ||| (((iv ((xs (Int.toNat (i + 6))).toInt)).toInt64) &&& (4294967295 : Int64)))]) (st := []) kL_44 rfl dL_law_448 hfs7 (y_X11_flat (d := d - 1) (x1 := ((xs (Int.toNat (i + 1))).toInt)) (j2 := (((iv ((xs (Int.toNat (i + 2))).toInt)).toInt64) <<< ((iv 32).toInt64 &&& 63)) ||| (((iv ((xs (Int.toNat (i + 3))).toInt)).toInt64) &&& (4294967295 : Int64))) (x3 := ((xs (Int.toNat (i + 4))).toInt)) (j4 := (((iv ((xs (Int.toNat (i + 5))).toInt)).toInt64) <<< ((iv 32).toInt64 &&& 63)) ||| (((iv ((xs (Int.toNat (i + 6))).toInt)).toInt64) &&& (4294967295 : Int64))) (by omega) hk hmR hrv (by omega) ht (by omega) (by omega)) rfl (by omega) (Nat.le_of_ble_eq_true rfl) (by omega) (by omega) rfl (fun r1 hp2 n3 hq4 => ?_)
  obtain ⟨hnn3, Γ8, ct8, rv8, th8, kn8, kd8, ka8, kf8, kt8, kw8, kc8, v8, hE8, ht5, hk8, hrr1, hA8, hb8, c1, c2⟩ := hq4
  subst r1
  have ex8 := RW_x hE8
  have ht6 := Tw_eq (Γ1 := (CG (RW Γ8 cI cJ cZ (a + 41) rf cn nm so sz dr mn fr tt wt co nu qi qc nf nt nw nc sa wo ln hw ro) cI cJ cZ cT a ct8 rv8 th8 dn dd da df dt dw dc kn8 kd8 ka8 kf8 kt8 kw8 kc8)) (by rw [ex8]) ht5
  have hk9 := hk8
  rw [← ex8] at hk9
  change Rn _ _ _ 451 _ [.int (iv v8)] _ _ _ _ _
  refine r_aload_n (pc := 451) dL_law_451 (i := 2) rfl rfl ?_
  refine r_aload_n (pc := 452) dL_law_452 (i := 0) rfl rfl ?_
  refine r_iload_n (pc := 453) dL_law_453 (i := 3) rfl rfl ?_
  refine r_iconst (pc := 454) (v := iv 1) dL_law_454 (by decide) ?_
  refine r_iadd (pc := 455) (v := iv (i + 1)) dL_law_455 (iv_add _ _) ?_
  refine w_sld (pc := 456) (v := iv ((xs (Int.toNat (i + 1))).toInt)) dL_law_456 (iv_in (L := L) (by omega) (by omega)) (by rw [iv_clamp (by omega) (by omega)]; exact (iv_of _).symm) ?_
  have lo456 := iv_lo (xs (Int.toNat (i + 1)))
  have hi456 := iv_hi (xs (Int.toNat (i + 1)))
  refine r_aload_n (pc := 457) dL_law_457 (i := 0) rfl rfl ?_
  refine r_iload_n (pc := 458) dL_law_458 (i := 3) rfl rfl ?_
  refine r_iconst (pc := 459) (v := iv 2) dL_law_459 (by decide) ?_
  refine r_iadd (pc := 460) (v := iv (i + 2)) dL_law_460 (iv_add _ _) ?_
  refine w_sld (pc := 461) (v := iv ((xs (Int.toNat (i + 2))).toInt)) dL_law_461 (iv_in (L := L) (by omega) (by omega)) (by rw [iv_clamp (by omega) (by omega)]; exact (iv_of _).symm) ?_
  have lo461 := iv_lo (xs (Int.toNat (i + 2)))
  have hi461 := iv_hi (xs (Int.toNat (i + 2)))
  refine r_i2l (pc := 462) (v := (iv ((xs (Int.toNat (i + 2))).toInt)).toInt64) dL_law_462 rfl ?_
  refine r_bipush (pc := 463) (v := iv 32) dL_law_463 (by decide) ?_
  refine r_lshl (pc := 465) dL_law_465 ?_
  refine r_aload_n (pc := 466) dL_law_466 (i := 0) rfl rfl ?_
  refine r_iload_n (pc := 467) dL_law_467 (i := 3) rfl rfl ?_
  refine r_iconst (pc := 468) (v := iv 3) dL_law_468 (by decide) ?_
  refine r_iadd (pc := 469) (v := iv (i + 3)) dL_law_469 (iv_add _ _) ?_
  refine w_sld (pc := 470) (v := iv ((xs (Int.toNat (i + 3))).toInt)) dL_law_470 (iv_in (L := L) (by omega) (by omega)) (by rw [iv_clamp (by omega) (by omega)]; exact (iv_of _).symm) ?_
  have lo470 := iv_lo (xs (Int.toNat (i + 3)))
  have hi470 := iv_hi (xs (Int.toNat (i + 3)))
  refine r_i2l (pc := 471) (v := (iv ((xs (Int.toNat (i + 3))).toInt)).toInt64) dL_law_471 rfl ?_
  refine r_ldc2 (pc := 472) (v := 4294967295) dL_law_472 kL_42 ?_
  have hk472 : (4294967295 : Int64).toInt = 4294967295 := by decide
  refine r_land (pc := 475) (v := ((iv ((xs (Int.toNat (i + 3))).toInt)).toInt64) &&& (4294967295 : Int64)) dL_law_475 rfl ?_
  refine r_lor (pc := 476) (v := (((iv ((xs (Int.toNat (i + 2))).toInt)).toInt64) <<< ((iv 32).toInt64 &&& 63)) ||| (((iv ((xs (Int.toNat (i + 3))).toInt)).toInt64) &&& (4294967295 : Int64))) dL_law_476 rfl ?_
  refine r_aload_n (pc := 477) dL_law_477 (i := 0) rfl rfl ?_
  refine r_iload_n (pc := 478) dL_law_478 (i := 3) rfl rfl ?_
  refine r_iconst (pc := 479) (v := iv 4) dL_law_479 (by decide) ?_
  refine r_iadd (pc := 480) (v := iv (i + 4)) dL_law_480 (iv_add _ _) ?_
  refine w_sld (pc := 481) (v := iv ((xs (Int.toNat (i + 4))).toInt)) dL_law_481 (iv_in (L := L) (by omega) (by omega)) (by rw [iv_clamp (by omega) (by omega)]; exact (iv_of _).symm) ?_
  have lo481 := iv_lo (xs (Int.toNat (i + 4)))
  have hi481 := iv_hi (xs (Int.toNat (i + 4)))
  refine r_aload_n (pc := 482) dL_law_482 (i := 0) rfl rfl ?_
  refine r_iload_n (pc := 483) dL_law_483 (i := 3) rfl rfl ?_
  refine r_iconst (pc := 484) (v := iv 5) dL_law_484 (by decide) ?_
  refine r_iadd (pc := 485) (v := iv (i + 5)) dL_law_485 (iv_add _ _) ?_
  refine w_sld (pc := 486) (v := iv ((xs (Int.toNat (i + 5))).toInt)) dL_law_486 (iv_in (L := L) (by omega) (by omega)) (by rw [iv_clamp (by omega) (by omega)]; exact (iv_of _).symm) ?_
  have lo486 := iv_lo (xs (Int.toNat (i + 5)))
  have hi486 := iv_hi (xs (Int.toNat (i + 5)))
  refine r_i2l (pc := 487) (v := (iv ((xs (Int.toNat (i + 5))).toInt)).toInt64) dL_law_487 rfl ?_
  refine r_bipush (pc := 488) (v := iv 32) dL_law_488 (by decide) ?_
  refine r_lshl (pc := 490) dL_law_490 ?_
  refine r_aload_n (pc := 491) dL_law_491 (i := 0) rfl rfl ?_
  refine r_iload_n (pc := 492) dL_law_492 (i := 3) rfl rfl ?_
  refine r_bipush (pc := 493) (v := iv 6) dL_law_493 (by decide) ?_
  refine r_iadd (pc := 495) (v := iv (i + 6)) dL_law_495 (iv_add _ _) ?_
  refine w_sld (pc := 496) (v := iv ((xs (Int.toNat (i + 6))).toInt)) dL_law_496 (iv_in (L := L) (by omega) (by omega)) (by rw [iv_clamp (by omega) (by omega)]; exact (iv_of _).symm) ?_
  have lo496 := iv_lo (xs (Int.toNat (i + 6)))
  have hi496 := iv_hi (xs (Int.toNat (i + 6)))
  refine r_i2l (pc := 497) (v := (iv ((xs (Int.toNat (i + 6))).toInt)).toInt64) dL_law_497 rfl ?_
  refine r_ldc2 (pc := 498) (v := 4294967295) dL_law_498 kL_42 ?_
  have hk498 : (4294967295 : Int64).toInt = 4294967295 := by decide
  refine r_land (pc := 501) (v := ((iv ((xs (Int.toNat (i + 6))).toInt)).toInt64) &&& (4294967295 : Int64)) dL_law_501 rfl ?_
  refine r_lor (pc := 502) (v := (((iv ((xs (Int.toNat (i + 5))).toInt)).toInt64) <<< ((iv 32).toInt64 &&& 63)) ||| (((iv ((xs (Int.toNat (i + 6))).toInt)).toInt64) &&& (4294967295 : Int64))) dL_law_502 rfl ?_
  have ht13 := Tw_eq (Γ1 := RW (CG Γ8 cI cJ cZ cT a ct8 rv8 th8 dn dd da df dt dw dc kn8 kd8 ka8 kf8 kt8 kw8 kc8) cI cJ cZ (a + 41) rf cn nm so sz dr mn fr tt wt co nu qi qc nf nt nw nc sa wo ln hw ro) (CG_RW (by omega)) ht6
  obtain ⟨fs14, hfs14⟩ := t_obj ht13 (rd_of RW_y)
  refine r_callV (pc := 503) (as := [.int (iv ((xs (Int.toNat (i + 1))).toInt)), .long ((((iv ((xs (Int.toNat (i + 2))).toInt)).toInt64) <<< ((iv 32).toInt64 &&& 63)) ||| (((iv ((xs (Int.toNat (i + 3))).toInt)).toInt64) &&& (4294967295 : Int64))), .int (iv ((xs (Int.toNat (i + 4))).toInt)), .long ((((iv ((xs (Int.toNat (i + 5))).toInt)).toInt64) <<< ((iv 32).toInt64 &&& 63)) ||| (((iv ((xs (Int.toNat (i + 6))).toInt)).toInt64) &&& (4294967295 : Int64)))]) (st := [.int (iv v8)]) kL_48 rfl dL_law_503 hfs14 (zw_X12_flat (d := d - 1) (x1 := ((xs (Int.toNat (i + 1))).toInt)) (j2 := (((iv ((xs (Int.toNat (i + 2))).toInt)).toInt64) <<< ((iv 32).toInt64 &&& 63)) ||| (((iv ((xs (Int.toNat (i + 3))).toInt)).toInt64) &&& (4294967295 : Int64))) (x3 := ((xs (Int.toNat (i + 4))).toInt)) (j4 := (((iv ((xs (Int.toNat (i + 5))).toInt)).toInt64) <<< ((iv 32).toInt64 &&& 63)) ||| (((iv ((xs (Int.toNat (i + 6))).toInt)).toInt64) &&& (4294967295 : Int64))) (by omega) hrk hwr9 ht13 (by omega) (by omega) (fun _ _ _ h => h)) rfl (by omega) (Nat.le_of_ble_eq_true rfl) (by omega) (by omega) rfl (fun r8 hp9 n10 hq11 => ?_)
  obtain ⟨hnn10, rf9, cn9, so9, sz9, nu9, v9, ht12, hrr8, f0, f1, f2, f3, f4, f5, f6⟩ := hq11
  subst n10 r8
  have hcmp : v8 = v9 := hA8.trans f3.symm
  have hv9 := mv_X hvR (by omega) hE8 hcmp c1 c2 (fun h9 => ⟨(f4 h9).1, (f4 h9).2.1, (f4 h9).2.2.1⟩) (fun h9 => ⟨(f5 h9).1, (f5 h9).2.1, (f5 h9).2.2.1⟩) (by decide)
  obtain ⟨hm9, hec, her⟩ := mg_F hmR (by omega) hE8 hcmp c1 c2 f4 f5 f6
  subst ct8 rv8
  rw [← CG_RW (by omega)] at ht12
  have hv9r : -2147483648 ≤ v9 ∧ v9 ≤ 2147483647 := by omega
  change Rn _ _ _ 506 _ [.int (iv v9), .int (iv v8)] _ _ _ _ _
  refine t_icmp_eq (pc := 506) (tgt := 1077) dL_law_506 (by decide) (by omega) (by omega) (fun c506 => ?_) (fun c506 => ?_)
  · refine Rn.pick (lv' := [(0, .ref b), (1, .ref a), (2, .ref (a + 41)), (3, .int (iv i))]) [0, 1, 2, 3] rfl ?_
    exact kk _ _ _ _ ⟨Γ8, rf9, cn9, nm, so9, sz9, dr, mn, fr, tt, wt, co, nu9, qi, qc, nf, nt, nw, nc, sa, wo, ln, hw, ro, th8, dn, dd, da, df, dt, dw, dc, kn8, kd8, ka8, kf8, kt8, kw8, kc8, ht12, (EK.swapW hk9), f0, (DQ_r hdq f1), hm9, hv9, hwr9, by omega, by omega, by omega⟩
  · exfalso
    omega
set_option maxHeartbeats 4000000 in
set_option maxRecDepth 100000 in
theorem lm_7 {D : va_G} {cI cJ cZ cT : ClassId} {lo b L : Nat} {xs : Nat → Int32} {hp : MH} {n d kr wr a : Nat} {i : Int} {Po : Option Value → MH → Nat → Prop} (hd : 60 ≤ d) (hL : L ≤ 3584) (hi : 0 ≤ i ∧ i + 7 ≤ (L : Int))  (h : LK cI cJ cZ cT a L i hp n kr wr) (kk : ∀ (hp1 : MH) (n1 kr1 wr1 : Nat), LK cI cJ cZ cT a L (i + 7) hp1 n1 kr1 wr1 → Rn (gG D cI cJ cZ cT lo b L xs) mL_law d 1077 [(0, .ref b), (1, .ref a), (2, .ref (a + 41)), (3, .int (iv i))] [] hp1 n1 kr1 wr1 Po) : Rn (gG D cI cJ cZ cT lo b L xs) mL_law d 511 [(0, .ref b), (1, .ref a), (2, .ref (a + 41)), (3, .int (iv i))] [] hp n kr wr Po := by
  obtain ⟨Γ, rf, cn, nm, so, sz, dr, mn, fr, tt, wt, co, nu, qi, qc, nf, nt, nw, nc, sa, wo, ln, hw, ro, th, dn, dd, da, df, dt, dw, dc, kn, kd, ka, kf, kt, kw, kc, ht, hk, hrk, hdq, hm, hv, hwr9, hna, hkr, hwr⟩ := h
  have hmR := HM.same (fun q hq => (RW_o hq).symm : ∀ q : Nat, (q < a + 41 ∨ a + 41 + 43 ≤ q) → Γ q = (RW Γ cI cJ cZ (a + 41) rf cn nm so sz dr mn fr tt wt co nu qi qc nf nt nw nc sa wo ln hw ro) q) hm
  have hvR := HV.same (fun q hq => (RW_o hq).symm : ∀ q : Nat, (q < a + 41 ∨ a + 41 + 43 ≤ q) → Γ q = (RW Γ cI cJ cZ (a + 41) rf cn nm so sz dr mn fr tt wt co nu qi qc nf nt nw nc sa wo ln hw ro) q) hv
  have hcn9 := hk.1
  have hrv : -2147483648 ≤ rf ∧ rf ≤ 2147483647 := hrk.2.2.2.2.2.2.2.2.2.2.2.1
  refine r_aload_n (pc := 511) dL_law_511 (i := 1) rfl rfl ?_
  refine r_aload_n (pc := 512) dL_law_512 (i := 0) rfl rfl ?_
  refine r_iload_n (pc := 513) dL_law_513 (i := 3) rfl rfl ?_
  refine r_iconst (pc := 514) (v := iv 1) dL_law_514 (by decide) ?_
  refine r_iadd (pc := 515) (v := iv (i + 1)) dL_law_515 (iv_add _ _) ?_
  refine w_sld (pc := 516) (v := iv ((xs (Int.toNat (i + 1))).toInt)) dL_law_516 (iv_in (L := L) (by omega) (by omega)) (by rw [iv_clamp (by omega) (by omega)]; exact (iv_of _).symm) ?_
  have lo516 := iv_lo (xs (Int.toNat (i + 1)))
  have hi516 := iv_hi (xs (Int.toNat (i + 1)))
  refine r_aload_n (pc := 517) dL_law_517 (i := 0) rfl rfl ?_
  refine r_iload_n (pc := 518) dL_law_518 (i := 3) rfl rfl ?_
  refine r_iconst (pc := 519) (v := iv 2) dL_law_519 (by decide) ?_
  refine r_iadd (pc := 520) (v := iv (i + 2)) dL_law_520 (iv_add _ _) ?_
  refine w_sld (pc := 521) (v := iv ((xs (Int.toNat (i + 2))).toInt)) dL_law_521 (iv_in (L := L) (by omega) (by omega)) (by rw [iv_clamp (by omega) (by omega)]; exact (iv_of _).symm) ?_
  have lo521 := iv_lo (xs (Int.toNat (i + 2)))
  have hi521 := iv_hi (xs (Int.toNat (i + 2)))
  refine r_aload_n (pc := 522) dL_law_522 (i := 0) rfl rfl ?_
  refine r_iload_n (pc := 523) dL_law_523 (i := 3) rfl rfl ?_
  refine r_iconst (pc := 524) (v := iv 3) dL_law_524 (by decide) ?_
  refine r_iadd (pc := 525) (v := iv (i + 3)) dL_law_525 (iv_add _ _) ?_
  refine w_sld (pc := 526) (v := iv ((xs (Int.toNat (i + 3))).toInt)) dL_law_526 (iv_in (L := L) (by omega) (by omega)) (by rw [iv_clamp (by omega) (by omega)]; exact (iv_of _).symm) ?_
  have lo526 := iv_lo (xs (Int.toNat (i + 3)))
  have hi526 := iv_hi (xs (Int.toNat (i + 3)))
  obtain ⟨fs7, hfs7⟩ := t_obj ht (rd_of CG_0)
  refine r_callV (pc := 527) (as := [.int (iv ((xs (Int.toNat (i + 1))).toInt)), .int (iv ((xs (Int.toNat (i + 2))).toInt)), .int (iv ((xs (Int.toNat (i + 3))).toInt))]) (st := []) kL_49 rfl dL_law_527 hfs7 (y_X11_mix (d := d - 1) (x1 := ((xs (Int.toNat (i + 1))).toInt)) (x2 := ((xs (Int.toNat (i + 2))).toInt)) (x3 := ((xs (Int.toNat (i + 3))).toInt)) (by omega) hk hmR hrv (by omega) ht (by omega) (by omega) (by omega)) rfl (by omega) (Nat.le_of_ble_eq_true rfl) (by omega) (by omega) rfl (fun r1 hp2 n3 hq4 => ?_)
  obtain ⟨hnn3, Γ8, ct8, rv8, th8, kn8, kd8, ka8, kf8, kt8, kw8, kc8, v8, hE8, ht5, hk8, hrr1, hA8, hb8, c1, c2⟩ := hq4
  subst r1
  have ex8 := RW_x hE8
  have ht6 := Tw_eq (Γ1 := (CG (RW Γ8 cI cJ cZ (a + 41) rf cn nm so sz dr mn fr tt wt co nu qi qc nf nt nw nc sa wo ln hw ro) cI cJ cZ cT a ct8 rv8 th8 dn dd da df dt dw dc kn8 kd8 ka8 kf8 kt8 kw8 kc8)) (by rw [ex8]) ht5
  have hk9 := hk8
  rw [← ex8] at hk9
  change Rn _ _ _ 530 _ [.int (iv v8)] _ _ _ _ _
  refine r_aload_n (pc := 530) dL_law_530 (i := 2) rfl rfl ?_
  refine r_aload_n (pc := 531) dL_law_531 (i := 0) rfl rfl ?_
  refine r_iload_n (pc := 532) dL_law_532 (i := 3) rfl rfl ?_
  refine r_iconst (pc := 533) (v := iv 1) dL_law_533 (by decide) ?_
  refine r_iadd (pc := 534) (v := iv (i + 1)) dL_law_534 (iv_add _ _) ?_
  refine w_sld (pc := 535) (v := iv ((xs (Int.toNat (i + 1))).toInt)) dL_law_535 (iv_in (L := L) (by omega) (by omega)) (by rw [iv_clamp (by omega) (by omega)]; exact (iv_of _).symm) ?_
  have lo535 := iv_lo (xs (Int.toNat (i + 1)))
  have hi535 := iv_hi (xs (Int.toNat (i + 1)))
  refine r_aload_n (pc := 536) dL_law_536 (i := 0) rfl rfl ?_
  refine r_iload_n (pc := 537) dL_law_537 (i := 3) rfl rfl ?_
  refine r_iconst (pc := 538) (v := iv 2) dL_law_538 (by decide) ?_
  refine r_iadd (pc := 539) (v := iv (i + 2)) dL_law_539 (iv_add _ _) ?_
  refine w_sld (pc := 540) (v := iv ((xs (Int.toNat (i + 2))).toInt)) dL_law_540 (iv_in (L := L) (by omega) (by omega)) (by rw [iv_clamp (by omega) (by omega)]; exact (iv_of _).symm) ?_
  have lo540 := iv_lo (xs (Int.toNat (i + 2)))
  have hi540 := iv_hi (xs (Int.toNat (i + 2)))
  refine r_aload_n (pc := 541) dL_law_541 (i := 0) rfl rfl ?_
  refine r_iload_n (pc := 542) dL_law_542 (i := 3) rfl rfl ?_
  refine r_iconst (pc := 543) (v := iv 3) dL_law_543 (by decide) ?_
  refine r_iadd (pc := 544) (v := iv (i + 3)) dL_law_544 (iv_add _ _) ?_
  refine w_sld (pc := 545) (v := iv ((xs (Int.toNat (i + 3))).toInt)) dL_law_545 (iv_in (L := L) (by omega) (by omega)) (by rw [iv_clamp (by omega) (by omega)]; exact (iv_of _).symm) ?_
  have lo545 := iv_lo (xs (Int.toNat (i + 3)))
  have hi545 := iv_hi (xs (Int.toNat (i + 3)))
  have ht13 := Tw_eq (Γ1 := RW (CG Γ8 cI cJ cZ cT a ct8 rv8 th8 dn dd da df dt dw dc kn8 kd8 ka8 kf8 kt8 kw8 kc8) cI cJ cZ (a + 41) rf cn nm so sz dr mn fr tt wt co nu qi qc nf nt nw nc sa wo ln hw ro) (CG_RW (by omega)) ht6
  obtain ⟨fs14, hfs14⟩ := t_obj ht13 (rd_of RW_y)
  refine r_callV (pc := 546) (as := [.int (iv ((xs (Int.toNat (i + 1))).toInt)), .int (iv ((xs (Int.toNat (i + 2))).toInt)), .int (iv ((xs (Int.toNat (i + 3))).toInt))]) (st := [.int (iv v8)]) kL_52 rfl dL_law_546 hfs14 (zw_X12_mix (d := d - 1) (x1 := ((xs (Int.toNat (i + 1))).toInt)) (x2 := ((xs (Int.toNat (i + 2))).toInt)) (x3 := ((xs (Int.toNat (i + 3))).toInt)) (by omega) hrk hwr9 ht13 (by omega) (by omega) (by omega) (fun _ _ _ h => h)) rfl (by omega) (Nat.le_of_ble_eq_true rfl) (by omega) (by omega) rfl (fun r8 hp9 n10 hq11 => ?_)
  obtain ⟨hnn10, rf9, cn9, so9, sz9, nu9, v9, ht12, hrr8, f0, f1, f2, f3, f4, f5, f6⟩ := hq11
  subst n10 r8
  have hcmp : v8 = v9 := hA8.trans f3.symm
  have hv9 := mv_X hvR (by omega) hE8 hcmp c1 c2 (fun h9 => ⟨(f4 h9).1, (f4 h9).2.1, (f4 h9).2.2.1⟩) (fun h9 => ⟨(f5 h9).1, (f5 h9).2.1, (f5 h9).2.2.1⟩) (by decide)
  obtain ⟨hm9, hec, her⟩ := mg_F hmR (by omega) hE8 hcmp c1 c2 f4 f5 f6
  subst ct8 rv8
  rw [← CG_RW (by omega)] at ht12
  have hv9r : -2147483648 ≤ v9 ∧ v9 ≤ 2147483647 := by omega
  change Rn _ _ _ 549 _ [.int (iv v9), .int (iv v8)] _ _ _ _ _
  refine t_icmp_eq (pc := 549) (tgt := 1077) dL_law_549 (by decide) (by omega) (by omega) (fun c549 => ?_) (fun c549 => ?_)
  · refine Rn.pick (lv' := [(0, .ref b), (1, .ref a), (2, .ref (a + 41)), (3, .int (iv i))]) [0, 1, 2, 3] rfl ?_
    exact kk _ _ _ _ ⟨Γ8, rf9, cn9, nm, so9, sz9, dr, mn, fr, tt, wt, co, nu9, qi, qc, nf, nt, nw, nc, sa, wo, ln, hw, ro, th8, dn, dd, da, df, dt, dw, dc, kn8, kd8, ka8, kf8, kt8, kw8, kc8, ht12, (EK.swapW hk9), f0, (DQ_r hdq f1), hm9, hv9, hwr9, by omega, by omega, by omega⟩
  · exfalso
    omega
set_option maxHeartbeats 4000000 in
set_option maxRecDepth 100000 in
theorem lm_8 {D : va_G} {cI cJ cZ cT : ClassId} {lo b L : Nat} {xs : Nat → Int32} {hp : MH} {n d kr wr a : Nat} {i : Int} {Po : Option Value → MH → Nat → Prop} (hd : 60 ≤ d) (hL : L ≤ 3584) (hi : 0 ≤ i ∧ i + 7 ≤ (L : Int))  (h : LK cI cJ cZ cT a L i hp n kr wr) (kk : ∀ (hp1 : MH) (n1 kr1 wr1 : Nat), LK cI cJ cZ cT a L (i + 7) hp1 n1 kr1 wr1 → Rn (gG D cI cJ cZ cT lo b L xs) mL_law d 1077 [(0, .ref b), (1, .ref a), (2, .ref (a + 41)), (3, .int (iv i))] [] hp1 n1 kr1 wr1 Po) : Rn (gG D cI cJ cZ cT lo b L xs) mL_law d 554 [(0, .ref b), (1, .ref a), (2, .ref (a + 41)), (3, .int (iv i))] [] hp n kr wr Po := by
  obtain ⟨Γ, rf, cn, nm, so, sz, dr, mn, fr, tt, wt, co, nu, qi, qc, nf, nt, nw, nc, sa, wo, ln, hw, ro, th, dn, dd, da, df, dt, dw, dc, kn, kd, ka, kf, kt, kw, kc, ht, hk, hrk, hdq, hm, hv, hwr9, hna, hkr, hwr⟩ := h
  have hmR := HM.same (fun q hq => (RW_o hq).symm : ∀ q : Nat, (q < a + 41 ∨ a + 41 + 43 ≤ q) → Γ q = (RW Γ cI cJ cZ (a + 41) rf cn nm so sz dr mn fr tt wt co nu qi qc nf nt nw nc sa wo ln hw ro) q) hm
  have hvR := HV.same (fun q hq => (RW_o hq).symm : ∀ q : Nat, (q < a + 41 ∨ a + 41 + 43 ≤ q) → Γ q = (RW Γ cI cJ cZ (a + 41) rf cn nm so sz dr mn fr tt wt co nu qi qc nf nt nw nc sa wo ln hw ro) q) hv
  have hcn9 := hk.1
  have hrv : -2147483648 ≤ rf ∧ rf ≤ 2147483647 := hrk.2.2.2.2.2.2.2.2.2.2.2.1
  refine r_aload_n (pc := 554) dL_law_554 (i := 1) rfl rfl ?_
  refine r_aload_n (pc := 555) dL_law_555 (i := 0) rfl rfl ?_
  refine r_iload_n (pc := 556) dL_law_556 (i := 3) rfl rfl ?_
  refine r_iconst (pc := 557) (v := iv 1) dL_law_557 (by decide) ?_
  refine r_iadd (pc := 558) (v := iv (i + 1)) dL_law_558 (iv_add _ _) ?_
  refine w_sld (pc := 559) (v := iv ((xs (Int.toNat (i + 1))).toInt)) dL_law_559 (iv_in (L := L) (by omega) (by omega)) (by rw [iv_clamp (by omega) (by omega)]; exact (iv_of _).symm) ?_
  have lo559 := iv_lo (xs (Int.toNat (i + 1)))
  have hi559 := iv_hi (xs (Int.toNat (i + 1)))
  refine r_aload_n (pc := 560) dL_law_560 (i := 0) rfl rfl ?_
  refine r_iload_n (pc := 561) dL_law_561 (i := 3) rfl rfl ?_
  refine r_iconst (pc := 562) (v := iv 2) dL_law_562 (by decide) ?_
  refine r_iadd (pc := 563) (v := iv (i + 2)) dL_law_563 (iv_add _ _) ?_
  refine w_sld (pc := 564) (v := iv ((xs (Int.toNat (i + 2))).toInt)) dL_law_564 (iv_in (L := L) (by omega) (by omega)) (by rw [iv_clamp (by omega) (by omega)]; exact (iv_of _).symm) ?_
  have lo564 := iv_lo (xs (Int.toNat (i + 2)))
  have hi564 := iv_hi (xs (Int.toNat (i + 2)))
  refine r_aload_n (pc := 565) dL_law_565 (i := 0) rfl rfl ?_
  refine r_iload_n (pc := 566) dL_law_566 (i := 3) rfl rfl ?_
  refine r_iconst (pc := 567) (v := iv 3) dL_law_567 (by decide) ?_
  refine r_iadd (pc := 568) (v := iv (i + 3)) dL_law_568 (iv_add _ _) ?_
  refine w_sld (pc := 569) (v := iv ((xs (Int.toNat (i + 3))).toInt)) dL_law_569 (iv_in (L := L) (by omega) (by omega)) (by rw [iv_clamp (by omega) (by omega)]; exact (iv_of _).symm) ?_
  have lo569 := iv_lo (xs (Int.toNat (i + 3)))
  have hi569 := iv_hi (xs (Int.toNat (i + 3)))
  refine r_aload_n (pc := 570) dL_law_570 (i := 0) rfl rfl ?_
  refine r_iload_n (pc := 571) dL_law_571 (i := 3) rfl rfl ?_
  refine r_iconst (pc := 572) (v := iv 4) dL_law_572 (by decide) ?_
  refine r_iadd (pc := 573) (v := iv (i + 4)) dL_law_573 (iv_add _ _) ?_
  refine w_sld (pc := 574) (v := iv ((xs (Int.toNat (i + 4))).toInt)) dL_law_574 (iv_in (L := L) (by omega) (by omega)) (by rw [iv_clamp (by omega) (by omega)]; exact (iv_of _).symm) ?_
  have lo574 := iv_lo (xs (Int.toNat (i + 4)))
  have hi574 := iv_hi (xs (Int.toNat (i + 4)))
  refine r_aload_n (pc := 575) dL_law_575 (i := 0) rfl rfl ?_
  refine r_iload_n (pc := 576) dL_law_576 (i := 3) rfl rfl ?_
  refine r_iconst (pc := 577) (v := iv 5) dL_law_577 (by decide) ?_
  refine r_iadd (pc := 578) (v := iv (i + 5)) dL_law_578 (iv_add _ _) ?_
  refine w_sld (pc := 579) (v := iv ((xs (Int.toNat (i + 5))).toInt)) dL_law_579 (iv_in (L := L) (by omega) (by omega)) (by rw [iv_clamp (by omega) (by omega)]; exact (iv_of _).symm) ?_
  have lo579 := iv_lo (xs (Int.toNat (i + 5)))
  have hi579 := iv_hi (xs (Int.toNat (i + 5)))
  refine t_if_eq (pc := 580) (tgt := 587) dL_law_580 (by decide) (by omega) (fun c580 => ?_) (fun c580 => ?_)
  · refine r_iconst (pc := 587) (v := iv 0) dL_law_587 (by decide) ?_
    refine r_aload_n (pc := 588) dL_law_588 (i := 0) rfl rfl ?_
    refine r_iload_n (pc := 589) dL_law_589 (i := 3) rfl rfl ?_
    refine r_bipush (pc := 590) (v := iv 6) dL_law_590 (by decide) ?_
    refine r_iadd (pc := 592) (v := iv (i + 6)) dL_law_592 (iv_add _ _) ?_
    refine w_sld (pc := 593) (v := iv ((xs (Int.toNat (i + 6))).toInt)) dL_law_593 (iv_in (L := L) (by omega) (by omega)) (by rw [iv_clamp (by omega) (by omega)]; exact (iv_of _).symm) ?_
    have lo593 := iv_lo (xs (Int.toNat (i + 6)))
    have hi593 := iv_hi (xs (Int.toNat (i + 6)))
    obtain ⟨fs7, hfs7⟩ := t_obj ht (rd_of CG_0)
    refine r_callV (pc := 594) (as := [.int (iv ((xs (Int.toNat (i + 1))).toInt)), .int (iv ((xs (Int.toNat (i + 2))).toInt)), .int (iv ((xs (Int.toNat (i + 3))).toInt)), .int (iv ((xs (Int.toNat (i + 4))).toInt)), .int (iv 0), .int (iv ((xs (Int.toNat (i + 6))).toInt))]) (st := []) kL_53 rfl dL_law_594 hfs7 (y_X11_run (d := d - 1) (x1 := ((xs (Int.toNat (i + 1))).toInt)) (x2 := ((xs (Int.toNat (i + 2))).toInt)) (x3 := ((xs (Int.toNat (i + 3))).toInt)) (x4 := ((xs (Int.toNat (i + 4))).toInt)) (x5 := 0) (x6 := ((xs (Int.toNat (i + 6))).toInt)) (by omega) hk hmR hrv (by omega) ht (by omega) (by omega) (by omega) (by omega) (by omega) (by omega)) rfl (by omega) (Nat.le_of_ble_eq_true rfl) (by omega) (by omega) rfl (fun r1 hp2 n3 hq4 => ?_)
    obtain ⟨hnn3, Γ8, ct8, rv8, th8, kn8, kd8, ka8, kf8, kt8, kw8, kc8, v8, hE8, ht5, hk8, hrr1, hA8, hb8, c1, c2⟩ := hq4
    subst r1
    have ex8 := RW_x hE8
    have ht6 := Tw_eq (Γ1 := (CG (RW Γ8 cI cJ cZ (a + 41) rf cn nm so sz dr mn fr tt wt co nu qi qc nf nt nw nc sa wo ln hw ro) cI cJ cZ cT a ct8 rv8 th8 dn dd da df dt dw dc kn8 kd8 ka8 kf8 kt8 kw8 kc8)) (by rw [ex8]) ht5
    have hk9 := hk8
    rw [← ex8] at hk9
    change Rn _ _ _ 597 _ [.int (iv v8)] _ _ _ _ _
    refine r_aload_n (pc := 597) dL_law_597 (i := 2) rfl rfl ?_
    refine r_aload_n (pc := 598) dL_law_598 (i := 0) rfl rfl ?_
    refine r_iload_n (pc := 599) dL_law_599 (i := 3) rfl rfl ?_
    refine r_iconst (pc := 600) (v := iv 1) dL_law_600 (by decide) ?_
    refine r_iadd (pc := 601) (v := iv (i + 1)) dL_law_601 (iv_add _ _) ?_
    refine w_sld (pc := 602) (v := iv ((xs (Int.toNat (i + 1))).toInt)) dL_law_602 (iv_in (L := L) (by omega) (by omega)) (by rw [iv_clamp (by omega) (by omega)]; exact (iv_of _).symm) ?_
    have lo602 := iv_lo (xs (Int.toNat (i + 1)))
    have hi602 := iv_hi (xs (Int.toNat (i + 1)))
    refine r_aload_n (pc := 603) dL_law_603 (i := 0) rfl rfl ?_
    refine r_iload_n (pc := 604) dL_law_604 (i := 3) rfl rfl ?_
    refine r_iconst (pc := 605) (v := iv 2) dL_law_605 (by decide) ?_
    refine r_iadd (pc := 606) (v := iv (i + 2)) dL_law_606 (iv_add _ _) ?_
    refine w_sld (pc := 607) (v := iv ((xs (Int.toNat (i + 2))).toInt)) dL_law_607 (iv_in (L := L) (by omega) (by omega)) (by rw [iv_clamp (by omega) (by omega)]; exact (iv_of _).symm) ?_
    have lo607 := iv_lo (xs (Int.toNat (i + 2)))
    have hi607 := iv_hi (xs (Int.toNat (i + 2)))
    refine r_aload_n (pc := 608) dL_law_608 (i := 0) rfl rfl ?_
    refine r_iload_n (pc := 609) dL_law_609 (i := 3) rfl rfl ?_
    refine r_iconst (pc := 610) (v := iv 3) dL_law_610 (by decide) ?_
    refine r_iadd (pc := 611) (v := iv (i + 3)) dL_law_611 (iv_add _ _) ?_
    refine w_sld (pc := 612) (v := iv ((xs (Int.toNat (i + 3))).toInt)) dL_law_612 (iv_in (L := L) (by omega) (by omega)) (by rw [iv_clamp (by omega) (by omega)]; exact (iv_of _).symm) ?_
    have lo612 := iv_lo (xs (Int.toNat (i + 3)))
    have hi612 := iv_hi (xs (Int.toNat (i + 3)))
    refine r_aload_n (pc := 613) dL_law_613 (i := 0) rfl rfl ?_
    refine r_iload_n (pc := 614) dL_law_614 (i := 3) rfl rfl ?_
    refine r_iconst (pc := 615) (v := iv 4) dL_law_615 (by decide) ?_
    refine r_iadd (pc := 616) (v := iv (i + 4)) dL_law_616 (iv_add _ _) ?_
    refine w_sld (pc := 617) (v := iv ((xs (Int.toNat (i + 4))).toInt)) dL_law_617 (iv_in (L := L) (by omega) (by omega)) (by rw [iv_clamp (by omega) (by omega)]; exact (iv_of _).symm) ?_
    have lo617 := iv_lo (xs (Int.toNat (i + 4)))
    have hi617 := iv_hi (xs (Int.toNat (i + 4)))
    refine r_aload_n (pc := 618) dL_law_618 (i := 0) rfl rfl ?_
    refine r_iload_n (pc := 619) dL_law_619 (i := 3) rfl rfl ?_
    refine r_iconst (pc := 620) (v := iv 5) dL_law_620 (by decide) ?_
    refine r_iadd (pc := 621) (v := iv (i + 5)) dL_law_621 (iv_add _ _) ?_
    refine w_sld (pc := 622) (v := iv ((xs (Int.toNat (i + 5))).toInt)) dL_law_622 (iv_in (L := L) (by omega) (by omega)) (by rw [iv_clamp (by omega) (by omega)]; exact (iv_of _).symm) ?_
    have lo622 := iv_lo (xs (Int.toNat (i + 5)))
    have hi622 := iv_hi (xs (Int.toNat (i + 5)))
    refine t_if_eq (pc := 623) (tgt := 630) dL_law_623 (by decide) (by omega) (fun c623 => ?_) (fun c623 => ?_)
    · refine r_iconst (pc := 630) (v := iv 0) dL_law_630 (by decide) ?_
      refine r_aload_n (pc := 631) dL_law_631 (i := 0) rfl rfl ?_
      refine r_iload_n (pc := 632) dL_law_632 (i := 3) rfl rfl ?_
      refine r_bipush (pc := 633) (v := iv 6) dL_law_633 (by decide) ?_
      refine r_iadd (pc := 635) (v := iv (i + 6)) dL_law_635 (iv_add _ _) ?_
      refine w_sld (pc := 636) (v := iv ((xs (Int.toNat (i + 6))).toInt)) dL_law_636 (iv_in (L := L) (by omega) (by omega)) (by rw [iv_clamp (by omega) (by omega)]; exact (iv_of _).symm) ?_
      have lo636 := iv_lo (xs (Int.toNat (i + 6)))
      have hi636 := iv_hi (xs (Int.toNat (i + 6)))
      have ht13 := Tw_eq (Γ1 := RW (CG Γ8 cI cJ cZ cT a ct8 rv8 th8 dn dd da df dt dw dc kn8 kd8 ka8 kf8 kt8 kw8 kc8) cI cJ cZ (a + 41) rf cn nm so sz dr mn fr tt wt co nu qi qc nf nt nw nc sa wo ln hw ro) (CG_RW (by omega)) ht6
      obtain ⟨fs14, hfs14⟩ := t_obj ht13 (rd_of RW_y)
      refine r_callV (pc := 637) (as := [.int (iv ((xs (Int.toNat (i + 1))).toInt)), .int (iv ((xs (Int.toNat (i + 2))).toInt)), .int (iv ((xs (Int.toNat (i + 3))).toInt)), .int (iv ((xs (Int.toNat (i + 4))).toInt)), .int (iv 0), .int (iv ((xs (Int.toNat (i + 6))).toInt))]) (st := [.int (iv v8)]) kL_57 rfl dL_law_637 hfs14 (zw_X12_run (d := d - 1) (x1 := ((xs (Int.toNat (i + 1))).toInt)) (x2 := ((xs (Int.toNat (i + 2))).toInt)) (x3 := ((xs (Int.toNat (i + 3))).toInt)) (x4 := ((xs (Int.toNat (i + 4))).toInt)) (x5 := 0) (x6 := ((xs (Int.toNat (i + 6))).toInt)) (by omega) hrk hwr9 ht13 (by omega) (by omega) (by omega) (by omega) (by omega) (by omega) (fun _ _ _ h => h)) rfl (by omega) (Nat.le_of_ble_eq_true rfl) (by omega) (by omega) rfl (fun r8 hp9 n10 hq11 => ?_)
      obtain ⟨hnn10, rf9, cn9, so9, sz9, nu9, v9, ht12, hrr8, f0, f1, f2, f3, f4, f5, f6⟩ := hq11
      subst n10 r8
      have hcmp : v8 = v9 := hA8.trans f3.symm
      have hv9 := mv_X hvR (by omega) hE8 hcmp c1 c2 (fun h9 => ⟨(f4 h9).1, (f4 h9).2.1, (f4 h9).2.2.1⟩) (fun h9 => ⟨(f5 h9).1, (f5 h9).2.1, (f5 h9).2.2.1⟩) (by decide)
      obtain ⟨hm9, hec, her⟩ := mg_F hmR (by omega) hE8 hcmp c1 c2 f4 f5 f6
      subst ct8 rv8
      rw [← CG_RW (by omega)] at ht12
      have hv9r : -2147483648 ≤ v9 ∧ v9 ≤ 2147483647 := by omega
      change Rn _ _ _ 640 _ [.int (iv v9), .int (iv v8)] _ _ _ _ _
      refine t_icmp_eq (pc := 640) (tgt := 1077) dL_law_640 (by decide) (by omega) (by omega) (fun c640 => ?_) (fun c640 => ?_)
      · refine Rn.pick (lv' := [(0, .ref b), (1, .ref a), (2, .ref (a + 41)), (3, .int (iv i))]) [0, 1, 2, 3] rfl ?_
        exact kk _ _ _ _ ⟨Γ8, rf9, cn9, nm, so9, sz9, dr, mn, fr, tt, wt, co, nu9, qi, qc, nf, nt, nw, nc, sa, wo, ln, hw, ro, th8, dn, dd, da, df, dt, dw, dc, kn8, kd8, ka8, kf8, kt8, kw8, kc8, ht12, (EK.swapW hk9), f0, (DQ_r hdq f1), hm9, hv9, hwr9, by omega, by omega, by omega⟩
      · exfalso
        omega
    · exfalso
      omega
  · refine r_iconst (pc := 583) (v := iv 1) dL_law_583 (by decide) ?_
    refine r_goto (pc := 584) (tgt := 588) dL_law_584 (by decide) ?_
    refine r_aload_n (pc := 588) dL_law_588 (i := 0) rfl rfl ?_
    refine r_iload_n (pc := 589) dL_law_589 (i := 3) rfl rfl ?_
    refine r_bipush (pc := 590) (v := iv 6) dL_law_590 (by decide) ?_
    refine r_iadd (pc := 592) (v := iv (i + 6)) dL_law_592 (iv_add _ _) ?_
    refine w_sld (pc := 593) (v := iv ((xs (Int.toNat (i + 6))).toInt)) dL_law_593 (iv_in (L := L) (by omega) (by omega)) (by rw [iv_clamp (by omega) (by omega)]; exact (iv_of _).symm) ?_
    have lo593 := iv_lo (xs (Int.toNat (i + 6)))
    have hi593 := iv_hi (xs (Int.toNat (i + 6)))
    obtain ⟨fs21, hfs21⟩ := t_obj ht (rd_of CG_0)
    refine r_callV (pc := 594) (as := [.int (iv ((xs (Int.toNat (i + 1))).toInt)), .int (iv ((xs (Int.toNat (i + 2))).toInt)), .int (iv ((xs (Int.toNat (i + 3))).toInt)), .int (iv ((xs (Int.toNat (i + 4))).toInt)), .int (iv 1), .int (iv ((xs (Int.toNat (i + 6))).toInt))]) (st := []) kL_53 rfl dL_law_594 hfs21 (y_X11_run (d := d - 1) (x1 := ((xs (Int.toNat (i + 1))).toInt)) (x2 := ((xs (Int.toNat (i + 2))).toInt)) (x3 := ((xs (Int.toNat (i + 3))).toInt)) (x4 := ((xs (Int.toNat (i + 4))).toInt)) (x5 := 1) (x6 := ((xs (Int.toNat (i + 6))).toInt)) (by omega) hk hmR hrv (by omega) ht (by omega) (by omega) (by omega) (by omega) (by omega) (by omega)) rfl (by omega) (Nat.le_of_ble_eq_true rfl) (by omega) (by omega) rfl (fun r15 hp16 n17 hq18 => ?_)
    obtain ⟨hnn17, Γ8, ct8, rv8, th8, kn8, kd8, ka8, kf8, kt8, kw8, kc8, v8, hE8, ht19, hk8, hrr15, hA8, hb8, c1, c2⟩ := hq18
    subst r15
    have ex8 := RW_x hE8
    have ht20 := Tw_eq (Γ1 := (CG (RW Γ8 cI cJ cZ (a + 41) rf cn nm so sz dr mn fr tt wt co nu qi qc nf nt nw nc sa wo ln hw ro) cI cJ cZ cT a ct8 rv8 th8 dn dd da df dt dw dc kn8 kd8 ka8 kf8 kt8 kw8 kc8)) (by rw [ex8]) ht19
    have hk9 := hk8
    rw [← ex8] at hk9
    change Rn _ _ _ 597 _ [.int (iv v8)] _ _ _ _ _
    refine r_aload_n (pc := 597) dL_law_597 (i := 2) rfl rfl ?_
    refine r_aload_n (pc := 598) dL_law_598 (i := 0) rfl rfl ?_
    refine r_iload_n (pc := 599) dL_law_599 (i := 3) rfl rfl ?_
    refine r_iconst (pc := 600) (v := iv 1) dL_law_600 (by decide) ?_
    refine r_iadd (pc := 601) (v := iv (i + 1)) dL_law_601 (iv_add _ _) ?_
    refine w_sld (pc := 602) (v := iv ((xs (Int.toNat (i + 1))).toInt)) dL_law_602 (iv_in (L := L) (by omega) (by omega)) (by rw [iv_clamp (by omega) (by omega)]; exact (iv_of _).symm) ?_
    have lo602 := iv_lo (xs (Int.toNat (i + 1)))
    have hi602 := iv_hi (xs (Int.toNat (i + 1)))
    refine r_aload_n (pc := 603) dL_law_603 (i := 0) rfl rfl ?_
    refine r_iload_n (pc := 604) dL_law_604 (i := 3) rfl rfl ?_
    refine r_iconst (pc := 605) (v := iv 2) dL_law_605 (by decide) ?_
    refine r_iadd (pc := 606) (v := iv (i + 2)) dL_law_606 (iv_add _ _) ?_
    refine w_sld (pc := 607) (v := iv ((xs (Int.toNat (i + 2))).toInt)) dL_law_607 (iv_in (L := L) (by omega) (by omega)) (by rw [iv_clamp (by omega) (by omega)]; exact (iv_of _).symm) ?_
    have lo607 := iv_lo (xs (Int.toNat (i + 2)))
    have hi607 := iv_hi (xs (Int.toNat (i + 2)))
    refine r_aload_n (pc := 608) dL_law_608 (i := 0) rfl rfl ?_
    refine r_iload_n (pc := 609) dL_law_609 (i := 3) rfl rfl ?_
    refine r_iconst (pc := 610) (v := iv 3) dL_law_610 (by decide) ?_
    refine r_iadd (pc := 611) (v := iv (i + 3)) dL_law_611 (iv_add _ _) ?_
    refine w_sld (pc := 612) (v := iv ((xs (Int.toNat (i + 3))).toInt)) dL_law_612 (iv_in (L := L) (by omega) (by omega)) (by rw [iv_clamp (by omega) (by omega)]; exact (iv_of _).symm) ?_
    have lo612 := iv_lo (xs (Int.toNat (i + 3)))
    have hi612 := iv_hi (xs (Int.toNat (i + 3)))
    refine r_aload_n (pc := 613) dL_law_613 (i := 0) rfl rfl ?_
    refine r_iload_n (pc := 614) dL_law_614 (i := 3) rfl rfl ?_
    refine r_iconst (pc := 615) (v := iv 4) dL_law_615 (by decide) ?_
    refine r_iadd (pc := 616) (v := iv (i + 4)) dL_law_616 (iv_add _ _) ?_
    refine w_sld (pc := 617) (v := iv ((xs (Int.toNat (i + 4))).toInt)) dL_law_617 (iv_in (L := L) (by omega) (by omega)) (by rw [iv_clamp (by omega) (by omega)]; exact (iv_of _).symm) ?_
    have lo617 := iv_lo (xs (Int.toNat (i + 4)))
    have hi617 := iv_hi (xs (Int.toNat (i + 4)))
    refine r_aload_n (pc := 618) dL_law_618 (i := 0) rfl rfl ?_
    refine r_iload_n (pc := 619) dL_law_619 (i := 3) rfl rfl ?_
    refine r_iconst (pc := 620) (v := iv 5) dL_law_620 (by decide) ?_
    refine r_iadd (pc := 621) (v := iv (i + 5)) dL_law_621 (iv_add _ _) ?_
    refine w_sld (pc := 622) (v := iv ((xs (Int.toNat (i + 5))).toInt)) dL_law_622 (iv_in (L := L) (by omega) (by omega)) (by rw [iv_clamp (by omega) (by omega)]; exact (iv_of _).symm) ?_
    have lo622 := iv_lo (xs (Int.toNat (i + 5)))
    have hi622 := iv_hi (xs (Int.toNat (i + 5)))
    refine t_if_eq (pc := 623) (tgt := 630) dL_law_623 (by decide) (by omega) (fun c623 => ?_) (fun c623 => ?_)
    · exfalso
      omega
    · refine r_iconst (pc := 626) (v := iv 1) dL_law_626 (by decide) ?_
      refine r_goto (pc := 627) (tgt := 631) dL_law_627 (by decide) ?_
      refine r_aload_n (pc := 631) dL_law_631 (i := 0) rfl rfl ?_
      refine r_iload_n (pc := 632) dL_law_632 (i := 3) rfl rfl ?_
      refine r_bipush (pc := 633) (v := iv 6) dL_law_633 (by decide) ?_
      refine r_iadd (pc := 635) (v := iv (i + 6)) dL_law_635 (iv_add _ _) ?_
      refine w_sld (pc := 636) (v := iv ((xs (Int.toNat (i + 6))).toInt)) dL_law_636 (iv_in (L := L) (by omega) (by omega)) (by rw [iv_clamp (by omega) (by omega)]; exact (iv_of _).symm) ?_
      have lo636 := iv_lo (xs (Int.toNat (i + 6)))
      have hi636 := iv_hi (xs (Int.toNat (i + 6)))
      have ht27 := Tw_eq (Γ1 := RW (CG Γ8 cI cJ cZ cT a ct8 rv8 th8 dn dd da df dt dw dc kn8 kd8 ka8 kf8 kt8 kw8 kc8) cI cJ cZ (a + 41) rf cn nm so sz dr mn fr tt wt co nu qi qc nf nt nw nc sa wo ln hw ro) (CG_RW (by omega)) ht20
      obtain ⟨fs28, hfs28⟩ := t_obj ht27 (rd_of RW_y)
      refine r_callV (pc := 637) (as := [.int (iv ((xs (Int.toNat (i + 1))).toInt)), .int (iv ((xs (Int.toNat (i + 2))).toInt)), .int (iv ((xs (Int.toNat (i + 3))).toInt)), .int (iv ((xs (Int.toNat (i + 4))).toInt)), .int (iv 1), .int (iv ((xs (Int.toNat (i + 6))).toInt))]) (st := [.int (iv v8)]) kL_57 rfl dL_law_637 hfs28 (zw_X12_run (d := d - 1) (x1 := ((xs (Int.toNat (i + 1))).toInt)) (x2 := ((xs (Int.toNat (i + 2))).toInt)) (x3 := ((xs (Int.toNat (i + 3))).toInt)) (x4 := ((xs (Int.toNat (i + 4))).toInt)) (x5 := 1) (x6 := ((xs (Int.toNat (i + 6))).toInt)) (by omega) hrk hwr9 ht27 (by omega) (by omega) (by omega) (by omega) (by omega) (by omega) (fun _ _ _ h => h)) rfl (by omega) (Nat.le_of_ble_eq_true rfl) (by omega) (by omega) rfl (fun r22 hp23 n24 hq25 => ?_)
      obtain ⟨hnn24, rf9, cn9, so9, sz9, nu9, v9, ht26, hrr22, f0, f1, f2, f3, f4, f5, f6⟩ := hq25
      subst n24 r22
      have hcmp : v8 = v9 := hA8.trans f3.symm
      have hv9 := mv_X hvR (by omega) hE8 hcmp c1 c2 (fun h9 => ⟨(f4 h9).1, (f4 h9).2.1, (f4 h9).2.2.1⟩) (fun h9 => ⟨(f5 h9).1, (f5 h9).2.1, (f5 h9).2.2.1⟩) (by decide)
      obtain ⟨hm9, hec, her⟩ := mg_F hmR (by omega) hE8 hcmp c1 c2 f4 f5 f6
      subst ct8 rv8
      rw [← CG_RW (by omega)] at ht26
      have hv9r : -2147483648 ≤ v9 ∧ v9 ≤ 2147483647 := by omega
      change Rn _ _ _ 640 _ [.int (iv v9), .int (iv v8)] _ _ _ _ _
      refine t_icmp_eq (pc := 640) (tgt := 1077) dL_law_640 (by decide) (by omega) (by omega) (fun c640 => ?_) (fun c640 => ?_)
      · refine Rn.pick (lv' := [(0, .ref b), (1, .ref a), (2, .ref (a + 41)), (3, .int (iv i))]) [0, 1, 2, 3] rfl ?_
        exact kk _ _ _ _ ⟨Γ8, rf9, cn9, nm, so9, sz9, dr, mn, fr, tt, wt, co, nu9, qi, qc, nf, nt, nw, nc, sa, wo, ln, hw, ro, th8, dn, dd, da, df, dt, dw, dc, kn8, kd8, ka8, kf8, kt8, kw8, kc8, ht26, (EK.swapW hk9), f0, (DQ_r hdq f1), hm9, hv9, hwr9, by omega, by omega, by omega⟩
      · exfalso
        omega
set_option maxHeartbeats 4000000 in
set_option maxRecDepth 100000 in
theorem lm_9 {D : va_G} {cI cJ cZ cT : ClassId} {lo b L : Nat} {xs : Nat → Int32} {hp : MH} {n d kr wr a : Nat} {i : Int} {Po : Option Value → MH → Nat → Prop} (hd : 60 ≤ d) (hL : L ≤ 3584) (hi : 0 ≤ i ∧ i + 7 ≤ (L : Int))  (h : LK cI cJ cZ cT a L i hp n kr wr) (kk : ∀ (hp1 : MH) (n1 kr1 wr1 : Nat), LK cI cJ cZ cT a L (i + 7) hp1 n1 kr1 wr1 → Rn (gG D cI cJ cZ cT lo b L xs) mL_law d 1077 [(0, .ref b), (1, .ref a), (2, .ref (a + 41)), (3, .int (iv i))] [] hp1 n1 kr1 wr1 Po) : Rn (gG D cI cJ cZ cT lo b L xs) mL_law d 645 [(0, .ref b), (1, .ref a), (2, .ref (a + 41)), (3, .int (iv i))] [] hp n kr wr Po := by
  obtain ⟨Γ, rf, cn, nm, so, sz, dr, mn, fr, tt, wt, co, nu, qi, qc, nf, nt, nw, nc, sa, wo, ln, hw, ro, th, dn, dd, da, df, dt, dw, dc, kn, kd, ka, kf, kt, kw, kc, ht, hk, hrk, hdq, hm, hv, hwr9, hna, hkr, hwr⟩ := h
  have hmR := HM.same (fun q hq => (RW_o hq).symm : ∀ q : Nat, (q < a + 41 ∨ a + 41 + 43 ≤ q) → Γ q = (RW Γ cI cJ cZ (a + 41) rf cn nm so sz dr mn fr tt wt co nu qi qc nf nt nw nc sa wo ln hw ro) q) hm
  have hvR := HV.same (fun q hq => (RW_o hq).symm : ∀ q : Nat, (q < a + 41 ∨ a + 41 + 43 ≤ q) → Γ q = (RW Γ cI cJ cZ (a + 41) rf cn nm so sz dr mn fr tt wt co nu qi qc nf nt nw nc sa wo ln hw ro) q) hv
  have hcn9 := hk.1
  have hrv : -2147483648 ≤ rf ∧ rf ≤ 2147483647 := hrk.2.2.2.2.2.2.2.2.2.2.2.1
  refine r_aload_n (pc := 645) dL_law_645 (i := 1) rfl rfl ?_
  refine r_aload_n (pc := 646) dL_law_646 (i := 0) rfl rfl ?_
  refine r_iload_n (pc := 647) dL_law_647 (i := 3) rfl rfl ?_
  refine r_iconst (pc := 648) (v := iv 1) dL_law_648 (by decide) ?_
  refine r_iadd (pc := 649) (v := iv (i + 1)) dL_law_649 (iv_add _ _) ?_
  refine w_sld (pc := 650) (v := iv ((xs (Int.toNat (i + 1))).toInt)) dL_law_650 (iv_in (L := L) (by omega) (by omega)) (by rw [iv_clamp (by omega) (by omega)]; exact (iv_of _).symm) ?_
  have lo650 := iv_lo (xs (Int.toNat (i + 1)))
  have hi650 := iv_hi (xs (Int.toNat (i + 1)))
  refine r_aload_n (pc := 651) dL_law_651 (i := 0) rfl rfl ?_
  refine r_iload_n (pc := 652) dL_law_652 (i := 3) rfl rfl ?_
  refine r_iconst (pc := 653) (v := iv 2) dL_law_653 (by decide) ?_
  refine r_iadd (pc := 654) (v := iv (i + 2)) dL_law_654 (iv_add _ _) ?_
  refine w_sld (pc := 655) (v := iv ((xs (Int.toNat (i + 2))).toInt)) dL_law_655 (iv_in (L := L) (by omega) (by omega)) (by rw [iv_clamp (by omega) (by omega)]; exact (iv_of _).symm) ?_
  have lo655 := iv_lo (xs (Int.toNat (i + 2)))
  have hi655 := iv_hi (xs (Int.toNat (i + 2)))
  refine r_aload_n (pc := 656) dL_law_656 (i := 0) rfl rfl ?_
  refine r_iload_n (pc := 657) dL_law_657 (i := 3) rfl rfl ?_
  refine r_iconst (pc := 658) (v := iv 3) dL_law_658 (by decide) ?_
  refine r_iadd (pc := 659) (v := iv (i + 3)) dL_law_659 (iv_add _ _) ?_
  refine w_sld (pc := 660) (v := iv ((xs (Int.toNat (i + 3))).toInt)) dL_law_660 (iv_in (L := L) (by omega) (by omega)) (by rw [iv_clamp (by omega) (by omega)]; exact (iv_of _).symm) ?_
  have lo660 := iv_lo (xs (Int.toNat (i + 3)))
  have hi660 := iv_hi (xs (Int.toNat (i + 3)))
  obtain ⟨fs7, hfs7⟩ := t_obj ht (rd_of CG_0)
  refine r_callV (pc := 661) (as := [.int (iv ((xs (Int.toNat (i + 1))).toInt)), .int (iv ((xs (Int.toNat (i + 2))).toInt)), .int (iv ((xs (Int.toNat (i + 3))).toInt))]) (st := []) kL_58 rfl dL_law_661 hfs7 (y3_X11_ways (d := d - 1) (x1 := ((xs (Int.toNat (i + 1))).toInt)) (x2 := ((xs (Int.toNat (i + 2))).toInt)) (x3 := ((xs (Int.toNat (i + 3))).toInt)) (sa := sa) (wo := wo) (ln := ln) (hx5 := hw) (ro := ro) (by omega) hk hmR hrv (by omega) ht (by omega) (by omega) (by omega)) rfl (by omega) (Nat.le_of_ble_eq_true rfl) (by omega) (by omega) rfl (fun r1 hp2 n3 hq4 => ?_)
  obtain ⟨hnn3, Γ8, ct8, rv8, th8, kn8, kd8, ka8, kf8, kt8, kw8, kc8, v8, hE8, ht5, hk8, hrr1, hA8, hb8, c1, c2⟩ := hq4
  subst r1
  have ex8 := RW_x hE8
  have ht6 := Tw_eq (Γ1 := (CG (RW Γ8 cI cJ cZ (a + 41) rf cn nm so sz dr mn fr tt wt co nu qi qc nf nt nw nc sa wo ln hw ro) cI cJ cZ cT a ct8 rv8 th8 dn dd da df dt dw dc kn8 kd8 ka8 kf8 kt8 kw8 kc8)) (by rw [ex8]) ht5
  have hk9 := hk8
  rw [← ex8] at hk9
  change Rn _ _ _ 664 _ [.int (iv v8)] _ _ _ _ _
  refine r_aload_n (pc := 664) dL_law_664 (i := 2) rfl rfl ?_
  refine r_aload_n (pc := 665) dL_law_665 (i := 0) rfl rfl ?_
  refine r_iload_n (pc := 666) dL_law_666 (i := 3) rfl rfl ?_
  refine r_iconst (pc := 667) (v := iv 1) dL_law_667 (by decide) ?_
  refine r_iadd (pc := 668) (v := iv (i + 1)) dL_law_668 (iv_add _ _) ?_
  refine w_sld (pc := 669) (v := iv ((xs (Int.toNat (i + 1))).toInt)) dL_law_669 (iv_in (L := L) (by omega) (by omega)) (by rw [iv_clamp (by omega) (by omega)]; exact (iv_of _).symm) ?_
  have lo669 := iv_lo (xs (Int.toNat (i + 1)))
  have hi669 := iv_hi (xs (Int.toNat (i + 1)))
  refine r_aload_n (pc := 670) dL_law_670 (i := 0) rfl rfl ?_
  refine r_iload_n (pc := 671) dL_law_671 (i := 3) rfl rfl ?_
  refine r_iconst (pc := 672) (v := iv 2) dL_law_672 (by decide) ?_
  refine r_iadd (pc := 673) (v := iv (i + 2)) dL_law_673 (iv_add _ _) ?_
  refine w_sld (pc := 674) (v := iv ((xs (Int.toNat (i + 2))).toInt)) dL_law_674 (iv_in (L := L) (by omega) (by omega)) (by rw [iv_clamp (by omega) (by omega)]; exact (iv_of _).symm) ?_
  have lo674 := iv_lo (xs (Int.toNat (i + 2)))
  have hi674 := iv_hi (xs (Int.toNat (i + 2)))
  refine r_aload_n (pc := 675) dL_law_675 (i := 0) rfl rfl ?_
  refine r_iload_n (pc := 676) dL_law_676 (i := 3) rfl rfl ?_
  refine r_iconst (pc := 677) (v := iv 3) dL_law_677 (by decide) ?_
  refine r_iadd (pc := 678) (v := iv (i + 3)) dL_law_678 (iv_add _ _) ?_
  refine w_sld (pc := 679) (v := iv ((xs (Int.toNat (i + 3))).toInt)) dL_law_679 (iv_in (L := L) (by omega) (by omega)) (by rw [iv_clamp (by omega) (by omega)]; exact (iv_of _).symm) ?_
  have lo679 := iv_lo (xs (Int.toNat (i + 3)))
  have hi679 := iv_hi (xs (Int.toNat (i + 3)))
  have ht13 := Tw_eq (Γ1 := RW (CG Γ8 cI cJ cZ cT a ct8 rv8 th8 dn dd da df dt dw dc kn8 kd8 ka8 kf8 kt8 kw8 kc8) cI cJ cZ (a + 41) rf cn nm so sz dr mn fr tt wt co nu qi qc nf nt nw nc sa wo ln hw ro) (CG_RW (by omega)) ht6
  obtain ⟨fs14, hfs14⟩ := t_obj ht13 (rd_of RW_y)
  refine r_callV (pc := 680) (as := [.int (iv ((xs (Int.toNat (i + 1))).toInt)), .int (iv ((xs (Int.toNat (i + 2))).toInt)), .int (iv ((xs (Int.toNat (i + 3))).toInt))]) (st := [.int (iv v8)]) kL_61 rfl dL_law_680 hfs14 (zw_X12_ways (d := d - 1) (x1 := ((xs (Int.toNat (i + 1))).toInt)) (x2 := ((xs (Int.toNat (i + 2))).toInt)) (x3 := ((xs (Int.toNat (i + 3))).toInt)) (by omega) hrk hwr9 ht13 (by omega) (by omega) (by omega) (fun _ _ _ h => h)) rfl (by omega) (Nat.le_of_ble_eq_true rfl) (by omega) (by omega) rfl (fun r8 hp9 n10 hq11 => ?_)
  obtain ⟨hnn10, rf9, cn9, so9, sz9, sa9, wo9, ln9, hw9, ro9, v9, ht12, hrr8, f0, f1, f2, f3, f4, f5, f6, f7, f8, f9⟩ := hq11
  subst n10 r8
  have hcmp : v8 = v9 := hA8.trans f3.symm
  have hv9 := mv_W hvR (by omega) hE8 hcmp c1 c2 f4 f5
  obtain ⟨hm9, hec, her⟩ := mg_W hmR (by omega) hE8 hcmp c1 (fun h9 => ⟨(c2 h9).1, (c2 h9).2.1, (c2 h9).2.2.elim (fun t q => ⟨t, q.1, q.2.wx⟩)⟩) (fun h9 => ⟨(f4 h9).1, (f4 h9).2.1, (f4 h9).2.2.1⟩) (fun h9 => (f5 h9).1) f6
  subst ct8 rv8
  rw [← CG_RW (by omega)] at ht12
  have hv9r : -2147483648 ≤ v9 ∧ v9 ≤ 2147483647 := by omega
  change Rn _ _ _ 683 _ [.int (iv v9), .int (iv v8)] _ _ _ _ _
  refine t_icmp_eq (pc := 683) (tgt := 1077) dL_law_683 (by decide) (by omega) (by omega) (fun c683 => ?_) (fun c683 => ?_)
  · refine Rn.pick (lv' := [(0, .ref b), (1, .ref a), (2, .ref (a + 41)), (3, .int (iv i))]) [0, 1, 2, 3] rfl ?_
    exact kk _ _ _ _ ⟨Γ8, rf9, cn9, nm, so9, sz9, dr, mn, fr, tt, wt, co, nu, qi, qc, nf, nt, nw, nc, sa9, wo9, ln9, hw9, ro9, th8, dn, dd, da, df, dt, dw, dc, kn8, kd8, ka8, kf8, kt8, kw8, kc8, ht12, (EK.swapW hk9), f0, (DQ_r hdq f1), hm9, hv9, ⟨f7, f8, f9⟩, by omega, by omega, by omega⟩
  · exfalso
    omega
