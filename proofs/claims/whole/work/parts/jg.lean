theorem or_b {m n x : Nat} {d : Int} {F T : Nat → Int} {r : Int} (hx : x < n) (h : orA m d F T n x r) : -1 ≤ r ∧ r < (n : Int) := by
  rcases h with ⟨_, _, e⟩ | ⟨_, f, p, h1, h2, h3⟩
  · omega
  · rcases h3 with ⟨e1, e2⟩ | ⟨_, _, e2⟩
    · have := (h2 x (by omega)).1.1
      omega
    · omega
theorem l_b1 (x : Int64) {k : Nat} (hk : k < 60) (h : MeL x k) : ((x >>> ((iv (k : Int)).toInt64 &&& 63)) &&& 1).toInt = 1 := by
  have h1 : ¬ ((x >>> ((iv (k : Int)).toInt64 &&& 63)) &&& 1).toInt = (0 : Int64).toInt := fun g => (mel_bit x hk).mp g h
  generalize x >>> ((iv (k : Int)).toInt64 &&& 63) = z at h1 ⊢
  have h2 : (z &&& 1).toBitVec = (BitVec.ofBool (z.toBitVec.getLsbD 0)).setWidth 64 := by
    rw [Int64.toBitVec_and]
    exact BitVec.and_one_eq_setWidth_ofBool_getLsbD
  cases hb : z.toBitVec.getLsbD 0 with
  | true =>
    rw [hb] at h2
    have h3 : z &&& 1 = 1 := Int64.toBitVec_inj.mp (by rw [h2]; rfl)
    rw [h3]; rfl
  | false =>
    rw [hb] at h2
    have h3 : z &&& 1 = 0 := Int64.toBitVec_inj.mp (by rw [h2]; rfl)
    rw [h3] at h1
    exact absurd rfl h1
theorem lw_bit {m : Nat} {F T W : Nat → Int} {q : Int64} {x : Int} (hx : 0 ≤ x ∧ x < 60) (h : ∀ i : Nat, MeL q i ↔ (lgA m F T W 1001 0).2 i = true) : lwA m F T W x ((q >>> ((iv x).toInt64 &&& 63)) &&& 1).toInt := by
  have e : (iv x) = iv ((x.toNat : Nat) : Int) := by rw [show ((x.toNat : Nat) : Int) = x by omega]
  refine Or.inr ⟨hx.1, ?_⟩
  rw [e]
  by_cases g : MeL q x.toNat
  · exact Or.inl ⟨(h _).mp g, l_b1 q (by omega) g⟩
  · refine Or.inr ⟨Bool.eq_false_iff.mpr (fun g2 => g ((h _).mpr g2)), ?_⟩
    rw [(mel_bit q (by omega)).mpr g]; rfl
theorem ma_all {R : Nat → Nat → Prop} {n : Nat} {r : Int} (h : maA R (fun j => j < n) r) : maA R (Me (((2 ^ n : Nat) : Int) - 1)) r := ma_cg (fun i => Me_all i) (fun _ _ _ _ => Iff.rfl) h
theorem akb_0 {n m : Nat} {d : Int} {F T W C : Nat → Int} {what x y r : Int} (e : what = 0) (h : orA m d F T n x.toNat r) : akB n m d F T W C what x y r := by
  subst e
  exact ⟨fun _ => h, fun q => absurd q (by decide), fun q => absurd q (by decide), fun q => absurd q (by decide), fun q => absurd q (by decide), fun q => absurd q (by decide), fun q => absurd q (by decide), fun q => absurd q (by decide), fun q => absurd q (by decide), fun q => absurd q (by decide), fun q => absurd q (by decide), fun q => absurd q (by decide), fun q => absurd q (by decide), fun q => absurd q (by decide), fun q => absurd q (by decide), fun q => absurd q (by decide)⟩
theorem akb_1 {n m : Nat} {d : Int} {F T W C : Nat → Int} {what x y r : Int} (e : what = 1) (h : rgA m d F T r) : akB n m d F T W C what x y r := by
  subst e
  exact ⟨fun q => absurd q (by decide), fun _ => h, fun q => absurd q (by decide), fun q => absurd q (by decide), fun q => absurd q (by decide), fun q => absurd q (by decide), fun q => absurd q (by decide), fun q => absurd q (by decide), fun q => absurd q (by decide), fun q => absurd q (by decide), fun q => absurd q (by decide), fun q => absurd q (by decide), fun q => absurd q (by decide), fun q => absurd q (by decide), fun q => absurd q (by decide), fun q => absurd q (by decide)⟩
theorem akb_2 {n m : Nat} {d : Int} {F T W C : Nat → Int} {what x y r : Int} (e : what = 2) (h : sdA m F T n x.toNat r) : akB n m d F T W C what x y r := by
  subst e
  exact ⟨fun q => absurd q (by decide), fun q => absurd q (by decide), fun _ => h, fun q => absurd q (by decide), fun q => absurd q (by decide), fun q => absurd q (by decide), fun q => absurd q (by decide), fun q => absurd q (by decide), fun q => absurd q (by decide), fun q => absurd q (by decide), fun q => absurd q (by decide), fun q => absurd q (by decide), fun q => absurd q (by decide), fun q => absurd q (by decide), fun q => absurd q (by decide), fun q => absurd q (by decide)⟩
theorem akb_3 {n m : Nat} {d : Int} {F T W C : Nat → Int} {what x y r : Int} (e : what = 3) (h : clA (fun i j => ¬ joA m F T i j) (((2 ^ n : Nat) : Int) - 1) r) : akB n m d F T W C what x y r := by
  subst e
  exact ⟨fun q => absurd q (by decide), fun q => absurd q (by decide), fun q => absurd q (by decide), fun _ => h, fun q => absurd q (by decide), fun q => absurd q (by decide), fun q => absurd q (by decide), fun q => absurd q (by decide), fun q => absurd q (by decide), fun q => absurd q (by decide), fun q => absurd q (by decide), fun q => absurd q (by decide), fun q => absurd q (by decide), fun q => absurd q (by decide), fun q => absurd q (by decide), fun q => absurd q (by decide)⟩
theorem akb_4 {n m : Nat} {d : Int} {F T W C : Nat → Int} {what x y r : Int} (e : what = 4) (h : clA (joA m F T) (((2 ^ n : Nat) : Int) - 1) r) : akB n m d F T W C what x y r := by
  subst e
  exact ⟨fun q => absurd q (by decide), fun q => absurd q (by decide), fun q => absurd q (by decide), fun q => absurd q (by decide), fun _ => h, fun q => absurd q (by decide), fun q => absurd q (by decide), fun q => absurd q (by decide), fun q => absurd q (by decide), fun q => absurd q (by decide), fun q => absurd q (by decide), fun q => absurd q (by decide), fun q => absurd q (by decide), fun q => absurd q (by decide), fun q => absurd q (by decide), fun q => absurd q (by decide)⟩
theorem akb_5 {n m : Nat} {d : Int} {F T W C : Nat → Int} {what x y r : Int} (e : what = 5) (h : coA (joA m F T) (Me (((2 ^ n : Nat) : Int) - 1)) r) : akB n m d F T W C what x y r := by
  subst e
  exact ⟨fun q => absurd q (by decide), fun q => absurd q (by decide), fun q => absurd q (by decide), fun q => absurd q (by decide), fun q => absurd q (by decide), fun _ => h, fun q => absurd q (by decide), fun q => absurd q (by decide), fun q => absurd q (by decide), fun q => absurd q (by decide), fun q => absurd q (by decide), fun q => absurd q (by decide), fun q => absurd q (by decide), fun q => absurd q (by decide), fun q => absurd q (by decide), fun q => absurd q (by decide)⟩
theorem akb_6 {n m : Nat} {d : Int} {F T W C : Nat → Int} {what x y r : Int} (e : what = 6) (h : wdA (joA m F T) (Me (((2 ^ n : Nat) : Int) - 1)) r) : akB n m d F T W C what x y r := by
  subst e
  exact ⟨fun q => absurd q (by decide), fun q => absurd q (by decide), fun q => absurd q (by decide), fun q => absurd q (by decide), fun q => absurd q (by decide), fun q => absurd q (by decide), fun _ => h, fun q => absurd q (by decide), fun q => absurd q (by decide), fun q => absurd q (by decide), fun q => absurd q (by decide), fun q => absurd q (by decide), fun q => absurd q (by decide), fun q => absurd q (by decide), fun q => absurd q (by decide), fun q => absurd q (by decide)⟩
theorem akb_7 {n m : Nat} {d : Int} {F T W C : Nat → Int} {what x y r : Int} (e : what = 7) (h : maA (joA m F T) (Me (((2 ^ n : Nat) : Int) - 1)) r) : akB n m d F T W C what x y r := by
  subst e
  exact ⟨fun q => absurd q (by decide), fun q => absurd q (by decide), fun q => absurd q (by decide), fun q => absurd q (by decide), fun q => absurd q (by decide), fun q => absurd q (by decide), fun q => absurd q (by decide), fun _ => h, fun q => absurd q (by decide), fun q => absurd q (by decide), fun q => absurd q (by decide), fun q => absurd q (by decide), fun q => absurd q (by decide), fun q => absurd q (by decide), fun q => absurd q (by decide), fun q => absurd q (by decide)⟩
theorem akb_8 {n m : Nat} {d : Int} {F T W C : Nat → Int} {what x y r : Int} (e : what = 8) (h : msA (joA m F T) n r ∧ 0 ≤ r) : akB n m d F T W C what x y r := by
  subst e
  exact ⟨fun q => absurd q (by decide), fun q => absurd q (by decide), fun q => absurd q (by decide), fun q => absurd q (by decide), fun q => absurd q (by decide), fun q => absurd q (by decide), fun q => absurd q (by decide), fun q => absurd q (by decide), fun _ => h, fun q => absurd q (by decide), fun q => absurd q (by decide), fun q => absurd q (by decide), fun q => absurd q (by decide), fun q => absurd q (by decide), fun q => absurd q (by decide), fun q => absurd q (by decide)⟩
theorem akb_9 {n m : Nat} {d : Int} {F T W C : Nat → Int} {what x y r : Int} (e : what = 9) (h : r = trQ (wB m F T) n (bS (2 ^ n - 1)) % 1000000007) : akB n m d F T W C what x y r := by
  subst e
  exact ⟨fun q => absurd q (by decide), fun q => absurd q (by decide), fun q => absurd q (by decide), fun q => absurd q (by decide), fun q => absurd q (by decide), fun q => absurd q (by decide), fun q => absurd q (by decide), fun q => absurd q (by decide), fun q => absurd q (by decide), fun _ => h, fun q => absurd q (by decide), fun q => absurd q (by decide), fun q => absurd q (by decide), fun q => absurd q (by decide), fun q => absurd q (by decide), fun q => absurd q (by decide)⟩
theorem akb_10 {n m : Nat} {d : Int} {F T W C : Nat → Int} {what x y r : Int} (e : what = 10) (h : lwA m F T W (-1) r) : akB n m d F T W C what x y r := by
  subst e
  exact ⟨fun q => absurd q (by decide), fun q => absurd q (by decide), fun q => absurd q (by decide), fun q => absurd q (by decide), fun q => absurd q (by decide), fun q => absurd q (by decide), fun q => absurd q (by decide), fun q => absurd q (by decide), fun q => absurd q (by decide), fun q => absurd q (by decide), fun _ => h, fun q => absurd q (by decide), fun q => absurd q (by decide), fun q => absurd q (by decide), fun q => absurd q (by decide), fun q => absurd q (by decide)⟩
theorem akb_11 {n m : Nat} {d : Int} {F T W C : Nat → Int} {what x y r : Int} (e : what = 11) (h : lwA m F T W x r) : akB n m d F T W C what x y r := by
  subst e
  exact ⟨fun q => absurd q (by decide), fun q => absurd q (by decide), fun q => absurd q (by decide), fun q => absurd q (by decide), fun q => absurd q (by decide), fun q => absurd q (by decide), fun q => absurd q (by decide), fun q => absurd q (by decide), fun q => absurd q (by decide), fun q => absurd q (by decide), fun q => absurd q (by decide), fun _ => h, fun q => absurd q (by decide), fun q => absurd q (by decide), fun q => absurd q (by decide), fun q => absurd q (by decide)⟩
theorem akb_12 {n m : Nat} {d : Int} {F T W C : Nat → Int} {what x y r : Int} (e : what = 12) (h : mcA m d 0 F T W n x.toNat y.toNat r) : akB n m d F T W C what x y r := by
  subst e
  exact ⟨fun q => absurd q (by decide), fun q => absurd q (by decide), fun q => absurd q (by decide), fun q => absurd q (by decide), fun q => absurd q (by decide), fun q => absurd q (by decide), fun q => absurd q (by decide), fun q => absurd q (by decide), fun q => absurd q (by decide), fun q => absurd q (by decide), fun q => absurd q (by decide), fun q => absurd q (by decide), fun _ => h, fun q => absurd q (by decide), fun q => absurd q (by decide), fun q => absurd q (by decide)⟩
theorem akb_13 {n m : Nat} {d : Int} {F T W C : Nat → Int} {what x y r : Int} (e : what = 13) (h : mcS m d 0 F T W n x.toNat y.toNat r) : akB n m d F T W C what x y r := by
  subst e
  exact ⟨fun q => absurd q (by decide), fun q => absurd q (by decide), fun q => absurd q (by decide), fun q => absurd q (by decide), fun q => absurd q (by decide), fun q => absurd q (by decide), fun q => absurd q (by decide), fun q => absurd q (by decide), fun q => absurd q (by decide), fun q => absurd q (by decide), fun q => absurd q (by decide), fun q => absurd q (by decide), fun q => absurd q (by decide), fun _ => h, fun q => absurd q (by decide), fun q => absurd q (by decide)⟩
theorem akb_14 {n m : Nat} {d : Int} {F T W C : Nat → Int} {what x y r : Int} (e : what = 14) (h : prcA m d F T W C x.toNat y.toNat r) : akB n m d F T W C what x y r := by
  subst e
  exact ⟨fun q => absurd q (by decide), fun q => absurd q (by decide), fun q => absurd q (by decide), fun q => absurd q (by decide), fun q => absurd q (by decide), fun q => absurd q (by decide), fun q => absurd q (by decide), fun q => absurd q (by decide), fun q => absurd q (by decide), fun q => absurd q (by decide), fun q => absurd q (by decide), fun q => absurd q (by decide), fun q => absurd q (by decide), fun q => absurd q (by decide), fun _ => h, fun q => absurd q (by decide)⟩
theorem akb_15 {n m : Nat} {d : Int} {F T W C : Nat → Int} {what x y r : Int} (e : what = 15) (h : mcA m d 1 F T W n x.toNat y.toNat r) : akB n m d F T W C what x y r := by
  subst e
  exact ⟨fun q => absurd q (by decide), fun q => absurd q (by decide), fun q => absurd q (by decide), fun q => absurd q (by decide), fun q => absurd q (by decide), fun q => absurd q (by decide), fun q => absurd q (by decide), fun q => absurd q (by decide), fun q => absurd q (by decide), fun q => absurd q (by decide), fun q => absurd q (by decide), fun q => absurd q (by decide), fun q => absurd q (by decide), fun q => absurd q (by decide), fun q => absurd q (by decide), fun _ => h⟩

