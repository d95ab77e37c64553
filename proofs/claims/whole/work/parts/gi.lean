theorem mel_or (x y : Int64) (i : Nat) : MeL (x ||| y) i ↔ MeL x i ∨ MeL y i := by
  unfold MeL
  rw [Int64.toBitVec_or, BitVec.getLsbD_or, Bool.or_eq_true]
theorem mel_shl {k : Nat} (hk : k < 60) (i : Nat) : MeL (1 <<< ((iv (k : Int)).toInt64 &&& 63)) i ↔ i = k := by
  unfold MeL
  rw [Int64.toBitVec_shiftLeft, BitVec.shiftLeft_eq', sh_lk k hk, BitVec.getLsbD_shiftLeft]
  by_cases h1 : i < 64
  · by_cases h2 : i < k
    · simp [h1, h2]; omega
    · have h3 : (1 : Int64).toBitVec.getLsbD (i - k) = decide (i - k = 0) := by
        show (1#64).getLsbD (i - k) = _
        rw [BitVec.getLsbD_one]; simp
      simp [h1, h2, h3]; omega
  · simp [h1]; omega
theorem mel_bit (x : Int64) {k : Nat} (hk : k < 60) : ((x >>> ((iv (k : Int)).toInt64 &&& 63)) &&& 1).toInt = (0 : Int64).toInt ↔ ¬ MeL x k := by
  have hb : ∀ i, i < 64 → ((x >>> ((iv (k : Int)).toInt64 &&& 63)) &&& 1).toBitVec.getLsbD i = ((x >>> ((iv (k : Int)).toInt64 &&& 63)).toBitVec.getLsbD i && decide (i = 0)) := fun i hi => by
    rw [Int64.toBitVec_and, BitVec.getLsbD_and]
    congr 1
    show (1#64).getLsbD i = _
    rw [BitVec.getLsbD_one]; simp
  have h0 := mel_shr x hk 0 (by omega)
  rw [Nat.zero_add] at h0
  constructor
  · intro h g
    have e := Int64.toInt.inj h
    have h1 := hb 0 (by omega)
    rw [e, h0, show x.toBitVec.getLsbD k = true from g] at h1
    simp at h1
  · intro g
    have e : ((x >>> ((iv (k : Int)).toInt64 &&& 63)) &&& 1) = 0 := Int64.toBitVec_inj.mp (BitVec.eq_of_getLsbD_eq (fun i hi => by
      rw [hb i hi]
      by_cases hz : i = 0
      · subst hz
        rw [h0]
        cases e9 : x.toBitVec.getLsbD k with
        | true => exact absurd e9 g
        | false => rfl
      · simp [hz]))
    rw [e]
