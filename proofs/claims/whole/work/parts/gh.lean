/-- a long as a set of arcs -/
def MeL (x : Int64) (i : Nat) : Prop := x.toBitVec.getLsbD i = true
theorem sh_lk : ∀ k : Nat, k < 60 → (((iv (k : Int)).toInt64 &&& 63).toBitVec.smod 64).toNat = k := by decide
theorem mel_shr (x : Int64) {k : Nat} (hk : k < 60) (i : Nat) (hi : i + k < 64) : (x >>> ((iv (k : Int)).toInt64 &&& 63)).toBitVec.getLsbD i = x.toBitVec.getLsbD (i + k) := by
  rw [Int64.toBitVec_shiftRight]
  unfold BitVec.sshiftRight'
  rw [sh_lk k hk, BitVec.getLsbD_sshiftRight]
  have h1 : i < 64 := by omega
  simp [h1, Nat.add_comm, show k + i < 64 by omega]
theorem mel_0 (i : Nat) : ¬ MeL 0 i := by
  intro h
  have h1 : (0 : Int64).toBitVec.getLsbD i = true := h
  simp at h1
