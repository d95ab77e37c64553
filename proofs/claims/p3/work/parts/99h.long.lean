theorem lgc (x y : Int64) : (y.toInt < x.toInt ∧ lg_cmp x y = iv 1) ∨ (x.toInt = y.toInt ∧ lg_cmp x y = iv 0) ∨ (x.toInt < y.toInt ∧ lg_cmp x y = iv (-1)) := by
  unfold lg_cmp
  by_cases h1 : x > y
  · left
    exact ⟨Int64.lt_iff_toInt_lt.mp h1, by rw [if_pos h1]; rfl⟩
  · rw [if_neg h1]
    by_cases h2 : x = y
    · right; left
      exact ⟨by rw [h2], by rw [if_pos h2]; rfl⟩
    · right; right
      rw [if_neg h2]
      refine ⟨?_, rfl⟩
      have h3 : ¬ y.toInt < x.toInt := fun q => h1 (Int64.lt_iff_toInt_lt.mpr q)
      have h4 : ¬ x.toInt = y.toInt := fun q => h2 (Int64.toInt_inj.mp q)
      omega
theorem i64_lo (x : Int64) : -9223372036854775808 ≤ x.toInt := by have := Int64.le_toInt x; omega
theorem i64_hi (x : Int64) : x.toInt ≤ 9223372036854775807 := by have := Int64.toInt_lt x; omega
theorem l_add {x y : Int64} (h : -9223372036854775808 ≤ x.toInt + y.toInt ∧ x.toInt + y.toInt ≤ 9223372036854775807) : (x + y).toInt = x.toInt + y.toInt := by
  rw [Int64.toInt_add]
  exact Int.bmod_eq_of_le (by omega) (by omega)
theorem iv_long {x : Int} (h : -2147483648 ≤ x ∧ x ≤ 2147483647) : (iv x).toInt64.toInt = x := by
  rw [Int32.toInt_toInt64, iv_toInt h.1 h.2]
section LG
variable {G : MG} {M : MM} {d pc : Nat} {lv : List (Nat × Value)} {st : List Value} {hp : MH} {n kr wr : Nat} {Po : Option Value → MH → Nat → Prop}
theorem t_lif_eq {x y : Int64} {off : Int} {tgt : Nat} (hd : decode M.2.1 pc = .ok (.ifCond .eq off, 3)) (ht : (pc : Int) + off = (tgt : Int)) (kt : x.toInt = y.toInt → Rn G M d tgt lv st hp n kr wr Po) (kf : ¬ (x.toInt = y.toInt) → Rn G M d (pc + 3) lv st hp n kr wr Po) : Rn G M d pc lv (.int (lg_cmp x y) :: st) hp n kr wr Po := by
  rcases lgc x y with ⟨h1, h2⟩ | ⟨h1, h2⟩ | ⟨h1, h2⟩
  · rw [h2]; exact t_if_eq hd ht (by omega) (fun q => absurd q (by omega)) (fun q => kf (by omega))
  · rw [h2]; exact t_if_eq hd ht (by omega) (fun q => kt (by omega)) (fun q => (by exfalso; omega))
  · rw [h2]; exact t_if_eq hd ht (by omega) (fun q => absurd q (by omega)) (fun q => kf (by omega))
theorem t_lif_ne {x y : Int64} {off : Int} {tgt : Nat} (hd : decode M.2.1 pc = .ok (.ifCond .ne off, 3)) (ht : (pc : Int) + off = (tgt : Int)) (kt : x.toInt ≠ y.toInt → Rn G M d tgt lv st hp n kr wr Po) (kf : ¬ (x.toInt ≠ y.toInt) → Rn G M d (pc + 3) lv st hp n kr wr Po) : Rn G M d pc lv (.int (lg_cmp x y) :: st) hp n kr wr Po := by
  rcases lgc x y with ⟨h1, h2⟩ | ⟨h1, h2⟩ | ⟨h1, h2⟩
  · rw [h2]; exact t_if_ne hd ht (by omega) (fun q => kt (by omega)) (fun q => (by exfalso; omega))
  · rw [h2]; exact t_if_ne hd ht (by omega) (fun q => absurd q (by omega)) (fun q => kf (by omega))
  · rw [h2]; exact t_if_ne hd ht (by omega) (fun q => kt (by omega)) (fun q => (by exfalso; omega))
theorem t_lif_lt {x y : Int64} {off : Int} {tgt : Nat} (hd : decode M.2.1 pc = .ok (.ifCond .lt off, 3)) (ht : (pc : Int) + off = (tgt : Int)) (kt : x.toInt < y.toInt → Rn G M d tgt lv st hp n kr wr Po) (kf : ¬ (x.toInt < y.toInt) → Rn G M d (pc + 3) lv st hp n kr wr Po) : Rn G M d pc lv (.int (lg_cmp x y) :: st) hp n kr wr Po := by
  rcases lgc x y with ⟨h1, h2⟩ | ⟨h1, h2⟩ | ⟨h1, h2⟩
  · rw [h2]; exact t_if_lt hd ht (by omega) (fun q => absurd q (by omega)) (fun q => kf (by omega))
  · rw [h2]; exact t_if_lt hd ht (by omega) (fun q => absurd q (by omega)) (fun q => kf (by omega))
  · rw [h2]; exact t_if_lt hd ht (by omega) (fun q => kt (by omega)) (fun q => (by exfalso; omega))
theorem t_lif_ge {x y : Int64} {off : Int} {tgt : Nat} (hd : decode M.2.1 pc = .ok (.ifCond .ge off, 3)) (ht : (pc : Int) + off = (tgt : Int)) (kt : y.toInt ≤ x.toInt → Rn G M d tgt lv st hp n kr wr Po) (kf : ¬ (y.toInt ≤ x.toInt) → Rn G M d (pc + 3) lv st hp n kr wr Po) : Rn G M d pc lv (.int (lg_cmp x y) :: st) hp n kr wr Po := by
  rcases lgc x y with ⟨h1, h2⟩ | ⟨h1, h2⟩ | ⟨h1, h2⟩
  · rw [h2]; exact t_if_ge hd ht (by omega) (fun q => kt (by omega)) (fun q => (by exfalso; omega))
  · rw [h2]; exact t_if_ge hd ht (by omega) (fun q => kt (by omega)) (fun q => (by exfalso; omega))
  · rw [h2]; exact t_if_ge hd ht (by omega) (fun q => absurd q (by omega)) (fun q => kf (by omega))
theorem t_lif_gt {x y : Int64} {off : Int} {tgt : Nat} (hd : decode M.2.1 pc = .ok (.ifCond .gt off, 3)) (ht : (pc : Int) + off = (tgt : Int)) (kt : y.toInt < x.toInt → Rn G M d tgt lv st hp n kr wr Po) (kf : ¬ (y.toInt < x.toInt) → Rn G M d (pc + 3) lv st hp n kr wr Po) : Rn G M d pc lv (.int (lg_cmp x y) :: st) hp n kr wr Po := by
  rcases lgc x y with ⟨h1, h2⟩ | ⟨h1, h2⟩ | ⟨h1, h2⟩
  · rw [h2]; exact t_if_gt hd ht (by omega) (fun q => kt (by omega)) (fun q => (by exfalso; omega))
  · rw [h2]; exact t_if_gt hd ht (by omega) (fun q => absurd q (by omega)) (fun q => kf (by omega))
  · rw [h2]; exact t_if_gt hd ht (by omega) (fun q => absurd q (by omega)) (fun q => kf (by omega))
theorem t_lif_le {x y : Int64} {off : Int} {tgt : Nat} (hd : decode M.2.1 pc = .ok (.ifCond .le off, 3)) (ht : (pc : Int) + off = (tgt : Int)) (kt : x.toInt ≤ y.toInt → Rn G M d tgt lv st hp n kr wr Po) (kf : ¬ (x.toInt ≤ y.toInt) → Rn G M d (pc + 3) lv st hp n kr wr Po) : Rn G M d pc lv (.int (lg_cmp x y) :: st) hp n kr wr Po := by
  rcases lgc x y with ⟨h1, h2⟩ | ⟨h1, h2⟩ | ⟨h1, h2⟩
  · rw [h2]; exact t_if_le hd ht (by omega) (fun q => absurd q (by omega)) (fun q => kf (by omega))
  · rw [h2]; exact t_if_le hd ht (by omega) (fun q => kt (by omega)) (fun q => (by exfalso; omega))
  · rw [h2]; exact t_if_le hd ht (by omega) (fun q => kt (by omega)) (fun q => (by exfalso; omega))
end LG
