theorem an1_r {cn : Int} {so : Nat → Int} {x s v : Int} {bad full : Prop} (h : (v = -1 ∧ ¬ (0 ≤ x ∧ x < cn)) ∨ (v = -2 ∧ 0 ≤ x ∧ x < cn ∧ so x.toNat ≠ s)) : v = an1 cn so x s bad full := by
  unfold an1
  rcases h with ⟨h1, h2⟩ | ⟨h1, h2, h3, h4⟩
  · rw [hdQ_y h2]; exact h1
  · rw [hdQ_n (fun h9 => h9 ⟨h2, h3⟩), hdQ_y h4]; exact h1
theorem an1_b {cn : Int} {so : Nat → Int} {x s v : Int} {bad full : Prop} (h : v = -3) (h1 : 0 ≤ x ∧ x < cn ∧ so x.toNat = s) (hb : bad) : v = an1 cn so x s bad full := by
  unfold an1
  rw [hdQ_n (fun h9 => h9 ⟨h1.1, h1.2.1⟩), hdQ_n (fun h9 => h9 h1.2.2), hdQ_y hb]; exact h
theorem an1_m {cn : Int} {so : Nat → Int} {x s v : Int} {bad full : Prop} (h : v = hdQ full (-4) cn) (h1 : 0 ≤ x ∧ x < cn ∧ so x.toNat = s) (hb : ¬ bad) : v = an1 cn so x s bad full := by
  unfold an1
  rw [hdQ_n (fun h9 => h9 ⟨h1.1, h1.2.1⟩), hdQ_n (fun h9 => h9 h1.2.2), hdQ_n hb]; exact h
theorem an2_r {cn : Int} {so : Nat → Int} {x s y t v : Int} {bad full : Prop} (h : (v = -1 ∧ ¬ (0 ≤ x ∧ x < cn ∧ 0 ≤ y ∧ y < cn)) ∨ (v = -2 ∧ 0 ≤ x ∧ x < cn ∧ 0 ≤ y ∧ y < cn ∧ ¬ (so x.toNat = s ∧ so y.toNat = t))) : v = an2 cn so x s y t bad full := by
  unfold an2
  rcases h with ⟨h1, h2⟩ | ⟨h1, h2, h3, h4, h5, h6⟩
  · rw [hdQ_y h2]; exact h1
  · rw [hdQ_n (fun h9 => h9 ⟨h2, h3, h4, h5⟩), hdQ_y h6]; exact h1
theorem an2_b {cn : Int} {so : Nat → Int} {x s y t v : Int} {bad full : Prop} (h : v = -3) (h1 : 0 ≤ x ∧ x < cn ∧ 0 ≤ y ∧ y < cn ∧ so x.toNat = s ∧ so y.toNat = t) (hb : bad) : v = an2 cn so x s y t bad full := by
  unfold an2
  rw [hdQ_n (fun h9 => h9 ⟨h1.1, h1.2.1, h1.2.2.1, h1.2.2.2.1⟩), hdQ_n (fun h9 => h9 ⟨h1.2.2.2.2.1, h1.2.2.2.2.2⟩), hdQ_y hb]; exact h
theorem an2_m {cn : Int} {so : Nat → Int} {x s y t v : Int} {bad full : Prop} (h : v = hdQ full (-4) cn) (h1 : 0 ≤ x ∧ x < cn ∧ 0 ≤ y ∧ y < cn ∧ so x.toNat = s ∧ so y.toNat = t) (hb : ¬ bad) : v = an2 cn so x s y t bad full := by
  unfold an2
  rw [hdQ_n (fun h9 => h9 ⟨h1.1, h1.2.1, h1.2.2.1, h1.2.2.2.1⟩), hdQ_n (fun h9 => h9 ⟨h1.2.2.2.2.1, h1.2.2.2.2.2⟩), hdQ_n hb]; exact h
theorem dn1_r {cn : Int} {so : Nat → Int} {x s v : Int} {bad : Prop} (h : (v = -1 ∧ ¬ (0 ≤ x ∧ x < cn)) ∨ (v = -2 ∧ 0 ≤ x ∧ x < cn ∧ so x.toNat ≠ s)) : v = dn1 cn so x s bad := by
  unfold dn1
  rcases h with ⟨h1, h2⟩ | ⟨h1, h2, h3, h4⟩
  · rw [hdQ_y h2]; exact h1
  · rw [hdQ_n (fun h9 => h9 ⟨h2, h3⟩), hdQ_y h4]; exact h1
theorem dn1_b {cn : Int} {so : Nat → Int} {x s v : Int} {bad : Prop} (h : v = -3) (h1 : 0 ≤ x ∧ x < cn ∧ so x.toNat = s) (hb : bad) : v = dn1 cn so x s bad := by
  unfold dn1
  rw [hdQ_n (fun h9 => h9 ⟨h1.1, h1.2.1⟩), hdQ_n (fun h9 => h9 h1.2.2), hdQ_y hb]; exact h
theorem dn1_m {cn : Int} {so : Nat → Int} {x s v : Int} {bad : Prop} (h : v = 0) (h1 : 0 ≤ x ∧ x < cn ∧ so x.toNat = s) (hb : ¬ bad) : v = dn1 cn so x s bad := by
  unfold dn1
  rw [hdQ_n (fun h9 => h9 ⟨h1.1, h1.2.1⟩), hdQ_n (fun h9 => h9 h1.2.2), hdQ_n hb]; exact h
theorem dn2_r {cn : Int} {so : Nat → Int} {x s y t v : Int} {bad : Prop} (h : (v = -1 ∧ ¬ (0 ≤ x ∧ x < cn ∧ 0 ≤ y ∧ y < cn)) ∨ (v = -2 ∧ 0 ≤ x ∧ x < cn ∧ 0 ≤ y ∧ y < cn ∧ ¬ (so x.toNat = s ∧ so y.toNat = t))) : v = dn2 cn so x s y t bad := by
  unfold dn2
  rcases h with ⟨h1, h2⟩ | ⟨h1, h2, h3, h4, h5, h6⟩
  · rw [hdQ_y h2]; exact h1
  · rw [hdQ_n (fun h9 => h9 ⟨h2, h3, h4, h5⟩), hdQ_y h6]; exact h1
theorem dn2_b {cn : Int} {so : Nat → Int} {x s y t v : Int} {bad : Prop} (h : v = -3) (h1 : 0 ≤ x ∧ x < cn ∧ 0 ≤ y ∧ y < cn ∧ so x.toNat = s ∧ so y.toNat = t) (hb : bad) : v = dn2 cn so x s y t bad := by
  unfold dn2
  rw [hdQ_n (fun h9 => h9 ⟨h1.1, h1.2.1, h1.2.2.1, h1.2.2.2.1⟩), hdQ_n (fun h9 => h9 ⟨h1.2.2.2.2.1, h1.2.2.2.2.2⟩), hdQ_y hb]; exact h
theorem dn2_m {cn : Int} {so : Nat → Int} {x s y t v : Int} {bad : Prop} (h : v = 0) (h1 : 0 ≤ x ∧ x < cn ∧ 0 ≤ y ∧ y < cn ∧ so x.toNat = s ∧ so y.toNat = t) (hb : ¬ bad) : v = dn2 cn so x s y t bad := by
  unfold dn2
  rw [hdQ_n (fun h9 => h9 ⟨h1.1, h1.2.1, h1.2.2.1, h1.2.2.2.1⟩), hdQ_n (fun h9 => h9 ⟨h1.2.2.2.2.1, h1.2.2.2.2.2⟩), hdQ_n hb]; exact h
