section RA
variable {G : MG} {M : MM} {d pc : Nat} {lv : List (Nat × Value)} {st : List Value} {hp : MH} {n kr wr : Nat} {Po : Option Value → MH → Nat → Prop}
theorem arrV_congr (cA : ClassId) (N : Nat) {f g : Nat → Value} (h : ∀ j, j < N → f j = g j) : arrV cA N f = arrV cA N g := by
  unfold arrV
  congr 1
  apply Array.ext
  · simp
  · intro i h1 h2
    simp at h1
    simp [h i h1]
theorem w_alti {a N : Nat} {cA : ClassId} {f : Nat → Int32} (g : Nat → Int32) (ha : hp a = some (.inl (cA, N, .inl f))) (h : ∀ j, j < N → f j = g j) (kk : ∀ hp1 : MH, hp1 a = some (.inl (cA, N, .inl g)) → (∀ q : Nat, q ≠ a → hp1 q = hp q) → Rn G M d pc lv st hp1 n kr wr Po) : Rn G M d pc lv st hp n kr wr Po := by
  intro p l e s m args below meth c H locs cells slots mc ms ls C hl hw hS h1 h2
  refine kk _ up_s up_o p l e s m args below meth c H locs cells slots mc ms ls C hl (hw.set ha ?_ rfl (fun _ _ => rfl)) hS h1 h2
  have h9 : H[a]? = some (vp_cell cA (N, .inl f)) := (hw.2 a _ ha).2
  show H[a]? = some (vp_cell cA (N, .inl g))
  rw [h9, vp_cell_i, vp_cell_i, arrV_congr cA N (fun j hj => congrArg Value.int (h j hj))]
theorem w_altl {a N : Nat} {cA : ClassId} {f : Nat → Int64} (g : Nat → Int64) (ha : hp a = some (.inl (cA, N, .inr (.inl f)))) (h : ∀ j, j < N → f j = g j) (kk : ∀ hp1 : MH, hp1 a = some (.inl (cA, N, .inr (.inl g))) → (∀ q : Nat, q ≠ a → hp1 q = hp q) → Rn G M d pc lv st hp1 n kr wr Po) : Rn G M d pc lv st hp n kr wr Po := by
  intro p l e s m args below meth c H locs cells slots mc ms ls C hl hw hS h1 h2
  refine kk _ up_s up_o p l e s m args below meth c H locs cells slots mc ms ls C hl (hw.set ha ?_ rfl (fun _ _ => rfl)) hS h1 h2
  have h9 : H[a]? = some (vp_cell cA (N, .inr (.inl f))) := (hw.2 a _ ha).2
  show H[a]? = some (vp_cell cA (N, .inr (.inl g)))
  rw [h9, vp_cell_l, vp_cell_l, arrV_congr cA N (fun j hj => congrArg Value.long (h j hj))]
end RA
