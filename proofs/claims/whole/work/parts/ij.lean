section CB
variable {R : Nat → Nat → Prop} {S : Nat → Prop} {mt pa ba : Nat → Int} {ev : Nat → Prop} {root : Nat} {rk : Nat → Nat} {L : Nat → List Nat}
/-- a base that lies on a way back -/
def chP9 (ba : Nat → Int) (L : Nat → List Nat) (x : Nat) (c : Int) : Prop := ∃ y, y ∈ L x ∧ ba y = c
theorem ch9_st (hI : bmI R S mt pa ba ev root rk L) {x b : Nat} (hx : ev x) (hb : ba x = (b : Int)) (hbr : b ≠ root) : ∃ z : Nat, pa (mN mt b) = (z : Int) ∧ ev z ∧ z ∈ L x ∧ (L z).length < (L x).length ∧ (∀ c, chP9 ba L x c ↔ c = (b : Int) ∨ chP9 ba L z c) ∧ ∀ y, y ∈ L x → ba y = (b : Int) ∨ y ∈ L z := by
  obtain ⟨b', b1, b2, b3⟩ := hI.2.2.1.1 x hx
  have eb : b' = b := by omega
  rw [eb] at b2 b3
  obtain ⟨z, z1, z2, z3, z4, z5, z6⟩ := hI.2.2.2.2.2.1 b b2 hbr
  have hbx := bm_bs hI x hx b hb
  have hzb : z ∈ L b := by rw [z6]; exact List.mem_cons_of_mem b (bm_hd hI z2)
  have hzx := bm_sub hI hx hbx hzb
  obtain ⟨pre, hp⟩ := bm_sf hI x hx b hbx
  have hl : (L z).length < (L x).length := by
    rw [hp, z6, List.length_append, List.length_cons]; omega
  have hin : ∀ y, y ∈ L x → ba y = (b : Int) ∨ y ∈ L z := fun y hy => by
    rcases bm_l6 hI x hx b hb y hy with g | g
    · exact Or.inl (by rw [g]; exact hb)
    · rw [z6] at g
      rcases List.mem_cons.mp g with q | q
      · exact Or.inl (by rw [q]; exact b3)
      · exact Or.inr q
  refine ⟨z, z1, z2, hzx, hl, fun c => ⟨?_, ?_⟩, hin⟩
  · rintro ⟨y, y1, y2⟩
    rcases hin y y1 with g | g
    · exact Or.inl (y2.symm.trans g)
    · exact Or.inr ⟨y, g, y2⟩
  · rintro (e | ⟨y, y1, y2⟩)
    · exact ⟨x, bm_hd hI hx, by rw [e]; exact hb⟩
    · exact ⟨y, bm_sub hI hx hzx y1, y2⟩
theorem ch9_rt (hI : bmI R S mt pa ba ev root rk L) {x : Nat} (hx : ev x) (hb : ba x = (root : Int)) (c : Int) : chP9 ba L x c ↔ c = (root : Int) := by
  constructor
  · rintro ⟨y, y1, y2⟩
    rcases bm_l6 hI x hx root hb y y1 with g | g
    · rw [← y2, g, hb]
    · rw [hI.2.2.2.2.2.2.1] at g
      rw [← y2, List.mem_singleton.mp g]; exact bm_br hI
  · intro e
    exact ⟨x, bm_hd hI hx, by rw [e]; exact hb⟩
theorem bm_pos (hI : bmI R S mt pa ba ev root rk L) {x : Nat} (hx : ev x) : 0 < (L x).length := List.length_pos_of_mem (bm_hd hI hx)
theorem bm_len (hI : bmI R S mt pa ba ev root rk L) {n : Nat} (hS : ∀ a, S a → a < n) {x : Nat} (hx : ev x) : (L x).length ≤ n := by
  obtain ⟨k, k1, k2⟩ := es_k hI x hx
  have hp := es_p hI hx k1 k2
  have h1 := es_15 hp hS
  have h2 : ∀ i, i ≤ k → (L (esF mt pa x (k - i))).length = i + 1 := by
    intro i
    induction i with
    | zero =>
      intro _
      rw [Nat.sub_zero, k1, hI.2.2.2.2.2.2.1]; rfl
    | succ i ih =>
      intro hi
      obtain ⟨z, z1, -, -, -, -, z6⟩ := hI.2.2.2.2.2.1 _ (hp.2.1 (k - (i + 1)) (by omega)).1 (k2 _ (by omega))
      have e : z = esF mt pa x (k - i) := by
        have h3 := (hp.2.2.1 (k - (i + 1)) (by omega)).2.1
        rw [z1, show k - (i + 1) + 1 = k - i by omega] at h3
        omega
      rw [z6, List.length_cons, e, ih (by omega)]
  have h3 := h2 k (Nat.le_refl k)
  rw [Nat.sub_self] at h3
  have h4 : (L x).length = k + 1 := h3
  omega
/-- the bases of the first way, so far -/
def cb1 (ba : Nat → Int) (ev : Nat → Prop) (L : Nat → List Nat) (a : Nat) (sn v i : Int) : Prop := (∀ c : Nat, chP9 ba L a (c : Int) ↔ Me sn c ∨ (0 ≤ v ∧ chP9 ba L v.toNat (c : Int))) ∧ (0 ≤ v → ev v.toNat ∧ ((L v.toNat).length : Int) + i ≤ 16)
theorem cb1_0 (hI : bmI R S mt pa ba ev root rk L) {n a : Nat} (hS : ∀ a, S a → a < n) (hn : n ≤ 16) (ha : ev a) : cb1 ba ev L a 0 (a : Int) 0 := by
  have := bm_len hI hS ha
  refine ⟨fun c => ⟨fun g => Or.inr ⟨by omega, g⟩, fun g => g.elim (fun q => absurd q (Me_0 c)) (fun q => q.2)⟩, fun _ => ⟨ha, ?_⟩⟩
  rw [Int.toNat_natCast]; omega
theorem cb1_st (hI : bmI R S mt pa ba ev root rk L) {a : Nat} {sn sn1 v i b v1 : Int} (h : cb1 ba ev L a sn v i) (hv : 0 ≤ v) (hb : ba v.toNat = b) (h0 : 0 ≤ b) (h1 : ∀ c, Me sn1 c ↔ Me sn c ∨ c = b.toNat) (hv1 : (mt b.toNat < 0 ∧ v1 = -1) ∨ (0 ≤ mt b.toNat ∧ v1 = pa (mN mt b.toNat))) : cb1 ba ev L a sn1 v1 (i + 1) := by
  obtain ⟨hv2, hv3⟩ := h.2 hv
  obtain ⟨b', b1, b2, b3⟩ := hI.2.2.1.1 v.toNat hv2
  have eb : b' = b.toNat := by omega
  rw [eb] at b1 b2 b3
  by_cases er : b.toNat = root
  · rcases hv1 with ⟨-, e⟩ | ⟨g, -⟩
    · refine ⟨fun c => ?_, fun q => by omega⟩
      rw [h.1 c, h1 c]
      rw [er] at b1 ⊢
      constructor
      · rintro (g | ⟨-, g⟩)
        · exact Or.inl (Or.inl g)
        · have := (ch9_rt hI hv2 b1 (c : Int)).mp g
          exact Or.inl (Or.inr (by omega))
      · rintro ((g | g) | ⟨g, -⟩)
        · exact Or.inl g
        · exact Or.inr ⟨hv, (ch9_rt hI hv2 b1 (c : Int)).mpr (by omega)⟩
        · omega
    · rw [er] at g
      have := hI.2.1.2.1
      omega
  · rcases hv1 with ⟨g, -⟩ | ⟨-, e⟩
    · have := (hI.2.1.2.2 _ b2).2 er
      omega
    · obtain ⟨z, z1, z2, z3, z4, z5, -⟩ := ch9_st hI hv2 b1 er
      rw [z1] at e
      refine ⟨fun c => ?_, fun _ => ?_⟩
      · rw [h.1 c, h1 c, e, Int.toNat_natCast]
        constructor
        · rintro (g | ⟨-, g⟩)
          · exact Or.inl (Or.inl g)
          · rcases (z5 (c : Int)).mp g with q | q
            · exact Or.inl (Or.inr (by omega))
            · exact Or.inr ⟨by omega, q⟩
        · rintro ((g | g) | ⟨-, g⟩)
          · exact Or.inl g
          · exact Or.inr ⟨hv, (z5 (c : Int)).mpr (Or.inl (by omega))⟩
          · exact Or.inr ⟨hv, (z5 (c : Int)).mpr (Or.inr g)⟩
      · rw [e, Int.toNat_natCast]
        exact ⟨z2, by omega⟩
theorem cb1_e (hI : bmI R S mt pa ba ev root rk L) {a : Nat} {sn v i : Int} (h : cb1 ba ev L a sn v i) (he : v < 0 ∨ 16 ≤ i) : ∀ c : Nat, Me sn c ↔ chP9 ba L a (c : Int) := fun c => by
  have hv : v < 0 := Classical.byContradiction (fun g => by
    obtain ⟨h1, h2⟩ := h.2 (by omega)
    have := bm_pos hI h1
    omega)
  rw [h.1 c]
  exact ⟨Or.inl, fun g => g.elim id (fun q => by have := q.1; omega)⟩
/-- the second way, up to the first base that is known -/
def cb2 (ba : Nat → Int) (ev : Nat → Prop) (L : Nat → List Nat) (b : Nat) (sn v i : Int) : Prop := 0 ≤ v ∧ ev v.toNat ∧ v.toNat ∈ L b ∧ ((L v.toNat).length : Int) + i ≤ 16 ∧ ∀ y, y ∈ L b → y ∈ L v.toNat ∨ ¬ Me sn (ba y).toNat
theorem cb2_0 (hI : bmI R S mt pa ba ev root rk L) {n b : Nat} {sn : Int} (hS : ∀ a, S a → a < n) (hn : n ≤ 16) (hb : ev b) : cb2 ba ev L b sn (b : Int) 0 := by
  have := bm_len hI hS hb
  refine ⟨by omega, hb, bm_hd hI hb, ?_, fun y hy => Or.inl hy⟩
  rw [Int.toNat_natCast]; omega
theorem cb2_n (hI : bmI R S mt pa ba ev root rk L) {a b : Nat} {sn v i c : Int} (ha : ev a) (hs : ∀ c : Nat, Me sn c ↔ chP9 ba L a (c : Int)) (h : cb2 ba ev L b sn v i) (hb : ev b) (hc : ba v.toNat = c) (h0 : 0 ≤ c) (hn : ¬ Me sn c.toNat) : 0 ≤ mt c.toNat ∧ cb2 ba ev L b sn (pa (mN mt c.toNat)) (i + 1) := by
  obtain ⟨h1, h2, h3, h4, h5⟩ := h
  obtain ⟨b', b1, b2, b3⟩ := hI.2.2.1.1 v.toNat h2
  have eb : b' = c.toNat := by omega
  rw [eb] at b1 b2 b3
  have er : c.toNat ≠ root := fun e => hn (by
    rw [e]
    exact (hs root).mpr ⟨root, bm_rt hI a ha, bm_br hI⟩)
  obtain ⟨z, z1, z2, z3, z4, z5, z6⟩ := ch9_st hI h2 b1 er
  refine ⟨(hI.2.1.2.2 _ b2).2 er, ?_⟩
  rw [z1]
  refine ⟨by omega, z2, bm_sub hI hb h3 z3, by rw [Int.toNat_natCast]; omega, fun y hy => ?_⟩
  rw [Int.toNat_natCast]
  rcases h5 y hy with g | g
  · rcases z6 y g with q | q
    · refine Or.inr ?_
      rw [q, Int.toNat_natCast]; exact hn
    · exact Or.inl q
  · exact Or.inr g
/-- the top of a ring -/
def tpP9 (ba : Nat → Int) (rk : Nat → Nat) (L : Nat → List Nat) (a b : Nat) (t : Int) : Prop := chP9 ba L a t ∧ chP9 ba L b t ∧ ∀ y, y ∈ L b → chP9 ba L a (ba y) → ba y = t ∨ rk (ba y).toNat < rk t.toNat
theorem cb2_y (hI : bmI R S mt pa ba ev root rk L) {a b : Nat} {sn v i c : Int} (hs : ∀ c : Nat, Me sn c ↔ chP9 ba L a (c : Int)) (h : cb2 ba ev L b sn v i) (hb : ev b) (hc : ba v.toNat = c) (h0 : 0 ≤ c) (hn : Me sn c.toNat) : tpP9 ba rk L a b c := by
  obtain ⟨h1, h2, h3, h4, h5⟩ := h
  have h6 := (hs c.toNat).mp hn
  rw [show ((c.toNat : Nat) : Int) = c by omega] at h6
  refine ⟨h6, ⟨v.toNat, h3, hc⟩, fun y hy hya => ?_⟩
  rcases h5 y hy with g | g
  · have := bm_rk hI v.toNat h2 y g
    rw [hc] at this; exact this
  · exfalso
    have hye := bm_ev hI b hb y hy
    obtain ⟨b', b1, -⟩ := hI.2.2.1.1 y hye
    rw [b1, Int.toNat_natCast] at g
    rw [b1] at hya
    exact g ((hs b').mpr hya)
theorem cb2_e (hI : bmI R S mt pa ba ev root rk L) {b : Nat} {sn v i : Int} (h : cb2 ba ev L b sn v i) : 0 ≤ v ∧ i < 16 := by
  have := bm_pos hI h.2.1
  have := h.2.2.2.1
  exact ⟨h.1, by omega⟩
/-- going up a way, its parents turned -/
def tuI (mt pa ba : Nat → Int) (ev : Nat → Prop) (root : Nat) (L : Nat → List Nat) (pc0 pc : Nat → Int) (v w : Nat) (top rg here ch : Int) (i : Nat) : Prop :=
  (here = (esF mt pa v i : Int) ∧ ev (esF mt pa v i) ∧ chP9 ba L (esF mt pa v i) top ∧ (L (esF mt pa v i)).length + i ≤ 16 ∧ esF mt pa v i ∈ L v) ∧
  (∀ j, j < i → ev (esF mt pa v j) ∧ esF mt pa v j ≠ root ∧ pa (mN mt (esF mt pa v j)) = (esF mt pa v (j + 1) : Int) ∧ ba (esF mt pa v j) ≠ top) ∧
  (ch = if i = 0 then (w : Int) else ((mN mt (esF mt pa v (i - 1)) : Nat) : Int)) ∧
  ((∀ y, (∀ j, j < i → y ≠ esF mt pa v j) → pc y = pc0 y) ∧ ∀ j, j < i → pc (esF mt pa v j) = if j = 0 then (w : Int) else ((mN mt (esF mt pa v (j - 1)) : Nat) : Int)) ∧
  ∀ c : Nat, Me rg c ↔ ∃ j, j < i ∧ ((c : Int) = ba (esF mt pa v j) ∨ (c : Int) = ba (mN mt (esF mt pa v j)))
theorem tu_0 (hI : bmI R S mt pa ba ev root rk L) {pc0 : Nat → Int} {n v w : Nat} {top : Int} (hS : ∀ a, S a → a < n) (hn : n ≤ 16) (hv : ev v) (ht : chP9 ba L v top) : tuI mt pa ba ev root L pc0 pc0 v w top 0 (v : Int) (w : Int) 0 := by
  have := bm_len hI hS hv
  exact ⟨⟨rfl, hv, ht, by show (L v).length + 0 ≤ 16; omega, bm_hd hI hv⟩, fun j hj => by omega, rfl, ⟨fun _ _ => rfl, fun j hj => by omega⟩, fun c => ⟨fun g => absurd g (Me_0 c), fun ⟨j, hj, _⟩ => by omega⟩⟩
/-- where the base is not the top yet, there is a partner and a way on -/
theorem tu_in (hI : bmI R S mt pa ba ev root rk L) {pc0 pc : Nat → Int} {v w i : Nat} {top rg here ch : Int} (h : tuI mt pa ba ev root L pc0 pc v w top rg here ch i) (hne : ba (esF mt pa v i) ≠ top) : esF mt pa v i ≠ root ∧ 0 ≤ mt (esF mt pa v i) ∧ i < 16 := by
  obtain ⟨⟨h1, h2, h3, h4, h5⟩, -⟩ := h
  have hr : esF mt pa v i ≠ root := fun e => by
    rw [e] at h3 hne
    obtain ⟨y, y1, y2⟩ := h3
    rw [hI.2.2.2.2.2.2.1] at y1
    rw [List.mem_singleton.mp y1] at y2
    exact hne y2
  have := bm_pos hI h2
  exact ⟨hr, (hI.2.1.2.2 _ h2).2 hr, by omega⟩
theorem tu_st (hI : bmI R S mt pa ba ev root rk L) {pc0 pc : Nat → Int} {v w i a : Nat} {top rg rg1 here ch here1 : Int} (hv : ev v) (hpc : ∀ y, y ∈ L v → y ≠ root → pc0 (mN mt y) = pa (mN mt y)) (h : tuI mt pa ba ev root L pc0 pc v w top rg here ch i) (hne : ba (esF mt pa v i) ≠ top) (ha : a = esF mt pa v i) (hr1 : ∀ c : Nat, Me rg1 c ↔ Me rg c ∨ (c : Int) = ba a ∨ (c : Int) = ba (mN mt a)) (hh : here1 = fup pc a ch (mN mt a)) : tuI mt pa ba ev root L pc0 (fup pc a ch) v w top rg1 here1 ((mN mt a : Nat) : Int) (i + 1) := by
  subst ha
  obtain ⟨hr, hm, -⟩ := tu_in hI h hne
  obtain ⟨⟨h1, h2, h3, h4, h5⟩, h6, h7, ⟨h8, h9⟩, h10⟩ := h
  obtain ⟨z, z1, z2, z3, z4, z5, z6⟩ := hI.2.2.2.2.2.1 _ h2 hr
  have ez : esF mt pa v (i + 1) = z := by
    show (pa (mN mt (esF mt pa v i))).toNat = z
    rw [z1]; rfl
  have hmm := bm_em hI h2 hr
  have hzi : z ∈ L (esF mt pa v i) := by rw [z6]; exact List.mem_cons_of_mem _ (bm_hd hI z2)
  have hup : ∀ j, j ≤ i → esF mt pa v j ∈ L v := by
    intro j
    induction j with
    | zero => intro _; exact bm_hd hI hv
    | succ j ihj =>
      intro hj
      have g := h6 j (by omega)
      obtain ⟨x, x1, x2, -, -, -, x6⟩ := hI.2.2.2.2.2.1 _ g.1 g.2.1
      rw [g.2.2.1] at x1
      rw [show esF mt pa v (j + 1) = x by omega]
      exact bm_sub hI hv (ihj (by omega)) (by rw [x6]; exact List.mem_cons_of_mem _ (bm_hd hI x2))
  have hmx : ∀ j, j ≤ i → mN mt (esF mt pa v i) ≠ esF mt pa v j := fun j hj e => by
    refine hI.2.2.2.2.2.2.2.1 v hv (esF mt pa v j) (esF mt pa v i) (hup j hj) h5 ?_
    rw [← e]; exact hmm.1.symm
  have hre : here1 = (z : Int) := by
    rw [hh, show fup pc (esF mt pa v i) ch (mN mt (esF mt pa v i)) = pc (mN mt (esF mt pa v i)) from if_neg (hmx i (Nat.le_refl i)), h8 _ (fun j hj => hmx j (by omega)), hpc _ h5 hr]
    exact z1
  have hdj : ∀ j, j < i → esF mt pa v j ≠ esF mt pa v i := fun j hj e => by
    have hl : ∀ m, j < m → m ≤ i → (L (esF mt pa v m)).length < (L (esF mt pa v j)).length := by
      intro m
      induction m with
      | zero => intro h; omega
      | succ m ihm =>
        intro a1 a2
        have g := h6 m (by omega)
        obtain ⟨x, x1, x2, -, -, -, x6⟩ := hI.2.2.2.2.2.1 _ g.1 g.2.1
        rw [g.2.2.1] at x1
        have e1 : (L (esF mt pa v m)).length = (L (esF mt pa v (m + 1))).length + 1 := by
          rw [x6, List.length_cons, show x = esF mt pa v (m + 1) by omega]
        by_cases c : m = j
        · rw [c] at e1 ⊢; omega
        · have := ihm (by omega) (by omega)
          omega
    have := hl i hj (Nat.le_refl i)
    rw [e] at this
    omega
  refine ⟨⟨by rw [hre, ez], by rw [ez]; exact z2, ?_, ?_, by rw [ez]; exact bm_sub hI hv h5 hzi⟩, fun j hj => ?_, by rw [if_neg (by omega), show i + 1 - 1 = i by omega], ⟨fun y hy => ?_, fun j hj => ?_⟩, fun c => ?_⟩
  · rw [ez]
    obtain ⟨y, y1, y2⟩ := h3
    rw [z6] at y1
    rcases List.mem_cons.mp y1 with q | q
    · rw [q] at y2; exact absurd y2 hne
    · exact ⟨y, q, y2⟩
  · rw [ez]
    rw [z6, List.length_cons] at h4
    omega
  · by_cases e : j = i
    · rw [e, ez]; exact ⟨h2, hr, z1, hne⟩
    · exact h6 j (by omega)
  · rw [show fup pc (esF mt pa v i) ch y = pc y from if_neg (hy i (by omega))]
    exact h8 y (fun j hj => hy j (by omega))
  · by_cases e : j = i
    · rw [e, show fup pc (esF mt pa v i) ch (esF mt pa v i) = ch from if_pos rfl]; exact h7
    · rw [show fup pc (esF mt pa v i) ch (esF mt pa v j) = pc (esF mt pa v j) from if_neg (hdj j (by omega))]
      exact h9 j (by omega)
  · rw [hr1 c, h10 c]
    constructor
    · rintro (⟨j, j1, j2⟩ | g)
      · exact ⟨j, by omega, j2⟩
      · exact ⟨i, by omega, g⟩
    · rintro ⟨j, j1, j2⟩
      by_cases e : j = i
      · rw [e] at j2; exact Or.inr j2
      · exact Or.inl ⟨j, by omega, j2⟩
theorem tu_e (hI : bmI R S mt pa ba ev root rk L) {pc0 pc : Nat → Int} {v w i : Nat} {top rg here ch : Int} (h : tuI mt pa ba ev root L pc0 pc v w top rg here ch i) (he : ba (esF mt pa v i) = top ∨ mt (esF mt pa v i) < 0 ∨ 16 ≤ i ∨ here < 0) : wsP mt pa ba ev root top v (esF mt pa v) i := by
  have hb : ba (esF mt pa v i) = top := Classical.byContradiction (fun g => by
    obtain ⟨a1, a2, a3⟩ := tu_in hI h g
    have := h.1.1
    rcases he with q | q | q | q
    · exact g q
    · omega
    · omega
    · omega)
  exact ⟨rfl, h.2.1, h.1.2.1, hb⟩
/-- all together: a ring -/
theorem rg_of (hI : bmI R S mt pa ba ev root rk L) {v w p q : Nat} {top : Int} (ht : tpP9 ba rk L v w top) (h1 : wsP mt pa ba ev root top v (esF mt pa v) p) (h2 : wsP mt pa ba ev root top w (esF mt pa w) q) (hR : R v w) (hR2 : R w v) : rgP R mt pa ba ev root L top v w (esF mt pa v) (esF mt pa w) p q := by
  have hn : ∀ i, i < q → ∀ y, y ∈ L v → ba y ≠ ba (esF mt pa w i) := fun i hi y hy e => by
    have hgi : esF mt pa w i ∈ L w := (sq_in hI h2 (i + 1) (by omega) _).mpr (Or.inl ⟨i, by omega, rfl⟩)
    rcases ht.2.2 _ hgi ⟨y, hy, e⟩ with g | g
    · exact (h2.2.1 i hi).2.2.2 g
    · have := sq_rk hI h2 hi
      omega
  exact ⟨h1, h2, sq_nb hI h1 h2 hn, hn, hR, hR2⟩
end CB
