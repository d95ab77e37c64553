theorem th_sy {R : Nat → Nat → Prop} {G : Nat → Prop} {a b : Nat} (hR : ∀ i j, R i j → R j i) (h : thP R G a b) : thP R G b a :=
  h (fun x => thP R G x a) th_v (fun x y hx hg hr => by
    have hyx := hR x y hr
    rcases hg with e | g
    · rw [e] at hyx
      exact th_st th_v (Or.inl rfl) hyx
    · exact fun C h1 h2 => hx C (h2 y x h1 (Or.inl rfl) hyx) (fun p q hp hq hpq => h2 p q hp (hq.elim (fun e => Or.inr (by rw [e]; exact g)) Or.inr) hpq))
theorem th_ad {R : Nat → Nat → Prop} {G : Nat → Prop} {v a b : Nat} (h : thP R (fun j => G j ∨ j = v) a b) : thP R G a b ∨ (thP R G a v ∧ thP R G v b) :=
  h (fun x => thP R G a x ∨ (thP R G a v ∧ thP R G v x)) (Or.inl th_v) (fun x y hx hg hr => by
    rcases hx with hx | ⟨hv, hx⟩
    · rcases hg with e | g | e
      · exact Or.inl (th_st hx (Or.inl e) hr)
      · exact Or.inl (th_st hx (Or.inr g) hr)
      · exact Or.inr ⟨by rw [← e]; exact hx, th_st th_v (Or.inl rfl) (by rw [← e]; exact hr)⟩
    · rcases hg with e | g | e
      · exact Or.inl (th_st th_v (Or.inl rfl) (by rw [← e]; exact hr))
      · exact Or.inr ⟨hv, th_st hx (Or.inr g) hr⟩
      · exact Or.inr ⟨hv, th_st hx (Or.inl e) hr⟩)
theorem th_tr {R : Nat → Nat → Prop} {G : Nat → Prop} {v a b : Nat} (h1 : thP R G a v) (h2 : thP R G v b) : thP R (fun j => G j ∨ j = v) a b := fun C c1 c2 =>
  h2 C (h1 C c1 (fun p q hp hq hpq => c2 p q hp (hq.imp id Or.inl) hpq)) (fun p q hp hq hpq => c2 p q hp (hq.elim (fun e => Or.inr (Or.inr e)) (fun g => Or.inr (Or.inl g))) hpq)
/-- joinings among L when the rest of P has gone -/
def hG (R : Nat → Nat → Prop) (P L : Nat → Prop) (a b : Nat) : Prop := L a ∧ L b ∧ a ≠ b ∧ thP R (fun j => P j ∧ ¬ L j) a b
theorem hg_sy {R : Nat → Nat → Prop} {P L : Nat → Prop} (hR : ∀ i j, R i j → R j i) : ∀ a b, hG R P L a b → hG R P L b a := fun _ _ h => ⟨h.2.1, h.1, fun e => h.2.2.1 e.symm, th_sy hR h.2.2.2⟩
theorem hg_fl {R : Nat → Nat → Prop} {P L : Nat → Prop} {v a b : Nat} (hv : L v) (hP : P v) (h : hG R P (fun j => L j ∧ j ≠ v) a b) : flH (hG R P L) v a b := by
  obtain ⟨h1, h2, h3, h4⟩ := h
  have h5 := th_cg (G1 := fun j => (P j ∧ ¬ L j) ∨ j = v) (fun j q => by
    by_cases e : j = v
    · exact Or.inr e
    · exact Or.inl ⟨q.1, fun g => q.2 ⟨g, e⟩⟩) h4
  rcases th_ad h5 with q | q
  · exact Or.inl ⟨h1.1, h2.1, h3, q⟩
  · exact Or.inr ⟨h3, ⟨h1.1, hv, h1.2, q.1⟩, ⟨hv, h2.1, fun e => h2.2 e.symm, q.2⟩⟩
theorem fl_hg {R : Nat → Nat → Prop} {P L : Nat → Prop} {v a b : Nat} (hP : P v) (ha : a ≠ v) (hb : b ≠ v) (h : flH (hG R P L) v a b) : hG R P (fun j => L j ∧ j ≠ v) a b := by
  rcases h with q | ⟨q0, q1, q2⟩
  · exact ⟨⟨q.1, ha⟩, ⟨q.2.1, hb⟩, q.2.2.1, th_cg (fun j g => ⟨g.1, fun g2 => g.2 g2.1⟩) q.2.2.2⟩
  · refine ⟨⟨q1.1, ha⟩, ⟨q2.2.1, hb⟩, q0, th_cg (fun j g => ?_) (th_tr q1.2.2.2 q2.2.2.2)⟩
    rcases g with g | g
    · exact ⟨g.1, fun g2 => g.2 g2.1⟩
    · rw [g]; exact ⟨hP, fun g2 => g2.2 rfl⟩
theorem hg_cg {R : Nat → Nat → Prop} {P L L1 : Nat → Prop} (h : ∀ i, L1 i ↔ L i) {a b : Nat} (q : hG R P L a b) : hG R P L1 a b := ⟨(h a).mpr q.1, (h b).mpr q.2.1, q.2.2.1, th_cg (fun j g => ⟨g.1, fun g2 => g.2 ((h j).mp g2)⟩) q.2.2.2⟩
/-- what is left of P can go -/
def gW (R : Nat → Nat → Prop) (P : Nat → Prop) (k L : Int) : Prop := ∃ l, ewL k.toNat l (hG R P (Me L)) (Me L)
theorem gw_fst {R : Nat → Nat → Prop} {P : Nat → Prop} {k L L1 : Int} {v : Nat} {r : Nat → Int} (hR : ∀ i j, R i j → R j i) (hLP : ∀ j, Me L j → P j) (hv : Me L v) (h1 : ∀ i, Me L1 i ↔ Me L i ∧ i ≠ v) (hr : rwE (hG R P (Me L)) L r) (hk : bcI (r v) 16 ≤ k) (h : gW R P k L1) : gW R P k L := by
  obtain ⟨l, hl⟩ := h
  obtain ⟨l2, h2⟩ := ew_su (H' := flH (hG R P (Me L)) v) (S' := fun j => Me L j ∧ j ≠ v) (hg_sy hR) (fun a ha => (h1 a).mpr ha) (fun a b ha hb _ q => hg_cg h1 (fl_hg (hLP v hv) ha.2 hb.2 q)) hl
  exact ⟨v :: l2, hv, rw_lk hr hv hk, h2⟩
theorem gw_ou {R : Nat → Nat → Prop} {P : Nat → Prop} {k L L1 : Int} {v : Nat} (hR : ∀ i j, R i j → R j i) (hLP : ∀ j, Me L j → P j) (hv : Me L v) (h1 : ∀ i, Me L1 i ↔ Me L i ∧ i ≠ v) (h : ∃ l, ewL k.toNat l (flH (hG R P (Me L)) v) (fun j => Me L j ∧ j ≠ v)) : gW R P k L1 := by
  obtain ⟨l, hl⟩ := h
  exact ew_su (flh_sy (hg_sy hR)) (fun a ha => (h1 a).mp ha) (fun a b ha hb _ q => hg_fl hv (hLP v hv) (hg_cg (fun i => (h1 i).symm) q)) hl
/-- the nodes to try -/
def chQ (R : Nat → Nat → Prop) (P : Nat → Prop) (k L : Int) (r : Nat → Int) (c : Int) : Prop := (∀ v, Me c v → Me L v ∧ bcI (r v) 16 ≤ k) ∧ (gW R P k L → ∃ v, Me c v ∧ ∀ L1 : Int, (∀ i, Me L1 i ↔ Me L i ∧ i ≠ v) → gW R P k L1)
/-- v can do no harm -/
def haQ (A : Int) (r : Nat → Int) : Prop := (∀ u, ¬ Me A u) ∨ ∃ w, Me A w ∧ ∀ a b, Me A a → Me A b → a ≠ b → a ≠ w → b ≠ w → Me (r a) b
theorem ch_ha {R : Nat → Nat → Prop} {P : Nat → Prop} {k L c : Int} {r : Nat → Int} {v : Nat} (hR : ∀ i j, R i j → R j i) (hLP : ∀ j, Me L j → P j) (hr : rwE (hG R P (Me L)) L r) (hv : Me L v) (hk : bcI (r v) 16 ≤ k) (hq : haQ (r v) r) (hc : ∀ i, Me c i ↔ i = v) : chQ R P k L r c := by
  refine ⟨fun i g => ?_, fun h => ⟨v, (hc v).mpr rfl, fun L1 h1 => gw_ou hR hLP hv h1 ?_⟩⟩
  · rw [(hc i).mp g]; exact ⟨hv, hk⟩
  · obtain ⟨l, hl⟩ := h
    rcases hq with hq | ⟨w, hw, hq⟩
    · exact ew_h0 (hg_sy hR) hl (fun a ha hav q => hq a (((hr v hv).2 a).mpr ⟨ha, hav, q⟩))
    · exact ew_ha (hg_sy hR) hl hv (((hr v hv).2 w).mp hw).2.2 (fun a b ha hb hab hav hbv qa qb haw hbw => by
        have g1 := hq a b (((hr v hv).2 a).mpr ⟨ha, hav, qa⟩) (((hr v hv).2 b).mpr ⟨hb, hbv, qb⟩) hab haw hbw
        exact (((hr a ha).2 b).mp g1).2.2)
theorem ch_en {R : Nat → Nat → Prop} {P : Nat → Prop} {k L : Int} {r : Nat → Int} (hR : ∀ i j, R i j → R j i) (hL : 0 ≤ L ∧ L ≤ 65535) (hr : rwE (hG R P (Me L)) L r) (h0 : 0 ≤ k) (hs : k + 1 ≤ bcI L 16) (he : 2 * k * bcI L 16 - k * (k + 1) < smS L (fun v => bcI (r v) 16) 16) : chQ R P k L r 0 := by
  refine ⟨fun i g => absurd g (Me_0 i), fun h => ?_⟩
  obtain ⟨l, hl⟩ := h
  have := ew_en h0 (hg_sy hR) hL hr hl hs
  omega
theorem ch_la {R : Nat → Nat → Prop} {P : Nat → Prop} {k L c f la : Int} {r : Nat → Int} (hR : ∀ i j, R i j → R j i) (hLP : ∀ j, Me L j → P j) (hL : 0 ≤ L ∧ L ≤ 65535) (hr : rwE (hG R P (Me L)) L r) (h0 : 0 ≤ k) (hs : k + 1 < bcI L 16) (hcl : ∀ i j, Me la i → Me la j → i ≠ j → R i j) (hf : ∀ i, Me f i ↔ Me L i ∧ bcI (r i) 16 ≤ k) (hc : ∀ i, Me c i ↔ Me f i ∧ ¬ Me la i) : chQ R P k L r c := by
  refine ⟨fun i g => (hf i).mp ((hc i).mp g).1, fun h => ?_⟩
  obtain ⟨l, hl⟩ := h
  have hcq : ∀ a b, (Me L a ∧ Me la a) → (Me L b ∧ Me la b) → a ≠ b → hG R P (Me L) a b := fun a b ha hb hab => ⟨ha.1, hb.1, hab, th_st th_v (Or.inl rfl) (hcl a b ha.2 hb.2 hab)⟩
  by_cases hx : ∃ v, Me L v ∧ ¬ (Me L v ∧ Me la v)
  · obtain ⟨v, l', hv, hn, _, hk, hr2⟩ := ew_cl (C := fun j => Me L j ∧ Me la j) (hg_sy hR) hl hcq hx
    exact ⟨v, (hc v).mpr ⟨(hf v).mpr ⟨hv, rw_dg hr hv h0 hk⟩, fun g => hn ⟨hv, g⟩⟩, fun L1 h1 => gw_ou hR hLP hv h1 ⟨l', hr2⟩⟩
  · exfalso
    have ha : ∀ v, Me L v → Me la v := fun v hv => by
      by_cases q : Me la v
      · exact q
      · exact absurd ⟨v, hv, fun g => q g.2⟩ hx
    cases l with
    | nil =>
      have h1 := bc_sb (s := L) (z := 0) (fun i g => absurd g (hl i)) 16
      have h2 : bcI 0 16 = 0 := by decide
      omega
    | cons x l =>
      obtain ⟨hxL, hd, _⟩ := hl
      have h3 := rw_dg hr hxL h0 hd
      have h4 := bc_one (s := L) (z := r x) (w := x) (fun i g => by
        by_cases e : i = x
        · exact Or.inr e
        · exact Or.inl (((hr x hxL).2 i).mpr ⟨g, e, hcq x i ⟨hxL, ha x hxL⟩ ⟨g, ha i g⟩ (fun e2 => e e2.symm)⟩)) 16
      have h5 : (if x < 16 then (1 : Int) else 0) ≤ 1 := by split <;> omega
      omega
/-- in choices: the nodes below v have been looked at -/
def chI (L : Int) (r : Nat → Int) (k v f e : Int) : Prop := (∀ i, Me f i ↔ (i : Int) < v ∧ Me L i ∧ bcI (r i) 16 ≤ k) ∧ e = smS L (fun v => bcI (r v) 16) v.toNat
theorem chi_0 {L k : Int} {r : Nat → Int} : chI L r k 0 0 0 := ⟨fun i => ⟨fun g => absurd g (Me_0 i), fun g => by omega⟩, rfl⟩
theorem chi_b {L k v f e : Int} {r : Nat → Int} (h : chI L r k v f e) (h0 : 0 ≤ v ∧ v ≤ 16) : 0 ≤ e ∧ e ≤ 256 := by
  have g1 := sms_ge (S := L) (g := fun v => bcI (r v) 16) (fun v _ => (bc_le (r v) 16).1) v.toNat
  have g2 := sms_b (S := L) (c := 16) (g := fun v => bcI (r v) 16) (fun v _ => (bc_le (r v) 16).2) v.toNat
  have g3 := bc_le L v.toNat
  have := h.2
  omega
theorem chi_sk {L k v f e : Int} {r : Nat → Int} (h : chI L r k v f e) (h0 : 0 ≤ v) (hn : ¬ Me L v.toNat) : chI L r k (v + 1) f e := by
  refine ⟨fun i => (h.1 i).trans ⟨fun g => ⟨by omega, g.2⟩, fun g => ⟨?_, g.2⟩⟩, ?_⟩
  · by_cases q : (i : Int) < v
    · exact q
    · exact absurd (show Me L v.toNat from (show i = v.toNat by omega) ▸ g.2.1) hn
  · rw [show (v + 1).toNat = v.toNat + 1 by omega, sms_n hn]; exact h.2
theorem chi_no {L k v f e : Int} {r : Nat → Int} (h : chI L r k v f e) (h0 : 0 ≤ v) (hm : Me L v.toNat) (hd : k < bcI (r v.toNat) 16) : chI L r k (v + 1) f (e + bcI (r v.toNat) 16) := by
  refine ⟨fun i => (h.1 i).trans ⟨fun g => ⟨by omega, g.2⟩, fun g => ⟨?_, g.2⟩⟩, ?_⟩
  · by_cases q : (i : Int) < v
    · exact q
    · have e1 : i = v.toNat := by omega
      rw [e1] at g
      omega
  · rw [show (v + 1).toNat = v.toNat + 1 by omega, sms_y hm, h.2]
theorem chi_ye {L k v f e f1 : Int} {r : Nat → Int} (h : chI L r k v f e) (h0 : 0 ≤ v) (hm : Me L v.toNat) (hd : bcI (r v.toNat) 16 ≤ k) (hf : ∀ i, Me f1 i ↔ Me f i ∨ i = v.toNat) : chI L r k (v + 1) f1 (e + bcI (r v.toNat) 16) := by
  refine ⟨fun i => ?_, ?_⟩
  · rw [hf i, h.1 i]
    constructor
    · rintro (g | g)
      · exact ⟨by omega, g.2⟩
      · rw [g]; exact ⟨by omega, hm, hd⟩
    · intro g
      by_cases q : (i : Int) < v
      · exact Or.inl ⟨q, g.2⟩
      · exact Or.inr (by omega)
  · rw [show (v + 1).toNat = v.toNat + 1 by omega, sms_y hm, h.2]
theorem chi_e {L k f e : Int} {r : Nat → Int} (h : chI L r k 16 f e) (hL : L ≤ 65535) : (∀ i, Me f i ↔ Me L i ∧ bcI (r i) 16 ≤ k) ∧ e = smS L (fun v => bcI (r v) 16) 16 :=
  ⟨fun i => (h.1 i).trans ⟨fun g => g.2, fun g => ⟨by have := Me_lt g.1 hL; omega, g⟩⟩, h.2⟩
/-- rows behind takeOut -/
theorem tk_rw {R : Nat → Nat → Prop} {P : Nat → Prop} {L L1 : Int} {v : Nat} {r r1 : Nat → Int} (hLP : ∀ j, Me L j → P j) (hv : Me L v) (h1 : ∀ i, Me L1 i ↔ Me L i ∧ i ≠ v) (hr : rwE (hG R P (Me L)) L r) (hb : ∀ u, Me L1 u → 0 ≤ r1 u ∧ r1 u ≤ 65535) (hR : ∀ i j, R i j → R j i) (hn : ∀ u, Me L1 u → Me (r v) u → ∀ i, Me (r1 u) i ↔ (Me (r u) i ∨ Me (r v) i) ∧ i ≠ u ∧ i ≠ v) (hf : ∀ u, Me L1 u → ¬ Me (r v) u → ∀ i, Me (r1 u) i ↔ Me (r u) i) : rwE (hG R P (Me L1)) L1 r1 := by
  intro u hu
  have hu1 := (h1 u).mp hu
  refine ⟨hb u hu, fun i => ?_⟩
  have e1 : hG R P (Me L1) u i ↔ (i ≠ v ∧ flH (hG R P (Me L)) v u i) := ⟨fun q => ⟨((h1 i).mp q.2.1).2, hg_fl hv (hLP v hv) (hg_cg (fun j => (h1 j).symm) q)⟩, fun q => hg_cg h1 (fl_hg (hLP v hv) hu1.2 q.1 q.2)⟩
  rw [e1, h1 i]
  by_cases q : Me (r v) u
  · have q1 := ((hr v hv).2 u).mp q
    rw [hn u hu q i, (hr u hu1.1).2 i, (hr v hv).2 i]
    constructor
    · rintro ⟨g1 | g1, g2, g3⟩
      · exact ⟨⟨g1.1, g3⟩, g2, g3, Or.inl g1.2.2⟩
      · exact ⟨⟨g1.1, g3⟩, g2, g3, Or.inr ⟨fun e => g2 e.symm, hg_sy hR _ _ q1.2.2, g1.2.2⟩⟩
    · rintro ⟨⟨g1, g2⟩, g3, _, g4 | g4⟩
      · exact ⟨Or.inl ⟨g1, g3, g4⟩, g3, g2⟩
      · exact ⟨Or.inr ⟨g1, g2, g4.2.2⟩, g3, g2⟩
  · rw [hf u hu q i, (hr u hu1.1).2 i]
    constructor
    · rintro ⟨g1, g2, g3⟩
      have g4 : i ≠ v := fun e => q (((hr v hv).2 u).mpr ⟨hu1.1, hu1.2, hg_sy hR _ _ (e ▸ g3)⟩)
      exact ⟨⟨g1, g4⟩, g2, g4, Or.inl g3⟩
    · rintro ⟨⟨g1, g2⟩, g3, _, g4 | g4⟩
      · exact ⟨g1, g3, g4⟩
      · exact absurd (((hr v hv).2 u).mpr ⟨hu1.1, hu1.2, hg_sy hR _ _ g4.2.1⟩) q
