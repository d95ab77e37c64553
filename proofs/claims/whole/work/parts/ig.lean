section RH
variable {R : Nat → Nat → Prop} {S : Nat → Prop} {mt pa ba : Nat → Int} {ev : Nat → Prop} {root : Nat} {rk : Nat → Nat} {L : Nat → List Nat}
/-- the pointers round a ring -/
def ptP (mt pa pa' : Nat → Int) (v w : Nat) (h g : Nat → Nat) (p q : Nat) : Prop := (∀ y, (∀ i, i < p → y ≠ h i) → (∀ i, i < q → y ≠ g i) → pa' y = pa y) ∧ (∀ i, i < p → pa' (h i) = if i = 0 then (w : Int) else ((mN mt (h (i - 1)) : Nat) : Int)) ∧ (∀ i, i < q → pa' (g i) = if i = 0 then (v : Int) else ((mN mt (g (i - 1)) : Nat) : Int))
theorem pt_sy {pa' : Nat → Int} {v w p q : Nat} {h g : Nat → Nat} (hp : ptP mt pa pa' v w h g p q) : ptP mt pa pa' w v g h q p := ⟨fun y h1 h2 => hp.1 y h2 h1, hp.2.2, hp.2.1⟩
theorem rg_m (hI : bmI R S mt pa ba ev root rk L) {top : Int} {v w p q : Nat} {h g : Nat → Nat} (hr : rgP R mt pa ba ev root L top v w h g p q) : ∀ i, i < p → mN mt (mN mt (h i)) = h i ∧ mN mt (h i) ≠ root := fun i hi => by
  have h1 := bm_em hI (hr.1.2.1 i hi).1 (hr.1.2.1 i hi).2.1
  refine ⟨h1.2.2.2.2.2, fun e => ?_⟩
  have h2 := h1.2.2.1
  rw [e] at h2
  have := hI.2.1.2.1
  omega
theorem rg_wl (hI : bmI R S mt pa ba ev root rk L) {top : Int} {v w p q : Nat} {h g : Nat → Nat} {pa' : Nat → Int} (hr : rgP R mt pa ba ev root L top v w h g p q) (hp : ptP mt pa pa' v w h g p q) : zyP mt pa' root (L w) w :=
  zy_tr (bm_wy hI w (rg_ev (rg_sy hr))) (fun y hy hyr => hp.1 _ (rg_nw hI hr hy hyr).1 (rg_nw hI hr hy hyr).2)
theorem rg_pl (hI : bmI R S mt pa ba ev root rk L) {top : Int} {v w p q : Nat} {h g : Nat → Nat} {pa' : Nat → Int} (hr : rgP R mt pa ba ev root L top v w h g p q) (hp : ptP mt pa pa' v w h g p q) : ∀ i, i ≤ p → zyP mt pa' root (plF mt h (L w) i) (if i = 0 then w else mN mt (h (i - 1))) :=
  pl_wy (rg_wl hI hr hp) (rg_m hI hr) hp.2.1
theorem rg_w1 (hI : bmI R S mt pa ba ev root rk L) {top : Int} {v w p q : Nat} {h g : Nat → Nat} {pa' : Nat → Int} (hr : rgP R mt pa ba ev root L top v w h g p q) (hp : ptP mt pa pa' v w h g p q) {i : Nat} (hi : i < p) : ∃ l, zyP mt pa' root l (mN mt (h i)) ∧ ∀ a b, a ∈ l → b ∈ l → mt b ≠ (a : Int) := by
  have h1 := rg_pl hI hr hp (i + 1) (by omega)
  rw [if_neg (by omega), show i + 1 - 1 = i by omega] at h1
  exact ⟨_, h1, rg_fr hI hr (i := i + 1) (by omega) (fun a ha => Or.inr (pl_in ha))⟩
/-- how the way of an even node goes on round a ring -/
def w9P (mt pa' : Nat → Int) (root : Nat) (L : Nat → List Nat) (h : Nat → Nat) (p w x : Nat) : Prop := ∃ l i, i < p ∧ zyP mt pa' root l x ∧ mN mt (h i) ∈ L x ∧ ∀ a, a ∈ l → (a ∈ L x ∧ mN mt (h i) ∈ L a) ∨ (∃ j, j < i ∧ a = mN mt (h j)) ∨ a ∈ L w
theorem wf_0 (hI : bmI R S mt pa ba ev root rk L) {top : Int} {v w p q : Nat} {h g : Nat → Nat} {pa' : Nat → Int} (hr : rgP R mt pa ba ev root L top v w h g p q) (hp : ptP mt pa pa' v w h g p q) {x i : Nat} (hx : ev x) (hxr : x ≠ root) (hi : i < p) (e : mN mt x = h i) : w9P mt pa' root L h p w x := by
  have ex : x = mN mt (h i) := by
    have := (bm_em hI hx hxr).2.2.2.2.2
    rw [e] at this; exact this.symm
  have h1 := rg_pl hI hr hp i (by omega)
  refine ⟨x :: plF mt h (L w) i, i, hi, ⟨rfl, Or.inr ⟨hxr, ?_⟩⟩, by rw [← ex]; exact bm_hd hI hx, fun a ha => ?_⟩
  · rw [e, hp.2.1 i hi]
    by_cases e0 : i = 0
    · rw [if_pos e0] at h1 ⊢; exact h1
    · rw [if_neg e0] at h1 ⊢; exact h1
  · rcases List.mem_cons.mp ha with q1 | q1
    · rw [q1, ← ex]; exact Or.inl ⟨bm_hd hI hx, bm_hd hI hx⟩
    · exact Or.inr (pl_in q1)
theorem wf_s (hI : bmI R S mt pa ba ev root rk L) {h : Nat → Nat} {w p : Nat} {pa' : Nat → Int} {x z : Nat} (hx : ev x) (hxr : x ≠ root) (hz : ev z) (h1 : pa' (mN mt x) = (z : Int)) (e : L x = x :: L z) (hf : w9P mt pa' root L h p w z) : w9P mt pa' root L h p w x := by
  obtain ⟨l, i, i1, i2, i3, i4⟩ := hf
  have sub : ∀ a, a ∈ L z → a ∈ L x := fun a ha => by rw [e]; exact List.mem_cons_of_mem x ha
  refine ⟨x :: l, i, i1, ⟨rfl, Or.inr ⟨hxr, by rw [h1]; exact i2⟩⟩, sub _ i3, fun a ha => ?_⟩
  rcases List.mem_cons.mp ha with q1 | q1
  · rw [q1]; exact Or.inl ⟨bm_hd hI hx, sub _ i3⟩
  · rcases i4 a q1 with g | g
    · exact Or.inl ⟨sub a g.1, g.2⟩
    · exact Or.inr g
theorem wf_e (hI : bmI R S mt pa ba ev root rk L) {top : Int} {v w p q : Nat} {h g : Nat → Nat} {pa' : Nat → Int} (hr : rgP R mt pa ba ev root L top v w h g p q) {x : Nat} (hx : ev x) (hf : w9P mt pa' root L h p w x) : ∃ l, zyP mt pa' root l x ∧ ∀ a b, a ∈ l → b ∈ l → mt b ≠ (a : Int) := by
  obtain ⟨l, i, i1, i2, i3, i4⟩ := hf
  refine ⟨l, i2, rg_fr hI hr (i := i) (by omega) (fun a ha => ?_)⟩
  rcases i4 a ha with g1 | g1
  · exact Or.inl ⟨x, mN mt (h i), hx, g1.1, g1.2, i3, i1, rfl, fun b hb => (i4 b hb).imp (fun q1 => q1.1) id⟩
  · exact Or.inr g1
theorem rg_w0 (hI : bmI R S mt pa ba ev root rk L) {top : Int} {v w p q : Nat} {h g : Nat → Nat} {pa' : Nat → Int} (hr : rgP R mt pa ba ev root L top v w h g p q) (hp : ptP mt pa pa' v w h g p q) : ∀ x, ev x → ∃ l, zyP mt pa' root l x ∧ ∀ a b, a ∈ l → b ∈ l → mt b ≠ (a : Int) := fun x hx => by
  have key := bm_ind hI (P := fun x => zyP mt pa' root (L x) x ∨ w9P mt pa' root L h p w x ∨ w9P mt pa' root L g q v x) (Or.inl (by rw [hI.2.2.2.2.2.2.1]; exact ⟨rfl, Or.inl ⟨rfl, rfl⟩⟩)) (fun x z hx hxr h1 hz _ _ e ih => by
    by_cases c1 : ∃ i, i < p ∧ mN mt x = h i
    · obtain ⟨i, i1, i2⟩ := c1
      exact Or.inr (Or.inl (wf_0 hI hr hp hx hxr i1 i2))
    · by_cases c2 : ∃ i, i < q ∧ mN mt x = g i
      · obtain ⟨i, i1, i2⟩ := c2
        exact Or.inr (Or.inr (wf_0 hI (rg_sy hr) (pt_sy hp) hx hxr i1 i2))
      · have h2 : pa' (mN mt x) = (z : Int) := by
          rw [hp.1 _ (fun i hi q1 => c1 ⟨i, hi, q1⟩) (fun i hi q1 => c2 ⟨i, hi, q1⟩)]; exact h1
        rcases ih with g1 | g1 | g1
        · refine Or.inl ?_
          rw [e]
          exact ⟨rfl, Or.inr ⟨hxr, by rw [h2]; exact g1⟩⟩
        · exact Or.inr (Or.inl (wf_s hI hx hxr hz h2 e g1))
        · exact Or.inr (Or.inr (wf_s hI hx hxr hz h2 e g1))) x hx
  rcases key with g1 | g1 | g1
  · exact ⟨L x, g1, hI.2.2.2.2.2.2.2.1 x hx⟩
  · exact wf_e hI hr hx g1
  · exact wf_e hI (rg_sy hr) hx g1
/-- what melts -/
def rcP (mt ba : Nat → Int) (h g : Nat → Nat) (p q : Nat) (y : Nat) : Prop := (∃ i, i < p ∧ (ba y = ba (h i) ∨ ba y = ba (mN mt (h i)))) ∨ ∃ i, i < q ∧ (ba y = ba (g i) ∨ ba y = ba (mN mt (g i)))
theorem rc_1 (hI : bmI R S mt pa ba ev root rk L) {x y : Nat} (hx : ev x) (hxr : x ≠ root) (h : ba y = ba x ∨ ba y = ba (mN mt x)) : (ev y ∧ ba y = ba x) ∨ (¬ ev y ∧ ¬ ev (mN mt x) ∧ y = mN mt x) := by
  have hb : ∀ z, ev z → ba y = ba z → ev y := fun z hz e => Classical.byContradiction (fun g => by
    obtain ⟨b, b1, b2, -⟩ := hI.2.2.1.1 z hz
    have h1 := hI.2.2.1.2 y g
    rw [show y = b by omega] at g
    exact g b2)
  rcases h with h | h
  · exact Or.inl ⟨hb x hx h, h⟩
  · by_cases c : ev (mN mt x)
    · exact Or.inl ⟨hb _ c h, by rw [h]; exact (bm_pr hI hx hxr c).1⟩
    · have h1 := hI.2.2.1.2 _ c
      by_cases cy : ev y
      · exfalso
        obtain ⟨b, b1, b2, -⟩ := hI.2.2.1.1 y cy
        rw [show b = mN mt x by omega] at b2
        exact c b2
      · have h2 := hI.2.2.1.2 y cy
        exact Or.inr ⟨cy, c, by omega⟩
theorem rc_c (hI : bmI R S mt pa ba ev root rk L) {top : Int} {v w p q : Nat} {h g : Nat → Nat} (hr : rgP R mt pa ba ev root L top v w h g p q) {y : Nat} (hy : rcP mt ba h g p q y) : (ev y ∧ ((∃ i, i < p ∧ ba y = ba (h i)) ∨ ∃ i, i < q ∧ ba y = ba (g i))) ∨ (¬ ev y ∧ ((∃ i, i < p ∧ y = mN mt (h i)) ∨ ∃ i, i < q ∧ y = mN mt (g i))) := by
  rcases hy with ⟨i, i1, i2⟩ | ⟨i, i1, i2⟩
  · rcases rc_1 hI (hr.1.2.1 i i1).1 (hr.1.2.1 i i1).2.1 i2 with g1 | g1
    · exact Or.inl ⟨g1.1, Or.inl ⟨i, i1, g1.2⟩⟩
    · exact Or.inr ⟨g1.1, Or.inl ⟨i, i1, g1.2.2⟩⟩
  · rcases rc_1 hI (hr.2.1.2.1 i i1).1 (hr.2.1.2.1 i i1).2.1 i2 with g1 | g1
    · exact Or.inl ⟨g1.1, Or.inr ⟨i, i1, g1.2⟩⟩
    · exact Or.inr ⟨g1.1, Or.inr ⟨i, i1, g1.2.2⟩⟩
theorem rc_sy {h g : Nat → Nat} {p q y : Nat} (hy : rcP mt ba h g p q y) : rcP mt ba g h q p y := hy.elim Or.inr Or.inl
theorem rc_h {h g : Nat → Nat} {p q i : Nat} (hi : i < p) : rcP mt ba h g p q (h i) ∧ rcP mt ba h g p q (mN mt (h i)) := ⟨Or.inl ⟨i, hi, Or.inl rfl⟩, Or.inl ⟨i, hi, Or.inr rfl⟩⟩
theorem rc_b {h g : Nat → Nat} {p q x y : Nat} (hx : rcP mt ba h g p q x) (e : ba y = ba x) : rcP mt ba h g p q y := by
  rcases hx with ⟨i, i1, i2⟩ | ⟨i, i1, i2⟩
  · exact Or.inl ⟨i, i1, i2.imp (fun q1 => e.trans q1) (fun q1 => e.trans q1)⟩
  · exact Or.inr ⟨i, i1, i2.imp (fun q1 => e.trans q1) (fun q1 => e.trans q1)⟩
theorem rc_t (hI : bmI R S mt pa ba ev root rk L) {top : Int} {v w p q : Nat} {h g : Nat → Nat} (hr : rgP R mt pa ba ev root L top v w h g p q) {y : Nat} (hy : ev y) (e : ba y = top) : ¬ rcP mt ba h g p q y := fun c => by
  rcases rc_c hI hr c with ⟨-, ⟨i, i1, i2⟩ | ⟨i, i1, i2⟩⟩ | ⟨c1, -⟩
  · exact (hr.1.2.1 i i1).2.2.2 (i2.symm.trans e)
  · exact (hr.2.1.2.1 i i1).2.2.2 (i2.symm.trans e)
  · exact c1 hy
theorem rg_main (hsy : ∀ i j, R i j → R j i) (hI : bmI R S mt pa ba ev root rk L) {t : Nat} {v w p q : Nat} {h g : Nat → Nat} {pa' ba' : Nat → Int} {ev' : Nat → Prop} (hr : rgP R mt pa ba ev root L (t : Int) v w h g p q) (hp : ptP mt pa pa' v w h g p q) (hb1 : ∀ y, rcP mt ba h g p q y → ba' y = (t : Int)) (hb0 : ∀ y, ¬ rcP mt ba h g p q y → ba' y = ba y) (he : ∀ y, ev' y ↔ ev y ∨ rcP mt ba h g p q y) : ∃ L', bmI R S mt pa' ba' ev' root rk L' := by
  -- the top
  have htt : ev t ∧ ba t = (t : Int) := by
    obtain ⟨b, b1, b2, b3⟩ := hI.2.2.1.1 (h p) hr.1.2.2.1
    rw [hr.1.2.2.2] at b1
    rw [show t = b by omega]; exact ⟨b2, b3⟩
  have hnt : ∀ y, ev y → ba y = (t : Int) → ¬ rcP mt ba h g p q y := fun y hy e => rc_t hI hr hy e
  have hbt : ba' t = (t : Int) := by rw [hb0 t (hnt t htt.1 htt.2)]; exact htt.2
  have hrt : ¬ rcP mt ba h g p q root := fun c => by
    have hbr := bm_br hI
    have no : ∀ {v w p q : Nat} {h g : Nat → Nat}, rgP R mt pa ba ev root L (t : Int) v w h g p q → ∀ i, i < p → ba root ≠ ba (h i) := fun {v w p q h g} hr i hi e => by
      have r1 := sq_rk hI hr.1 hi
      have r2 := bm_rk hI t htt.1 root (bm_rt hI t htt.1)
      rw [htt.2] at r2
      rw [← e] at r1
      rcases r2 with g1 | g1
      · rw [g1] at e
        exact (hr.1.2.1 i hi).2.2.2 e.symm
      · omega
    rcases rc_c hI hr c with ⟨-, ⟨i, i1, i2⟩ | ⟨i, i1, i2⟩⟩ | ⟨c1, -⟩
    · exact no hr i i1 i2
    · exact no (rg_sy hr) i i1 i2
    · exact c1 hI.2.1.1
  have hev : ∀ y, ev y → ev' y := fun y hy => (he y).mpr (Or.inl hy)
  have hrc : ∀ y, rcP mt ba h g p q y → ev' y := fun y hy => (he y).mpr (Or.inr hy)
  have hSn : ∀ y, rcP mt ba h g p q y → ¬ ev y → S y ∧ 0 ≤ mt y ∧ ev (mN mt y) ∧ rcP mt ba h g p q (mN mt y) := fun y hy hn => by
    have one : ∀ {v w p q : Nat} {h g : Nat → Nat}, rgP R mt pa ba ev root L (t : Int) v w h g p q → ∀ i, i < p → y = mN mt (h i) → S y ∧ 0 ≤ mt y ∧ mN mt y = h i ∧ ev (h i) := fun {v w p q h g} hr i hi e => by
      have h1 := bm_em hI (hr.1.2.1 i hi).1 (hr.1.2.1 i hi).2.1
      rw [e]
      exact ⟨h1.2.1, by rw [h1.2.2.1]; omega, h1.2.2.2.2.2, (hr.1.2.1 i hi).1⟩
    rcases rc_c hI hr hy with ⟨c1, -⟩ | ⟨-, ⟨i, i1, i2⟩ | ⟨i, i1, i2⟩⟩
    · exact absurd c1 hn
    · obtain ⟨a1, a2, a3, a4⟩ := one hr i i1 i2
      rw [a3]; exact ⟨a1, a2, a4, (rc_h i1).1⟩
    · obtain ⟨a1, a2, a3, a4⟩ := one (rg_sy hr) i i1 i2
      rw [a3]; exact ⟨a1, a2, a4, rc_sy (rc_h i1).1⟩
  -- a base that melts is a place of one of the ways
  have hpl : ∀ x, ev x → ba x = (x : Int) → rcP mt ba h g p q x → (∃ i, i < p ∧ x = h i) ∨ ∃ i, i < q ∧ x = g i := fun x hx hbx hc => by
    rcases rc_c hI hr hc with ⟨-, ⟨i, i1, i2⟩ | ⟨i, i1, i2⟩⟩ | ⟨c1, -⟩
    · exact Or.inl (sq_bs hI hr.1 i1 (by rw [← i2]; exact hbx))
    · exact Or.inr (sq_bs hI hr.2.1 i1 (by rw [← i2]; exact hbx))
    · exact absurd hx c1
  have hmr : ∀ x, rcP mt ba h g p q x → rcP mt ba h g p q (mN mt x) := fun x hc => by
    by_cases cx : ev x
    · by_cases cb : ba x = (x : Int)
      · rcases hpl x cx cb hc with ⟨i, i1, i2⟩ | ⟨i, i1, i2⟩
        · rw [i2]; exact (rc_h i1).2
        · rw [i2]; exact rc_sy (rc_h i1).2
      · exact rc_b hc (hI.2.2.2.1 x cx cb).2.2
    · exact (hSn x hc cx).2.2.2
  have hnx : ∀ x, rcP mt ba h g p q x → ba' x ≠ (x : Int) := fun x hc e => by
    rw [hb1 x hc] at e
    rw [← show t = x by omega] at hc
    exact hnt t htt.1 htt.2 hc
  have h2' : ev' root ∧ mt root < 0 ∧ ∀ x, ev' x → S x ∧ (x ≠ root → 0 ≤ mt x) := ⟨hev root hI.2.1.1, hI.2.1.2.1, fun x hx => by
    by_cases cx : ev x
    · exact hI.2.1.2.2 x cx
    · have := hSn x (((he x).mp hx).resolve_left cx) cx
      exact ⟨this.1, fun _ => this.2.1⟩⟩
  have h3' : (∀ x, ev' x → ∃ b : Nat, ba' x = (b : Int) ∧ ev' b ∧ ba' b = (b : Int)) ∧ ∀ x, ¬ ev' x → ba' x = (x : Int) := by
    refine ⟨fun x hx => ?_, fun x hx => ?_⟩
    · by_cases c : rcP mt ba h g p q x
      · exact ⟨t, hb1 x c, hev t htt.1, hbt⟩
      · have cx := ((he x).mp hx).resolve_right c
        obtain ⟨b, b1, b2, b3⟩ := hI.2.2.1.1 x cx
        refine ⟨b, by rw [hb0 x c]; exact b1, hev b b2, ?_⟩
        rw [hb0 b (fun q1 => c (rc_b q1 (by rw [b1, b3])))]; exact b3
    · have c : ¬ rcP mt ba h g p q x := fun q1 => hx (hrc x q1)
      rw [hb0 x c]
      exact hI.2.2.1.2 x (fun q1 => hx (hev x q1))
  have h4' : ∀ x, ev' x → ba' x ≠ (x : Int) → 0 ≤ mt x ∧ ev' (mN mt x) ∧ ba' (mN mt x) = ba' x := fun x hx hne => by
    by_cases c : rcP mt ba h g p q x
    · have c2 := hmr x c
      refine ⟨(h2'.2.2 x hx).2 (fun e => hrt (by rw [← e]; exact c)), hrc _ c2, by rw [hb1 x c, hb1 _ c2]⟩
    · have cx := ((he x).mp hx).resolve_right c
      rw [hb0 x c] at hne ⊢
      obtain ⟨a1, a2, a3⟩ := hI.2.2.2.1 x cx hne
      refine ⟨a1, hev _ a2, ?_⟩
      rw [hb0 _ (fun q1 => c (rc_b q1 a3.symm))]; exact a3
  have h5' : ∀ x, ev' x → ba' x = (x : Int) → x ≠ root → ¬ ev' (mN mt x) := fun x hx hbx hxr hm => by
    have c : ¬ rcP mt ba h g p q x := fun q1 => hnx x q1 hbx
    have cx := ((he x).mp hx).resolve_right c
    rw [hb0 x c] at hbx
    have n1 := hI.2.2.2.2.1 x cx hbx hxr
    have c2 := ((he _).mp hm).resolve_left n1
    have := hmr _ c2
    rw [(bm_em hI cx hxr).2.2.2.2.2] at this
    exact c this
  have hbz : ∀ z, ev z → rk (ba' z).toNat ≤ rk (ba z).toNat := fun z hz => by
    by_cases c : rcP mt ba h g p q z
    · rw [hb1 z c, Int.toNat_natCast]
      rcases rc_c hI hr c with ⟨-, ⟨i, i1, i2⟩ | ⟨i, i1, i2⟩⟩ | ⟨c1, -⟩
      · have := sq_rk hI hr.1 i1
        rw [Int.toNat_natCast] at this
        rw [i2]; omega
      · have := sq_rk hI hr.2.1 i1
        rw [Int.toNat_natCast] at this
        rw [i2]; omega
      · exact absurd hz c1
    · rw [hb0 z c]; exact Nat.le_refl _
  -- the pointer of a node whose partner lies on a way
  have ptr : ∀ {v w p q : Nat} {h g : Nat → Nat}, rgP R mt pa ba ev root L (t : Int) v w h g p q → ptP mt pa pa' v w h g p q → (∀ i, i < p → ba' (mN mt (h i)) = (t : Int) ∧ ev' (mN mt (h i))) → ba' w = (t : Int) → ∀ i, i < p → ∃ z : Nat, pa' (h i) = (z : Int) ∧ ev' z ∧ R z (h i) ∧ ba' z = (t : Int) := fun {v w p q h g} hr hp hq hw i hi => by
    have e := hp.2.1 i hi
    by_cases e0 : i = 0
    · rw [if_pos e0] at e
      refine ⟨w, e, hev w (rg_ev (rg_sy hr)), ?_, hw⟩
      rw [e0, hr.1.1]; exact hr.2.2.2.2.2
    · rw [if_neg e0] at e
      refine ⟨mN mt (h (i - 1)), e, (hq (i - 1) (by omega)).2, ?_, (hq (i - 1) (by omega)).1⟩
      have h1 := hr.1.2.1 (i - 1) (by omega)
      obtain ⟨z, z1, z2, z3, -⟩ := hI.2.2.2.2.2.1 (h (i - 1)) h1.1 h1.2.1
      rw [h1.2.2.1, show i - 1 + 1 = i by omega] at z1
      rw [← show h i = z by omega] at z3
      exact hsy _ _ z3
  have hw' : ∀ {v w p q : Nat} {h g : Nat → Nat}, rgP R mt pa ba ev root L (t : Int) v w h g p q → (∀ i, i < q → ba' (g i) = (t : Int)) → ba' w = (t : Int) := fun {v w p q h g} hr hq => by
    by_cases e : q = 0
    · have h1 := hr.2.1.2.2.2
      rw [e, hr.2.1.1] at h1
      rw [hb0 w (hnt w (rg_ev (rg_sy hr)) h1)]; exact h1
    · have := hq 0 (by omega)
      rw [hr.2.1.1] at this; exact this
  have hbw : ba' w = (t : Int) := hw' hr (fun i hi => hb1 _ (rc_sy (rc_h hi).1))
  have hbv : ba' v = (t : Int) := hw' (rg_sy hr) (fun i hi => hb1 _ (rc_h hi).1)
  have h6' : ∀ x, ev' x → x ≠ root → ∃ z : Nat, pa' (mN mt x) = (z : Int) ∧ ev' z ∧ R z (mN mt x) ∧ (ba' x ≠ (x : Int) → ba' z = ba' x) ∧ (ba' x = (x : Int) → rk (ba' z).toNat < rk x) := fun x hx hxr => by
    have hx2 := (h2'.2.2 x hx)
    have hmx := bm_mt hI hx2.1 (hx2.2 hxr)
    by_cases c1 : ∃ i, i < p ∧ mN mt x = h i
    · obtain ⟨i, i1, i2⟩ := c1
      obtain ⟨z, z1, z2, z3, z4⟩ := ptr hr hp (fun i hi => ⟨hb1 _ (rc_h hi).2, hrc _ (rc_h hi).2⟩) hbw i i1
      have cx : rcP mt ba h g p q x := by
        have := (rc_h (mt := mt) (ba := ba) (h := h) (g := g) (q := q) i1).2
        rw [← i2, hmx.2.2.2.2.2] at this; exact this
      rw [i2]
      exact ⟨z, z1, z2, z3, fun _ => by rw [z4, hb1 x cx], fun q1 => absurd q1 (hnx x cx)⟩
    · by_cases c2 : ∃ i, i < q ∧ mN mt x = g i
      · obtain ⟨i, i1, i2⟩ := c2
        obtain ⟨z, z1, z2, z3, z4⟩ := ptr (rg_sy hr) (pt_sy hp) (fun i hi => ⟨hb1 _ (rc_sy (rc_h hi).2), hrc _ (rc_sy (rc_h hi).2)⟩) hbv i i1
        have cx : rcP mt ba h g p q x := by
          have := rc_sy (rc_h (mt := mt) (ba := ba) (h := g) (g := h) (q := p) i1).2
          rw [← i2, hmx.2.2.2.2.2] at this; exact this
        rw [i2]
        exact ⟨z, z1, z2, z3, fun _ => by rw [z4, hb1 x cx], fun q1 => absurd q1 (hnx x cx)⟩
      · have cx : ev x := Classical.byContradiction (fun n1 => by
          have c := ((he x).mp hx).resolve_left n1
          rcases rc_c hI hr c with ⟨c3, -⟩ | ⟨-, ⟨i, i1, i2⟩ | ⟨i, i1, i2⟩⟩
          · exact n1 c3
          · exact c1 ⟨i, i1, by rw [i2]; exact (rg_m hI hr i i1).1⟩
          · exact c2 ⟨i, i1, by rw [i2]; exact (rg_m hI (rg_sy hr) i i1).1⟩)
        obtain ⟨z, z1, z2, z3, z4, z5, -⟩ := hI.2.2.2.2.2.1 x cx hxr
        refine ⟨z, by rw [hp.1 _ (fun i hi q1 => c1 ⟨i, hi, q1⟩) (fun i hi q1 => c2 ⟨i, hi, q1⟩)]; exact z1, hev z z2, z3, fun hne => ?_, fun hbx => ?_⟩
        · by_cases cb : ba x = (x : Int)
          · have cr : rcP mt ba h g p q x := Classical.byContradiction (fun n1 => hne (by rw [hb0 x n1]; exact cb))
            rw [hb1 x cr]
            have nxt : ∀ {v w p q : Nat} {h g : Nat → Nat}, rgP R mt pa ba ev root L (t : Int) v w h g p q → (∀ i, i < p → ba' (h i) = (t : Int)) → ∀ i, i < p → x = h i → ba' z = (t : Int) := fun {v w p q h g} hr hq i hi e => by
              have h1 := (hr.1.2.1 i hi).2.2.1
              rw [← e, z1] at h1
              have e2 : z = h (i + 1) := by omega
              rw [e2]
              by_cases ep : i + 1 = p
              · rw [ep, hb0 _ (hnt _ hr.1.2.2.1 hr.1.2.2.2)]; exact hr.1.2.2.2
              · exact hq (i + 1) (by omega)
            rcases hpl x cx cb cr with ⟨i, i1, i2⟩ | ⟨i, i1, i2⟩
            · exact nxt hr (fun i hi => hb1 _ (rc_h hi).1) i i1 i2
            · exact nxt (rg_sy hr) (fun i hi => hb1 _ (rc_sy (rc_h hi).1)) i i1 i2
          · have e := z4 cb
            by_cases cr : rcP mt ba h g p q x
            · rw [hb1 x cr, hb1 z (rc_b cr e)]
            · rw [hb0 x cr, hb0 z (fun q1 => cr (rc_b q1 e.symm))]; exact e
        · have cr : ¬ rcP mt ba h g p q x := fun q1 => hnx x q1 hbx
          rw [hb0 x cr] at hbx
          have := z5 hbx
          have := hbz z z2
          omega
  have hmem : ∀ y, (∃ i, i < p ∧ y = h i) ∨ (∃ i, i < q ∧ y = g i) → ev y := fun y hy => by
    rcases hy with ⟨i, i1, i2⟩ | ⟨i, i1, i2⟩
    · rw [i2]; exact (hr.1.2.1 i i1).1
    · rw [i2]; exact (hr.2.1.2.1 i i1).1
  refine bm_mk hI.1 h2' h3' h4' h5' h6' (fun x hx => ?_) (fun o ho hpo => ?_) (fun y hy hpy => ?_)
  · by_cases cx : ev x
    · exact rg_w0 hI hr hp x cx
    · rcases rc_c hI hr (((he x).mp hx).resolve_left cx) with ⟨c3, -⟩ | ⟨-, ⟨i, i1, i2⟩ | ⟨i, i1, i2⟩⟩
      · exact absurd c3 cx
      · rw [i2]; exact rg_w1 hI hr hp i1
      · rw [i2]; exact rg_w1 hI (rg_sy hr) (pt_sy hp) i1
  · have n1 : ¬ ev o := fun q1 => ho (hev o q1)
    rw [hp.1 o (fun i hi q1 => n1 (hmem o (Or.inl ⟨i, hi, q1⟩))) (fun i hi q1 => n1 (hmem o (Or.inr ⟨i, hi, q1⟩)))] at hpo
    obtain ⟨a1, a2, a3⟩ := hI.2.2.2.2.2.2.2.2.1 o n1 hpo
    exact ⟨a1, a2, hev _ a3⟩
  · by_cases cr : rcP mt ba h g p q y
    · exact ⟨fun e => hrt (by rw [← e]; exact cr), hrc _ (hmr y cr)⟩
    · have cy := ((he y).mp hy).resolve_right cr
      rw [hp.1 y (fun i hi q1 => cr (by rw [q1]; exact (rc_h hi).1)) (fun i hi q1 => cr (by rw [q1]; exact rc_sy (rc_h hi).1))] at hpy
      obtain ⟨a1, a2⟩ := hI.2.2.2.2.2.2.2.2.2 y cy hpy
      exact ⟨a1, hev _ a2⟩
end RH
