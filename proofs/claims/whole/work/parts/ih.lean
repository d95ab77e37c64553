section BA
variable {R : Nat → Nat → Prop} {S : Nat → Prop} {mt pa ba : Nat → Int} {ev : Nat → Prop} {root : Nat} {rk : Nat → Nat} {L : Nat → List Nat}
/-- a node that was not reached yet, and its partner behind it -/
theorem bm_add (hI : bmI R S mt pa ba ev root rk L) {v w : Nat} {ev' : Nat → Prop} (hv : ev v) (hw : S w) (hn : ¬ ev w) (hp : pa w < 0) (hm : 0 ≤ mt w) (hR : R v w) (he : ∀ y, ev' y ↔ ev y ∨ y = mN mt w) : ∃ rk' L', bmI R S mt (fup pa w (v : Int)) ba ev' root rk' L' := by
  have hmw := bm_mt hI hw hm
  obtain ⟨c, hc⟩ : ∃ c, c = mN mt w := ⟨_, rfl⟩
  rw [← hc] at hmw
  have hmc : mN mt c = w := hmw.2.2.2.2.2
  have hcr : c ≠ root := fun e => by
    have h1 := hmw.2.2.1
    rw [e] at h1
    have := hI.2.1.2.1
    omega
  have hcn : ¬ ev c := fun g => by
    obtain ⟨z, z1, -⟩ := hI.2.2.2.2.2.1 c g hcr
    rw [hmc] at z1
    omega
  have hmx : ∀ x, ev x → x ≠ root → mN mt x ≠ w := fun x hx hxr e => by
    have := (bm_em hI hx hxr).2.2.2.2.2
    rw [e, ← hc] at this
    rw [this] at hcn; exact hcn hx
  have hpx : ∀ x, ev x → x ≠ root → fup pa w (v : Int) (mN mt x) = pa (mN mt x) := fun x hx hxr => if_neg (hmx x hx hxr)
  have hbc : ∀ x, ev x → (ba x).toNat ≠ c := fun x hx e => by
    obtain ⟨b, b1, b2, -⟩ := hI.2.2.1.1 x hx
    rw [show b = c by omega] at b2
    exact hcn b2
  have he2 : ∀ y, ev' y ↔ ev y ∨ y = c := fun y => by rw [hc]; exact he y
  have hev : ∀ y, ev y → ev' y := fun y hy => (he2 y).mpr (Or.inl hy)
  refine ⟨fun x => if x = c then rk (ba v).toNat + 1 else rk x, ?_⟩
  refine bm_mk hI.1 ⟨hev root hI.2.1.1, hI.2.1.2.1, fun x hx => ?_⟩ ⟨fun x hx => ?_, fun x hx => hI.2.2.1.2 x (fun g => hx (hev x g))⟩ (fun x hx hne => ?_) (fun x hx hb hxr hm2 => ?_) (fun x hx hxr => ?_) (fun x hx => ?_) (fun o ho hpo => ?_) (fun y hy hpy => ?_)
  · rcases (he2 x).mp hx with g | g
    · exact hI.2.1.2.2 x g
    · rw [g]; exact ⟨hmw.2.1, fun _ => by rw [hmw.2.2.1]; omega⟩
  · rcases (he2 x).mp hx with g | g
    · obtain ⟨b, b1, b2, b3⟩ := hI.2.2.1.1 x g
      exact ⟨b, b1, hev b b2, b3⟩
    · rw [g]; exact ⟨c, hI.2.2.1.2 c hcn, (he2 c).mpr (Or.inr rfl), hI.2.2.1.2 c hcn⟩
  · rcases (he2 x).mp hx with g | g
    · obtain ⟨a1, a2, a3⟩ := hI.2.2.2.1 x g hne
      exact ⟨a1, hev _ a2, a3⟩
    · rw [g] at hne; exact absurd (hI.2.2.1.2 c hcn) hne
  · rcases (he2 x).mp hx with g | g
    · rcases (he2 _).mp hm2 with g1 | g1
      · exact hI.2.2.2.2.1 x g hb hxr g1
      · have := (bm_em hI g hxr).2.2.2.2.2
        rw [g1, hmc] at this
        rw [this] at hn; exact hn g
    · rw [g, hmc] at hm2
      rcases (he2 w).mp hm2 with g1 | g1
      · exact hn g1
      · exact hmw.2.2.2.1 g1.symm
  · rcases (he2 x).mp hx with g | g
    · obtain ⟨z, z1, z2, z3, z4, z5, -⟩ := hI.2.2.2.2.2.1 x g hxr
      refine ⟨z, by rw [hpx x g hxr]; exact z1, hev z z2, z3, z4, fun hb => ?_⟩
      rw [if_neg (hbc z z2), if_neg (show ¬ x = c from fun e => hcn (by rw [← e]; exact g))]
      exact z5 hb
    · rw [g, hmc]
      refine ⟨v, if_pos rfl, hev v hv, hR, fun hne => absurd (hI.2.2.1.2 c hcn) hne, fun _ => ?_⟩
      rw [if_neg (hbc v hv), if_pos rfl]; omega
  · have old : ∀ x, ev x → zyP mt (fup pa w (v : Int)) root (L x) x := fun x hx => zy_tr (bm_wy hI x hx) (fun y hy hyr => hpx y (bm_ev hI x hx y hy) hyr)
    rcases (he2 x).mp hx with g | g
    · exact ⟨L x, old x g, hI.2.2.2.2.2.2.2.1 x g⟩
    · rw [g]
      refine ⟨c :: L v, ⟨rfl, Or.inr ⟨hcr, ?_⟩⟩, fun a b ha hb e => ?_⟩
      · rw [hmc, show fup pa w (v : Int) w = (v : Int) from if_pos rfl]
        exact old v hv
      · rcases List.mem_cons.mp ha with a1 | a1
        · rcases List.mem_cons.mp hb with b1 | b1
          · rw [a1, b1, hmw.2.2.1] at e
            exact hmw.2.2.2.1 (by omega)
          · have hbe := bm_ev hI v hv b b1
            rw [a1] at e
            have e2 := (vm_at hI.1 (hI.2.1.2.2 b hbe).1 e).2.1
            rw [hmw.2.2.1] at e2
            rw [← show w = b by omega] at hbe
            exact hn hbe
        · rcases List.mem_cons.mp hb with b1 | b1
          · rw [b1, hmw.2.2.1] at e
            have hae := bm_ev hI v hv a a1
            rw [← show w = a by omega] at hae
            exact hn hae
          · exact hI.2.2.2.2.2.2.2.1 v hv a b a1 b1 e
  · by_cases e : o = w
    · rw [e]; exact ⟨hw, hm, (he _).mpr (Or.inr rfl)⟩
    · rw [show fup pa w (v : Int) o = pa o from if_neg e] at hpo
      obtain ⟨a1, a2, a3⟩ := hI.2.2.2.2.2.2.2.2.1 o (fun g => ho (hev o g)) hpo
      exact ⟨a1, a2, hev _ a3⟩
  · rcases (he2 y).mp hy with g | g
    · rw [show fup pa w (v : Int) y = pa y from if_neg (fun e => hn (by rw [← e]; exact g))] at hpy
      obtain ⟨a1, a2⟩ := hI.2.2.2.2.2.2.2.2.2 y g hpy
      exact ⟨a1, hev _ a2⟩
    · exfalso
      rw [g, show fup pa w (v : Int) c = pa c from if_neg hmw.2.2.2.1] at hpy
      have := (hI.2.2.2.2.2.2.2.2.1 c hcn hpy).2.2
      rw [hmc] at this
      exact hn this
/-- where nothing more is reached, no pairing reaches the root beside all others -/
theorem bm_fail (hI : bmI R S mt pa ba ev root rk L) {n : Nat} (hS : ∀ a, S a → a < n) (hc : ∀ v, ev v → ∀ w, S w → R v w → w ≠ v → (ev w ∧ ba w = ba v) ∨ (¬ ev w ∧ 0 ≤ pa w)) : ¬ ∃ N : Nat → Int, vmP R S N ∧ 0 ≤ N root ∧ ∀ z, S z → 0 ≤ mt z → 0 ≤ N z := fun ⟨N, n1, n2, n3⟩ => by
  have hcv : ∀ y, ev y → 0 ≤ N y := fun y hy => by
    by_cases e : y = root
    · rw [e]; exact n2
    · exact n3 y (hI.2.1.2.2 y hy).1 ((hI.2.1.2.2 y hy).2 e)
  have hout : ∀ b, ev b → ba b = (b : Int) → ∃ y o : Nat, ev y ∧ ba y = (b : Int) ∧ N y = (o : Int) ∧ ¬ ev o ∧ 0 ≤ pa o := fun b hb hbb => Classical.byContradiction (fun g => by
    have p1 := ev_cn (n := n) (g := N) (cnP (fun y => ev y ∧ ba y = (b : Int)) n) (S := fun y => ev y ∧ ba y = (b : Int)) rfl (fun a ha => by
      have haS := (hI.2.1.2.2 a ha.1).1
      obtain ⟨w, w1, w2, w3, w4, w5⟩ := vm_ex n1 haS (hcv a ha.1)
      refine ⟨hS a haS, w, w1, ?_, w3, w4⟩
      rcases hc a ha.1 w w2 w5 w4 with q | q
      · exact ⟨q.1, q.2.trans ha.2⟩
      · exact absurd ⟨a, w, ha.1, ha.2, w1, q.1, q.2⟩ g)
    have p2 := ev_cn (n := n) (g := mt) (cnP (fun y => (ev y ∧ ba y = (b : Int)) ∧ y ≠ b) n) (S := fun y => (ev y ∧ ba y = (b : Int)) ∧ y ≠ b) rfl (fun a ha => by
      have hne : ba a ≠ (a : Int) := fun e => ha.2 (by have := ha.1.2; omega)
      obtain ⟨a1, a2, a3⟩ := hI.2.2.2.1 a ha.1.1 hne
      have haS := (hI.2.1.2.2 a ha.1.1).1
      have hm := bm_mt hI haS a1
      refine ⟨hS a haS, mN mt a, hm.1.symm, ⟨⟨a2, a3.trans ha.1.2⟩, fun e => ?_⟩, hm.2.2.1, hm.2.2.2.1⟩
      by_cases er : b = root
      · have h1 := hm.2.2.1
        rw [e, er] at h1
        have := hI.2.1.2.1
        omega
      · have h1 := hI.2.2.2.2.1 b hb hbb er
        rw [← e, hm.2.2.2.2.2] at h1
        exact h1 ha.1.1)
    have p3 : cnP (fun y => ev y ∧ ba y = (b : Int)) n = cnP (fun y => (ev y ∧ ba y = (b : Int)) ∧ y ≠ b) n + 1 := cnP_rm (p := fun y => ev y ∧ ba y = (b : Int)) (hS b (hI.2.1.2.2 b hb).1) ⟨hb, hbb⟩
    omega)
  have c1 : cnP (fun b => ev b ∧ ba b = (b : Int)) n ≤ cnP (fun o => S o ∧ ¬ ev o ∧ 0 ≤ pa o) n := cnP_rel (R := fun b o => ∃ y : Nat, ev y ∧ ba y = (b : Int) ∧ N y = (o : Int)) (fun b _ hb => by
    obtain ⟨y, o, y1, y2, y3, y4, y5⟩ := hout b hb.1 hb.2
    have h1 := vm_at n1 (hI.2.1.2.2 y y1).1 y3
    exact ⟨o, hS o h1.1, ⟨h1.1, y4, y5⟩, y, y1, y2, y3⟩) (fun b b' o _ _ _ _ r1 r2 => by
    obtain ⟨y, y1, y2, y3⟩ := r1
    obtain ⟨y', z1, z2, z3⟩ := r2
    have h1 := (vm_at n1 (hI.2.1.2.2 y y1).1 y3).2.1
    have h2 := (vm_at n1 (hI.2.1.2.2 y' z1).1 z3).2.1
    have e : y = y' := by omega
    rw [e] at y2
    omega)
  have c2 : cnP (fun x => (S x ∧ ¬ ev x ∧ 0 ≤ pa x) ∨ x = root) n ≤ cnP (fun b => ev b ∧ ba b = (b : Int)) n := by
    have hO : ∀ o, (S o ∧ ¬ ev o ∧ 0 ≤ pa o) → o ≠ root ∧ S (mN mt o) ∧ ev (mN mt o) ∧ ba (mN mt o) = ((mN mt o : Nat) : Int) ∧ mN mt (mN mt o) = o ∧ mN mt o ≠ root := fun o ho => by
      obtain ⟨a1, a2, a3⟩ := hI.2.2.2.2.2.2.2.2.1 o ho.2.1 ho.2.2
      have hm := bm_mt hI a1 a2
      refine ⟨fun e => ho.2.1 (by rw [e]; exact hI.2.1.1), hm.2.1, a3, Classical.byContradiction (fun g => ?_), hm.2.2.2.2.2, fun e => ?_⟩
      · have := (hI.2.2.2.1 _ a3 g).2.1
        rw [hm.2.2.2.2.2] at this
        exact ho.2.1 this
      · have h1 := hm.2.2.1
        rw [e] at h1
        have := hI.2.1.2.1
        omega
    refine cnP_rel (R := fun x b => (x = root ∧ b = root) ∨ (x ≠ root ∧ b = mN mt x)) (fun x _ hx => ?_) (fun x x' b _ _ hx hx' r1 r2 => ?_)
    · rcases hx with g | g
      · have := hO x g
        exact ⟨mN mt x, hS _ this.2.1, ⟨this.2.2.1, this.2.2.2.1⟩, Or.inr ⟨this.1, rfl⟩⟩
      · exact ⟨root, hS _ (hI.2.1.2.2 root hI.2.1.1).1, ⟨hI.2.1.1, bm_br hI⟩, Or.inl ⟨g, rfl⟩⟩
    · rcases r1 with ⟨a1, a2⟩ | ⟨a1, a2⟩
      · rcases r2 with ⟨b1, b2⟩ | ⟨b1, b2⟩
        · rw [a1, b1]
        · exact absurd (b2.symm.trans a2) (hO x' (hx'.resolve_right b1)).2.2.2.2.2
      · rcases r2 with ⟨b1, b2⟩ | ⟨b1, b2⟩
        · exact absurd (a2.symm.trans b2) (hO x (hx.resolve_right a1)).2.2.2.2.2
        · have q1 := (hO x (hx.resolve_right a1)).2.2.2.2.1
          have q2 := (hO x' (hx'.resolve_right b1)).2.2.2.2.1
          rw [← a2] at q1
          rw [← b2] at q2
          rw [← q1, q2]
  have c3 : cnP (fun x => (S x ∧ ¬ ev x ∧ 0 ≤ pa x) ∨ x = root) n = cnP (fun x => ((S x ∧ ¬ ev x ∧ 0 ≤ pa x) ∨ x = root) ∧ x ≠ root) n + 1 := cnP_rm (p := fun x => (S x ∧ ¬ ev x ∧ 0 ≤ pa x) ∨ x = root) (hS _ (hI.2.1.2.2 root hI.2.1.1).1) (Or.inr rfl)
  have c4 : cnP (fun x => ((S x ∧ ¬ ev x ∧ 0 ≤ pa x) ∨ x = root) ∧ x ≠ root) n = cnP (fun o => S o ∧ ¬ ev o ∧ 0 ≤ pa o) n := cnP_eq (fun x _ => ⟨fun g => g.1.resolve_right g.2, fun g => ⟨Or.inl g, fun e => g.2.1 (by rw [e]; exact hI.2.1.1)⟩⟩)
  omega
end BA
