/-- the sum of g over the nodes of S below n -/
def smS (S : Int) (g : Nat → Int) (n : Nat) : Int := sgm (fun v => bif S.toNat.testBit v then g v else 0) n
theorem sms_at {S : Int} {g : Nat → Int} {v : Nat} (h : Me S v) : (bif S.toNat.testBit v then g v else 0) = g v := by
  rw [show S.toNat.testBit v = true from h]; rfl
theorem sms_no {S : Int} {g : Nat → Int} {v : Nat} (h : ¬ Me S v) : (bif S.toNat.testBit v then g v else 0) = 0 := by
  rw [show S.toNat.testBit v = false from Bool.eq_false_iff.mpr h]; rfl
theorem sms_y {S : Int} {g : Nat → Int} {n : Nat} (h : Me S n) : smS S g (n + 1) = smS S g n + g n := by
  show smS S g n + (bif S.toNat.testBit n then g n else 0) = _
  rw [sms_at h]
theorem sms_n {S : Int} {g : Nat → Int} {n : Nat} (h : ¬ Me S n) : smS S g (n + 1) = smS S g n := by
  show smS S g n + (bif S.toNat.testBit n then g n else 0) = _
  rw [sms_no h, Int.add_zero]
theorem bc_sms {S : Int} : ∀ n : Nat, bcI S n = smS S (fun _ => 1) n
  | 0 => rfl
  | n + 1 => by
    by_cases h : Me S n
    · rw [bc_y h, sms_y h, bc_sms n]
    · rw [bc_n h, sms_n h, bc_sms n]
theorem sms_b {S c : Int} {g : Nat → Int} (h : ∀ v, Me S v → g v ≤ c) : ∀ n : Nat, smS S g n ≤ c * bcI S n
  | 0 => by
    show (0 : Int) ≤ c * 0
    omega
  | n + 1 => by
    have h1 := sms_b h n
    by_cases hm : Me S n
    · rw [sms_y hm, bc_y hm, Int.mul_add, Int.mul_one]
      have := h n hm
      omega
    · rw [sms_n hm, bc_n hm]; exact h1
theorem sms_ge {S : Int} {g : Nat → Int} (h : ∀ v, Me S v → 0 ≤ g v) : ∀ n : Nat, 0 ≤ smS S g n
  | 0 => Int.le_refl _
  | n + 1 => by
    have h1 := sms_ge h n
    by_cases hm : Me S n
    · rw [sms_y hm]
      have := h n hm
      omega
    · rw [sms_n hm]; exact h1
theorem sgm_dl {x : Nat} {c : Int} {n : Nat} (hx : x < n) : sgm (fun v => if v = x then c else 0) n = c := by
  have h := sgm_up (f := fun _ => 0) (g := fun v => if v = x then c else 0) (i := x) (n := n) (fun j _ hj => if_neg hj) hx
  rw [h, sgm_0, if_pos rfl]
  omega
theorem bc_mem {z : Int} {u : Nat} (hz : z ≤ 65535) (hu : Me z u) : 1 ≤ bcI z 16 := by
  have := bc_less (S := z) (Z := 0) hz (by omega) (fun i g => absurd g (Me_0 i)) hu (Me_0 u)
  have := bc_le 0 16
  omega
theorem bc_mem2 {z : Int} {u w : Nat} (hz : z ≤ 65535) (hu : Me z u) (hw : Me z w) (hne : u ≠ w) : 2 ≤ bcI z 16 := by
  have := bc_two (x := z) (k := 16) ⟨u, w, Me_lt hu hz, Me_lt hw hz, hu, hw, hne⟩
  omega
theorem bc_mem3 {z : Int} {u w a : Nat} (hz : z ≤ 65535) (hu : Me z u) (hw : Me z w) (ha : Me z a) (h1 : u ≠ w) (h2 : u ≠ a) (h3 : w ≠ a) : 3 ≤ bcI z 16 := by
  obtain ⟨y, hy, hm⟩ := mk_ex (fun i => Me z i ∧ i ≠ a) 16 (Nat.le_refl 16)
  have g1 := bc_mem2 hy.2 ((hm u).mpr ⟨Me_lt hu hz, hu, h2⟩) ((hm w).mpr ⟨Me_lt hw hz, hw, h3⟩) h1
  have g2 := bc_less hz hy (fun i g => ((hm i).mp g).2.1) ha (fun g => ((hm a).mp g).2.2 rfl)
  omega
/-- rows that tell the joinings of H among the nodes of S -/
def rwE (H : Nat → Nat → Prop) (S : Int) (r : Nat → Int) : Prop := ∀ v, Me S v → (0 ≤ r v ∧ r v ≤ 65535) ∧ ∀ u, Me (r v) u ↔ Me S u ∧ u ≠ v ∧ H v u
theorem rw_ex (H : Nat → Nat → Prop) {S : Int} (hS : S ≤ 65535) : ∃ r, rwE H S r := by
  have h1 : ∀ v : Nat, ∃ z : Int, (0 ≤ z ∧ z ≤ 65535) ∧ ∀ i, Me z i ↔ i < 16 ∧ (Me S i ∧ i ≠ v ∧ H v i) := fun v => mk_ex _ 16 (Nat.le_refl 16)
  exact ⟨fun v => Classical.choose (h1 v), fun v _ => ⟨(Classical.choose_spec (h1 v)).1, fun u => ((Classical.choose_spec (h1 v)).2 u).trans ⟨fun g => g.2, fun g => ⟨Me_lt g.1 hS, g⟩⟩⟩⟩
theorem rw_dg {H : Nat → Nat → Prop} {S k : Int} {r : Nat → Int} {v : Nat} (h : rwE H S r) (hv : Me S v) (h0 : 0 ≤ k) (hk : leK k.toNat (fun b => Me S b ∧ b ≠ v ∧ H v b)) : bcI (r v) 16 ≤ k :=
  lek_bc (h v hv).1 h0 (fun b g => ((h v hv).2 b).mp g) hk
theorem rw_lk {H : Nat → Nat → Prop} {S k : Int} {r : Nat → Int} {v : Nat} (h : rwE H S r) (hv : Me S v) (hk : bcI (r v) 16 ≤ k) : leK k.toNat (fun b => Me S b ∧ b ≠ v ∧ H v b) :=
  lek_of (h v hv).1 (fun b g => ((h v hv).2 b).mpr g) hk
theorem rw_sz {H : Nat → Nat → Prop} {S : Int} {r : Nat → Int} {v : Nat} (h : rwE H S r) (hS : S ≤ 65535) (hv : Me S v) : bcI (r v) 16 < bcI S 16 :=
  bc_less hS (h v hv).1 (fun i g => (((h v hv).2 i).mp g).1) hv (fun g => (((h v hv).2 v).mp g).2.1 rfl)
/-- one out takes at most twice its degree -/
theorem en_rm {H : Nat → Nat → Prop} {S S1 : Int} {r r1 : Nat → Int} {x : Nat} (hy : ∀ a b, H a b → H b a) (hS : S ≤ 65535) (h : rwE H S r) (hx : Me S x) (h1 : ∀ i, Me S1 i ↔ Me S i ∧ i ≠ x) (hr : rwE (flH H x) S1 r1) : smS S (fun v => bcI (r v) 16) 16 ≤ smS S1 (fun v => bcI (r1 v) 16) 16 + bcI (r x) 16 + bcI (r x) 16 := by
  have hx16 := Me_lt hx hS
  have h2 : smS S (fun v => bcI (r v) 16) 16 ≤ sgm (fun v => ((bif S1.toNat.testBit v then bcI (r1 v) 16 else 0) + (bif (r x).toNat.testBit v then 1 else 0)) + (if v = x then bcI (r x) 16 else 0)) 16 := by
    refine sgm_le (fun v hv => ?_)
    by_cases ev : v = x
    · rw [if_pos ev, ev, sms_at (g := fun v => bcI (r v) 16) hx, sms_no (g := fun v => bcI (r1 v) 16) (fun g => ((h1 x).mp g).2 rfl), sms_no (g := fun _ => 1) (fun g => (((h x hx).2 x).mp g).2.1 rfl)]
      omega
    · rw [if_neg ev]
      by_cases hm : Me S v
      · have hm1 : Me S1 v := (h1 v).mpr ⟨hm, ev⟩
        rw [sms_at (g := fun v => bcI (r v) 16) hm, sms_at (g := fun v => bcI (r1 v) 16) hm1]
        by_cases hxv : Me (r x) v
        · rw [sms_at (g := fun _ => 1) hxv]
          have g1 := bc_one (s := r v) (z := r1 v) (w := x) (fun i g => by
            by_cases e : i = x
            · exact Or.inr e
            · have g2 := ((h v hm).2 i).mp g
              exact Or.inl (((hr v hm1).2 i).mpr ⟨(h1 i).mpr ⟨g2.1, e⟩, g2.2.1, Or.inl g2.2.2⟩)) 16
          rw [if_pos hx16] at g1
          omega
        · rw [sms_no (g := fun _ => 1) hxv]
          have g1 := bc_sb (s := r v) (z := r1 v) (fun i g => by
            have g2 := ((h v hm).2 i).mp g
            have e : i ≠ x := fun e => hxv (((h x hx).2 v).mpr ⟨hm, ev, hy v x (e ▸ g2.2.2)⟩)
            exact ((hr v hm1).2 i).mpr ⟨(h1 i).mpr ⟨g2.1, e⟩, g2.2.1, Or.inl g2.2.2⟩) 16
          omega
      · rw [sms_no (g := fun v => bcI (r v) 16) hm, sms_no (g := fun v => bcI (r1 v) 16) (fun g => hm ((h1 v).mp g).1), sms_no (g := fun _ => 1) (fun g => hm (((h x hx).2 v).mp g).1)]
        omega
  have h3 := sgm_add (f := fun v => (bif S1.toNat.testBit v then bcI (r1 v) 16 else 0) + (bif (r x).toNat.testBit v then 1 else 0)) (g := fun v => if v = x then bcI (r x) 16 else 0) 16
  have h4 := sgm_add (f := fun v => bif S1.toNat.testBit v then bcI (r1 v) 16 else 0) (g := fun v => bif (r x).toNat.testBit v then 1 else 0) 16
  have h5 := sgm_dl (c := bcI (r x) 16) hx16
  have h6 : sgm (fun v => bif (r x).toNat.testBit v then 1 else 0) 16 = bcI (r x) 16 := (bc_sms 16).symm
  have h7 : sgm (fun v => bif S1.toNat.testBit v then bcI (r1 v) 16 else 0) 16 = smS S1 (fun v => bcI (r1 v) 16) 16 := rfl
  omega
/-- too many joinings -/
theorem ew_en {k : Int} (hk : 0 ≤ k) : ∀ {l : List Nat} {H : Nat → Nat → Prop} {S : Int} {r : Nat → Int}, (∀ a b, H a b → H b a) → (0 ≤ S ∧ S ≤ 65535) → rwE H S r → ewL k.toNat l H (Me S) → k + 1 ≤ bcI S 16 → smS S (fun v => bcI (r v) 16) 16 ≤ 2 * k * bcI S 16 - k * (k + 1)
  | [], H, S, r, hy, hS, hr, h, hs => by
    have h1 := bc_sb (s := S) (z := 0) (fun i g => absurd g (h i)) 16
    have h2 : bcI 0 16 = 0 := by decide
    omega
  | x :: l, H, S, r, hy, hS, hr, h, hs => by
    obtain ⟨hx, hd, hr2⟩ := h
    by_cases e : bcI S 16 = k + 1
    · have h1 := sms_b (S := S) (c := k) (g := fun v => bcI (r v) 16) (fun v hv => by
        have := rw_sz hr hS.2 hv
        show bcI (r v) 16 ≤ k
        omega) 16
      rw [e] at h1 ⊢
      rw [Int.mul_assoc 2 k (k + 1)]
      omega
    · obtain ⟨S1, hS1, hm⟩ := mk_ex (fun i => Me S i ∧ i ≠ x) 16 (Nat.le_refl 16)
      have hm1 : ∀ i, Me S1 i ↔ Me S i ∧ i ≠ x := fun i => (hm i).trans ⟨fun g => g.2, fun g => ⟨Me_lt g.1 hS.2, g⟩⟩
      have hb := bc_ins (s := S1) (z := S) (v := x) (fun i => by
        rw [hm1 i]
        constructor
        · intro g
          by_cases e2 : i = x
          · exact Or.inr e2
          · exact Or.inl ⟨g, e2⟩
        · rintro (g | g)
          · exact g.1
          · rw [g]; exact hx) (fun g => ((hm1 x).mp g).2 rfl) 16
      rw [if_pos (Me_lt hx hS.2)] at hb
      obtain ⟨r1, hr1⟩ := rw_ex (flH H x) (S := S1) hS1.2
      have hew : ∃ l', ewL k.toNat l' (flH H x) (Me S1) := ew_su (flh_sy hy) (fun a ha => (hm1 a).mp ha) (fun _ _ _ _ _ q => q) hr2
      obtain ⟨hd2, _⟩ : bcI (r x) 16 ≤ k ∧ True := ⟨rw_dg hr hx hk hd, trivial⟩
      have h3 := en_rm hy hS.2 hr hx hm1 hr1
      have h4 : smS S1 (fun v => bcI (r1 v) 16) 16 ≤ 2 * k * bcI S1 16 - k * (k + 1) := by
        have hr3 : ewL k.toNat l (flH H x) (fun j => Me S j ∧ j ≠ x) := hr2
        have hr4 : ewL k.toNat l (flH H x) (Me S1) := by
          have e1 : (fun j => Me S j ∧ j ≠ x) = Me S1 := funext (fun j => propext (hm1 j).symm)
          rw [← e1]; exact hr3
        exact ew_en hk (flh_sy hy) hS1 hr1 hr4 (by omega)
      rw [hb, Int.mul_add, Int.mul_one]
      omega
/-- in isHarmless: the nodes of A below v have been looked at -/
def haI (A : Int) (r : Nat → Int) (v sum most : Int) : Prop := ∃ zf : Nat → Int, (∀ u, (0 ≤ zf u ∧ zf u ≤ 65535) ∧ ∀ j, Me (zf u) j ↔ Me A j ∧ ¬ Me (r u) j) ∧ sum = smS A (fun u => bcI (zf u) 16 - 1) v.toNat ∧ 0 ≤ most ∧ (∀ u : Nat, (u : Int) < v → Me A u → bcI (zf u) 16 - 1 ≤ most) ∧ (most = 0 ∨ ∃ w : Nat, (w : Int) < v ∧ Me A w ∧ bcI (zf w) 16 - 1 = most)
theorem hai_0 {A : Int} {r : Nat → Int} (hA : A ≤ 65535) : haI A r 0 0 0 := by
  have h1 : ∀ u : Nat, ∃ z : Int, (0 ≤ z ∧ z ≤ 65535) ∧ ∀ i, Me z i ↔ i < 16 ∧ (Me A i ∧ ¬ Me (r u) i) := fun v => mk_ex _ 16 (Nat.le_refl 16)
  exact ⟨fun v => Classical.choose (h1 v), fun v => ⟨(Classical.choose_spec (h1 v)).1, fun u => ((Classical.choose_spec (h1 v)).2 u).trans ⟨fun g => g.2, fun g => ⟨Me_lt g.1 hA, g⟩⟩⟩, rfl, Int.le_refl 0, fun u hu => by omega, Or.inl rfl⟩
theorem hai_b {A : Int} {r : Nat → Int} {v sum most : Int} (h : haI A r v sum most) (h0 : 0 ≤ v ∧ v ≤ 16) (hA : 0 ≤ A ∧ A ≤ 65535) (hn : ∀ u, Me A u → ¬ Me (r u) u) : (0 ≤ sum ∧ sum ≤ 240) ∧ 0 ≤ most ∧ most ≤ 15 := by
  obtain ⟨zf, h1, h2, h3, h4, h5⟩ := h
  have hz : ∀ u, Me A u → 1 ≤ bcI (zf u) 16 ∧ bcI (zf u) 16 ≤ 16 := fun u hu => ⟨bc_mem (h1 u).1.2 (((h1 u).2 u).mpr ⟨hu, hn u hu⟩), (bc_le (zf u) 16).2⟩
  have g1 := sms_ge (S := A) (g := fun u => bcI (zf u) 16 - 1) (fun u hu => by
    have := hz u hu
    show 0 ≤ bcI (zf u) 16 - 1
    omega) v.toNat
  have g2 := sms_b (S := A) (c := 15) (g := fun u => bcI (zf u) 16 - 1) (fun u hu => by
    have := hz u hu
    show bcI (zf u) 16 - 1 ≤ 15
    omega) v.toNat
  have g3 := bc_le A v.toNat
  refine ⟨by omega, h3, ?_⟩
  rcases h5 with e | ⟨w, _, hw, e⟩
  · omega
  · have := hz w hw
    omega
theorem hai_sk {A : Int} {r : Nat → Int} {v sum most : Int} (h : haI A r v sum most) (h0 : 0 ≤ v) (hn : ¬ Me A v.toNat) : haI A r (v + 1) sum most := by
  obtain ⟨zf, h1, h2, h3, h4, h5⟩ := h
  refine ⟨zf, h1, ?_, h3, fun u hu hm => ?_, h5.imp id (fun ⟨w, w1, w2⟩ => ⟨w, by omega, w2⟩)⟩
  · rw [show (v + 1).toNat = v.toNat + 1 by omega, sms_n hn]; exact h2
  · by_cases e : (u : Int) < v
    · exact h4 u e hm
    · exact absurd (show Me A v.toNat from (show u = v.toNat by omega) ▸ hm) hn
theorem hai_st {A : Int} {r : Nat → Int} {v sum most z m1 : Int} (h : haI A r v sum most) (h0 : 0 ≤ v) (hm : Me A v.toNat) (hz : 0 ≤ z ∧ z ≤ 65535) (hzm : ∀ j, Me z j ↔ Me A j ∧ ¬ Me (r v.toNat) j) (hm1 : (m1 = most ∧ bcI z 16 - 1 ≤ most) ∨ (m1 = bcI z 16 - 1 ∧ most ≤ bcI z 16 - 1)) : haI A r (v + 1) (sum + (bcI z 16 - 1)) m1 := by
  obtain ⟨zf, h1, h2, h3, h4, h5⟩ := h
  have e : zf v.toNat = z := Me_eqi (h1 _).1.1 hz.1 (fun j => ((h1 _).2 j).trans (hzm j).symm)
  refine ⟨zf, h1, ?_, by omega, fun u hu hu2 => ?_, ?_⟩
  · rw [show (v + 1).toNat = v.toNat + 1 by omega, sms_y hm, h2, e]
  · by_cases e2 : (u : Int) < v
    · have := h4 u e2 hu2
      omega
    · rw [show u = v.toNat by omega, e]
      omega
  · rcases hm1 with ⟨e1, _⟩ | ⟨e1, _⟩
    · rw [e1]
      exact h5.imp id (fun ⟨w, w1, w2⟩ => ⟨w, by omega, w2⟩)
    · exact Or.inr ⟨v.toNat, by omega, hm, by rw [e, e1]⟩
theorem hai_e {A : Int} {r : Nat → Int} {sum most : Int} (h : haI A r 16 sum most) (hA : 0 ≤ A ∧ A ≤ 65535) (hs : sum = 2 * most) (hn : ∀ u, Me A u → ¬ Me (r u) u) (hy : ∀ a b, Me A a → Me A b → Me (r a) b → Me (r b) a) {u0 : Nat} (hu0 : Me A u0) : ∃ w, Me A w ∧ ∀ a b, Me A a → Me A b → a ≠ b → a ≠ w → b ≠ w → Me (r a) b := by
  obtain ⟨zf, h1, h2, h3, h4, h5⟩ := h
  have hz : ∀ u, Me A u → Me (zf u) u := fun u hu => ((h1 u).2 u).mpr ⟨hu, hn u hu⟩
  have hz1 : ∀ u, Me A u → 1 ≤ bcI (zf u) 16 := fun u hu => bc_mem (h1 u).1.2 (hz u hu)
  have hw : ∃ w, Me A w ∧ bcI (zf w) 16 - 1 = most := by
    rcases h5 with e | ⟨w, _, hw, e⟩
    · have g1 := h4 u0 (by have := Me_lt hu0 hA.2; omega) hu0
      have g2 := hz1 u0 hu0
      exact ⟨u0, hu0, by omega⟩
    · exact ⟨w, hw, e⟩
  obtain ⟨w, hwA, hwm⟩ := hw
  refine ⟨w, hwA, fun a b ha hb hab haw hbw => ?_⟩
  by_cases hq : Me (r a) b
  · exact hq
  · exfalso
    have hw16 := Me_lt hwA hA.2
    have ha16 := Me_lt ha hA.2
    have hbz : Me (zf a) b := ((h1 a).2 b).mpr ⟨hb, hq⟩
    have h6 : sgm (fun u => ((bif (zf w).toNat.testBit u then 1 else 0) + (if u = w then most - 1 else 0)) + (if u = a then 1 else 0)) 16 ≤ smS A (fun u => bcI (zf u) 16 - 1) 16 := by
      refine sgm_le (fun u hu => ?_)
      by_cases hm : Me A u
      · rw [sms_at (g := fun u => bcI (zf u) 16 - 1) hm]
        by_cases euw : u = w
        · rw [if_pos euw, euw, if_neg (fun e => haw e.symm), sms_at (g := fun _ => 1) (hz w hwA)]
          omega
        · rw [if_neg euw]
          by_cases huw : Me (zf w) u
          · have hwu : Me (zf u) w := ((h1 u).2 w).mpr ⟨hwA, fun g => (((h1 w).2 u).mp huw).2 (hy u w hm hwA g)⟩
            rw [sms_at (g := fun _ => 1) huw]
            by_cases eua : u = a
            · rw [if_pos eua]
              have := bc_mem3 (h1 u).1.2 (hz u hm) hwu (eua ▸ hbz : Me (zf u) b) euw (fun e => hab (eua ▸ e)) (fun e => hbw e.symm)
              omega
            · rw [if_neg eua]
              have := bc_mem2 (h1 u).1.2 (hz u hm) hwu euw
              omega
          · rw [sms_no (g := fun _ => 1) huw]
            by_cases eua : u = a
            · rw [if_pos eua]
              have := bc_mem2 (h1 u).1.2 (hz u hm) (eua ▸ hbz : Me (zf u) b) (fun e => hab (eua ▸ e))
              omega
            · rw [if_neg eua]
              have := hz1 u hm
              omega
      · rw [sms_no (g := fun u => bcI (zf u) 16 - 1) hm, sms_no (g := fun _ => 1) (fun g => hm (((h1 w).2 u).mp g).1), if_neg (show ¬ u = w from fun e => hm (e ▸ hwA)), if_neg (show ¬ u = a from fun e => hm (e ▸ ha))]
        omega
    have h7 := sgm_add (f := fun u => (bif (zf w).toNat.testBit u then 1 else 0) + (if u = w then most - 1 else 0)) (g := fun u => if u = a then 1 else 0) 16
    have h8 := sgm_add (f := fun u => bif (zf w).toNat.testBit u then 1 else 0) (g := fun u => if u = w then most - 1 else 0) 16
    have h9 := sgm_dl (c := most - 1) hw16
    have h10 := sgm_dl (c := 1) ha16
    have h11 : sgm (fun u => bif (zf w).toNat.testBit u then 1 else 0) 16 = bcI (zf w) 16 := (bc_sms 16).symm
    rw [show (16 : Int).toNat = 16 from rfl] at h2
    omega
