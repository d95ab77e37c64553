/-! THE CLAIM OUT OF ONE WALK OF THE LAW'S BODY. Your part is whole_start (and what it stands on); all else here is the same for every law, but numbers. -/
def R_law : String := "GraphEngineLaw"
def lw_P (b : Addr) (xs : List Int32) (args : Array Value) (s : State) : Prop := args = #[.ref b] ∧ s.IntsAt b xs ∧ xs.length ≤ 3584 ∧ (Jvm.Cond.and given_1 narrow_1).before args s = true
def lw_Q (_ : Array Value) (s : State) (o : Outcome) (t : State) : Prop := o = .returned (some (.int 1)) ∧ Framed s o t [] 600000 7302250
def lw_Z (below : List Frame) (a : Array Value) (s : State) : State → Prop := fun t => ∃ o, t.status = .running ∧ Ended t below o ∧ lw_Q a s o t
/-- the law's own end, with 1 on the stack, nothing written that was there before, its room as the claim has it -/
theorem lw_ret {p : Program} {l : Launch} {e : Env} {s : State} {m : MethodId} {below : List Frame} {meth : Method} {c : Code} {b : Nat} (hx : p.tables.exec = Jvm.exec) (hb : c.code = code) (hr : meth.sig.returnType = ret) (hlocks : meth.locks = false) {pc : Nat} {H : Heap} {ls : Array Slot} (hdg : decode code pc = .ok (.ireturn, 1)) : W p l e room_1 s m #[Value.ref b] below meth c H [] 600000 7302250 (lw_Z below #[Value.ref b] s) (F0 m pc ls [.int 1]) := by
  intro T hT X
  obtain ⟨fs, hret, hrun, hended, hW, hframe⟩ := X.leave (v := some (.int 1)) (hlocks := hlocks) (fun h => by rw [hr] at h; cases h)
  have hmeth' : T.vm.method? m = some meth := X.method'
  refine ⟨T.setFrames fs, ?_, .returned (some (.int 1)), hrun, hended, rfl, ⟨_, rfl⟩, hW, hframe⟩
  jvm_step X.here [X.here.top, hx, hb, hdg, hmeth', hr, ret, narrow_b1]
  (try refine ⟨rfl, ?_⟩); (try refine ⟨rfl, ?_⟩)
  first | (intro acts; rw [hret _ acts rfl rfl rfl]) | rw [hret _ _ rfl rfl rfl]
  exact Steps.refl _
/-- what holds at the law's entry: the machine, the code, the tables' words (any of lw_tbl by 'hts w (by decide +kernel)'), the script of L ints xs at the cell b, what the Statement gives of the start (any of its parts by flat_of_before) -/
def lw_At (p : Program) (s : State) (m : MethodId) (meth : Method) (c : Code) (b L : Nat) (xs : Nat → Int32) : Prop :=
  p.tables.exec = Jvm.exec ∧ c.code = code ∧ meth.sig.returnType = ret ∧ c.maxLocals = 4 ∧ s.vm.findClass R_law = some m.cls ∧ (∀ w ∈ lw_tbl, w.before #[Value.ref b] s = true) ∧ va_X b L xs s s.heap ∧ b < s.heap.size ∧ meth.locks = false ∧ (Jvm.Cond.and given_1 narrow_1).before #[Value.ref b] s = true ∧ meth.name = x.name
abbrev mL_law : MM := (x, code, maxLocals, ret)
theorem room_mono {s : State} {pl : Platform} {r r' : Room} (h : s.hasRoom pl r = true) (h1 : r'.locals ≤ r.locals) (h2 : r'.frames ≤ r.frames) (h3 : r'.cells ≤ r.cells) (h4 : r'.slots ≤ r.slots) : s.hasRoom pl r' = true := by
  unfold State.hasRoom at h ⊢
  simp only [Bool.and_eq_true, decide_eq_true_eq] at h ⊢
  obtain ⟨⟨⟨⟨g1, g2, g3, g4, g5, g6⟩, g7⟩, g8⟩, g9⟩ := h
  exact ⟨⟨⟨⟨by omega, by omega, by omega, by omega, by omega, g6⟩, by omega⟩, by omega⟩, g9⟩
set_option maxHeartbeats 4000000 in
set_option maxRecDepth 100000 in
/-- the law's start out of a walk in the small machine, for any place of the classes -/
theorem start_of {p : Program} {e : Env} {s : State} {m : MethodId} {below : List Frame} {meth : Method} {c : Code} (l : Launch) {b L : Nat} {xs : Nat → Int32} (C0 : lw_At p s m meth c b L xs) (mc ms : Nat) (hmc : mc ≤ 600000) (hms : ms ≤ 7302250)
    (k : ∀ (D : va_G) (cI cJ cZ cT : ClassId), Rn (gG D cI cJ cZ cT s.heap.size b L xs) mL_law 1000 0 [(0, .ref b)] [] (fun _ => none) s.heap.size mc ms (fun r _ _ => r = some (.int 1))) : W p l e room_1 s m #[Value.ref b] below meth c s.heap [] 0 0 (lw_Z below #[Value.ref b] s) (entryFrame m ([Value.ref b] : List Value).toArray 4) := by
  obtain ⟨hx, hb, hr, hml, hown, hts, hX, hbl, hlocks, hgv, hnm⟩ := id C0
  have htg : ∀ w ∈ lw_gd, w.before #[Value.ref b] s = true := fun w hw => hts w (List.mem_filter.mp hw).1
  have hfl := flat_of_before _ hgv
  obtain ⟨cc0, iS0, hKn0⟩ := u_known (C := RX0) (T := TX0) (N := 2) (n := 2) htg inX0 (htg (.instantiable RX0 2) (tb_t (k := 525) (by decide +kernel)))
  obtain ⟨cc1, iS1, hKn1⟩ := u_known (C := RX1) (T := TX1) (N := 8) (n := 8) htg inX1 (htg (.instantiable RX1 8) (tb_t (k := 29) (by decide +kernel)))
  obtain ⟨cc2, iS2, hKn2⟩ := u_known (C := RX2) (T := TX2) (N := 10) (n := 10) htg inX2 (htg (.instantiable RX2 10) (tb_t (k := 128) (by decide +kernel)))
  obtain ⟨cc3, iS3, hKn3⟩ := u_known (C := RX3) (T := TX3) (N := 14) (n := 14) htg inX3 (htg (.instantiable RX3 14) (tb_t (k := 249) (by decide +kernel)))
  obtain ⟨cc4, iS4, hKn4⟩ := u_known (C := RX4) (T := TX4) (N := 6) (n := 6) htg inX4 (htg (.instantiable RX4 6) (tb_t (k := 103) (by decide +kernel)))
  obtain ⟨cc5, iS5, hKn5⟩ := u_known (C := RX5) (T := TX5) (N := 4) (n := 4) htg inX5 (htg (.instantiable RX5 4) (tb_t (k := 702) (by decide +kernel)))
  obtain ⟨cc6, iS6, hKn6⟩ := u_known (C := RX6) (T := TX6) (N := 4) (n := 4) htg inX6 (htg (.instantiable RX6 4) (tb_t (k := 165) (by decide +kernel)))
  obtain ⟨cc7, iS7, hKn7⟩ := u_known (C := RX7) (T := TX7) (N := 5) (n := 5) htg inX7 (htg (.instantiable RX7 5) (tb_t (k := 81) (by decide +kernel)))
  obtain ⟨cc8, iS8, hKn8⟩ := u_known (C := RX8) (T := TX8) (N := 1) (n := 1) htg inX8 (htg (.instantiable RX8 1) (tb_t (k := 70) (by decide +kernel)))
  obtain ⟨cc9, iS9, hKn9⟩ := u_known (C := RX10) (T := TX10) (N := 6) (n := 6) htg inX10 (htg (.instantiable RX10 6) (tb_t (k := 626) (by decide +kernel)))
  obtain ⟨cc10, iS10, hKn10⟩ := u_known (C := RX11) (T := TX11) (N := 10) (n := 10) htg inX11 (htg (.instantiable RX11 10) (tb_t (k := 19) (by decide +kernel)))
  obtain ⟨cc11, iS11, hKn11⟩ := u_known (C := RX12) (T := TX12) (N := 45) (n := 45) htg inX12 (htg (.instantiable RX12 45) (tb_t (k := 1129) (by decide +kernel)))
  obtain ⟨dC, dI, hKc⟩ : ∃ (dC : Nat → ClassId) (dI : Nat → Nat → Nat), ∀ (k : Nat) (q : vw_C), vwCl[k]? = some q → u_Kn s q.1 q.2.1 q.2.2 (dC k) (dI k) := by
    refine ⟨fun k => if k = 0 then cc0 else if k = 1 then cc1 else if k = 2 then cc2 else if k = 3 then cc3 else if k = 4 then cc4 else if k = 5 then cc5 else if k = 6 then cc6 else if k = 7 then cc7 else if k = 8 then cc8 else if k = 9 then cc9 else if k = 10 then cc10 else cc11, fun k => if k = 0 then iS0 else if k = 1 then iS1 else if k = 2 then iS2 else if k = 3 then iS3 else if k = 4 then iS4 else if k = 5 then iS5 else if k = 6 then iS6 else if k = 7 then iS7 else if k = 8 then iS8 else if k = 9 then iS9 else if k = 10 then iS10 else iS11, ?_⟩
    intro k q hq
    match k, hq with
    | 0, hq => cases hq; exact hKn0
    | 1, hq => cases hq; exact hKn1
    | 2, hq => cases hq; exact hKn2
    | 3, hq => cases hq; exact hKn3
    | 4, hq => cases hq; exact hKn4
    | 5, hq => cases hq; exact hKn5
    | 6, hq => cases hq; exact hKn6
    | 7, hq => cases hq; exact hKn7
    | 8, hq => cases hq; exact hKn8
    | 9, hq => cases hq; exact hKn9
    | 10, hq => cases hq; exact hKn10
    | 11, hq => cases hq; exact hKn11
    | k + 12, hq => simp [vwCl] at hq
  obtain ⟨cI, kAI, cpI, fAI, hAI, hBI⟩ := Cond.arrayClass_spec (hts (.arrayClass .int) (List.mem_append_right _ (List.mem_of_getElem? (i := 68) (by decide +kernel))))
  obtain ⟨cJ, kAJ, cpJ, fAJ, hAJ, hBJ⟩ := Cond.arrayClass_spec (hts (.arrayClass .long) (List.mem_append_right _ (List.mem_of_getElem? (i := 79) (by decide +kernel))))
  obtain ⟨cZ, kAZ, cpZ, fAZ, hAZ, hBZ⟩ := Cond.arrayClass_spec (hts (.arrayClass .boolean) (List.mem_append_right _ (List.mem_of_getElem? (i := 1275) (by decide +kernel))))
  have hAO : (Cond.arrayOver (.object "GraphEngine$Thing")).before #[Value.ref b] s = true := hts _ (List.mem_append_right _ (List.mem_of_getElem? (i := 27) (by decide +kernel)))
  obtain ⟨cpT, cT, kAT, fT1, fT2, hAT, hBT, fT3⟩ := Cond.arrayOver_spec hAO
  have hK : va_K (dC, dI) vwCl [(cI, .int), (cJ, .long), (cZ, .boolean), (cT, .object "GraphEngine$Thing")] s := by
    refine ⟨hKc, fun k q hq => ?_⟩
    match k, hq with
    | 0, hq => cases hq; exact ⟨fun n z => ⟨fun k h => (by cases h), kAI, hAI, cpI, hBI⟩, fAI⟩
    | 1, hq => cases hq; exact ⟨fun n z => ⟨fun k h => (by cases h), kAJ, hAJ, cpJ, hBJ⟩, fAJ⟩
    | 2, hq => cases hq; exact ⟨fun n z => ⟨fun k h => (by cases h), kAZ, hAZ, cpZ, hBZ⟩, fAZ⟩
    | 3, hq => cases hq; exact ⟨fun n z => ⟨fun k h => (by cases h), kAT, hAT, cpT, hBT⟩, kAT, cpT, hAT, hBT, fT1, fT3⟩
    | k + 4, hq => simp at hq
  have hNC : ∀ q ∈ ncs, va_Nc q.1 q.2 s := by
    intro q hq
    have h9 : ∀ q ∈ ncs, Cond.not (.castable q.1 q.2) ∈ flatC (Jvm.Cond.and given_1 narrow_1) := by decide +kernel
    exact va_Nc.of (hfl _ (h9 q hq))
  have hCA : ∀ q ∈ cas, va_Nw (.castable q.1 q.2) s := by
    intro q hq
    have h9 : ∀ q ∈ cas, Cond.castable q.1 q.2 ∈ tables_1 := by decide +kernel
    exact va_Nw.of rfl (hts _ (List.mem_append_right _ (h9 q hq)))
  have hDe : (Cond.declares ⟨"GraphEngine$Thing", "sortNumber", "()I"⟩).before #[Value.ref b] s = true := hts _ (List.mem_append_right _ (List.mem_of_getElem? (i := 774) (by decide +kernel)))
  have hAOs : ∀ q ∈ aos, va_AO q s ∧ va_Nw (.declares ⟨q, "sortNumber", "()I"⟩) s := by
    intro q hq
    have e9 : q = "GraphEngine$Thing" := by simpa [aos] using hq
    rw [e9]
    exact ⟨va_AO.of hAO, va_Nw.of rfl hDe⟩
  have hgk : g_k (gG (dC, dI) cI cJ cZ cT s.heap.size b L xs) s := ⟨hK, hNC, hCA, hAOs, hX, hbl, Nat.le_refl _⟩
  have hl := lv_entry ([.ref b]) (n := 4) (Nat.le_of_ble_eq_true rfl)
  rw [lg_entry_eq]
  intro T hT X
  have X' : Stand p l e (mR 1000 mc ms) s m #[Value.ref b] below meth c T [] 0 0 := { X with room := room_mono X.room (by show 64 * (1000 + 1) ≤ 84000; omega) (by show 1000 + 1 ≤ 2048; omega) hmc hms }
  obtain ⟨t, st, oc, hrun, hend, ⟨⟨r, hp, n1, ho, hpo, -⟩, -⟩, Lc, ⟨hv, hW, hsame⟩, hLc⟩ := k (dC, dI) cI cJ cZ cT p l e s m #[Value.ref b] below meth c s.heap [] 0 0 mc ms _ ⟨hx, hb, hml, hr, hlocks, hown, hnm, htg, hgk⟩ hl ⟨rfl, fun a e h => by cases h⟩ va_S.rf (by omega) (by omega) T hT X'
  refine ⟨t, st, oc, hrun, hend, by rw [ho, hpo], hv, hW, hsame.weaken (fun y hy hlt => absurd hlt (Nat.not_lt.mpr (hLc y hy))) hmc hms⟩
