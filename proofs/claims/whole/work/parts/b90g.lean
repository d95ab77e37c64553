set_option maxHeartbeats 4000000 in
theorem RG_op {Γ : TG} {cI cJ cZ : ClassId} {y : Nat} {rf cn nm : Int} {so sz dr mn fr tt wt co : Nat → Int} {nu : Nat → Int64} {qi qc nf nt nw nc : Nat → Int} {hp : MH} (ht : Tw (RG Γ cI cJ cZ y rf cn nm so sz dr mn fr tt wt co nu qi qc nf nt nw nc) hp) : ∃ (sa : Nat → Int) (wo : Nat → Int64) (ln : Nat → Int) (hw : Nat → Int64) (ro : Nat → Int) (cl nx : Nat → Int64) (ie be sd bl : Nat → Int) (bs wy ra rb : Nat → Int64) (lb bg os js ls : Nat → Int) (sp : Nat → Int64) (jw go : Nat → Int) (de : Nat → Int64) (yb ah im : Nat → Int), Tw (RX Γ cI cJ cZ y rf cn nm so sz dr mn fr tt wt co nu sa wo ln hw ro qi qc nf nt nw nc cl nx ie be sd bl bs wy ra rb lb bg os js ls sp jw go de yb ah im) hp ∧ (Rfx 1936 0 2 sa) ∧ (Rfx 1936 (-1) 15 ln) ∧ (Rfx 30976 0 59 ro) ∧ (Rfx 16 0 65535 be) ∧ (Rfx 65536 0 1 sd) ∧ (Rfx 65536 0 1 bl) ∧ (Rfx 16 0 65535 lb) ∧ (Rfx 60 0 1 bg) ∧ (Rfx 16 0 65535 os) ∧ (Rfx 16 0 65535 js) ∧ (Rfx 16 0 15 jw) ∧ (Rfx 60 (-1000) 1000 go) ∧ (∀ i : Nat, i < 16 → drP i (de i)) ∧ (Rfx 16 0 59 yb) ∧ (Rfx 16 0 1 ah) ∧ (Rfx 16 (-1) 15 im) := by
  obtain ⟨e9, h9, f9, he9, p9⟩ := ht (y + 10) _ (RG_e 10 (by decide) rfl)
  obtain ⟨e10, h10, f10, he10, p10⟩ := ht (y + 11) _ (RG_e 11 (by decide) rfl)
  obtain ⟨e11, h11, f11, he11, p11⟩ := ht (y + 12) _ (RG_e 12 (by decide) rfl)
  obtain ⟨e12, h12, f12, he12, p12⟩ := ht (y + 13) _ (RG_e 13 (by decide) rfl)
  obtain ⟨e13, h13, f13, he13, p13⟩ := ht (y + 14) _ (RG_e 14 (by decide) rfl)
  obtain ⟨e20, h20, f20, he20, p20⟩ := ht (y + 21) _ (RG_e 21 (by decide) rfl)
  obtain ⟨e21, h21, f21, he21, p21⟩ := ht (y + 22) _ (RG_e 22 (by decide) rfl)
  obtain ⟨e22, h22, f22, he22, p22⟩ := ht (y + 23) _ (RG_e 23 (by decide) rfl)
  obtain ⟨e23, h23, f23, he23, p23⟩ := ht (y + 24) _ (RG_e 24 (by decide) rfl)
  obtain ⟨e24, h24, f24, he24, p24⟩ := ht (y + 25) _ (RG_e 25 (by decide) rfl)
  obtain ⟨e25, h25, f25, he25, p25⟩ := ht (y + 26) _ (RG_e 26 (by decide) rfl)
  obtain ⟨e26, h26, f26, he26, p26⟩ := ht (y + 27) _ (RG_e 27 (by decide) rfl)
  obtain ⟨e27, h27, f27, he27, p27⟩ := ht (y + 28) _ (RG_e 28 (by decide) rfl)
  obtain ⟨e28, h28, f28, he28, p28⟩ := ht (y + 29) _ (RG_e 29 (by decide) rfl)
  obtain ⟨e29, h29, f29, he29, p29⟩ := ht (y + 30) _ (RG_e 30 (by decide) rfl)
  obtain ⟨e30, h30, f30, he30, p30⟩ := ht (y + 31) _ (RG_e 31 (by decide) rfl)
  obtain ⟨e31, h31, f31, he31, p31⟩ := ht (y + 32) _ (RG_e 32 (by decide) rfl)
  obtain ⟨e32, h32, f32, he32, p32⟩ := ht (y + 33) _ (RG_e 33 (by decide) rfl)
  obtain ⟨e33, h33, f33, he33, p33⟩ := ht (y + 34) _ (RG_e 34 (by decide) rfl)
  obtain ⟨e34, h34, f34, he34, p34⟩ := ht (y + 35) _ (RG_e 35 (by decide) rfl)
  obtain ⟨e35, h35, f35, he35, p35⟩ := ht (y + 36) _ (RG_e 36 (by decide) rfl)
  obtain ⟨e36, h36, f36, he36, p36⟩ := ht (y + 37) _ (RG_e 37 (by decide) rfl)
  obtain ⟨e37, h37, f37, he37, p37⟩ := ht (y + 38) _ (RG_e 38 (by decide) rfl)
  obtain ⟨e38, h38, f38, he38, p38⟩ := ht (y + 39) _ (RG_e 39 (by decide) rfl)
  obtain ⟨e39, h39, f39, he39, p39⟩ := ht (y + 40) _ (RG_e 40 (by decide) rfl)
  obtain ⟨e40, h40, f40, he40, p40⟩ := ht (y + 41) _ (RG_e 41 (by decide) rfl)
  obtain ⟨e41, h41, f41, he41, p41⟩ := ht (y + 42) _ (RG_e 42 (by decide) rfl)
  refine ⟨(fun i => (f9 i).toInt), f10, (fun i => (f11 i).toInt), f12, (fun i => (f13 i).toInt), f20, f21, (fun i => (f22 i).toInt), (fun i => (f23 i).toInt), (fun i => (f24 i).toInt), (fun i => (f25 i).toInt), f26, f27, f28, f29, (fun i => (f30 i).toInt), (fun i => (f31 i).toInt), (fun i => (f32 i).toInt), (fun i => (f33 i).toInt), (fun i => (f34 i).toInt), f35, (fun i => (f36 i).toInt), (fun i => (f37 i).toInt), f38, (fun i => (f39 i).toInt), (fun i => (f40 i).toInt), (fun i => (f41 i).toInt), fun q T hq => ?_, p9, p11, p13, p23, p24, p25, p30, p31, p32, p33, p36, p37, p38, p39, p40, p41⟩
  by_cases hr : y ≤ q ∧ q < y + 43
  · obtain ⟨j, hj, rfl⟩ : ∃ j, j < 43 ∧ q = y + j := ⟨q - y, by omega, by omega⟩
    match j, hj with
    | 0, _ => obtain rfl := Option.some.inj ((RX_e 0 (by decide) rfl).symm.trans hq); exact ht _ _ (RG_e 0 (by decide) rfl)
    | 1, _ => obtain rfl := Option.some.inj ((RX_e 1 (by decide) rfl).symm.trans hq); exact ht _ _ (RG_e 1 (by decide) rfl)
    | 2, _ => obtain rfl := Option.some.inj ((RX_e 2 (by decide) rfl).symm.trans hq); exact ht _ _ (RG_e 2 (by decide) rfl)
    | 3, _ => obtain rfl := Option.some.inj ((RX_e 3 (by decide) rfl).symm.trans hq); exact ht _ _ (RG_e 3 (by decide) rfl)
    | 4, _ => obtain rfl := Option.some.inj ((RX_e 4 (by decide) rfl).symm.trans hq); exact ht _ _ (RG_e 4 (by decide) rfl)
    | 5, _ => obtain rfl := Option.some.inj ((RX_e 5 (by decide) rfl).symm.trans hq); exact ht _ _ (RG_e 5 (by decide) rfl)
    | 6, _ => obtain rfl := Option.some.inj ((RX_e 6 (by decide) rfl).symm.trans hq); exact ht _ _ (RG_e 6 (by decide) rfl)
    | 7, _ => obtain rfl := Option.some.inj ((RX_e 7 (by decide) rfl).symm.trans hq); exact ht _ _ (RG_e 7 (by decide) rfl)
    | 8, _ => obtain rfl := Option.some.inj ((RX_e 8 (by decide) rfl).symm.trans hq); exact ht _ _ (RG_e 8 (by decide) rfl)
    | 9, _ => obtain rfl := Option.some.inj ((RX_e 9 (by decide) rfl).symm.trans hq); exact ht _ _ (RG_e 9 (by decide) rfl)
    | 10, _ => obtain rfl := Option.some.inj ((RX_e 10 (by decide) rfl).symm.trans hq); exact ⟨e9, h9, f9, he9, fun _ _ => rfl⟩
    | 11, _ => obtain rfl := Option.some.inj ((RX_e 11 (by decide) rfl).symm.trans hq); exact ⟨e10, h10, f10, he10, fun _ _ => rfl⟩
    | 12, _ => obtain rfl := Option.some.inj ((RX_e 12 (by decide) rfl).symm.trans hq); exact ⟨e11, h11, f11, he11, fun _ _ => rfl⟩
    | 13, _ => obtain rfl := Option.some.inj ((RX_e 13 (by decide) rfl).symm.trans hq); exact ⟨e12, h12, f12, he12, fun _ _ => rfl⟩
    | 14, _ => obtain rfl := Option.some.inj ((RX_e 14 (by decide) rfl).symm.trans hq); exact ⟨e13, h13, f13, he13, fun _ _ => rfl⟩
    | 15, _ => obtain rfl := Option.some.inj ((RX_e 15 (by decide) rfl).symm.trans hq); exact ht _ _ (RG_e 15 (by decide) rfl)
    | 16, _ => obtain rfl := Option.some.inj ((RX_e 16 (by decide) rfl).symm.trans hq); exact ht _ _ (RG_e 16 (by decide) rfl)
    | 17, _ => obtain rfl := Option.some.inj ((RX_e 17 (by decide) rfl).symm.trans hq); exact ht _ _ (RG_e 17 (by decide) rfl)
    | 18, _ => obtain rfl := Option.some.inj ((RX_e 18 (by decide) rfl).symm.trans hq); exact ht _ _ (RG_e 18 (by decide) rfl)
    | 19, _ => obtain rfl := Option.some.inj ((RX_e 19 (by decide) rfl).symm.trans hq); exact ht _ _ (RG_e 19 (by decide) rfl)
    | 20, _ => obtain rfl := Option.some.inj ((RX_e 20 (by decide) rfl).symm.trans hq); exact ht _ _ (RG_e 20 (by decide) rfl)
    | 21, _ => obtain rfl := Option.some.inj ((RX_e 21 (by decide) rfl).symm.trans hq); exact ⟨e20, h20, f20, he20, fun _ _ => rfl⟩
    | 22, _ => obtain rfl := Option.some.inj ((RX_e 22 (by decide) rfl).symm.trans hq); exact ⟨e21, h21, f21, he21, fun _ _ => rfl⟩
    | 23, _ => obtain rfl := Option.some.inj ((RX_e 23 (by decide) rfl).symm.trans hq); exact ⟨e22, h22, f22, he22, fun _ _ => rfl⟩
    | 24, _ => obtain rfl := Option.some.inj ((RX_e 24 (by decide) rfl).symm.trans hq); exact ⟨e23, h23, f23, he23, fun _ _ => rfl⟩
    | 25, _ => obtain rfl := Option.some.inj ((RX_e 25 (by decide) rfl).symm.trans hq); exact ⟨e24, h24, f24, he24, fun _ _ => rfl⟩
    | 26, _ => obtain rfl := Option.some.inj ((RX_e 26 (by decide) rfl).symm.trans hq); exact ⟨e25, h25, f25, he25, fun _ _ => rfl⟩
    | 27, _ => obtain rfl := Option.some.inj ((RX_e 27 (by decide) rfl).symm.trans hq); exact ⟨e26, h26, f26, he26, fun _ _ => rfl⟩
    | 28, _ => obtain rfl := Option.some.inj ((RX_e 28 (by decide) rfl).symm.trans hq); exact ⟨e27, h27, f27, he27, fun _ _ => rfl⟩
    | 29, _ => obtain rfl := Option.some.inj ((RX_e 29 (by decide) rfl).symm.trans hq); exact ⟨e28, h28, f28, he28, fun _ _ => rfl⟩
    | 30, _ => obtain rfl := Option.some.inj ((RX_e 30 (by decide) rfl).symm.trans hq); exact ⟨e29, h29, f29, he29, fun _ _ => rfl⟩
    | 31, _ => obtain rfl := Option.some.inj ((RX_e 31 (by decide) rfl).symm.trans hq); exact ⟨e30, h30, f30, he30, fun _ _ => rfl⟩
    | 32, _ => obtain rfl := Option.some.inj ((RX_e 32 (by decide) rfl).symm.trans hq); exact ⟨e31, h31, f31, he31, fun _ _ => rfl⟩
    | 33, _ => obtain rfl := Option.some.inj ((RX_e 33 (by decide) rfl).symm.trans hq); exact ⟨e32, h32, f32, he32, fun _ _ => rfl⟩
    | 34, _ => obtain rfl := Option.some.inj ((RX_e 34 (by decide) rfl).symm.trans hq); exact ⟨e33, h33, f33, he33, fun _ _ => rfl⟩
    | 35, _ => obtain rfl := Option.some.inj ((RX_e 35 (by decide) rfl).symm.trans hq); exact ⟨e34, h34, f34, he34, fun _ _ => rfl⟩
    | 36, _ => obtain rfl := Option.some.inj ((RX_e 36 (by decide) rfl).symm.trans hq); exact ⟨e35, h35, f35, he35, fun _ _ => rfl⟩
    | 37, _ => obtain rfl := Option.some.inj ((RX_e 37 (by decide) rfl).symm.trans hq); exact ⟨e36, h36, f36, he36, fun _ _ => rfl⟩
    | 38, _ => obtain rfl := Option.some.inj ((RX_e 38 (by decide) rfl).symm.trans hq); exact ⟨e37, h37, f37, he37, fun _ _ => rfl⟩
    | 39, _ => obtain rfl := Option.some.inj ((RX_e 39 (by decide) rfl).symm.trans hq); exact ⟨e38, h38, f38, he38, fun _ _ => rfl⟩
    | 40, _ => obtain rfl := Option.some.inj ((RX_e 40 (by decide) rfl).symm.trans hq); exact ⟨e39, h39, f39, he39, fun _ _ => rfl⟩
    | 41, _ => obtain rfl := Option.some.inj ((RX_e 41 (by decide) rfl).symm.trans hq); exact ⟨e40, h40, f40, he40, fun _ _ => rfl⟩
    | 42, _ => obtain rfl := Option.some.inj ((RX_e 42 (by decide) rfl).symm.trans hq); exact ⟨e41, h41, f41, he41, fun _ _ => rfl⟩
    | j + 43, hj => omega
  · rw [RX_o (by omega)] at hq
    exact ht q T (by rw [RG_o (by omega)]; exact hq)
set_option maxHeartbeats 4000000 in
theorem RG_cl {Γ : TG} {cI cJ cZ : ClassId} {y : Nat} {rf cn nm : Int} {so sz dr mn fr tt wt co : Nat → Int} {nu : Nat → Int64} {sa : Nat → Int} {wo : Nat → Int64} {ln : Nat → Int} {hw : Nat → Int64} {ro qi qc nf nt nw nc : Nat → Int} {cl nx : Nat → Int64} {ie be sd bl : Nat → Int} {bs wy ra rb : Nat → Int64} {lb bg os js ls : Nat → Int} {sp : Nat → Int64} {jw go : Nat → Int} {de : Nat → Int64} {yb ah im : Nat → Int} {hp : MH} (ht : Tw (RX Γ cI cJ cZ y rf cn nm so sz dr mn fr tt wt co nu sa wo ln hw ro qi qc nf nt nw nc cl nx ie be sd bl bs wy ra rb lb bg os js ls sp jw go de yb ah im) hp) (c_sa : Rfx 1936 0 2 sa) (c_ln : Rfx 1936 (-1) 15 ln) (c_ro : Rfx 30976 0 59 ro) (c_be : Rfx 16 0 65535 be) (c_sd : Rfx 65536 0 1 sd) (c_bl : Rfx 65536 0 1 bl) (c_lb : Rfx 16 0 65535 lb) (c_bg : Rfx 60 0 1 bg) (c_os : Rfx 16 0 65535 os) (c_js : Rfx 16 0 65535 js) (c_jw : Rfx 16 0 15 jw) (c_go : Rfx 60 (-1000) 1000 go) (c_de : ∀ i : Nat, i < 16 → drP i (de i)) (c_yb : Rfx 16 0 59 yb) (c_ah : Rfx 16 0 1 ah) (c_im : Rfx 16 (-1) 15 im) : Tw (RG Γ cI cJ cZ y rf cn nm so sz dr mn fr tt wt co nu qi qc nf nt nw nc) hp := by
  obtain ⟨e9, h9, f9, he9, p9⟩ := ht (y + 10) _ (RX_e 10 (by decide) rfl)
  obtain ⟨e10, h10, f10, he10, p10⟩ := ht (y + 11) _ (RX_e 11 (by decide) rfl)
  obtain ⟨e11, h11, f11, he11, p11⟩ := ht (y + 12) _ (RX_e 12 (by decide) rfl)
  obtain ⟨e12, h12, f12, he12, p12⟩ := ht (y + 13) _ (RX_e 13 (by decide) rfl)
  obtain ⟨e13, h13, f13, he13, p13⟩ := ht (y + 14) _ (RX_e 14 (by decide) rfl)
  obtain ⟨e20, h20, f20, he20, p20⟩ := ht (y + 21) _ (RX_e 21 (by decide) rfl)
  obtain ⟨e21, h21, f21, he21, p21⟩ := ht (y + 22) _ (RX_e 22 (by decide) rfl)
  obtain ⟨e22, h22, f22, he22, p22⟩ := ht (y + 23) _ (RX_e 23 (by decide) rfl)
  obtain ⟨e23, h23, f23, he23, p23⟩ := ht (y + 24) _ (RX_e 24 (by decide) rfl)
  obtain ⟨e24, h24, f24, he24, p24⟩ := ht (y + 25) _ (RX_e 25 (by decide) rfl)
  obtain ⟨e25, h25, f25, he25, p25⟩ := ht (y + 26) _ (RX_e 26 (by decide) rfl)
  obtain ⟨e26, h26, f26, he26, p26⟩ := ht (y + 27) _ (RX_e 27 (by decide) rfl)
  obtain ⟨e27, h27, f27, he27, p27⟩ := ht (y + 28) _ (RX_e 28 (by decide) rfl)
  obtain ⟨e28, h28, f28, he28, p28⟩ := ht (y + 29) _ (RX_e 29 (by decide) rfl)
  obtain ⟨e29, h29, f29, he29, p29⟩ := ht (y + 30) _ (RX_e 30 (by decide) rfl)
  obtain ⟨e30, h30, f30, he30, p30⟩ := ht (y + 31) _ (RX_e 31 (by decide) rfl)
  obtain ⟨e31, h31, f31, he31, p31⟩ := ht (y + 32) _ (RX_e 32 (by decide) rfl)
  obtain ⟨e32, h32, f32, he32, p32⟩ := ht (y + 33) _ (RX_e 33 (by decide) rfl)
  obtain ⟨e33, h33, f33, he33, p33⟩ := ht (y + 34) _ (RX_e 34 (by decide) rfl)
  obtain ⟨e34, h34, f34, he34, p34⟩ := ht (y + 35) _ (RX_e 35 (by decide) rfl)
  obtain ⟨e35, h35, f35, he35, p35⟩ := ht (y + 36) _ (RX_e 36 (by decide) rfl)
  obtain ⟨e36, h36, f36, he36, p36⟩ := ht (y + 37) _ (RX_e 37 (by decide) rfl)
  obtain ⟨e37, h37, f37, he37, p37⟩ := ht (y + 38) _ (RX_e 38 (by decide) rfl)
  obtain ⟨e38, h38, f38, he38, p38⟩ := ht (y + 39) _ (RX_e 39 (by decide) rfl)
  obtain ⟨e39, h39, f39, he39, p39⟩ := ht (y + 40) _ (RX_e 40 (by decide) rfl)
  obtain ⟨e40, h40, f40, he40, p40⟩ := ht (y + 41) _ (RX_e 41 (by decide) rfl)
  obtain ⟨e41, h41, f41, he41, p41⟩ := ht (y + 42) _ (RX_e 42 (by decide) rfl)
  intro q T hq
  by_cases hr : y ≤ q ∧ q < y + 43
  · obtain ⟨j, hj, rfl⟩ : ∃ j, j < 43 ∧ q = y + j := ⟨q - y, by omega, by omega⟩
    match j, hj with
    | 0, _ => obtain rfl := Option.some.inj ((RG_e 0 (by decide) rfl).symm.trans hq); exact ht _ _ (RX_e 0 (by decide) rfl)
    | 1, _ => obtain rfl := Option.some.inj ((RG_e 1 (by decide) rfl).symm.trans hq); exact ht _ _ (RX_e 1 (by decide) rfl)
    | 2, _ => obtain rfl := Option.some.inj ((RG_e 2 (by decide) rfl).symm.trans hq); exact ht _ _ (RX_e 2 (by decide) rfl)
    | 3, _ => obtain rfl := Option.some.inj ((RG_e 3 (by decide) rfl).symm.trans hq); exact ht _ _ (RX_e 3 (by decide) rfl)
    | 4, _ => obtain rfl := Option.some.inj ((RG_e 4 (by decide) rfl).symm.trans hq); exact ht _ _ (RX_e 4 (by decide) rfl)
    | 5, _ => obtain rfl := Option.some.inj ((RG_e 5 (by decide) rfl).symm.trans hq); exact ht _ _ (RX_e 5 (by decide) rfl)
    | 6, _ => obtain rfl := Option.some.inj ((RG_e 6 (by decide) rfl).symm.trans hq); exact ht _ _ (RX_e 6 (by decide) rfl)
    | 7, _ => obtain rfl := Option.some.inj ((RG_e 7 (by decide) rfl).symm.trans hq); exact ht _ _ (RX_e 7 (by decide) rfl)
    | 8, _ => obtain rfl := Option.some.inj ((RG_e 8 (by decide) rfl).symm.trans hq); exact ht _ _ (RX_e 8 (by decide) rfl)
    | 9, _ => obtain rfl := Option.some.inj ((RG_e 9 (by decide) rfl).symm.trans hq); exact ht _ _ (RX_e 9 (by decide) rfl)
    | 10, _ => obtain rfl := Option.some.inj ((RG_e 10 (by decide) rfl).symm.trans hq); exact ⟨e9, h9, f9, he9, fun i hi => by rw [p9 i hi]; exact c_sa i hi⟩
    | 11, _ => obtain rfl := Option.some.inj ((RG_e 11 (by decide) rfl).symm.trans hq); exact ⟨e10, h10, f10, he10, fun _ _ => trivial⟩
    | 12, _ => obtain rfl := Option.some.inj ((RG_e 12 (by decide) rfl).symm.trans hq); exact ⟨e11, h11, f11, he11, fun i hi => by rw [p11 i hi]; exact c_ln i hi⟩
    | 13, _ => obtain rfl := Option.some.inj ((RG_e 13 (by decide) rfl).symm.trans hq); exact ⟨e12, h12, f12, he12, fun _ _ => trivial⟩
    | 14, _ => obtain rfl := Option.some.inj ((RG_e 14 (by decide) rfl).symm.trans hq); exact ⟨e13, h13, f13, he13, fun i hi => by rw [p13 i hi]; exact c_ro i hi⟩
    | 15, _ => obtain rfl := Option.some.inj ((RG_e 15 (by decide) rfl).symm.trans hq); exact ht _ _ (RX_e 15 (by decide) rfl)
    | 16, _ => obtain rfl := Option.some.inj ((RG_e 16 (by decide) rfl).symm.trans hq); exact ht _ _ (RX_e 16 (by decide) rfl)
    | 17, _ => obtain rfl := Option.some.inj ((RG_e 17 (by decide) rfl).symm.trans hq); exact ht _ _ (RX_e 17 (by decide) rfl)
    | 18, _ => obtain rfl := Option.some.inj ((RG_e 18 (by decide) rfl).symm.trans hq); exact ht _ _ (RX_e 18 (by decide) rfl)
    | 19, _ => obtain rfl := Option.some.inj ((RG_e 19 (by decide) rfl).symm.trans hq); exact ht _ _ (RX_e 19 (by decide) rfl)
    | 20, _ => obtain rfl := Option.some.inj ((RG_e 20 (by decide) rfl).symm.trans hq); exact ht _ _ (RX_e 20 (by decide) rfl)
    | 21, _ => obtain rfl := Option.some.inj ((RG_e 21 (by decide) rfl).symm.trans hq); exact ⟨e20, h20, f20, he20, fun _ _ => trivial⟩
    | 22, _ => obtain rfl := Option.some.inj ((RG_e 22 (by decide) rfl).symm.trans hq); exact ⟨e21, h21, f21, he21, fun _ _ => trivial⟩
    | 23, _ => obtain rfl := Option.some.inj ((RG_e 23 (by decide) rfl).symm.trans hq); exact ⟨e22, h22, f22, he22, fun _ _ => trivial⟩
    | 24, _ => obtain rfl := Option.some.inj ((RG_e 24 (by decide) rfl).symm.trans hq); exact ⟨e23, h23, f23, he23, fun i hi => by rw [p23 i hi]; exact c_be i hi⟩
    | 25, _ => obtain rfl := Option.some.inj ((RG_e 25 (by decide) rfl).symm.trans hq); exact ⟨e24, h24, f24, he24, fun i hi => by rw [p24 i hi]; exact c_sd i hi⟩
    | 26, _ => obtain rfl := Option.some.inj ((RG_e 26 (by decide) rfl).symm.trans hq); exact ⟨e25, h25, f25, he25, fun i hi => by rw [p25 i hi]; exact c_bl i hi⟩
    | 27, _ => obtain rfl := Option.some.inj ((RG_e 27 (by decide) rfl).symm.trans hq); exact ⟨e26, h26, f26, he26, fun _ _ => trivial⟩
    | 28, _ => obtain rfl := Option.some.inj ((RG_e 28 (by decide) rfl).symm.trans hq); exact ⟨e27, h27, f27, he27, fun _ _ => trivial⟩
    | 29, _ => obtain rfl := Option.some.inj ((RG_e 29 (by decide) rfl).symm.trans hq); exact ⟨e28, h28, f28, he28, fun _ _ => trivial⟩
    | 30, _ => obtain rfl := Option.some.inj ((RG_e 30 (by decide) rfl).symm.trans hq); exact ⟨e29, h29, f29, he29, fun _ _ => trivial⟩
    | 31, _ => obtain rfl := Option.some.inj ((RG_e 31 (by decide) rfl).symm.trans hq); exact ⟨e30, h30, f30, he30, fun i hi => by rw [p30 i hi]; exact c_lb i hi⟩
    | 32, _ => obtain rfl := Option.some.inj ((RG_e 32 (by decide) rfl).symm.trans hq); exact ⟨e31, h31, f31, he31, fun i hi => by rw [p31 i hi]; exact c_bg i hi⟩
    | 33, _ => obtain rfl := Option.some.inj ((RG_e 33 (by decide) rfl).symm.trans hq); exact ⟨e32, h32, f32, he32, fun i hi => by rw [p32 i hi]; exact c_os i hi⟩
    | 34, _ => obtain rfl := Option.some.inj ((RG_e 34 (by decide) rfl).symm.trans hq); exact ⟨e33, h33, f33, he33, fun i hi => by rw [p33 i hi]; exact c_js i hi⟩
    | 35, _ => obtain rfl := Option.some.inj ((RG_e 35 (by decide) rfl).symm.trans hq); exact ⟨e34, h34, f34, he34, fun _ _ => trivial⟩
    | 36, _ => obtain rfl := Option.some.inj ((RG_e 36 (by decide) rfl).symm.trans hq); exact ⟨e35, h35, f35, he35, fun _ _ => trivial⟩
    | 37, _ => obtain rfl := Option.some.inj ((RG_e 37 (by decide) rfl).symm.trans hq); exact ⟨e36, h36, f36, he36, fun i hi => by rw [p36 i hi]; exact c_jw i hi⟩
    | 38, _ => obtain rfl := Option.some.inj ((RG_e 38 (by decide) rfl).symm.trans hq); exact ⟨e37, h37, f37, he37, fun i hi => by rw [p37 i hi]; exact c_go i hi⟩
    | 39, _ => obtain rfl := Option.some.inj ((RG_e 39 (by decide) rfl).symm.trans hq); exact ⟨e38, h38, f38, he38, fun i hi => by rw [p38 i hi]; exact c_de i hi⟩
    | 40, _ => obtain rfl := Option.some.inj ((RG_e 40 (by decide) rfl).symm.trans hq); exact ⟨e39, h39, f39, he39, fun i hi => by rw [p39 i hi]; exact c_yb i hi⟩
    | 41, _ => obtain rfl := Option.some.inj ((RG_e 41 (by decide) rfl).symm.trans hq); exact ⟨e40, h40, f40, he40, fun i hi => by rw [p40 i hi]; exact c_ah i hi⟩
    | 42, _ => obtain rfl := Option.some.inj ((RG_e 42 (by decide) rfl).symm.trans hq); exact ⟨e41, h41, f41, he41, fun i hi => by rw [p41 i hi]; exact c_im i hi⟩
    | j + 43, hj => omega
  · rw [RG_o (by omega)] at hq
    exact ht q T (by rw [RX_o (by omega)]; exact hq)
