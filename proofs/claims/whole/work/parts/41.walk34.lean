def b_m_digest_6 (σ : Sg) (x : (Int64 × Int32)) : Option ((Int64 × Int32) ⊕ (Int64 × Int32)) :=
  if 6 ≤ x.2 then
    some (.inr (x.1, x.2))
  else
    (s_m_counted σ x.2).bind fun q2 =>
    lt (((31 * x.1) + (Int32.toInt64 q2)) : Int64) fun x3 =>
    lt (x.2 + 1 : Int32) fun x4 =>
    some (.inl (x3, x4))
def b_m_digest_33 (σ : Sg) (x : (Int64 × Int32)) : Option ((Int64 × Int32) ⊕ (Int64 × Int32)) :=
  (s_m_people σ ).bind fun q6 =>
  if q6 ≤ x.2 then
    some (.inr (x.1, x.2))
  else
    (s_m_of σ x.2 2).bind fun q8 =>
    (s_m_sums σ x.1 (2 + (11 * x.2)) (3 + (2 * q8))).bind fun q9 =>
    lt (x.2 + 1 : Int32) fun x10 =>
    some (.inl (q9, x10))
def s_m_digest (σ : Sg)  : Option Int64 :=
  (lp (b_m_digest_6 σ) 100000 (769, 0)).bind fun o5 =>
  (lp (b_m_digest_33 σ) 100000 (o5.1, 0)).bind fun o11 =>
  (s_m_sums σ o11.1 101 7).bind fun q12 =>
  (s_m_sums σ q12 109 (3 * (gI σ 72 (Int32.toNatClampNeg 108)))).bind fun q13 =>
  (s_m_sums σ q13 128 (3 * (gI σ 72 (Int32.toNatClampNeg 127)))).bind fun q14 =>
  some ((31 * ((31 * q14) + (gL σ 71 4))) + (gL σ 71 5))
set_option maxRecDepth 100000 in
set_option maxHeartbeats 4000000 in
theorem wb_m_digest_6 (σ : Sg) (x : (Int64 × Int32)) (r : Option Value) (τ : Sg) (o : ((Int64 × Int32) ⊕ (Int64 × Int32))) (h : (b_m_digest_6 σ x) = some o) (hc : ∀ y : (Int64 × Int32), o = .inl y → Ev M_X12_digest 3 r τ 6 [(0, .ref 71), (1, .long y.1), (3, .int y.2)] [] σ) (he : ∀ y : (Int64 × Int32), o = .inr y → Ev M_X12_digest 3 r τ 31 [(0, .ref 71), (1, .long y.1)] [] σ) : Ev M_X12_digest 3 r τ 6 [(0, .ref 71), (1, .long x.1), (3, .int x.2)] [] σ := by
  unfold b_m_digest_6 at h
  refine Ev_iload_n 2 (dt_X12_digest.at 4 rfl) rfl ?_
  refine Ev_bipush (dt_X12_digest.at 5 rfl) kb_6 ?_
  refine Ev_icmp_ge (tgt := 31) (dt_X12_digest.at 6 rfl) (by decide) (fun c1 => ?_) (fun c1 => ?_)
  · replace h := oPos h c1
    refine Ev_sub [0, 1] (ls' := [(0, .ref 71), (1, .long x.1)]) rfl ?_
    exact he (x.1, x.2) (Option.some.inj h).symm
  · replace h := oNeg h c1
    refine Ev_ldc2 (dt_X12_digest.at 7 rfl) cl_X12_327 ?_
    refine Ev_lload_n 1 (dt_X12_digest.at 8 rfl) rfl ?_
    refine Ev_lmul (dt_X12_digest.at 9 rfl) ?_
    refine Ev_aload_n 0 (dt_X12_digest.at 10 rfl) rfl ?_
    refine Ev_iload_n 2 (dt_X12_digest.at 11 rfl) rfl ?_
    obtain ⟨q2, hq2, h⟩ := oBind h
    refine Ev_callV (st := [.long (31 * x.1)]) (st' := [.int q2, .long (31 * x.1)]) [.int x.2] (dt_X12_digest.at 12 rfl) cf_X12_324 (w_m_counted σ x.2 q2 hq2) (by decide) sk_71 rfl rfl rfl (Nat.le_of_ble_eq_true rfl) rfl ?_
    refine Ev_i2l (dt_X12_digest.at 13 rfl) ?_
    refine Ev_ladd (dt_X12_digest.at 14 rfl) ?_
    refine Ev_nmL (fun x3 ex3 => ?_)
    replace h := oLt h ex3
    refine Ev_lstore_n (dt_X12_digest.at 15 rfl) (by decide) (ls' := [(1, .long x3), (0, .ref 71), (3, .int x.2)]) rfl ?_
    obtain ⟨x4, ex4⟩ : ∃ z : Int32, z = x.2 + 1 := ⟨_, rfl⟩
    replace h := oLt h ex4
    refine Ev_iinc (v := x4) 2 (dt_X12_digest.at 16 rfl) rfl (ex4.trans (congrArg (fun z => x.2 + z) ki_1.symm)) (by decide) (ls' := [(3, .int x4), (1, .long x3), (0, .ref 71)]) rfl ?_
    refine Ev_goto (tgt := 6) (dt_X12_digest.at 17 rfl) (by decide) ?_
    refine Ev_sub [2, 1, 0] (ls' := [(0, .ref 71), (1, .long x3), (3, .int x4)]) rfl ?_
    exact hc (x3, x4) (Option.some.inj h).symm
set_option maxRecDepth 100000 in
set_option maxHeartbeats 4000000 in
theorem wl_m_digest_6 (σ : Sg) (r : Option Value) (τ : Sg) (n : Nat) (x : (Int64 × Int32)) (z : (Int64 × Int32)) (h : lp (b_m_digest_6 σ) n x = some z) (he : ∀ y : (Int64 × Int32), z = y → Ev M_X12_digest 3 r τ 31 [(0, .ref 71), (1, .long y.1)] [] σ) : Ev M_X12_digest 3 r τ 6 [(0, .ref 71), (1, .long x.1), (3, .int x.2)] [] σ := by
  refine lp_ind (E := fun x : (Int64 × Int32) => Ev M_X12_digest 3 r τ 6 [(0, .ref 71), (1, .long x.1), (3, .int x.2)] [] σ) (fun x => ⟨fun y hb hy => ?_, fun hb => ?_⟩) n x h
  · exact wb_m_digest_6 σ x r τ _ hb (fun y' e => by cases e; exact hy) (fun y' e => by cases e)
  · exact wb_m_digest_6 σ x r τ _ hb (fun y' e => by cases e) (fun y' e => he y' (Sum.inr.inj e))
set_option maxRecDepth 100000 in
set_option maxHeartbeats 4000000 in
theorem wb_m_digest_33 (σ : Sg) (x : (Int64 × Int32)) (r : Option Value) (τ : Sg) (o : ((Int64 × Int32) ⊕ (Int64 × Int32))) (h : (b_m_digest_33 σ x) = some o) (hc : ∀ y : (Int64 × Int32), o = .inl y → Ev M_X12_digest 3 r τ 33 [(0, .ref 71), (1, .long y.1), (3, .int y.2)] [] σ) (he : ∀ y : (Int64 × Int32), o = .inr y → Ev M_X12_digest 3 r τ 69 [(0, .ref 71), (1, .long y.1)] [] σ) : Ev M_X12_digest 3 r τ 33 [(0, .ref 71), (1, .long x.1), (3, .int x.2)] [] σ := by
  unfold b_m_digest_33 at h
  refine Ev_iload_n 2 (dt_X12_digest.at 20 rfl) rfl ?_
  refine Ev_aload_n 0 (dt_X12_digest.at 21 rfl) rfl ?_
  obtain ⟨q6, hq6, h⟩ := oBind h
  refine Ev_callV (st := [.int x.2]) (st' := [.int q6, .int x.2]) [] (dt_X12_digest.at 22 rfl) cf_X12_70 (w_m_people σ  q6 hq6) (by decide) sk_71 rfl rfl rfl (Nat.le_of_ble_eq_true rfl) rfl ?_
  refine Ev_icmp_ge (tgt := 69) (dt_X12_digest.at 23 rfl) (by decide) (fun c7 => ?_) (fun c7 => ?_)
  · replace h := oPos h c7
    refine Ev_sub [0, 1] (ls' := [(0, .ref 71), (1, .long x.1)]) rfl ?_
    exact he (x.1, x.2) (Option.some.inj h).symm
  · replace h := oNeg h c7
    refine Ev_aload_n 0 (dt_X12_digest.at 24 rfl) rfl ?_
    refine Ev_lload_n 1 (dt_X12_digest.at 25 rfl) rfl ?_
    refine Ev_iconst (dt_X12_digest.at 26 rfl) ki_2 ?_
    refine Ev_bipush (dt_X12_digest.at 27 rfl) kb_11 ?_
    refine Ev_iload_n 2 (dt_X12_digest.at 28 rfl) rfl ?_
    refine Ev_imul (dt_X12_digest.at 29 rfl) ?_
    refine Ev_iadd (dt_X12_digest.at 30 rfl) ?_
    refine Ev_iconst (dt_X12_digest.at 31 rfl) ki_3 ?_
    refine Ev_iconst (dt_X12_digest.at 32 rfl) ki_2 ?_
    refine Ev_aload_n 0 (dt_X12_digest.at 33 rfl) rfl ?_
    refine Ev_iload_n 2 (dt_X12_digest.at 34 rfl) rfl ?_
    refine Ev_iconst (dt_X12_digest.at 35 rfl) ki_2 ?_
    obtain ⟨q8, hq8, h⟩ := oBind h
    refine Ev_callV (st := [.int 2, .int 3, .int (2 + (11 * x.2)), .long x.1, .ref 71]) (st' := [.int q8, .int 2, .int 3, .int (2 + (11 * x.2)), .long x.1, .ref 71]) [.int x.2, .int 2] (dt_X12_digest.at 36 rfl) cf_X12_82 (w_m_of σ x.2 2 q8 hq8) (by decide) sk_71 rfl rfl rfl (Nat.le_of_ble_eq_true rfl) rfl ?_
    refine Ev_imul (dt_X12_digest.at 37 rfl) ?_
    refine Ev_iadd (dt_X12_digest.at 38 rfl) ?_
    obtain ⟨q9, hq9, h⟩ := oBind h
    refine Ev_callV (st := []) (st' := [.long q9]) [.long x.1, .int (2 + (11 * x.2)), .int (3 + (2 * q8))] (dt_X12_digest.at 39 rfl) cf_X12_331 (w_m_sums σ x.1 (2 + (11 * x.2)) (3 + (2 * q8)) q9 hq9) (by decide) sk_71 rfl rfl rfl (Nat.le_of_ble_eq_true rfl) rfl ?_
    refine Ev_lstore_n (dt_X12_digest.at 40 rfl) (by decide) (ls' := [(1, .long q9), (0, .ref 71), (3, .int x.2)]) rfl ?_
    obtain ⟨x10, ex10⟩ : ∃ z : Int32, z = x.2 + 1 := ⟨_, rfl⟩
    replace h := oLt h ex10
    refine Ev_iinc (v := x10) 2 (dt_X12_digest.at 41 rfl) rfl (ex10.trans (congrArg (fun z => x.2 + z) ki_1.symm)) (by decide) (ls' := [(3, .int x10), (1, .long q9), (0, .ref 71)]) rfl ?_
    refine Ev_goto (tgt := 33) (dt_X12_digest.at 42 rfl) (by decide) ?_
    refine Ev_sub [2, 1, 0] (ls' := [(0, .ref 71), (1, .long q9), (3, .int x10)]) rfl ?_
    exact hc (q9, x10) (Option.some.inj h).symm
set_option maxRecDepth 100000 in
set_option maxHeartbeats 4000000 in
theorem wl_m_digest_33 (σ : Sg) (r : Option Value) (τ : Sg) (n : Nat) (x : (Int64 × Int32)) (z : (Int64 × Int32)) (h : lp (b_m_digest_33 σ) n x = some z) (he : ∀ y : (Int64 × Int32), z = y → Ev M_X12_digest 3 r τ 69 [(0, .ref 71), (1, .long y.1)] [] σ) : Ev M_X12_digest 3 r τ 33 [(0, .ref 71), (1, .long x.1), (3, .int x.2)] [] σ := by
  refine lp_ind (E := fun x : (Int64 × Int32) => Ev M_X12_digest 3 r τ 33 [(0, .ref 71), (1, .long x.1), (3, .int x.2)] [] σ) (fun x => ⟨fun y hb hy => ?_, fun hb => ?_⟩) n x h
  · exact wb_m_digest_33 σ x r τ _ hb (fun y' e => by cases e; exact hy) (fun y' e => by cases e)
  · exact wb_m_digest_33 σ x r τ _ hb (fun y' e => by cases e) (fun y' e => he y' (Sum.inr.inj e))
set_option maxRecDepth 100000 in
set_option maxHeartbeats 4000000 in
theorem w_m_digest (σ : Sg)  (q : Int64) (h : s_m_digest σ  = some q) : Cal M_X12_digest 3 [.ref 71] σ (some (.long q)) σ := by
  refine Cal.of (M := M_X12_digest) (by decide +kernel) (Nat.le_of_ble_eq_true rfl) ?_
  show Ev _ _ _ _ 0 [(0, .ref 71)] [] σ
  unfold s_m_digest at h
  refine Ev_ldc2 (dt_X12_digest.at 0 rfl) cl_X12_329 ?_
  refine Ev_lstore_n (dt_X12_digest.at 1 rfl) (by decide) (ls' := [(1, .long 769), (0, .ref 71)]) rfl ?_
  refine Ev_iconst (dt_X12_digest.at 2 rfl) ki_0 ?_
  refine Ev_istore_n (dt_X12_digest.at 3 rfl) (by decide) (ls' := [(3, .int 0), (1, .long 769), (0, .ref 71)]) rfl ?_
  refine Ev_sub [2, 1, 0] (ls' := [(0, .ref 71), (1, .long 769), (3, .int 0)]) rfl ?_
  obtain ⟨o5, ho5, h⟩ := oBind h
  refine wl_m_digest_6 σ _ _ 100000 (769, 0) o5 ho5 (fun y ey => ?_)
  subst ey
  refine Ev_iconst (dt_X12_digest.at 18 rfl) ki_0 ?_
  refine Ev_istore_n (dt_X12_digest.at 19 rfl) (by decide) (ls' := [(3, .int 0), (0, .ref 71), (1, .long o5.1)]) rfl ?_
  refine Ev_sub [1, 2, 0] (ls' := [(0, .ref 71), (1, .long o5.1), (3, .int 0)]) rfl ?_
  obtain ⟨o11, ho11, h⟩ := oBind h
  refine wl_m_digest_33 σ _ _ 100000 (o5.1, 0) o11 ho11 (fun y ey => ?_)
  subst ey
  refine Ev_aload_n 0 (dt_X12_digest.at 43 rfl) rfl ?_
  refine Ev_lload_n 1 (dt_X12_digest.at 44 rfl) rfl ?_
  refine Ev_bipush (dt_X12_digest.at 45 rfl) kb_101 ?_
  refine Ev_bipush (dt_X12_digest.at 46 rfl) kb_7 ?_
  obtain ⟨q12, hq12, h⟩ := oBind h
  refine Ev_callV (st := []) (st' := [.long q12]) [.long o11.1, .int 101, .int 7] (dt_X12_digest.at 47 rfl) cf_X12_331 (w_m_sums σ o11.1 101 7 q12 hq12) (by decide) sk_71 rfl rfl rfl (Nat.le_of_ble_eq_true rfl) rfl ?_
  refine Ev_lstore_n (dt_X12_digest.at 48 rfl) (by decide) (ls' := [(1, .long q12), (0, .ref 71)]) rfl ?_
  refine Ev_aload_n 1 (dt_X12_digest.at 49 rfl) rfl ?_
  refine Ev_lload_n 0 (dt_X12_digest.at 50 rfl) rfl ?_
  refine Ev_bipush (dt_X12_digest.at 51 rfl) kb_109 ?_
  refine Ev_iconst (dt_X12_digest.at 52 rfl) ki_3 ?_
  refine Ev_aload_n 1 (dt_X12_digest.at 53 rfl) rfl ?_
  refine Ev_get (i := 0) (v := .ref 72) (dt_X12_digest.at 54 rfl) ff_X12_7 sk_71 rfl rfl ?_
  refine Ev_bipush (dt_X12_digest.at 55 rfl) kb_108 ?_
  refine Ev_iaload 72 (dt_X12_digest.at 56 rfl) sk_72 ib_108_143 ?_
  refine Ev_imul (dt_X12_digest.at 57 rfl) ?_
  obtain ⟨q13, hq13, h⟩ := oBind h
  refine Ev_callV (st := []) (st' := [.long q13]) [.long q12, .int 109, .int (3 * (gI σ 72 (Int32.toNatClampNeg 108)))] (dt_X12_digest.at 58 rfl) cf_X12_331 (w_m_sums σ q12 109 (3 * (gI σ 72 (Int32.toNatClampNeg 108))) q13 hq13) (by decide) sk_71 rfl rfl rfl (Nat.le_of_ble_eq_true rfl) rfl ?_
  refine Ev_lstore_n (dt_X12_digest.at 59 rfl) (by decide) (ls' := [(1, .long q13), (0, .ref 71)]) rfl ?_
  refine Ev_aload_n 1 (dt_X12_digest.at 60 rfl) rfl ?_
  refine Ev_lload_n 0 (dt_X12_digest.at 61 rfl) rfl ?_
  refine Ev_sipush (dt_X12_digest.at 62 rfl) ks_128 ?_
  refine Ev_iconst (dt_X12_digest.at 63 rfl) ki_3 ?_
  refine Ev_aload_n 1 (dt_X12_digest.at 64 rfl) rfl ?_
  refine Ev_get (i := 0) (v := .ref 72) (dt_X12_digest.at 65 rfl) ff_X12_7 sk_71 rfl rfl ?_
  refine Ev_bipush (dt_X12_digest.at 66 rfl) kb_127 ?_
  refine Ev_iaload 72 (dt_X12_digest.at 67 rfl) sk_72 ib_127_143 ?_
  refine Ev_imul (dt_X12_digest.at 68 rfl) ?_
  obtain ⟨q14, hq14, h⟩ := oBind h
  refine Ev_callV (st := []) (st' := [.long q14]) [.long q13, .int 128, .int (3 * (gI σ 72 (Int32.toNatClampNeg 127)))] (dt_X12_digest.at 69 rfl) cf_X12_331 (w_m_sums σ q13 128 (3 * (gI σ 72 (Int32.toNatClampNeg 127))) q14 hq14) (by decide) sk_71 rfl rfl rfl (Nat.le_of_ble_eq_true rfl) rfl ?_
  refine Ev_lstore_n (dt_X12_digest.at 70 rfl) (by decide) (ls' := [(1, .long q14), (0, .ref 71)]) rfl ?_
  refine Ev_ldc2 (dt_X12_digest.at 71 rfl) cl_X12_327 ?_
  refine Ev_ldc2 (dt_X12_digest.at 72 rfl) cl_X12_327 ?_
  refine Ev_lload_n 0 (dt_X12_digest.at 73 rfl) rfl ?_
  refine Ev_lmul (dt_X12_digest.at 74 rfl) ?_
  refine Ev_aload_n 1 (dt_X12_digest.at 75 rfl) rfl ?_
  refine Ev_get (i := 4) (v := .long (gL σ 71 4)) (dt_X12_digest.at 76 rfl) ff_X12_226 sk_71 rfl rfl ?_
  refine Ev_ladd (dt_X12_digest.at 77 rfl) ?_
  refine Ev_lmul (dt_X12_digest.at 78 rfl) ?_
  refine Ev_aload_n 1 (dt_X12_digest.at 79 rfl) rfl ?_
  refine Ev_get (i := 5) (v := .long (gL σ 71 5)) (dt_X12_digest.at 80 rfl) ff_X12_23 sk_71 rfl rfl ?_
  refine Ev_ladd (dt_X12_digest.at 81 rfl) ?_
  exact Ev_lret (dt_X12_digest.at 82 rfl) rfl (oRet h)
def s_m_isSmall (a0 : Int32) : Option Int32 :=
  (s_m_in (Int32.toInt64 a0) 97 122).bind fun q1 =>
  if q1 &&& 1 = q1 then some q1 else none
set_option maxRecDepth 100000 in
set_option maxHeartbeats 4000000 in
theorem w_m_isSmall (σ : Sg) (a0 : Int32) (q : Int32) (h : s_m_isSmall a0 = some q) : Cal M_X12_isSmall 1 [.int a0] σ (some (.int q)) σ := by
  refine Cal.of (M := M_X12_isSmall) (by decide +kernel) (Nat.le_of_ble_eq_true rfl) ?_
  show Ev _ _ _ _ 0 [(0, .int a0)] [] σ
  unfold s_m_isSmall at h
  refine Ev_iload_n 0 (dt_X12_isSmall.at 0 rfl) rfl ?_
  refine Ev_i2l (dt_X12_isSmall.at 1 rfl) ?_
  refine Ev_ldc2 (dt_X12_isSmall.at 2 rfl) cl_X12_264 ?_
  refine Ev_ldc2 (dt_X12_isSmall.at 3 rfl) cl_X12_266 ?_
  obtain ⟨q1, hq1, h⟩ := oBind h
  refine Ev_callS (st := []) (st' := [.int q1]) [.long (Int32.toInt64 a0), .long 97, .long 122] (dt_X12_isSmall.at 4 rfl) cf_X12_74 (w_m_in σ (Int32.toInt64 a0) 97 122 q1 hq1) (by decide) rfl rfl (Nat.le_of_ble_eq_true rfl) rfl ?_
  obtain ⟨gz, h⟩ := oGuard h
  exact Ev_zret (dt_X12_isSmall.at 5 rfl) rfl gz (oRet h)
def s_m_isFigure (a0 : Int32) : Option Int32 :=
  (s_m_in (Int32.toInt64 a0) 48 57).bind fun q1 =>
  if q1 &&& 1 = q1 then some q1 else none
set_option maxRecDepth 100000 in
set_option maxHeartbeats 4000000 in
theorem w_m_isFigure (σ : Sg) (a0 : Int32) (q : Int32) (h : s_m_isFigure a0 = some q) : Cal M_X12_isFigure 1 [.int a0] σ (some (.int q)) σ := by
  refine Cal.of (M := M_X12_isFigure) (by decide +kernel) (Nat.le_of_ble_eq_true rfl) ?_
  show Ev _ _ _ _ 0 [(0, .int a0)] [] σ
  unfold s_m_isFigure at h
  refine Ev_iload_n 0 (dt_X12_isFigure.at 0 rfl) rfl ?_
  refine Ev_i2l (dt_X12_isFigure.at 1 rfl) ?_
  refine Ev_ldc2 (dt_X12_isFigure.at 2 rfl) cl_X12_268 ?_
  refine Ev_ldc2 (dt_X12_isFigure.at 3 rfl) cl_X12_270 ?_
  obtain ⟨q1, hq1, h⟩ := oBind h
  refine Ev_callS (st := []) (st' := [.int q1]) [.long (Int32.toInt64 a0), .long 48, .long 57] (dt_X12_isFigure.at 4 rfl) cf_X12_74 (w_m_in σ (Int32.toInt64 a0) 48 57 q1 hq1) (by decide) rfl rfl (Nat.le_of_ble_eq_true rfl) rfl ?_
  obtain ⟨gz, h⟩ := oGuard h
  exact Ev_zret (dt_X12_isFigure.at 5 rfl) rfl gz (oRet h)
def b_m_look_5  (x : Sg) : Option (Sg ⊕ Sg) :=
  if (gI x 71 21) ≤ (gI x 71 22) then
    some (.inr x)
  else
    if inB (gI x 71 22) 250 = true then
      if (gI x 88 (Int32.toNatClampNeg (gI x 71 22))) = 32 then
        lt (pI x 71 22 ((gI x 71 22) + 1) : Sg) fun s5 =>
        some (.inl s5)
      else
        some (.inr x)
    else none
def j_m_look_193i136 (v2 : Int32) (σ : Sg) (u0 : Int32) : Option ((Sg × Int32) ⊕ (Sg × Int32)) :=
  if u0 = 0 then
    lt (pI σ 71 23 ((gI σ 71 23) + 0) : Sg) fun s28 =>
    some (.inl (s28, u0))
  else
    lt (pI σ 71 23 ((gI σ 71 23) + 1) : Sg) fun s29 =>
    some (.inl (s29, u0))
def b_m_look_136 (v2 : Int32) (x : (Sg × Int32)) : Option ((Sg × Int32) ⊕ (Sg × Int32)) :=
  if x.2 = 0 then
    some (.inr (x.1, x.2))
  else
    if (gI x.1 71 21) ≤ ((gI x.1 71 22) + (gI x.1 71 23)) then
      some (.inr (x.1, x.2))
    else
      if inB ((gI x.1 71 22) + (gI x.1 71 23)) 250 = true then
        lt ((gI x.1 88 (Int32.toNatClampNeg ((gI x.1 71 22) + (gI x.1 71 23)))) : Int32) fun x24 =>
        if (gI x.1 71 24) = 1 then
          (s_m_isSmall x24).bind fun q30 =>
          j_m_look_193i136 v2 x.1 q30
        else
          (s_m_isFigure x24).bind fun q26 =>
          j_m_look_193i136 v2 x.1 q26
      else none
def j_m_look_215  (σ : Sg) (v2 : Int32) : Option Sg :=
  lt (pI σ 71 25 (v2 - 48) : Sg) fun s32 =>
  if (gI s32 71 24) = 2 then
    if (gI s32 71 23) ≤ 1 then
      lt (pI s32 71 24 (gI s32 71 24) : Sg) fun s36 =>
      some s36
    else
      lt (pI s32 71 24 4 : Sg) fun s37 =>
      some s37
  else
    lt (pI s32 71 24 (gI s32 71 24) : Sg) fun s34 =>
    some s34
def j_m_look_135  (σ : Sg) (v2 : Int32) (u0 : Int32) : Option Sg :=
  (lp (b_m_look_136 v2) 100000 (σ, u0)).bind fun o31 =>
  j_m_look_215  o31.1 v2
def j_m_look_114  (σ : Sg) (v2 : Int32) (u0 : Int32) : Option Sg :=
  lt (pI σ 71 24 u0 : Sg) fun s18 =>
  lt (pI s18 71 23 1 : Sg) fun s19 =>
  if 3 ≤ (gI s19 71 24) then
    j_m_look_135  s19 v2 0
  else
    j_m_look_135  s19 v2 1
def j_m_look_43  (σ : Sg) : Option Sg :=
  lt (pI σ 71 23 0 : Sg) fun s7 =>
  lt (pI s7 71 24 0 : Sg) fun s8 =>
  lt (pI s8 71 25 0 : Sg) fun s9 =>
  if (gI s9 71 22) = (gI s9 71 21) then
    some s9
  else
    if inB (gI s9 71 22) 250 = true then
      lt ((gI s9 88 (Int32.toNatClampNeg (gI s9 71 22))) : Int32) fun x12 =>
      (s_m_isSmall x12).bind fun q13 =>
      if q13 = 0 then
        (s_m_isFigure x12).bind fun q15 =>
        if q15 = 0 then
          if x12 = 59 then
            j_m_look_114  s9 x12 3
          else
            j_m_look_114  s9 x12 4
        else
          j_m_look_114  s9 x12 2
      else
        j_m_look_114  s9 x12 1
    else none
def s_m_look (σ : Sg) (a1 : Int32) : Option Sg :=
  lt (pI σ 71 22 a1 : Sg) fun s1 =>
  (lp (b_m_look_5 ) 100000 s1).bind fun o6 =>
  j_m_look_43  o6
set_option maxRecDepth 100000 in
set_option maxHeartbeats 4000000 in
theorem wb_m_look_5  (x : Sg) (r : Option Value) (τ : Sg) (o : (Sg ⊕ Sg)) (h : (b_m_look_5  x) = some o) (hc : ∀ y : Sg, o = .inl y → Ev M_X12_look 2 r τ 5 [(0, .ref 71)] [] y) (he : ∀ y : Sg, o = .inr y → Ev M_X12_look 2 r τ 43 [(0, .ref 71)] [] y) : Ev M_X12_look 2 r τ 5 [(0, .ref 71)] [] x := by
  unfold b_m_look_5 at h
  refine Ev_aload_n 0 (dt_X12_look.at 3 rfl) rfl ?_
  refine Ev_get (i := 22) (v := .int (gI x 71 22)) (dt_X12_look.at 4 rfl) ff_X12_272 sk_71 rfl rfl ?_
  refine Ev_aload_n 0 (dt_X12_look.at 5 rfl) rfl ?_
  refine Ev_get (i := 21) (v := .int (gI x 71 21)) (dt_X12_look.at 6 rfl) ff_X12_259 sk_71 rfl rfl ?_
  refine Ev_icmp_ge (tgt := 43) (dt_X12_look.at 7 rfl) (by decide) (fun c2 => ?_) (fun c2 => ?_)
  · replace h := oPos h c2
    refine Ev_sub [0] (ls' := [(0, .ref 71)]) rfl ?_
    exact he x (Option.some.inj h).symm
  · replace h := oNeg h c2
    refine Ev_aload_n 0 (dt_X12_look.at 8 rfl) rfl ?_
    refine Ev_get (i := 20) (v := .ref 88) (dt_X12_look.at 9 rfl) ff_X12_64 sk_71 rfl rfl ?_
    refine Ev_aload_n 0 (dt_X12_look.at 10 rfl) rfl ?_
    refine Ev_get (i := 22) (v := .int (gI x 71 22)) (dt_X12_look.at 11 rfl) ff_X12_272 sk_71 rfl rfl ?_
    obtain ⟨g3, h⟩ := oGuard h
    refine Ev_iaload 88 (dt_X12_look.at 12 rfl) sk_88 g3 ?_
    refine Ev_bipush (dt_X12_look.at 13 rfl) kb_32 ?_
    refine Ev_icmp_ne (tgt := 43) (dt_X12_look.at 14 rfl) (by decide) (fun c4 => ?_) (fun c4 => ?_)
    · replace h := oNeg h c4
      refine Ev_sub [0] (ls' := [(0, .ref 71)]) rfl ?_
      exact he x (Option.some.inj h).symm
    · replace h := oPos h c4
      refine Ev_aload_n 0 (dt_X12_look.at 15 rfl) rfl ?_
      refine Ev_dup (dt_X12_look.at 16 rfl) rfl ?_
      refine Ev_get (i := 22) (v := .int (gI x 71 22)) (dt_X12_look.at 17 rfl) ff_X12_272 sk_71 rfl rfl ?_
      refine Ev_iconst (dt_X12_look.at 18 rfl) ki_1 ?_
      refine Ev_iadd (dt_X12_look.at 19 rfl) ?_
      refine Ev_putI (dt_X12_look.at 20 rfl) ff_X12_272 fw_12_22 sk_71 rfl ?_
      refine Ev_nmS (fun s5 es5 => ?_)
      replace h := oLt h es5
      refine Ev_goto (tgt := 5) (dt_X12_look.at 21 rfl) (by decide) ?_
      refine Ev_sub [0] (ls' := [(0, .ref 71)]) rfl ?_
      exact hc s5 (Option.some.inj h).symm
set_option maxRecDepth 100000 in
set_option maxHeartbeats 4000000 in
theorem wl_m_look_5  (r : Option Value) (τ : Sg) (n : Nat) (x : Sg) (z : Sg) (h : lp (b_m_look_5 ) n x = some z) (he : ∀ y : Sg, z = y → Ev M_X12_look 2 r τ 43 [(0, .ref 71)] [] y) : Ev M_X12_look 2 r τ 5 [(0, .ref 71)] [] x := by
  refine lp_ind (E := fun x : Sg => Ev M_X12_look 2 r τ 5 [(0, .ref 71)] [] x) (fun x => ⟨fun y hb hy => ?_, fun hb => ?_⟩) n x h
  · exact wb_m_look_5  x r τ _ hb (fun y' e => by cases e; exact hy) (fun y' e => by cases e)
  · exact wb_m_look_5  x r τ _ hb (fun y' e => by cases e) (fun y' e => he y' (Sum.inr.inj e))
set_option maxRecDepth 100000 in
set_option maxHeartbeats 4000000 in
theorem wj_m_look_193i136 (v2 : Int32) (σ : Sg) (u0 : Int32) (r : Option Value) (τ : Sg) (o : ((Sg × Int32) ⊕ (Sg × Int32))) (h : (j_m_look_193i136 v2 σ u0) = some o) (hc : ∀ y : (Sg × Int32), o = .inl y → Ev M_X12_look 2 r τ 136 [(0, .ref 71), (2, .int v2), (3, .int y.2)] [] y.1) (he : ∀ y : (Sg × Int32), o = .inr y → Ev M_X12_look 2 r τ 215 [(0, .ref 71), (2, .int v2)] [] y.1) : Ev M_X12_look 2 r τ 193 [(0, .ref 71), (2, .int v2)] [.int u0] σ := by
  unfold j_m_look_193i136 at h
  refine Ev_istore_n (dt_X12_look.at 100 rfl) (by decide) (ls' := [(3, .int u0), (0, .ref 71), (2, .int v2)]) rfl ?_
  refine Ev_aload_n 1 (dt_X12_look.at 101 rfl) rfl ?_
  refine Ev_dup (dt_X12_look.at 102 rfl) rfl ?_
  refine Ev_get (i := 23) (v := .int (gI σ 71 23)) (dt_X12_look.at 103 rfl) ff_X12_275 sk_71 rfl rfl ?_
  refine Ev_iload_n 0 (dt_X12_look.at 104 rfl) rfl ?_
  refine Ev_if_eq (tgt := 207) (dt_X12_look.at 105 rfl) (by decide) (fun c27 => ?_) (fun c27 => ?_)
  · replace h := oPos h c27
    refine Ev_iconst (dt_X12_look.at 108 rfl) ki_0 ?_
    refine Ev_iadd (dt_X12_look.at 109 rfl) ?_
    refine Ev_putI (dt_X12_look.at 110 rfl) ff_X12_275 fw_12_23 sk_71 rfl ?_
    refine Ev_nmS (fun s28 es28 => ?_)
    replace h := oLt h es28
    refine Ev_goto (tgt := 136) (dt_X12_look.at 111 rfl) (by decide) ?_
    refine Ev_sub [1, 2, 0] (ls' := [(0, .ref 71), (2, .int v2), (3, .int u0)]) rfl ?_
    exact hc (s28, u0) (Option.some.inj h).symm
  · replace h := oNeg h c27
    refine Ev_iconst (dt_X12_look.at 106 rfl) ki_1 ?_
    refine Ev_goto (tgt := 208) (dt_X12_look.at 107 rfl) (by decide) ?_
    refine Ev_iadd (dt_X12_look.at 109 rfl) ?_
    refine Ev_putI (dt_X12_look.at 110 rfl) ff_X12_275 fw_12_23 sk_71 rfl ?_
    refine Ev_nmS (fun s29 es29 => ?_)
    replace h := oLt h es29
    refine Ev_goto (tgt := 136) (dt_X12_look.at 111 rfl) (by decide) ?_
    refine Ev_sub [1, 2, 0] (ls' := [(0, .ref 71), (2, .int v2), (3, .int u0)]) rfl ?_
    exact hc (s29, u0) (Option.some.inj h).symm
set_option maxRecDepth 100000 in
set_option maxHeartbeats 4000000 in
theorem wb_m_look_136 (v2 : Int32) (x : (Sg × Int32)) (r : Option Value) (τ : Sg) (o : ((Sg × Int32) ⊕ (Sg × Int32))) (h : (b_m_look_136 v2 x) = some o) (hc : ∀ y : (Sg × Int32), o = .inl y → Ev M_X12_look 2 r τ 136 [(0, .ref 71), (2, .int v2), (3, .int y.2)] [] y.1) (he : ∀ y : (Sg × Int32), o = .inr y → Ev M_X12_look 2 r τ 215 [(0, .ref 71), (2, .int v2)] [] y.1) : Ev M_X12_look 2 r τ 136 [(0, .ref 71), (2, .int v2), (3, .int x.2)] [] x.1 := by
  unfold b_m_look_136 at h
  refine Ev_iload_n 2 (dt_X12_look.at 72 rfl) rfl ?_
  refine Ev_if_eq (tgt := 215) (dt_X12_look.at 73 rfl) (by decide) (fun c21 => ?_) (fun c21 => ?_)
  · replace h := oPos h c21
    refine Ev_sub [0, 1] (ls' := [(0, .ref 71), (2, .int v2)]) rfl ?_
    exact he (x.1, x.2) (Option.some.inj h).symm
  · replace h := oNeg h c21
    refine Ev_aload_n 0 (dt_X12_look.at 74 rfl) rfl ?_
    refine Ev_get (i := 22) (v := .int (gI x.1 71 22)) (dt_X12_look.at 75 rfl) ff_X12_272 sk_71 rfl rfl ?_
    refine Ev_aload_n 0 (dt_X12_look.at 76 rfl) rfl ?_
    refine Ev_get (i := 23) (v := .int (gI x.1 71 23)) (dt_X12_look.at 77 rfl) ff_X12_275 sk_71 rfl rfl ?_
    refine Ev_iadd (dt_X12_look.at 78 rfl) ?_
    refine Ev_aload_n 0 (dt_X12_look.at 79 rfl) rfl ?_
    refine Ev_get (i := 21) (v := .int (gI x.1 71 21)) (dt_X12_look.at 80 rfl) ff_X12_259 sk_71 rfl rfl ?_
    refine Ev_icmp_ge (tgt := 215) (dt_X12_look.at 81 rfl) (by decide) (fun c22 => ?_) (fun c22 => ?_)
    · replace h := oPos h c22
      refine Ev_sub [0, 1] (ls' := [(0, .ref 71), (2, .int v2)]) rfl ?_
      exact he (x.1, x.2) (Option.some.inj h).symm
    · replace h := oNeg h c22
      refine Ev_aload_n 0 (dt_X12_look.at 82 rfl) rfl ?_
      refine Ev_get (i := 20) (v := .ref 88) (dt_X12_look.at 83 rfl) ff_X12_64 sk_71 rfl rfl ?_
      refine Ev_aload_n 0 (dt_X12_look.at 84 rfl) rfl ?_
      refine Ev_get (i := 22) (v := .int (gI x.1 71 22)) (dt_X12_look.at 85 rfl) ff_X12_272 sk_71 rfl rfl ?_
      refine Ev_aload_n 0 (dt_X12_look.at 86 rfl) rfl ?_
      refine Ev_get (i := 23) (v := .int (gI x.1 71 23)) (dt_X12_look.at 87 rfl) ff_X12_275 sk_71 rfl rfl ?_
      refine Ev_iadd (dt_X12_look.at 88 rfl) ?_
      obtain ⟨g23, h⟩ := oGuard h
      refine Ev_iaload 88 (dt_X12_look.at 89 rfl) sk_88 g23 ?_
      refine Ev_nmI (fun x24 ex24 => ?_)
      replace h := oLt h ex24
      refine Ev_istore (dt_X12_look.at 90 rfl) (by decide) (ls' := [(4, .int x24), (0, .ref 71), (2, .int v2), (3, .int x.2)]) rfl ?_
      refine Ev_aload_n 1 (dt_X12_look.at 91 rfl) rfl ?_
      refine Ev_get (i := 24) (v := .int (gI x.1 71 24)) (dt_X12_look.at 92 rfl) ff_X12_278 sk_71 rfl rfl ?_
      refine Ev_iconst (dt_X12_look.at 93 rfl) ki_1 ?_
      refine Ev_icmp_ne (tgt := 188) (dt_X12_look.at 94 rfl) (by decide) (fun c25 => ?_) (fun c25 => ?_)
      · replace h := oNeg h c25
        refine Ev_iload 0 (dt_X12_look.at 98 rfl) rfl ?_
        obtain ⟨q26, hq26, h⟩ := oBind h
        refine Ev_callS (st := []) (st' := [.int q26]) [.int x24] (dt_X12_look.at 99 rfl) cf_X12_287 (w_m_isFigure x.1 x24 q26 hq26) (by decide) rfl rfl (Nat.le_of_ble_eq_true rfl) rfl ?_
        refine Ev_sub [1, 2] (ls' := [(0, .ref 71), (2, .int v2)]) rfl ?_
        exact wj_m_look_193i136 v2 x.1 q26 _ _ _ h hc he
      · replace h := oPos h c25
        refine Ev_iload 0 (dt_X12_look.at 95 rfl) rfl ?_
        obtain ⟨q30, hq30, h⟩ := oBind h
        refine Ev_callS (st := []) (st' := [.int q30]) [.int x24] (dt_X12_look.at 96 rfl) cf_X12_284 (w_m_isSmall x.1 x24 q30 hq30) (by decide) rfl rfl (Nat.le_of_ble_eq_true rfl) rfl ?_
        refine Ev_goto (tgt := 193) (dt_X12_look.at 97 rfl) (by decide) ?_
        refine Ev_sub [1, 2] (ls' := [(0, .ref 71), (2, .int v2)]) rfl ?_
        exact wj_m_look_193i136 v2 x.1 q30 _ _ _ h hc he
set_option maxRecDepth 100000 in
set_option maxHeartbeats 4000000 in
theorem wl_m_look_136 (v2 : Int32) (r : Option Value) (τ : Sg) (n : Nat) (x : (Sg × Int32)) (z : (Sg × Int32)) (h : lp (b_m_look_136 v2) n x = some z) (he : ∀ y : (Sg × Int32), z = y → Ev M_X12_look 2 r τ 215 [(0, .ref 71), (2, .int v2)] [] y.1) : Ev M_X12_look 2 r τ 136 [(0, .ref 71), (2, .int v2), (3, .int x.2)] [] x.1 := by
  refine lp_ind (E := fun x : (Sg × Int32) => Ev M_X12_look 2 r τ 136 [(0, .ref 71), (2, .int v2), (3, .int x.2)] [] x.1) (fun x => ⟨fun y hb hy => ?_, fun hb => ?_⟩) n x h
  · exact wb_m_look_136 v2 x r τ _ hb (fun y' e => by cases e; exact hy) (fun y' e => by cases e)
  · exact wb_m_look_136 v2 x r τ _ hb (fun y' e => by cases e) (fun y' e => he y' (Sum.inr.inj e))
set_option maxRecDepth 100000 in
set_option maxHeartbeats 4000000 in
theorem wj_m_look_215  (σ : Sg) (v2 : Int32) (q : Sg) (h : (j_m_look_215  σ v2) = some q) : Ev M_X12_look 2 none q 215 [(0, .ref 71), (2, .int v2)] [] σ := by
  unfold j_m_look_215 at h
  refine Ev_aload_n 0 (dt_X12_look.at 112 rfl) rfl ?_
  refine Ev_iload_n 1 (dt_X12_look.at 113 rfl) rfl ?_
  refine Ev_bipush (dt_X12_look.at 114 rfl) kb_48 ?_
  refine Ev_isub (dt_X12_look.at 115 rfl) ?_
  refine Ev_putI (dt_X12_look.at 116 rfl) ff_X12_281 fw_12_25 sk_71 rfl ?_
  refine Ev_nmS (fun s32 es32 => ?_)
  replace h := oLt h es32
  refine Ev_aload_n 0 (dt_X12_look.at 117 rfl) rfl ?_
  refine Ev_aload_n 0 (dt_X12_look.at 118 rfl) rfl ?_
  refine Ev_get (i := 24) (v := .int (gI s32 71 24)) (dt_X12_look.at 119 rfl) ff_X12_278 sk_71 rfl rfl ?_
  refine Ev_iconst (dt_X12_look.at 120 rfl) ki_2 ?_
  refine Ev_icmp_ne (tgt := 244) (dt_X12_look.at 121 rfl) (by decide) (fun c33 => ?_) (fun c33 => ?_)
  · replace h := oNeg h c33
    refine Ev_aload_n 0 (dt_X12_look.at 128 rfl) rfl ?_
    refine Ev_get (i := 24) (v := .int (gI s32 71 24)) (dt_X12_look.at 129 rfl) ff_X12_278 sk_71 rfl rfl ?_
    refine Ev_putI (dt_X12_look.at 130 rfl) ff_X12_278 fw_12_24 sk_71 rfl ?_
    refine Ev_nmS (fun s34 es34 => ?_)
    replace h := oLt h es34
    exact Ev_vret (dt_X12_look.at 131 rfl) rfl h
  · replace h := oPos h c33
    refine Ev_aload_n 0 (dt_X12_look.at 122 rfl) rfl ?_
    refine Ev_get (i := 23) (v := .int (gI s32 71 23)) (dt_X12_look.at 123 rfl) ff_X12_275 sk_71 rfl rfl ?_
    refine Ev_iconst (dt_X12_look.at 124 rfl) ki_1 ?_
    refine Ev_icmp_le (tgt := 244) (dt_X12_look.at 125 rfl) (by decide) (fun c35 => ?_) (fun c35 => ?_)
    · replace h := oPos h c35
      refine Ev_aload_n 0 (dt_X12_look.at 128 rfl) rfl ?_
      refine Ev_get (i := 24) (v := .int (gI s32 71 24)) (dt_X12_look.at 129 rfl) ff_X12_278 sk_71 rfl rfl ?_
      refine Ev_putI (dt_X12_look.at 130 rfl) ff_X12_278 fw_12_24 sk_71 rfl ?_
      refine Ev_nmS (fun s36 es36 => ?_)
      replace h := oLt h es36
      exact Ev_vret (dt_X12_look.at 131 rfl) rfl h
    · replace h := oNeg h c35
      refine Ev_iconst (dt_X12_look.at 126 rfl) ki_4 ?_
      refine Ev_goto (tgt := 248) (dt_X12_look.at 127 rfl) (by decide) ?_
      refine Ev_putI (dt_X12_look.at 130 rfl) ff_X12_278 fw_12_24 sk_71 rfl ?_
      refine Ev_nmS (fun s37 es37 => ?_)
      replace h := oLt h es37
      exact Ev_vret (dt_X12_look.at 131 rfl) rfl h
set_option maxRecDepth 100000 in
set_option maxHeartbeats 4000000 in
theorem wj_m_look_135  (σ : Sg) (v2 : Int32) (u0 : Int32) (q : Sg) (h : (j_m_look_135  σ v2 u0) = some q) : Ev M_X12_look 2 none q 135 [(0, .ref 71), (2, .int v2)] [.int u0] σ := by
  unfold j_m_look_135 at h
  refine Ev_istore_n (dt_X12_look.at 71 rfl) (by decide) (ls' := [(3, .int u0), (0, .ref 71), (2, .int v2)]) rfl ?_
  refine Ev_sub [1, 2, 0] (ls' := [(0, .ref 71), (2, .int v2), (3, .int u0)]) rfl ?_
  obtain ⟨o31, ho31, h⟩ := oBind h
  refine wl_m_look_136 v2 _ _ 100000 (σ, u0) o31 ho31 (fun y ey => ?_)
  subst ey
  refine Ev_sub [0, 1] (ls' := [(0, .ref 71), (2, .int v2)]) rfl ?_
  exact wj_m_look_215  o31.1 v2 q h
set_option maxRecDepth 100000 in
set_option maxHeartbeats 4000000 in
theorem wj_m_look_114  (σ : Sg) (v2 : Int32) (u0 : Int32) (q : Sg) (h : (j_m_look_114  σ v2 u0) = some q) : Ev M_X12_look 2 none q 114 [(0, .ref 71), (2, .int v2)] [.int u0, .ref 71] σ := by
  unfold j_m_look_114 at h
  refine Ev_putI (dt_X12_look.at 60 rfl) ff_X12_278 fw_12_24 sk_71 rfl ?_
  refine Ev_nmS (fun s18 es18 => ?_)
  replace h := oLt h es18
  refine Ev_aload_n 0 (dt_X12_look.at 61 rfl) rfl ?_
  refine Ev_iconst (dt_X12_look.at 62 rfl) ki_1 ?_
  refine Ev_putI (dt_X12_look.at 63 rfl) ff_X12_275 fw_12_23 sk_71 rfl ?_
  refine Ev_nmS (fun s19 es19 => ?_)
  replace h := oLt h es19
  refine Ev_aload_n 0 (dt_X12_look.at 64 rfl) rfl ?_
  refine Ev_get (i := 24) (v := .int (gI s19 71 24)) (dt_X12_look.at 65 rfl) ff_X12_278 sk_71 rfl rfl ?_
  refine Ev_iconst (dt_X12_look.at 66 rfl) ki_3 ?_
  refine Ev_icmp_ge (tgt := 134) (dt_X12_look.at 67 rfl) (by decide) (fun c20 => ?_) (fun c20 => ?_)
  · replace h := oPos h c20
    refine Ev_iconst (dt_X12_look.at 70 rfl) ki_0 ?_
    refine Ev_sub [0, 1] (ls' := [(0, .ref 71), (2, .int v2)]) rfl ?_
    exact wj_m_look_135  s19 v2 0 q h
  · replace h := oNeg h c20
    refine Ev_iconst (dt_X12_look.at 68 rfl) ki_1 ?_
    refine Ev_goto (tgt := 135) (dt_X12_look.at 69 rfl) (by decide) ?_
    refine Ev_sub [0, 1] (ls' := [(0, .ref 71), (2, .int v2)]) rfl ?_
    exact wj_m_look_135  s19 v2 1 q h
set_option maxRecDepth 100000 in
set_option maxHeartbeats 4000000 in
theorem wj_m_look_43  (σ : Sg) (q : Sg) (h : (j_m_look_43  σ) = some q) : Ev M_X12_look 2 none q 43 [(0, .ref 71)] [] σ := by
  unfold j_m_look_43 at h
  refine Ev_aload_n 0 (dt_X12_look.at 22 rfl) rfl ?_
  refine Ev_iconst (dt_X12_look.at 23 rfl) ki_0 ?_
  refine Ev_putI (dt_X12_look.at 24 rfl) ff_X12_275 fw_12_23 sk_71 rfl ?_
  refine Ev_nmS (fun s7 es7 => ?_)
  replace h := oLt h es7
  refine Ev_aload_n 0 (dt_X12_look.at 25 rfl) rfl ?_
  refine Ev_iconst (dt_X12_look.at 26 rfl) ki_0 ?_
  refine Ev_putI (dt_X12_look.at 27 rfl) ff_X12_278 fw_12_24 sk_71 rfl ?_
  refine Ev_nmS (fun s8 es8 => ?_)
  replace h := oLt h es8
  refine Ev_aload_n 0 (dt_X12_look.at 28 rfl) rfl ?_
  refine Ev_iconst (dt_X12_look.at 29 rfl) ki_0 ?_
  refine Ev_putI (dt_X12_look.at 30 rfl) ff_X12_281 fw_12_25 sk_71 rfl ?_
  refine Ev_nmS (fun s9 es9 => ?_)
  replace h := oLt h es9
  refine Ev_aload_n 0 (dt_X12_look.at 31 rfl) rfl ?_
  refine Ev_get (i := 22) (v := .int (gI s9 71 22)) (dt_X12_look.at 32 rfl) ff_X12_272 sk_71 rfl rfl ?_
  refine Ev_aload_n 0 (dt_X12_look.at 33 rfl) rfl ?_
  refine Ev_get (i := 21) (v := .int (gI s9 71 21)) (dt_X12_look.at 34 rfl) ff_X12_259 sk_71 rfl rfl ?_
  refine Ev_icmp_ne (tgt := 70) (dt_X12_look.at 35 rfl) (by decide) (fun c10 => ?_) (fun c10 => ?_)
  · replace h := oNeg h c10
    refine Ev_aload_n 0 (dt_X12_look.at 37 rfl) rfl ?_
    refine Ev_get (i := 20) (v := .ref 88) (dt_X12_look.at 38 rfl) ff_X12_64 sk_71 rfl rfl ?_
    refine Ev_aload_n 0 (dt_X12_look.at 39 rfl) rfl ?_
    refine Ev_get (i := 22) (v := .int (gI s9 71 22)) (dt_X12_look.at 40 rfl) ff_X12_272 sk_71 rfl rfl ?_
    obtain ⟨g11, h⟩ := oGuard h
    refine Ev_iaload 88 (dt_X12_look.at 41 rfl) sk_88 g11 ?_
    refine Ev_nmI (fun x12 ex12 => ?_)
    replace h := oLt h ex12
    refine Ev_istore_n (dt_X12_look.at 42 rfl) (by decide) (ls' := [(2, .int x12), (0, .ref 71)]) rfl ?_
    refine Ev_aload_n 1 (dt_X12_look.at 43 rfl) rfl ?_
    refine Ev_iload_n 0 (dt_X12_look.at 44 rfl) rfl ?_
    obtain ⟨q13, hq13, h⟩ := oBind h
    refine Ev_callS (st := [.ref 71]) (st' := [.int q13, .ref 71]) [.int x12] (dt_X12_look.at 45 rfl) cf_X12_284 (w_m_isSmall s9 x12 q13 hq13) (by decide) rfl rfl (Nat.le_of_ble_eq_true rfl) rfl ?_
    refine Ev_if_eq (tgt := 92) (dt_X12_look.at 46 rfl) (by decide) (fun c14 => ?_) (fun c14 => ?_)
    · replace h := oPos h c14
      refine Ev_iload_n 0 (dt_X12_look.at 49 rfl) rfl ?_
      obtain ⟨q15, hq15, h⟩ := oBind h
      refine Ev_callS (st := [.ref 71]) (st' := [.int q15, .ref 71]) [.int x12] (dt_X12_look.at 50 rfl) cf_X12_287 (w_m_isFigure s9 x12 q15 hq15) (by decide) rfl rfl (Nat.le_of_ble_eq_true rfl) rfl ?_
      refine Ev_if_eq (tgt := 103) (dt_X12_look.at 51 rfl) (by decide) (fun c16 => ?_) (fun c16 => ?_)
      · replace h := oPos h c16
        refine Ev_iload_n 0 (dt_X12_look.at 54 rfl) rfl ?_
        refine Ev_bipush (dt_X12_look.at 55 rfl) kb_59 ?_
        refine Ev_icmp_ne (tgt := 113) (dt_X12_look.at 56 rfl) (by decide) (fun c17 => ?_) (fun c17 => ?_)
        · replace h := oNeg h c17
          refine Ev_iconst (dt_X12_look.at 59 rfl) ki_4 ?_
          refine Ev_sub [1, 0] (ls' := [(0, .ref 71), (2, .int x12)]) rfl ?_
          exact wj_m_look_114  s9 x12 4 q h
        · replace h := oPos h c17
          refine Ev_iconst (dt_X12_look.at 57 rfl) ki_3 ?_
          refine Ev_goto (tgt := 114) (dt_X12_look.at 58 rfl) (by decide) ?_
          refine Ev_sub [1, 0] (ls' := [(0, .ref 71), (2, .int x12)]) rfl ?_
          exact wj_m_look_114  s9 x12 3 q h
      · replace h := oNeg h c16
        refine Ev_iconst (dt_X12_look.at 52 rfl) ki_2 ?_
        refine Ev_goto (tgt := 114) (dt_X12_look.at 53 rfl) (by decide) ?_
        refine Ev_sub [1, 0] (ls' := [(0, .ref 71), (2, .int x12)]) rfl ?_
        exact wj_m_look_114  s9 x12 2 q h
    · replace h := oNeg h c14
      refine Ev_iconst (dt_X12_look.at 47 rfl) ki_1 ?_
      refine Ev_goto (tgt := 114) (dt_X12_look.at 48 rfl) (by decide) ?_
      refine Ev_sub [1, 0] (ls' := [(0, .ref 71), (2, .int x12)]) rfl ?_
      exact wj_m_look_114  s9 x12 1 q h
  · replace h := oPos h c10
    exact Ev_vret (dt_X12_look.at 36 rfl) rfl h
set_option maxRecDepth 100000 in
set_option maxHeartbeats 4000000 in
theorem w_m_look (σ : Sg) (a1 : Int32) (q : Sg) (h : s_m_look σ a1 = some q) : Cal M_X12_look 2 [.ref 71, .int a1] σ none q := by
  refine Cal.of (M := M_X12_look) (by decide +kernel) (Nat.le_of_ble_eq_true rfl) ?_
  show Ev _ _ _ _ 0 [(0, .ref 71), (1, .int a1)] [] σ
  unfold s_m_look at h
  refine Ev_aload_n 0 (dt_X12_look.at 0 rfl) rfl ?_
  refine Ev_iload_n 1 (dt_X12_look.at 1 rfl) rfl ?_
  refine Ev_putI (dt_X12_look.at 2 rfl) ff_X12_272 fw_12_22 sk_71 rfl ?_
  refine Ev_nmS (fun s1 es1 => ?_)
  replace h := oLt h es1
  refine Ev_sub [0] (ls' := [(0, .ref 71)]) rfl ?_
  obtain ⟨o6, ho6, h⟩ := oBind h
  refine wl_m_look_5  _ _ 100000 s1 o6 ho6 (fun y ey => ?_)
  subst ey
  refine Ev_sub [0] (ls' := [(0, .ref 71)]) rfl ?_
  exact wj_m_look_43  o6 q h
