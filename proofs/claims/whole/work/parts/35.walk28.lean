def s_m_pair (a0 : Int32) (a1 : Int32) : Option Int32 :=
  some (((a1 * (a1 - 1)) / 2) + a0)
set_option maxRecDepth 100000 in
set_option maxHeartbeats 4000000 in
theorem w_m_pair (σ : Sg) (a0 : Int32) (a1 : Int32) (q : Int32) (h : s_m_pair a0 a1 = some q) : Cal M_X12_pair 0 [.int a0, .int a1] σ (some (.int q)) σ := by
  refine Cal.of (M := M_X12_pair) (by decide +kernel) (Nat.le_of_ble_eq_true rfl) ?_
  show Ev _ _ _ _ 0 [(0, .int a0), (1, .int a1)] [] σ
  unfold s_m_pair at h
  refine Ev_iload_n 1 (dt_X12_pair.at 0 rfl) rfl ?_
  refine Ev_iload_n 1 (dt_X12_pair.at 1 rfl) rfl ?_
  refine Ev_iconst (dt_X12_pair.at 2 rfl) ki_1 ?_
  refine Ev_isub (dt_X12_pair.at 3 rfl) ?_
  refine Ev_imul (dt_X12_pair.at 4 rfl) ?_
  refine Ev_iconst (dt_X12_pair.at 5 rfl) ki_2 ?_
  refine Ev_idiv (dt_X12_pair.at 6 rfl) (by decide) ?_
  refine Ev_iload_n 0 (dt_X12_pair.at 7 rfl) rfl ?_
  refine Ev_iadd (dt_X12_pair.at 8 rfl) ?_
  exact Ev_iret (dt_X12_pair.at 9 rfl) rfl (oRet h)
def b_m_findWays_20  (x : (Sg × Int64 × Int32)) : Option ((Sg × Int64 × Int32) ⊕ (Sg × Int64 × Int32)) :=
  (s_m_people x.1 ).bind fun q5 =>
  if (q5 / 3) ≤ x.2.2 then
    some (.inr (x.1, x.2.1, x.2.2))
  else
    if inB x.2.2 3 = true then
      (s_m_takeThree x.1 (gI x.1 81 (Int32.toNatClampNeg x.2.2))).bind fun q8 =>
      (s_m_pair (gI q8 76 (Int32.toNatClampNeg 0)) (gI q8 76 (Int32.toNatClampNeg 1))).bind fun q9 =>
      (s_m_pair (gI q8 76 (Int32.toNatClampNeg 0)) (gI q8 76 (Int32.toNatClampNeg 2))).bind fun q10 =>
      (s_m_pair (gI q8 76 (Int32.toNatClampNeg 1)) (gI q8 76 (Int32.toNatClampNeg 2))).bind fun q11 =>
      lt ((x.2.1 ||| ((((1 : Int64) <<< ((Int32.toInt64 q9) &&& 63)) ||| ((1 : Int64) <<< ((Int32.toInt64 q10) &&& 63))) ||| ((1 : Int64) <<< ((Int32.toInt64 q11) &&& 63)))) : Int64) fun x12 =>
      lt (x.2.2 + 1 : Int32) fun x13 =>
      some (.inl (q8, x12, x13))
    else none
def b_m_findWays_9  (x : Sg) : Option (Sg ⊕ Sg) :=
  (s_m_nextAll x ).bind fun q3 =>
  if q3.1 = 0 then
    some (.inr q3.2)
  else
    (lp (b_m_findWays_20 ) 100000 (q3.2, 0, 0)).bind fun o14 =>
    if inB (gI o14.1 71 16) 280 = true then
      lt (pL o14.1 84 (Int32.toNatClampNeg (gI o14.1 71 16)) o14.2.1 : Sg) fun s16 =>
      lt (pI s16 71 16 ((gI s16 71 16) + 1) : Sg) fun s17 =>
      some (.inl s17)
    else none
def s_m_findWays (σ : Sg)  : Option Sg :=
  lt (pI σ 71 16 0 : Sg) fun s1 =>
  (s_m_noThrees s1 ).bind fun q2 =>
  (lp (b_m_findWays_9 ) 100000 q2).bind fun o18 =>
  some o18
set_option maxRecDepth 100000 in
set_option maxHeartbeats 4000000 in
theorem wb_m_findWays_20  (x : (Sg × Int64 × Int32)) (r : Option Value) (τ : Sg) (o : ((Sg × Int64 × Int32) ⊕ (Sg × Int64 × Int32))) (h : (b_m_findWays_20  x) = some o) (hc : ∀ y : (Sg × Int64 × Int32), o = .inl y → Ev M_X12_findWays 3 r τ 20 [(0, .ref 71), (1, .long y.2.1), (3, .int y.2.2)] [] y.1) (he : ∀ y : (Sg × Int64 × Int32), o = .inr y → Ev M_X12_findWays 3 r τ 102 [(0, .ref 71), (1, .long y.2.1)] [] y.1) : Ev M_X12_findWays 3 r τ 20 [(0, .ref 71), (1, .long x.2.1), (3, .int x.2.2)] [] x.1 := by
  unfold b_m_findWays_20 at h
  refine Ev_iload_n 2 (dt_X12_findWays.at 12 rfl) rfl ?_
  refine Ev_aload_n 0 (dt_X12_findWays.at 13 rfl) rfl ?_
  obtain ⟨q5, hq5, h⟩ := oBind h
  refine Ev_callV (st := [.int x.2.2]) (st' := [.int q5, .int x.2.2]) [] (dt_X12_findWays.at 14 rfl) cf_X12_70 (w_m_people x.1  q5 hq5) (by decide) sk_71 rfl rfl rfl (Nat.le_of_ble_eq_true rfl) rfl ?_
  refine Ev_iconst (dt_X12_findWays.at 15 rfl) ki_3 ?_
  refine Ev_idiv (dt_X12_findWays.at 16 rfl) (by decide) ?_
  refine Ev_icmp_ge (tgt := 102) (dt_X12_findWays.at 17 rfl) (by decide) (fun c6 => ?_) (fun c6 => ?_)
  · replace h := oPos h c6
    refine Ev_sub [0, 1] (ls' := [(0, .ref 71), (1, .long x.2.1)]) rfl ?_
    exact he (x.1, x.2.1, x.2.2) (Option.some.inj h).symm
  · replace h := oNeg h c6
    refine Ev_aload_n 0 (dt_X12_findWays.at 18 rfl) rfl ?_
    refine Ev_aload_n 0 (dt_X12_findWays.at 19 rfl) rfl ?_
    refine Ev_get (i := 12) (v := .ref 81) (dt_X12_findWays.at 20 rfl) ff_X12_42 sk_71 rfl rfl ?_
    refine Ev_iload_n 2 (dt_X12_findWays.at 21 rfl) rfl ?_
    obtain ⟨g7, h⟩ := oGuard h
    refine Ev_iaload 81 (dt_X12_findWays.at 22 rfl) sk_81 g7 ?_
    obtain ⟨q8, hq8, h⟩ := oBind h
    refine Ev_callV (st := []) (st' := []) [.int (gI x.1 81 (Int32.toNatClampNeg x.2.2))] (dt_X12_findWays.at 23 rfl) cf_X12_142 (w_m_takeThree x.1 (gI x.1 81 (Int32.toNatClampNeg x.2.2)) q8 hq8) (by decide) sk_71 rfl rfl rfl (Nat.le_of_ble_eq_true rfl) rfl ?_
    refine Ev_lload_n 1 (dt_X12_findWays.at 24 rfl) rfl ?_
    refine Ev_lconst (dt_X12_findWays.at 25 rfl) kl_1 ?_
    refine Ev_aload_n 0 (dt_X12_findWays.at 26 rfl) rfl ?_
    refine Ev_get (i := 6) (v := .ref 76) (dt_X12_findWays.at 27 rfl) ff_X12_27 sk_71 rfl rfl ?_
    refine Ev_iconst (dt_X12_findWays.at 28 rfl) ki_0 ?_
    refine Ev_iaload 76 (dt_X12_findWays.at 29 rfl) sk_76 ib_0_3 ?_
    refine Ev_aload_n 0 (dt_X12_findWays.at 30 rfl) rfl ?_
    refine Ev_get (i := 6) (v := .ref 76) (dt_X12_findWays.at 31 rfl) ff_X12_27 sk_71 rfl rfl ?_
    refine Ev_iconst (dt_X12_findWays.at 32 rfl) ki_1 ?_
    refine Ev_iaload 76 (dt_X12_findWays.at 33 rfl) sk_76 ib_1_3 ?_
    obtain ⟨q9, hq9, h⟩ := oBind h
    refine Ev_callS (st := [.long 1, .long x.2.1]) (st' := [.int q9, .long 1, .long x.2.1]) [.int (gI q8 76 (Int32.toNatClampNeg 0)), .int (gI q8 76 (Int32.toNatClampNeg 1))] (dt_X12_findWays.at 34 rfl) cf_X12_205 (w_m_pair q8 (gI q8 76 (Int32.toNatClampNeg 0)) (gI q8 76 (Int32.toNatClampNeg 1)) q9 hq9) (by decide) rfl rfl (Nat.le_of_ble_eq_true rfl) rfl ?_
    refine Ev_lshl (dt_X12_findWays.at 35 rfl) ?_
    refine Ev_lconst (dt_X12_findWays.at 36 rfl) kl_1 ?_
    refine Ev_aload_n 0 (dt_X12_findWays.at 37 rfl) rfl ?_
    refine Ev_get (i := 6) (v := .ref 76) (dt_X12_findWays.at 38 rfl) ff_X12_27 sk_71 rfl rfl ?_
    refine Ev_iconst (dt_X12_findWays.at 39 rfl) ki_0 ?_
    refine Ev_iaload 76 (dt_X12_findWays.at 40 rfl) sk_76 ib_0_3 ?_
    refine Ev_aload_n 0 (dt_X12_findWays.at 41 rfl) rfl ?_
    refine Ev_get (i := 6) (v := .ref 76) (dt_X12_findWays.at 42 rfl) ff_X12_27 sk_71 rfl rfl ?_
    refine Ev_iconst (dt_X12_findWays.at 43 rfl) ki_2 ?_
    refine Ev_iaload 76 (dt_X12_findWays.at 44 rfl) sk_76 ib_2_3 ?_
    obtain ⟨q10, hq10, h⟩ := oBind h
    refine Ev_callS (st := [.long 1, .long ((1 : Int64) <<< ((Int32.toInt64 q9) &&& 63)), .long x.2.1]) (st' := [.int q10, .long 1, .long ((1 : Int64) <<< ((Int32.toInt64 q9) &&& 63)), .long x.2.1]) [.int (gI q8 76 (Int32.toNatClampNeg 0)), .int (gI q8 76 (Int32.toNatClampNeg 2))] (dt_X12_findWays.at 45 rfl) cf_X12_205 (w_m_pair q8 (gI q8 76 (Int32.toNatClampNeg 0)) (gI q8 76 (Int32.toNatClampNeg 2)) q10 hq10) (by decide) rfl rfl (Nat.le_of_ble_eq_true rfl) rfl ?_
    refine Ev_lshl (dt_X12_findWays.at 46 rfl) ?_
    refine Ev_lor (dt_X12_findWays.at 47 rfl) ?_
    refine Ev_lconst (dt_X12_findWays.at 48 rfl) kl_1 ?_
    refine Ev_aload_n 0 (dt_X12_findWays.at 49 rfl) rfl ?_
    refine Ev_get (i := 6) (v := .ref 76) (dt_X12_findWays.at 50 rfl) ff_X12_27 sk_71 rfl rfl ?_
    refine Ev_iconst (dt_X12_findWays.at 51 rfl) ki_1 ?_
    refine Ev_iaload 76 (dt_X12_findWays.at 52 rfl) sk_76 ib_1_3 ?_
    refine Ev_aload_n 0 (dt_X12_findWays.at 53 rfl) rfl ?_
    refine Ev_get (i := 6) (v := .ref 76) (dt_X12_findWays.at 54 rfl) ff_X12_27 sk_71 rfl rfl ?_
    refine Ev_iconst (dt_X12_findWays.at 55 rfl) ki_2 ?_
    refine Ev_iaload 76 (dt_X12_findWays.at 56 rfl) sk_76 ib_2_3 ?_
    obtain ⟨q11, hq11, h⟩ := oBind h
    refine Ev_callS (st := [.long 1, .long (((1 : Int64) <<< ((Int32.toInt64 q9) &&& 63)) ||| ((1 : Int64) <<< ((Int32.toInt64 q10) &&& 63))), .long x.2.1]) (st' := [.int q11, .long 1, .long (((1 : Int64) <<< ((Int32.toInt64 q9) &&& 63)) ||| ((1 : Int64) <<< ((Int32.toInt64 q10) &&& 63))), .long x.2.1]) [.int (gI q8 76 (Int32.toNatClampNeg 1)), .int (gI q8 76 (Int32.toNatClampNeg 2))] (dt_X12_findWays.at 57 rfl) cf_X12_205 (w_m_pair q8 (gI q8 76 (Int32.toNatClampNeg 1)) (gI q8 76 (Int32.toNatClampNeg 2)) q11 hq11) (by decide) rfl rfl (Nat.le_of_ble_eq_true rfl) rfl ?_
    refine Ev_lshl (dt_X12_findWays.at 58 rfl) ?_
    refine Ev_lor (dt_X12_findWays.at 59 rfl) ?_
    refine Ev_lor (dt_X12_findWays.at 60 rfl) ?_
    refine Ev_nmL (fun x12 ex12 => ?_)
    replace h := oLt h ex12
    refine Ev_lstore_n (dt_X12_findWays.at 61 rfl) (by decide) (ls' := [(1, .long x12), (0, .ref 71), (3, .int x.2.2)]) rfl ?_
    obtain ⟨x13, ex13⟩ : ∃ z : Int32, z = x.2.2 + 1 := ⟨_, rfl⟩
    replace h := oLt h ex13
    refine Ev_iinc (v := x13) 2 (dt_X12_findWays.at 62 rfl) rfl (ex13.trans (congrArg (fun z => x.2.2 + z) ki_1.symm)) (by decide) (ls' := [(3, .int x13), (1, .long x12), (0, .ref 71)]) rfl ?_
    refine Ev_goto (tgt := 20) (dt_X12_findWays.at 63 rfl) (by decide) ?_
    refine Ev_sub [2, 1, 0] (ls' := [(0, .ref 71), (1, .long x12), (3, .int x13)]) rfl ?_
    exact hc (q8, x12, x13) (Option.some.inj h).symm
set_option maxRecDepth 100000 in
set_option maxHeartbeats 4000000 in
theorem wl_m_findWays_20  (r : Option Value) (τ : Sg) (n : Nat) (x : (Sg × Int64 × Int32)) (z : (Sg × Int64 × Int32)) (h : lp (b_m_findWays_20 ) n x = some z) (he : ∀ y : (Sg × Int64 × Int32), z = y → Ev M_X12_findWays 3 r τ 102 [(0, .ref 71), (1, .long y.2.1)] [] y.1) : Ev M_X12_findWays 3 r τ 20 [(0, .ref 71), (1, .long x.2.1), (3, .int x.2.2)] [] x.1 := by
  refine lp_ind (E := fun x : (Sg × Int64 × Int32) => Ev M_X12_findWays 3 r τ 20 [(0, .ref 71), (1, .long x.2.1), (3, .int x.2.2)] [] x.1) (fun x => ⟨fun y hb hy => ?_, fun hb => ?_⟩) n x h
  · exact wb_m_findWays_20  x r τ _ hb (fun y' e => by cases e; exact hy) (fun y' e => by cases e)
  · exact wb_m_findWays_20  x r τ _ hb (fun y' e => by cases e) (fun y' e => he y' (Sum.inr.inj e))
set_option maxRecDepth 100000 in
set_option maxHeartbeats 4000000 in
theorem wb_m_findWays_9  (x : Sg) (r : Option Value) (τ : Sg) (o : (Sg ⊕ Sg)) (h : (b_m_findWays_9  x) = some o) (hc : ∀ y : Sg, o = .inl y → Ev M_X12_findWays 3 r τ 9 [(0, .ref 71)] [] y) (he : ∀ y : Sg, o = .inr y → Ev M_X12_findWays 3 r τ 125 [] [] y) : Ev M_X12_findWays 3 r τ 9 [(0, .ref 71)] [] x := by
  unfold b_m_findWays_9 at h
  refine Ev_aload_n 0 (dt_X12_findWays.at 5 rfl) rfl ?_
  obtain ⟨q3, hq3, h⟩ := oBind h
  refine Ev_callV (st := []) (st' := [.int q3.1]) [] (dt_X12_findWays.at 6 rfl) cf_X12_189 (w_m_nextAll x  q3 hq3) (by decide) sk_71 rfl rfl rfl (Nat.le_of_ble_eq_true rfl) rfl ?_
  refine Ev_if_eq (tgt := 125) (dt_X12_findWays.at 7 rfl) (by decide) (fun c4 => ?_) (fun c4 => ?_)
  · replace h := oPos h c4
    refine Ev_sub [] (ls' := []) rfl ?_
    exact he q3.2 (Option.some.inj h).symm
  · replace h := oNeg h c4
    refine Ev_lconst (dt_X12_findWays.at 8 rfl) kl_0 ?_
    refine Ev_lstore_n (dt_X12_findWays.at 9 rfl) (by decide) (ls' := [(1, .long 0), (0, .ref 71)]) rfl ?_
    refine Ev_iconst (dt_X12_findWays.at 10 rfl) ki_0 ?_
    refine Ev_istore_n (dt_X12_findWays.at 11 rfl) (by decide) (ls' := [(3, .int 0), (1, .long 0), (0, .ref 71)]) rfl ?_
    refine Ev_sub [2, 1, 0] (ls' := [(0, .ref 71), (1, .long 0), (3, .int 0)]) rfl ?_
    obtain ⟨o14, ho14, h⟩ := oBind h
    refine wl_m_findWays_20  _ _ 100000 (q3.2, 0, 0) o14 ho14 (fun y ey => ?_)
    subst ey
    refine Ev_aload_n 0 (dt_X12_findWays.at 64 rfl) rfl ?_
    refine Ev_get (i := 15) (v := .ref 84) (dt_X12_findWays.at 65 rfl) ff_X12_51 sk_71 rfl rfl ?_
    refine Ev_aload_n 0 (dt_X12_findWays.at 66 rfl) rfl ?_
    refine Ev_get (i := 16) (v := .int (gI o14.1 71 16)) (dt_X12_findWays.at 67 rfl) ff_X12_202 sk_71 rfl rfl ?_
    refine Ev_lload_n 1 (dt_X12_findWays.at 68 rfl) rfl ?_
    obtain ⟨g15, h⟩ := oGuard h
    refine Ev_lastore 84 (dt_X12_findWays.at 69 rfl) sk_84 g15 ?_
    refine Ev_nmS (fun s16 es16 => ?_)
    replace h := oLt h es16
    refine Ev_aload_n 0 (dt_X12_findWays.at 70 rfl) rfl ?_
    refine Ev_dup (dt_X12_findWays.at 71 rfl) rfl ?_
    refine Ev_get (i := 16) (v := .int (gI s16 71 16)) (dt_X12_findWays.at 72 rfl) ff_X12_202 sk_71 rfl rfl ?_
    refine Ev_iconst (dt_X12_findWays.at 73 rfl) ki_1 ?_
    refine Ev_iadd (dt_X12_findWays.at 74 rfl) ?_
    refine Ev_putI (dt_X12_findWays.at 75 rfl) ff_X12_202 fw_12_16 sk_71 rfl ?_
    refine Ev_nmS (fun s17 es17 => ?_)
    replace h := oLt h es17
    refine Ev_goto (tgt := 9) (dt_X12_findWays.at 76 rfl) (by decide) ?_
    refine Ev_sub [0] (ls' := [(0, .ref 71)]) rfl ?_
    exact hc s17 (Option.some.inj h).symm
set_option maxRecDepth 100000 in
set_option maxHeartbeats 4000000 in
theorem wl_m_findWays_9  (r : Option Value) (τ : Sg) (n : Nat) (x : Sg) (z : Sg) (h : lp (b_m_findWays_9 ) n x = some z) (he : ∀ y : Sg, z = y → Ev M_X12_findWays 3 r τ 125 [] [] y) : Ev M_X12_findWays 3 r τ 9 [(0, .ref 71)] [] x := by
  refine lp_ind (E := fun x : Sg => Ev M_X12_findWays 3 r τ 9 [(0, .ref 71)] [] x) (fun x => ⟨fun y hb hy => ?_, fun hb => ?_⟩) n x h
  · exact wb_m_findWays_9  x r τ _ hb (fun y' e => by cases e; exact hy) (fun y' e => by cases e)
  · exact wb_m_findWays_9  x r τ _ hb (fun y' e => by cases e) (fun y' e => he y' (Sum.inr.inj e))
set_option maxRecDepth 100000 in
set_option maxHeartbeats 4000000 in
theorem w_m_findWays (σ : Sg)  (q : Sg) (h : s_m_findWays σ  = some q) : Cal M_X12_findWays 3 [.ref 71] σ none q := by
  refine Cal.of (M := M_X12_findWays) (by decide +kernel) (Nat.le_of_ble_eq_true rfl) ?_
  show Ev _ _ _ _ 0 [(0, .ref 71)] [] σ
  unfold s_m_findWays at h
  refine Ev_aload_n 0 (dt_X12_findWays.at 0 rfl) rfl ?_
  refine Ev_iconst (dt_X12_findWays.at 1 rfl) ki_0 ?_
  refine Ev_putI (dt_X12_findWays.at 2 rfl) ff_X12_202 fw_12_16 sk_71 rfl ?_
  refine Ev_nmS (fun s1 es1 => ?_)
  replace h := oLt h es1
  refine Ev_aload_n 0 (dt_X12_findWays.at 3 rfl) rfl ?_
  obtain ⟨q2, hq2, h⟩ := oBind h
  refine Ev_callV (st := []) (st' := []) [] (dt_X12_findWays.at 4 rfl) cf_X12_186 (w_m_noThrees s1  q2 hq2) (by decide) sk_71 rfl rfl rfl (Nat.le_of_ble_eq_true rfl) rfl ?_
  refine Ev_sub [0] (ls' := [(0, .ref 71)]) rfl ?_
  obtain ⟨o18, ho18, h⟩ := oBind h
  refine wl_m_findWays_9  _ _ 100000 q2 o18 ho18 (fun y ey => ?_)
  subst ey
  exact Ev_vret (dt_X12_findWays.at 77 rfl) rfl h
def b_m_last_5 (σ : Sg) (v1 : Int64) (x : (Int64 × Int32)) : Option ((Int64 × Int32) ⊕ (Int64 × Int32)) :=
  if (gI σ 71 16) ≤ x.2 then
    some (.inr (x.1, x.2))
  else
    if inB x.2 280 = true then
      if (lg_cmp (v1 &&& (gL σ 84 (Int32.toNatClampNeg x.2))) 0) = 0 then
        lt ((x.1 + 1) : Int64) fun x6 =>
        lt (x.2 + 1 : Int32) fun x7 =>
        some (.inl (x6, x7))
      else
        lt ((x.1 + 0) : Int64) fun x4 =>
        lt (x.2 + 1 : Int32) fun x5 =>
        some (.inl (x4, x5))
    else none
def s_m_last (σ : Sg) (a1 : Int64) : Option Int64 :=
  (lp (b_m_last_5 σ a1) 100000 (0, 0)).bind fun o8 =>
  some o8.1
set_option maxRecDepth 100000 in
set_option maxHeartbeats 4000000 in
theorem wb_m_last_5 (σ : Sg) (v1 : Int64) (x : (Int64 × Int32)) (r : Option Value) (τ : Sg) (o : ((Int64 × Int32) ⊕ (Int64 × Int32))) (h : (b_m_last_5 σ v1 x) = some o) (hc : ∀ y : (Int64 × Int32), o = .inl y → Ev M_X12_last 0 r τ 5 [(0, .ref 71), (1, .long v1), (3, .long y.1), (5, .int y.2)] [] σ) (he : ∀ y : (Int64 × Int32), o = .inr y → Ev M_X12_last 0 r τ 42 [(3, .long y.1)] [] σ) : Ev M_X12_last 0 r τ 5 [(0, .ref 71), (1, .long v1), (3, .long x.1), (5, .int x.2)] [] σ := by
  unfold b_m_last_5 at h
  refine Ev_iload 3 (dt_X12_last.at 4 rfl) rfl ?_
  refine Ev_aload_n 0 (dt_X12_last.at 5 rfl) rfl ?_
  refine Ev_get (i := 16) (v := .int (gI σ 71 16)) (dt_X12_last.at 6 rfl) ff_X12_202 sk_71 rfl rfl ?_
  refine Ev_icmp_ge (tgt := 42) (dt_X12_last.at 7 rfl) (by decide) (fun c1 => ?_) (fun c1 => ?_)
  · replace h := oPos h c1
    refine Ev_sub [2] (ls' := [(3, .long x.1)]) rfl ?_
    exact he (x.1, x.2) (Option.some.inj h).symm
  · replace h := oNeg h c1
    refine Ev_lload_n 2 (dt_X12_last.at 8 rfl) rfl ?_
    refine Ev_lload_n 1 (dt_X12_last.at 9 rfl) rfl ?_
    refine Ev_aload_n 0 (dt_X12_last.at 10 rfl) rfl ?_
    refine Ev_get (i := 15) (v := .ref 84) (dt_X12_last.at 11 rfl) ff_X12_51 sk_71 rfl rfl ?_
    refine Ev_iload 3 (dt_X12_last.at 12 rfl) rfl ?_
    obtain ⟨g2, h⟩ := oGuard h
    refine Ev_laload 84 (dt_X12_last.at 13 rfl) sk_84 g2 ?_
    refine Ev_land (dt_X12_last.at 14 rfl) ?_
    refine Ev_lconst (dt_X12_last.at 15 rfl) kl_0 ?_
    refine Ev_lcmp (dt_X12_last.at 16 rfl) ?_
    refine Ev_if_ne (tgt := 33) (dt_X12_last.at 17 rfl) (by decide) (fun c3 => ?_) (fun c3 => ?_)
    · replace h := oNeg h c3
      refine Ev_lconst (dt_X12_last.at 20 rfl) kl_0 ?_
      refine Ev_ladd (dt_X12_last.at 21 rfl) ?_
      refine Ev_nmL (fun x4 ex4 => ?_)
      replace h := oLt h ex4
      refine Ev_lstore_n (dt_X12_last.at 22 rfl) (by decide) (ls' := [(3, .long x4), (0, .ref 71), (1, .long v1), (5, .int x.2)]) rfl ?_
      obtain ⟨x5, ex5⟩ : ∃ z : Int32, z = x.2 + 1 := ⟨_, rfl⟩
      replace h := oLt h ex5
      refine Ev_iinc (v := x5) 3 (dt_X12_last.at 23 rfl) rfl (ex5.trans (congrArg (fun z => x.2 + z) ki_1.symm)) (by decide) (ls' := [(5, .int x5), (3, .long x4), (0, .ref 71), (1, .long v1)]) rfl ?_
      refine Ev_goto (tgt := 5) (dt_X12_last.at 24 rfl) (by decide) ?_
      refine Ev_sub [2, 3, 1, 0] (ls' := [(0, .ref 71), (1, .long v1), (3, .long x4), (5, .int x5)]) rfl ?_
      exact hc (x4, x5) (Option.some.inj h).symm
    · replace h := oPos h c3
      refine Ev_lconst (dt_X12_last.at 18 rfl) kl_1 ?_
      refine Ev_goto (tgt := 34) (dt_X12_last.at 19 rfl) (by decide) ?_
      refine Ev_ladd (dt_X12_last.at 21 rfl) ?_
      refine Ev_nmL (fun x6 ex6 => ?_)
      replace h := oLt h ex6
      refine Ev_lstore_n (dt_X12_last.at 22 rfl) (by decide) (ls' := [(3, .long x6), (0, .ref 71), (1, .long v1), (5, .int x.2)]) rfl ?_
      obtain ⟨x7, ex7⟩ : ∃ z : Int32, z = x.2 + 1 := ⟨_, rfl⟩
      replace h := oLt h ex7
      refine Ev_iinc (v := x7) 3 (dt_X12_last.at 23 rfl) rfl (ex7.trans (congrArg (fun z => x.2 + z) ki_1.symm)) (by decide) (ls' := [(5, .int x7), (3, .long x6), (0, .ref 71), (1, .long v1)]) rfl ?_
      refine Ev_goto (tgt := 5) (dt_X12_last.at 24 rfl) (by decide) ?_
      refine Ev_sub [2, 3, 1, 0] (ls' := [(0, .ref 71), (1, .long v1), (3, .long x6), (5, .int x7)]) rfl ?_
      exact hc (x6, x7) (Option.some.inj h).symm
set_option maxRecDepth 100000 in
set_option maxHeartbeats 4000000 in
theorem wl_m_last_5 (σ : Sg) (v1 : Int64) (r : Option Value) (τ : Sg) (n : Nat) (x : (Int64 × Int32)) (z : (Int64 × Int32)) (h : lp (b_m_last_5 σ v1) n x = some z) (he : ∀ y : (Int64 × Int32), z = y → Ev M_X12_last 0 r τ 42 [(3, .long y.1)] [] σ) : Ev M_X12_last 0 r τ 5 [(0, .ref 71), (1, .long v1), (3, .long x.1), (5, .int x.2)] [] σ := by
  refine lp_ind (E := fun x : (Int64 × Int32) => Ev M_X12_last 0 r τ 5 [(0, .ref 71), (1, .long v1), (3, .long x.1), (5, .int x.2)] [] σ) (fun x => ⟨fun y hb hy => ?_, fun hb => ?_⟩) n x h
  · exact wb_m_last_5 σ v1 x r τ _ hb (fun y' e => by cases e; exact hy) (fun y' e => by cases e)
  · exact wb_m_last_5 σ v1 x r τ _ hb (fun y' e => by cases e) (fun y' e => he y' (Sum.inr.inj e))
set_option maxRecDepth 100000 in
set_option maxHeartbeats 4000000 in
theorem w_m_last (σ : Sg) (a1 : Int64) (q : Int64) (h : s_m_last σ a1 = some q) : Cal M_X12_last 0 [.ref 71, .long a1] σ (some (.long q)) σ := by
  refine Cal.of (M := M_X12_last) (by decide +kernel) (Nat.le_of_ble_eq_true rfl) ?_
  show Ev _ _ _ _ 0 [(0, .ref 71), (1, .long a1)] [] σ
  unfold s_m_last at h
  refine Ev_lconst (dt_X12_last.at 0 rfl) kl_0 ?_
  refine Ev_lstore_n (dt_X12_last.at 1 rfl) (by decide) (ls' := [(3, .long 0), (0, .ref 71), (1, .long a1)]) rfl ?_
  refine Ev_iconst (dt_X12_last.at 2 rfl) ki_0 ?_
  refine Ev_istore (dt_X12_last.at 3 rfl) (by decide) (ls' := [(5, .int 0), (3, .long 0), (0, .ref 71), (1, .long a1)]) rfl ?_
  refine Ev_sub [2, 3, 1, 0] (ls' := [(0, .ref 71), (1, .long a1), (3, .long 0), (5, .int 0)]) rfl ?_
  obtain ⟨o8, ho8, h⟩ := oBind h
  refine wl_m_last_5 σ a1 _ _ 100000 (0, 0) o8 ho8 (fun y ey => ?_)
  subst ey
  refine Ev_lload_n 0 (dt_X12_last.at 25 rfl) rfl ?_
  exact Ev_lret (dt_X12_last.at 26 rfl) rfl (oRet h)
def b_m_more_6 (σ : Sg) (v1 : Int64) (v3 : Int32) (x : (Int64 × Int32)) : Option ((Int64 × Int32) ⊕ (Int64 × Int32)) :=
  if (gI σ 71 16) ≤ x.2 then
    some (.inr (x.1, x.2))
  else
    if inB x.2 280 = true then
      if (lg_cmp (v1 &&& (gL σ 84 (Int32.toNatClampNeg x.2))) 0) = 0 then
        if v3 = 1 then
          lt ((x.1 + 1) : Int64) fun x10 =>
          lt (x.2 + 1 : Int32) fun x11 =>
          some (.inl (x10, x11))
        else
          if inB x.2 280 = true then
            (s_m_last σ (v1 ||| (gL σ 84 (Int32.toNatClampNeg x.2)))).bind fun q7 =>
            lt ((x.1 + q7) : Int64) fun x8 =>
            lt (x.2 + 1 : Int32) fun x9 =>
            some (.inl (x8, x9))
          else none
      else
        lt (x.2 + 1 : Int32) fun x4 =>
        some (.inl (x.1, x4))
    else none
def s_m_more (σ : Sg) (a1 : Int64) (a3 : Int32) : Option Int64 :=
  (lp (b_m_more_6 σ a1 a3) 100000 (0, 0)).bind fun o12 =>
  some o12.1
set_option maxRecDepth 100000 in
set_option maxHeartbeats 4000000 in
theorem wb_m_more_6 (σ : Sg) (v1 : Int64) (v3 : Int32) (x : (Int64 × Int32)) (r : Option Value) (τ : Sg) (o : ((Int64 × Int32) ⊕ (Int64 × Int32))) (h : (b_m_more_6 σ v1 v3 x) = some o) (hc : ∀ y : (Int64 × Int32), o = .inl y → Ev M_X12_more 1 r τ 6 [(0, .ref 71), (1, .long v1), (3, .int v3), (4, .long y.1), (6, .int y.2)] [] σ) (he : ∀ y : (Int64 × Int32), o = .inr y → Ev M_X12_more 1 r τ 62 [(4, .long y.1)] [] σ) : Ev M_X12_more 1 r τ 6 [(0, .ref 71), (1, .long v1), (3, .int v3), (4, .long x.1), (6, .int x.2)] [] σ := by
  unfold b_m_more_6 at h
  refine Ev_iload 4 (dt_X12_more.at 4 rfl) rfl ?_
  refine Ev_aload_n 0 (dt_X12_more.at 5 rfl) rfl ?_
  refine Ev_get (i := 16) (v := .int (gI σ 71 16)) (dt_X12_more.at 6 rfl) ff_X12_202 sk_71 rfl rfl ?_
  refine Ev_icmp_ge (tgt := 62) (dt_X12_more.at 7 rfl) (by decide) (fun c1 => ?_) (fun c1 => ?_)
  · replace h := oPos h c1
    refine Ev_sub [3] (ls' := [(4, .long x.1)]) rfl ?_
    exact he (x.1, x.2) (Option.some.inj h).symm
  · replace h := oNeg h c1
    refine Ev_lload_n 1 (dt_X12_more.at 8 rfl) rfl ?_
    refine Ev_aload_n 0 (dt_X12_more.at 9 rfl) rfl ?_
    refine Ev_get (i := 15) (v := .ref 84) (dt_X12_more.at 10 rfl) ff_X12_51 sk_71 rfl rfl ?_
    refine Ev_iload 4 (dt_X12_more.at 11 rfl) rfl ?_
    obtain ⟨g2, h⟩ := oGuard h
    refine Ev_laload 84 (dt_X12_more.at 12 rfl) sk_84 g2 ?_
    refine Ev_land (dt_X12_more.at 13 rfl) ?_
    refine Ev_lconst (dt_X12_more.at 14 rfl) kl_0 ?_
    refine Ev_lcmp (dt_X12_more.at 15 rfl) ?_
    refine Ev_if_ne (tgt := 56) (dt_X12_more.at 16 rfl) (by decide) (fun c3 => ?_) (fun c3 => ?_)
    · replace h := oNeg h c3
      obtain ⟨x4, ex4⟩ : ∃ z : Int32, z = x.2 + 1 := ⟨_, rfl⟩
      replace h := oLt h ex4
      refine Ev_iinc (v := x4) 4 (dt_X12_more.at 33 rfl) rfl (ex4.trans (congrArg (fun z => x.2 + z) ki_1.symm)) (by decide) (ls' := [(6, .int x4), (0, .ref 71), (1, .long v1), (3, .int v3), (4, .long x.1)]) rfl ?_
      refine Ev_goto (tgt := 6) (dt_X12_more.at 34 rfl) (by decide) ?_
      refine Ev_sub [1, 2, 3, 4, 0] (ls' := [(0, .ref 71), (1, .long v1), (3, .int v3), (4, .long x.1), (6, .int x4)]) rfl ?_
      exact hc (x.1, x4) (Option.some.inj h).symm
    · replace h := oPos h c3
      refine Ev_lload 3 (dt_X12_more.at 17 rfl) rfl ?_
      refine Ev_iload_n 2 (dt_X12_more.at 18 rfl) rfl ?_
      refine Ev_iconst (dt_X12_more.at 19 rfl) ki_1 ?_
      refine Ev_icmp_ne (tgt := 40) (dt_X12_more.at 20 rfl) (by decide) (fun c5 => ?_) (fun c5 => ?_)
      · replace h := oNeg h c5
        refine Ev_aload_n 0 (dt_X12_more.at 23 rfl) rfl ?_
        refine Ev_lload_n 1 (dt_X12_more.at 24 rfl) rfl ?_
        refine Ev_aload_n 0 (dt_X12_more.at 25 rfl) rfl ?_
        refine Ev_get (i := 15) (v := .ref 84) (dt_X12_more.at 26 rfl) ff_X12_51 sk_71 rfl rfl ?_
        refine Ev_iload 4 (dt_X12_more.at 27 rfl) rfl ?_
        obtain ⟨g6, h⟩ := oGuard h
        refine Ev_laload 84 (dt_X12_more.at 28 rfl) sk_84 g6 ?_
        refine Ev_lor (dt_X12_more.at 29 rfl) ?_
        obtain ⟨q7, hq7, h⟩ := oBind h
        refine Ev_callV (st := [.long x.1]) (st' := [.long q7, .long x.1]) [.long (v1 ||| (gL σ 84 (Int32.toNatClampNeg x.2)))] (dt_X12_more.at 30 rfl) cf_X12_215 (w_m_last σ (v1 ||| (gL σ 84 (Int32.toNatClampNeg x.2))) q7 hq7) (by decide) sk_71 rfl rfl rfl (Nat.le_of_ble_eq_true rfl) rfl ?_
        refine Ev_ladd (dt_X12_more.at 31 rfl) ?_
        refine Ev_nmL (fun x8 ex8 => ?_)
        replace h := oLt h ex8
        refine Ev_lstore (dt_X12_more.at 32 rfl) (by decide) (ls' := [(4, .long x8), (0, .ref 71), (1, .long v1), (3, .int v3), (6, .int x.2)]) rfl ?_
        obtain ⟨x9, ex9⟩ : ∃ z : Int32, z = x.2 + 1 := ⟨_, rfl⟩
        replace h := oLt h ex9
        refine Ev_iinc (v := x9) 4 (dt_X12_more.at 33 rfl) rfl (ex9.trans (congrArg (fun z => x.2 + z) ki_1.symm)) (by decide) (ls' := [(6, .int x9), (4, .long x8), (0, .ref 71), (1, .long v1), (3, .int v3)]) rfl ?_
        refine Ev_goto (tgt := 6) (dt_X12_more.at 34 rfl) (by decide) ?_
        refine Ev_sub [2, 3, 4, 1, 0] (ls' := [(0, .ref 71), (1, .long v1), (3, .int v3), (4, .long x8), (6, .int x9)]) rfl ?_
        exact hc (x8, x9) (Option.some.inj h).symm
      · replace h := oPos h c5
        refine Ev_lconst (dt_X12_more.at 21 rfl) kl_1 ?_
        refine Ev_goto (tgt := 53) (dt_X12_more.at 22 rfl) (by decide) ?_
        refine Ev_ladd (dt_X12_more.at 31 rfl) ?_
        refine Ev_nmL (fun x10 ex10 => ?_)
        replace h := oLt h ex10
        refine Ev_lstore (dt_X12_more.at 32 rfl) (by decide) (ls' := [(4, .long x10), (0, .ref 71), (1, .long v1), (3, .int v3), (6, .int x.2)]) rfl ?_
        obtain ⟨x11, ex11⟩ : ∃ z : Int32, z = x.2 + 1 := ⟨_, rfl⟩
        replace h := oLt h ex11
        refine Ev_iinc (v := x11) 4 (dt_X12_more.at 33 rfl) rfl (ex11.trans (congrArg (fun z => x.2 + z) ki_1.symm)) (by decide) (ls' := [(6, .int x11), (4, .long x10), (0, .ref 71), (1, .long v1), (3, .int v3)]) rfl ?_
        refine Ev_goto (tgt := 6) (dt_X12_more.at 34 rfl) (by decide) ?_
        refine Ev_sub [2, 3, 4, 1, 0] (ls' := [(0, .ref 71), (1, .long v1), (3, .int v3), (4, .long x10), (6, .int x11)]) rfl ?_
        exact hc (x10, x11) (Option.some.inj h).symm
set_option maxRecDepth 100000 in
set_option maxHeartbeats 4000000 in
theorem wl_m_more_6 (σ : Sg) (v1 : Int64) (v3 : Int32) (r : Option Value) (τ : Sg) (n : Nat) (x : (Int64 × Int32)) (z : (Int64 × Int32)) (h : lp (b_m_more_6 σ v1 v3) n x = some z) (he : ∀ y : (Int64 × Int32), z = y → Ev M_X12_more 1 r τ 62 [(4, .long y.1)] [] σ) : Ev M_X12_more 1 r τ 6 [(0, .ref 71), (1, .long v1), (3, .int v3), (4, .long x.1), (6, .int x.2)] [] σ := by
  refine lp_ind (E := fun x : (Int64 × Int32) => Ev M_X12_more 1 r τ 6 [(0, .ref 71), (1, .long v1), (3, .int v3), (4, .long x.1), (6, .int x.2)] [] σ) (fun x => ⟨fun y hb hy => ?_, fun hb => ?_⟩) n x h
  · exact wb_m_more_6 σ v1 v3 x r τ _ hb (fun y' e => by cases e; exact hy) (fun y' e => by cases e)
  · exact wb_m_more_6 σ v1 v3 x r τ _ hb (fun y' e => by cases e) (fun y' e => he y' (Sum.inr.inj e))
set_option maxRecDepth 100000 in
set_option maxHeartbeats 4000000 in
theorem w_m_more (σ : Sg) (a1 : Int64) (a3 : Int32) (q : Int64) (h : s_m_more σ a1 a3 = some q) : Cal M_X12_more 1 [.ref 71, .long a1, .int a3] σ (some (.long q)) σ := by
  refine Cal.of (M := M_X12_more) (by decide +kernel) (Nat.le_of_ble_eq_true rfl) ?_
  show Ev _ _ _ _ 0 [(0, .ref 71), (1, .long a1), (3, .int a3)] [] σ
  unfold s_m_more at h
  refine Ev_lconst (dt_X12_more.at 0 rfl) kl_0 ?_
  refine Ev_lstore (dt_X12_more.at 1 rfl) (by decide) (ls' := [(4, .long 0), (0, .ref 71), (1, .long a1), (3, .int a3)]) rfl ?_
  refine Ev_iconst (dt_X12_more.at 2 rfl) ki_0 ?_
  refine Ev_istore (dt_X12_more.at 3 rfl) (by decide) (ls' := [(6, .int 0), (4, .long 0), (0, .ref 71), (1, .long a1), (3, .int a3)]) rfl ?_
  refine Ev_sub [2, 3, 4, 1, 0] (ls' := [(0, .ref 71), (1, .long a1), (3, .int a3), (4, .long 0), (6, .int 0)]) rfl ?_
  obtain ⟨o12, ho12, h⟩ := oBind h
  refine wl_m_more_6 σ a1 a3 _ _ 100000 (0, 0) o12 ho12 (fun y ey => ?_)
  subst ey
  refine Ev_lload 0 (dt_X12_more.at 35 rfl) rfl ?_
  exact Ev_lret (dt_X12_more.at 36 rfl) rfl (oRet h)
def b_m_rows_67 (σ : Sg) (v1 : Int32) (v4 : Int32) (x : (Int64 × Int32)) : Option ((Int64 × Int32) ⊕ (Int64 × Int32)) :=
  if (gI σ 71 16) ≤ x.2 then
    some (.inr (x.1, x.2))
  else
    if inB v4 280 = true then
      if inB x.2 280 = true then
        if (lg_cmp ((gL σ 84 (Int32.toNatClampNeg v4)) &&& (gL σ 84 (Int32.toNatClampNeg x.2))) 0) = 0 then
          if v1 = 2 then
            lt ((x.1 + 1) : Int64) fun x19 =>
            lt (x.2 + 1 : Int32) fun x20 =>
            some (.inl (x19, x20))
          else
            if inB v4 280 = true then
              if inB x.2 280 = true then
                (s_m_more σ ((gL σ 84 (Int32.toNatClampNeg v4)) ||| (gL σ 84 (Int32.toNatClampNeg x.2))) (v1 - 2)).bind fun q16 =>
                lt ((x.1 + q16) : Int64) fun x17 =>
                lt (x.2 + 1 : Int32) fun x18 =>
                some (.inl (x17, x18))
              else none
            else none
        else
          lt (x.2 + 1 : Int32) fun x12 =>
          some (.inl (x.1, x12))
      else none
    else none
def b_m_rows_55 (σ : Sg) (v1 : Int32) (x : (Int64 × Int32)) : Option ((Int64 × Int32) ⊕ (Int64 × Int32)) :=
  if (gI σ 71 16) ≤ x.2 then
    some (.inr (x.1, x.2))
  else
    (lp (b_m_rows_67 σ v1 x.2) 100000 (x.1, 0)).bind fun o21 =>
    lt (x.2 + 1 : Int32) fun x22 =>
    some (.inl (o21.1, x22))
def s_m_rows (σ : Sg) (a1 : Int32) : Option (Int64 × Sg) :=
  (s_m_in (Int32.toInt64 a1) 1 4).bind fun q1 =>
  if q1 = 0 then
    (s_m_bad σ (-2)).bind fun q25 =>
    some ((Int32.toInt64 q25.1), q25.2)
  else
    (s_m_areThrees σ ).bind fun q3 =>
    if q3 = 0 then
      (s_m_no σ (-3)).bind fun q24 =>
      some ((Int32.toInt64 q24.1), q24.2)
    else
      (s_m_findWays σ ).bind fun q5 =>
      if a1 = 1 then
        some ((Int32.toInt64 (gI q5 71 16)), q5)
      else
        (lp (b_m_rows_55 q5 a1) 100000 (0, 0)).bind fun o23 =>
        some (o23.1, q5)
set_option maxRecDepth 100000 in
set_option maxHeartbeats 4000000 in
theorem wb_m_rows_67 (σ : Sg) (v1 : Int32) (v4 : Int32) (x : (Int64 × Int32)) (r : Option Value) (τ : Sg) (o : ((Int64 × Int32) ⊕ (Int64 × Int32))) (h : (b_m_rows_67 σ v1 v4 x) = some o) (hc : ∀ y : (Int64 × Int32), o = .inl y → Ev M_X12_rows 4 r τ 67 [(0, .ref 71), (1, .int v1), (2, .long y.1), (4, .int v4), (5, .int y.2)] [] σ) (he : ∀ y : (Int64 × Int32), o = .inr y → Ev M_X12_rows 4 r τ 136 [(0, .ref 71), (1, .int v1), (2, .long y.1), (4, .int v4)] [] σ) : Ev M_X12_rows 4 r τ 67 [(0, .ref 71), (1, .int v1), (2, .long x.1), (4, .int v4), (5, .int x.2)] [] σ := by
  unfold b_m_rows_67 at h
  refine Ev_iload 4 (dt_X12_rows.at 38 rfl) rfl ?_
  refine Ev_aload_n 0 (dt_X12_rows.at 39 rfl) rfl ?_
  refine Ev_get (i := 16) (v := .int (gI σ 71 16)) (dt_X12_rows.at 40 rfl) ff_X12_202 sk_71 rfl rfl ?_
  refine Ev_icmp_ge (tgt := 136) (dt_X12_rows.at 41 rfl) (by decide) (fun c8 => ?_) (fun c8 => ?_)
  · replace h := oPos h c8
    refine Ev_sub [0, 1, 2, 3] (ls' := [(0, .ref 71), (1, .int v1), (2, .long x.1), (4, .int v4)]) rfl ?_
    exact he (x.1, x.2) (Option.some.inj h).symm
  · replace h := oNeg h c8
    refine Ev_aload_n 0 (dt_X12_rows.at 42 rfl) rfl ?_
    refine Ev_get (i := 15) (v := .ref 84) (dt_X12_rows.at 43 rfl) ff_X12_51 sk_71 rfl rfl ?_
    refine Ev_iload 3 (dt_X12_rows.at 44 rfl) rfl ?_
    obtain ⟨g9, h⟩ := oGuard h
    refine Ev_laload 84 (dt_X12_rows.at 45 rfl) sk_84 g9 ?_
    refine Ev_aload_n 0 (dt_X12_rows.at 46 rfl) rfl ?_
    refine Ev_get (i := 15) (v := .ref 84) (dt_X12_rows.at 47 rfl) ff_X12_51 sk_71 rfl rfl ?_
    refine Ev_iload 4 (dt_X12_rows.at 48 rfl) rfl ?_
    obtain ⟨g10, h⟩ := oGuard h
    refine Ev_laload 84 (dt_X12_rows.at 49 rfl) sk_84 g10 ?_
    refine Ev_land (dt_X12_rows.at 50 rfl) ?_
    refine Ev_lconst (dt_X12_rows.at 51 rfl) kl_0 ?_
    refine Ev_lcmp (dt_X12_rows.at 52 rfl) ?_
    refine Ev_if_ne (tgt := 130) (dt_X12_rows.at 53 rfl) (by decide) (fun c11 => ?_) (fun c11 => ?_)
    · replace h := oNeg h c11
      obtain ⟨x12, ex12⟩ : ∃ z : Int32, z = x.2 + 1 := ⟨_, rfl⟩
      replace h := oLt h ex12
      refine Ev_iinc (v := x12) 4 (dt_X12_rows.at 76 rfl) rfl (ex12.trans (congrArg (fun z => x.2 + z) ki_1.symm)) (by decide) (ls' := [(5, .int x12), (0, .ref 71), (1, .int v1), (2, .long x.1), (4, .int v4)]) rfl ?_
      refine Ev_goto (tgt := 67) (dt_X12_rows.at 77 rfl) (by decide) ?_
      refine Ev_sub [1, 2, 3, 4, 0] (ls' := [(0, .ref 71), (1, .int v1), (2, .long x.1), (4, .int v4), (5, .int x12)]) rfl ?_
      exact hc (x.1, x12) (Option.some.inj h).symm
    · replace h := oPos h c11
      refine Ev_lload_n 2 (dt_X12_rows.at 54 rfl) rfl ?_
      refine Ev_iload_n 1 (dt_X12_rows.at 55 rfl) rfl ?_
      refine Ev_iconst (dt_X12_rows.at 56 rfl) ki_2 ?_
      refine Ev_icmp_ne (tgt := 106) (dt_X12_rows.at 57 rfl) (by decide) (fun c13 => ?_) (fun c13 => ?_)
      · replace h := oNeg h c13
        refine Ev_aload_n 0 (dt_X12_rows.at 60 rfl) rfl ?_
        refine Ev_aload_n 0 (dt_X12_rows.at 61 rfl) rfl ?_
        refine Ev_get (i := 15) (v := .ref 84) (dt_X12_rows.at 62 rfl) ff_X12_51 sk_71 rfl rfl ?_
        refine Ev_iload 3 (dt_X12_rows.at 63 rfl) rfl ?_
        obtain ⟨g14, h⟩ := oGuard h
        refine Ev_laload 84 (dt_X12_rows.at 64 rfl) sk_84 g14 ?_
        refine Ev_aload_n 0 (dt_X12_rows.at 65 rfl) rfl ?_
        refine Ev_get (i := 15) (v := .ref 84) (dt_X12_rows.at 66 rfl) ff_X12_51 sk_71 rfl rfl ?_
        refine Ev_iload 4 (dt_X12_rows.at 67 rfl) rfl ?_
        obtain ⟨g15, h⟩ := oGuard h
        refine Ev_laload 84 (dt_X12_rows.at 68 rfl) sk_84 g15 ?_
        refine Ev_lor (dt_X12_rows.at 69 rfl) ?_
        refine Ev_iload_n 1 (dt_X12_rows.at 70 rfl) rfl ?_
        refine Ev_iconst (dt_X12_rows.at 71 rfl) ki_2 ?_
        refine Ev_isub (dt_X12_rows.at 72 rfl) ?_
        obtain ⟨q16, hq16, h⟩ := oBind h
        refine Ev_callV (st := [.long x.1]) (st' := [.long q16, .long x.1]) [.long ((gL σ 84 (Int32.toNatClampNeg v4)) ||| (gL σ 84 (Int32.toNatClampNeg x.2))), .int (v1 - 2)] (dt_X12_rows.at 73 rfl) cf_X12_211 (w_m_more σ ((gL σ 84 (Int32.toNatClampNeg v4)) ||| (gL σ 84 (Int32.toNatClampNeg x.2))) (v1 - 2) q16 hq16) (by decide) sk_71 rfl rfl rfl (Nat.le_of_ble_eq_true rfl) rfl ?_
        refine Ev_ladd (dt_X12_rows.at 74 rfl) ?_
        refine Ev_nmL (fun x17 ex17 => ?_)
        replace h := oLt h ex17
        refine Ev_lstore_n (dt_X12_rows.at 75 rfl) (by decide) (ls' := [(2, .long x17), (0, .ref 71), (1, .int v1), (4, .int v4), (5, .int x.2)]) rfl ?_
        obtain ⟨x18, ex18⟩ : ∃ z : Int32, z = x.2 + 1 := ⟨_, rfl⟩
        replace h := oLt h ex18
        refine Ev_iinc (v := x18) 4 (dt_X12_rows.at 76 rfl) rfl (ex18.trans (congrArg (fun z => x.2 + z) ki_1.symm)) (by decide) (ls' := [(5, .int x18), (2, .long x17), (0, .ref 71), (1, .int v1), (4, .int v4)]) rfl ?_
        refine Ev_goto (tgt := 67) (dt_X12_rows.at 77 rfl) (by decide) ?_
        refine Ev_sub [2, 3, 1, 4, 0] (ls' := [(0, .ref 71), (1, .int v1), (2, .long x17), (4, .int v4), (5, .int x18)]) rfl ?_
        exact hc (x17, x18) (Option.some.inj h).symm
      · replace h := oPos h c13
        refine Ev_lconst (dt_X12_rows.at 58 rfl) kl_1 ?_
        refine Ev_goto (tgt := 128) (dt_X12_rows.at 59 rfl) (by decide) ?_
        refine Ev_ladd (dt_X12_rows.at 74 rfl) ?_
        refine Ev_nmL (fun x19 ex19 => ?_)
        replace h := oLt h ex19
        refine Ev_lstore_n (dt_X12_rows.at 75 rfl) (by decide) (ls' := [(2, .long x19), (0, .ref 71), (1, .int v1), (4, .int v4), (5, .int x.2)]) rfl ?_
        obtain ⟨x20, ex20⟩ : ∃ z : Int32, z = x.2 + 1 := ⟨_, rfl⟩
        replace h := oLt h ex20
        refine Ev_iinc (v := x20) 4 (dt_X12_rows.at 76 rfl) rfl (ex20.trans (congrArg (fun z => x.2 + z) ki_1.symm)) (by decide) (ls' := [(5, .int x20), (2, .long x19), (0, .ref 71), (1, .int v1), (4, .int v4)]) rfl ?_
        refine Ev_goto (tgt := 67) (dt_X12_rows.at 77 rfl) (by decide) ?_
        refine Ev_sub [2, 3, 1, 4, 0] (ls' := [(0, .ref 71), (1, .int v1), (2, .long x19), (4, .int v4), (5, .int x20)]) rfl ?_
        exact hc (x19, x20) (Option.some.inj h).symm
set_option maxRecDepth 100000 in
set_option maxHeartbeats 4000000 in
theorem wl_m_rows_67 (σ : Sg) (v1 : Int32) (v4 : Int32) (r : Option Value) (τ : Sg) (n : Nat) (x : (Int64 × Int32)) (z : (Int64 × Int32)) (h : lp (b_m_rows_67 σ v1 v4) n x = some z) (he : ∀ y : (Int64 × Int32), z = y → Ev M_X12_rows 4 r τ 136 [(0, .ref 71), (1, .int v1), (2, .long y.1), (4, .int v4)] [] σ) : Ev M_X12_rows 4 r τ 67 [(0, .ref 71), (1, .int v1), (2, .long x.1), (4, .int v4), (5, .int x.2)] [] σ := by
  refine lp_ind (E := fun x : (Int64 × Int32) => Ev M_X12_rows 4 r τ 67 [(0, .ref 71), (1, .int v1), (2, .long x.1), (4, .int v4), (5, .int x.2)] [] σ) (fun x => ⟨fun y hb hy => ?_, fun hb => ?_⟩) n x h
  · exact wb_m_rows_67 σ v1 v4 x r τ _ hb (fun y' e => by cases e; exact hy) (fun y' e => by cases e)
  · exact wb_m_rows_67 σ v1 v4 x r τ _ hb (fun y' e => by cases e) (fun y' e => he y' (Sum.inr.inj e))
set_option maxRecDepth 100000 in
set_option maxHeartbeats 4000000 in
theorem wb_m_rows_55 (σ : Sg) (v1 : Int32) (x : (Int64 × Int32)) (r : Option Value) (τ : Sg) (o : ((Int64 × Int32) ⊕ (Int64 × Int32))) (h : (b_m_rows_55 σ v1 x) = some o) (hc : ∀ y : (Int64 × Int32), o = .inl y → Ev M_X12_rows 4 r τ 55 [(0, .ref 71), (1, .int v1), (2, .long y.1), (4, .int y.2)] [] σ) (he : ∀ y : (Int64 × Int32), o = .inr y → Ev M_X12_rows 4 r τ 142 [(2, .long y.1)] [] σ) : Ev M_X12_rows 4 r τ 55 [(0, .ref 71), (1, .int v1), (2, .long x.1), (4, .int x.2)] [] σ := by
  unfold b_m_rows_55 at h
  refine Ev_iload 3 (dt_X12_rows.at 32 rfl) rfl ?_
  refine Ev_aload_n 0 (dt_X12_rows.at 33 rfl) rfl ?_
  refine Ev_get (i := 16) (v := .int (gI σ 71 16)) (dt_X12_rows.at 34 rfl) ff_X12_202 sk_71 rfl rfl ?_
  refine Ev_icmp_ge (tgt := 142) (dt_X12_rows.at 35 rfl) (by decide) (fun c7 => ?_) (fun c7 => ?_)
  · replace h := oPos h c7
    refine Ev_sub [2] (ls' := [(2, .long x.1)]) rfl ?_
    exact he (x.1, x.2) (Option.some.inj h).symm
  · replace h := oNeg h c7
    refine Ev_iconst (dt_X12_rows.at 36 rfl) ki_0 ?_
    refine Ev_istore (dt_X12_rows.at 37 rfl) (by decide) (ls' := [(5, .int 0), (0, .ref 71), (1, .int v1), (2, .long x.1), (4, .int x.2)]) rfl ?_
    refine Ev_sub [1, 2, 3, 4, 0] (ls' := [(0, .ref 71), (1, .int v1), (2, .long x.1), (4, .int x.2), (5, .int 0)]) rfl ?_
    obtain ⟨o21, ho21, h⟩ := oBind h
    refine wl_m_rows_67 σ v1 x.2 _ _ 100000 (x.1, 0) o21 ho21 (fun y ey => ?_)
    subst ey
    obtain ⟨x22, ex22⟩ : ∃ z : Int32, z = x.2 + 1 := ⟨_, rfl⟩
    replace h := oLt h ex22
    refine Ev_iinc (v := x22) 3 (dt_X12_rows.at 78 rfl) rfl (ex22.trans (congrArg (fun z => x.2 + z) ki_1.symm)) (by decide) (ls' := [(4, .int x22), (0, .ref 71), (1, .int v1), (2, .long o21.1)]) rfl ?_
    refine Ev_goto (tgt := 55) (dt_X12_rows.at 79 rfl) (by decide) ?_
    refine Ev_sub [1, 2, 3, 0] (ls' := [(0, .ref 71), (1, .int v1), (2, .long o21.1), (4, .int x22)]) rfl ?_
    exact hc (o21.1, x22) (Option.some.inj h).symm
set_option maxRecDepth 100000 in
set_option maxHeartbeats 4000000 in
theorem wl_m_rows_55 (σ : Sg) (v1 : Int32) (r : Option Value) (τ : Sg) (n : Nat) (x : (Int64 × Int32)) (z : (Int64 × Int32)) (h : lp (b_m_rows_55 σ v1) n x = some z) (he : ∀ y : (Int64 × Int32), z = y → Ev M_X12_rows 4 r τ 142 [(2, .long y.1)] [] σ) : Ev M_X12_rows 4 r τ 55 [(0, .ref 71), (1, .int v1), (2, .long x.1), (4, .int x.2)] [] σ := by
  refine lp_ind (E := fun x : (Int64 × Int32) => Ev M_X12_rows 4 r τ 55 [(0, .ref 71), (1, .int v1), (2, .long x.1), (4, .int x.2)] [] σ) (fun x => ⟨fun y hb hy => ?_, fun hb => ?_⟩) n x h
  · exact wb_m_rows_55 σ v1 x r τ _ hb (fun y' e => by cases e; exact hy) (fun y' e => by cases e)
  · exact wb_m_rows_55 σ v1 x r τ _ hb (fun y' e => by cases e) (fun y' e => he y' (Sum.inr.inj e))
set_option maxRecDepth 100000 in
set_option maxHeartbeats 4000000 in
theorem w_m_rows (σ : Sg) (a1 : Int32) (q : (Int64 × Sg)) (h : s_m_rows σ a1 = some q) : Cal M_X12_rows 4 [.ref 71, .int a1] σ (some (.long q.1)) q.2 := by
  refine Cal.of (M := M_X12_rows) (by decide +kernel) (Nat.le_of_ble_eq_true rfl) ?_
  show Ev _ _ _ _ 0 [(0, .ref 71), (1, .int a1)] [] σ
  unfold s_m_rows at h
  refine Ev_iload_n 1 (dt_X12_rows.at 0 rfl) rfl ?_
  refine Ev_i2l (dt_X12_rows.at 1 rfl) ?_
  refine Ev_lconst (dt_X12_rows.at 2 rfl) kl_1 ?_
  refine Ev_ldc2 (dt_X12_rows.at 3 rfl) cl_X12_94 ?_
  obtain ⟨q1, hq1, h⟩ := oBind h
  refine Ev_callS (st := []) (st' := [.int q1]) [.long (Int32.toInt64 a1), .long 1, .long 4] (dt_X12_rows.at 4 rfl) cf_X12_74 (w_m_in σ (Int32.toInt64 a1) 1 4 q1 hq1) (by decide) rfl rfl (Nat.le_of_ble_eq_true rfl) rfl ?_
  refine Ev_if_ne (tgt := 20) (dt_X12_rows.at 5 rfl) (by decide) (fun c2 => ?_) (fun c2 => ?_)
  · replace h := oNeg h c2
    refine Ev_aload_n 0 (dt_X12_rows.at 11 rfl) rfl ?_
    obtain ⟨q3, hq3, h⟩ := oBind h
    refine Ev_callV (st := []) (st' := [.int q3]) [] (dt_X12_rows.at 12 rfl) cf_X12_183 (w_m_areThrees σ  q3 hq3) (by decide) sk_71 rfl rfl rfl (Nat.le_of_ble_eq_true rfl) rfl ?_
    refine Ev_if_ne (tgt := 35) (dt_X12_rows.at 13 rfl) (by decide) (fun c4 => ?_) (fun c4 => ?_)
    · replace h := oNeg h c4
      refine Ev_aload_n 0 (dt_X12_rows.at 19 rfl) rfl ?_
      obtain ⟨q5, hq5, h⟩ := oBind h
      refine Ev_callV (st := []) (st' := []) [] (dt_X12_rows.at 20 rfl) cf_X12_208 (w_m_findWays σ  q5 hq5) (by decide) sk_71 rfl rfl rfl (Nat.le_of_ble_eq_true rfl) rfl ?_
      refine Ev_iload_n 1 (dt_X12_rows.at 21 rfl) rfl ?_
      refine Ev_iconst (dt_X12_rows.at 22 rfl) ki_1 ?_
      refine Ev_icmp_ne (tgt := 50) (dt_X12_rows.at 23 rfl) (by decide) (fun c6 => ?_) (fun c6 => ?_)
      · replace h := oNeg h c6
        refine Ev_lconst (dt_X12_rows.at 28 rfl) kl_0 ?_
        refine Ev_lstore_n (dt_X12_rows.at 29 rfl) (by decide) (ls' := [(2, .long 0), (0, .ref 71), (1, .int a1)]) rfl ?_
        refine Ev_iconst (dt_X12_rows.at 30 rfl) ki_0 ?_
        refine Ev_istore (dt_X12_rows.at 31 rfl) (by decide) (ls' := [(4, .int 0), (2, .long 0), (0, .ref 71), (1, .int a1)]) rfl ?_
        refine Ev_sub [2, 3, 1, 0] (ls' := [(0, .ref 71), (1, .int a1), (2, .long 0), (4, .int 0)]) rfl ?_
        obtain ⟨o23, ho23, h⟩ := oBind h
        refine wl_m_rows_55 q5 a1 _ _ 100000 (0, 0) o23 ho23 (fun y ey => ?_)
        subst ey
        refine Ev_lload_n 0 (dt_X12_rows.at 80 rfl) rfl ?_
        exact Ev_lret (dt_X12_rows.at 81 rfl) rfl h
      · replace h := oPos h c6
        refine Ev_aload_n 0 (dt_X12_rows.at 24 rfl) rfl ?_
        refine Ev_get (i := 16) (v := .int (gI q5 71 16)) (dt_X12_rows.at 25 rfl) ff_X12_202 sk_71 rfl rfl ?_
        refine Ev_i2l (dt_X12_rows.at 26 rfl) ?_
        exact Ev_lret (dt_X12_rows.at 27 rfl) rfl h
    · replace h := oPos h c4
      refine Ev_aload_n 0 (dt_X12_rows.at 14 rfl) rfl ?_
      refine Ev_bipush (dt_X12_rows.at 15 rfl) kb_m3 ?_
      obtain ⟨q24, hq24, h⟩ := oBind h
      refine Ev_callV (st := []) (st' := [.int q24.1]) [.int (-3)] (dt_X12_rows.at 16 rfl) cf_X12_113 (w_m_no σ (-3) q24 hq24) (by decide) sk_71 rfl rfl rfl (Nat.le_of_ble_eq_true rfl) rfl ?_
      refine Ev_i2l (dt_X12_rows.at 17 rfl) ?_
      exact Ev_lret (dt_X12_rows.at 18 rfl) rfl h
  · replace h := oPos h c2
    refine Ev_aload_n 0 (dt_X12_rows.at 6 rfl) rfl ?_
    refine Ev_bipush (dt_X12_rows.at 7 rfl) kb_m2 ?_
    obtain ⟨q25, hq25, h⟩ := oBind h
    refine Ev_callV (st := []) (st' := [.int q25.1]) [.int (-2)] (dt_X12_rows.at 8 rfl) cf_X12_88 (w_m_bad σ (-2) q25 hq25) (by decide) sk_71 rfl rfl rfl (Nat.le_of_ble_eq_true rfl) rfl ?_
    refine Ev_i2l (dt_X12_rows.at 9 rfl) ?_
    exact Ev_lret (dt_X12_rows.at 10 rfl) rfl h
