def b_Splits_rowsBehind_l3_13 (σ : Sg) (v1 : Int32) (v2 : Int64) (v4 : Int32) (x : (Int64 × Int32)) : Option ((Int64 × Int32) ⊕ (Int64 × Int32)) :=
  if v1 ≤ x.2 then
    some (.inr (x.1, x.2))
  else
    if inB x.2 280 = true then
      if (lg_cmp ((gL σ 17 (Int32.toNatClampNeg x.2)) &&& v2) 0) = 0 then
        if inB x.2 280 = true then
          (s_Splits_rowsBehind_17_l2 σ v1 (v2 ||| (gL σ 17 (Int32.toNatClampNeg x.2))) (v4 - 1)).bind fun q7 =>
          lt ((x.1 + q7) : Int64) fun x8 =>
          lt (x.2 + 1 : Int32) fun x9 =>
          some (.inl (x8, x9))
        else none
      else
        lt (x.2 + 1 : Int32) fun x5 =>
        some (.inl (x.1, x5))
    else none
def s_Splits_rowsBehind_l3 (σ : Sg) (a1 : Int32) (a2 : Int64) (a4 : Int32) : Option Int64 :=
  if 0 < a4 then
    (lp (b_Splits_rowsBehind_l3_13 σ a1 a2 a4) 100000 (0, 0)).bind fun o10 =>
    some o10.1
  else
    some 1
set_option maxRecDepth 100000 in
set_option maxHeartbeats 4000000 in
theorem wb_Splits_rowsBehind_l3_13 (σ : Sg) (v1 : Int32) (v2 : Int64) (v4 : Int32) (x : (Int64 × Int32)) (r : Option Value) (τ : Sg) (o : ((Int64 × Int32) ⊕ (Int64 × Int32))) (h : (b_Splits_rowsBehind_l3_13 σ v1 v2 v4 x) = some o) (hc : ∀ y : (Int64 × Int32), o = .inl y → Ev M_X7_rowsBehind 3 r τ 13 [(0, .ref 17), (1, .int v1), (2, .long v2), (4, .int v4), (5, .long y.1), (7, .int y.2)] [] σ) (he : ∀ y : (Int64 × Int32), o = .inr y → Ev M_X7_rowsBehind 3 r τ 56 [(5, .long y.1)] [] σ) : Ev M_X7_rowsBehind 3 r τ 13 [(0, .ref 17), (1, .int v1), (2, .long v2), (4, .int v4), (5, .long x.1), (7, .int x.2)] [] σ := by
  unfold b_Splits_rowsBehind_l3_13 at h
  refine Ev_iload 5 (dt_X7_rowsBehind.at 8 rfl) rfl ?_
  refine Ev_iload_n 1 (dt_X7_rowsBehind.at 9 rfl) rfl ?_
  refine Ev_icmp_ge (tgt := 56) (dt_X7_rowsBehind.at 10 rfl) (by decide) (fun c2 => ?_) (fun c2 => ?_)
  · replace h := oPos h c2
    refine Ev_sub [4] (ls' := [(5, .long x.1)]) rfl ?_
    exact he (x.1, x.2) (Option.some.inj h).symm
  · replace h := oNeg h c2
    refine Ev_aload_n 0 (dt_X7_rowsBehind.at 11 rfl) rfl ?_
    refine Ev_iload 5 (dt_X7_rowsBehind.at 12 rfl) rfl ?_
    obtain ⟨g3, h⟩ := oGuard h
    refine Ev_laload 17 (dt_X7_rowsBehind.at 13 rfl) sk_17 g3 ?_
    refine Ev_lload_n 2 (dt_X7_rowsBehind.at 14 rfl) rfl ?_
    refine Ev_land (dt_X7_rowsBehind.at 15 rfl) ?_
    refine Ev_lconst (dt_X7_rowsBehind.at 16 rfl) kl_0 ?_
    refine Ev_lcmp (dt_X7_rowsBehind.at 17 rfl) ?_
    refine Ev_if_ne (tgt := 50) (dt_X7_rowsBehind.at 18 rfl) (by decide) (fun c4 => ?_) (fun c4 => ?_)
    · replace h := oNeg h c4
      obtain ⟨x5, ex5⟩ : ∃ z : Int32, z = x.2 + 1 := ⟨_, rfl⟩
      replace h := oLt h ex5
      refine Ev_iinc (v := x5) 5 (dt_X7_rowsBehind.at 33 rfl) rfl (ex5.trans (congrArg (fun z => x.2 + z) ki_1.symm)) (by decide) (ls' := [(7, .int x5), (0, .ref 17), (1, .int v1), (2, .long v2), (4, .int v4), (5, .long x.1)]) rfl ?_
      refine Ev_goto (tgt := 13) (dt_X7_rowsBehind.at 34 rfl) (by decide) ?_
      refine Ev_sub [1, 2, 3, 4, 5, 0] (ls' := [(0, .ref 17), (1, .int v1), (2, .long v2), (4, .int v4), (5, .long x.1), (7, .int x5)]) rfl ?_
      exact hc (x.1, x5) (Option.some.inj h).symm
    · replace h := oPos h c4
      refine Ev_lload 4 (dt_X7_rowsBehind.at 19 rfl) rfl ?_
      refine Ev_aload_n 0 (dt_X7_rowsBehind.at 20 rfl) rfl ?_
      refine Ev_iload_n 1 (dt_X7_rowsBehind.at 21 rfl) rfl ?_
      refine Ev_lload_n 2 (dt_X7_rowsBehind.at 22 rfl) rfl ?_
      refine Ev_aload_n 0 (dt_X7_rowsBehind.at 23 rfl) rfl ?_
      refine Ev_iload 5 (dt_X7_rowsBehind.at 24 rfl) rfl ?_
      obtain ⟨g6, h⟩ := oGuard h
      refine Ev_laload 17 (dt_X7_rowsBehind.at 25 rfl) sk_17 g6 ?_
      refine Ev_lor (dt_X7_rowsBehind.at 26 rfl) ?_
      refine Ev_iload 3 (dt_X7_rowsBehind.at 27 rfl) rfl ?_
      refine Ev_iconst (dt_X7_rowsBehind.at 28 rfl) ki_1 ?_
      refine Ev_isub (dt_X7_rowsBehind.at 29 rfl) ?_
      obtain ⟨q7, hq7, h⟩ := oBind h
      refine Ev_callS (st := [.long x.1]) (st' := [.long q7, .long x.1]) [.ref 17, .int v1, .long (v2 ||| (gL σ 17 (Int32.toNatClampNeg x.2))), .int (v4 - 1)] (dt_X7_rowsBehind.at 30 rfl) cf_X7_55 (w_Splits_rowsBehind_17_l2 σ v1 (v2 ||| (gL σ 17 (Int32.toNatClampNeg x.2))) (v4 - 1) q7 hq7) (by decide) rfl rfl (Nat.le_of_ble_eq_true rfl) rfl ?_
      refine Ev_ladd (dt_X7_rowsBehind.at 31 rfl) ?_
      refine Ev_nmL (fun x8 ex8 => ?_)
      replace h := oLt h ex8
      refine Ev_lstore (dt_X7_rowsBehind.at 32 rfl) (by decide) (ls' := [(5, .long x8), (0, .ref 17), (1, .int v1), (2, .long v2), (4, .int v4), (7, .int x.2)]) rfl ?_
      obtain ⟨x9, ex9⟩ : ∃ z : Int32, z = x.2 + 1 := ⟨_, rfl⟩
      replace h := oLt h ex9
      refine Ev_iinc (v := x9) 5 (dt_X7_rowsBehind.at 33 rfl) rfl (ex9.trans (congrArg (fun z => x.2 + z) ki_1.symm)) (by decide) (ls' := [(7, .int x9), (5, .long x8), (0, .ref 17), (1, .int v1), (2, .long v2), (4, .int v4)]) rfl ?_
      refine Ev_goto (tgt := 13) (dt_X7_rowsBehind.at 34 rfl) (by decide) ?_
      refine Ev_sub [2, 3, 4, 5, 1, 0] (ls' := [(0, .ref 17), (1, .int v1), (2, .long v2), (4, .int v4), (5, .long x8), (7, .int x9)]) rfl ?_
      exact hc (x8, x9) (Option.some.inj h).symm
set_option maxRecDepth 100000 in
set_option maxHeartbeats 4000000 in
theorem wl_Splits_rowsBehind_l3_13 (σ : Sg) (v1 : Int32) (v2 : Int64) (v4 : Int32) (r : Option Value) (τ : Sg) (n : Nat) (x : (Int64 × Int32)) (z : (Int64 × Int32)) (h : lp (b_Splits_rowsBehind_l3_13 σ v1 v2 v4) n x = some z) (he : ∀ y : (Int64 × Int32), z = y → Ev M_X7_rowsBehind 3 r τ 56 [(5, .long y.1)] [] σ) : Ev M_X7_rowsBehind 3 r τ 13 [(0, .ref 17), (1, .int v1), (2, .long v2), (4, .int v4), (5, .long x.1), (7, .int x.2)] [] σ := by
  refine lp_ind (E := fun x : (Int64 × Int32) => Ev M_X7_rowsBehind 3 r τ 13 [(0, .ref 17), (1, .int v1), (2, .long v2), (4, .int v4), (5, .long x.1), (7, .int x.2)] [] σ) (fun x => ⟨fun y hb hy => ?_, fun hb => ?_⟩) n x h
  · exact wb_Splits_rowsBehind_l3_13 σ v1 v2 v4 x r τ _ hb (fun y' e => by cases e; exact hy) (fun y' e => by cases e)
  · exact wb_Splits_rowsBehind_l3_13 σ v1 v2 v4 x r τ _ hb (fun y' e => by cases e) (fun y' e => he y' (Sum.inr.inj e))
set_option maxRecDepth 100000 in
set_option maxHeartbeats 4000000 in
theorem w_Splits_rowsBehind_l3 (σ : Sg) (a1 : Int32) (a2 : Int64) (a4 : Int32) (q : Int64) (h : s_Splits_rowsBehind_l3 σ a1 a2 a4 = some q) : Cal M_X7_rowsBehind 3 [.ref 17, .int a1, .long a2, .int a4] σ (some (.long q)) σ := by
  refine Cal.of (M := M_X7_rowsBehind) (by decide +kernel) (Nat.le_of_ble_eq_true rfl) ?_
  show Ev _ _ _ _ 0 [(0, .ref 17), (1, .int a1), (2, .long a2), (4, .int a4)] [] σ
  unfold s_Splits_rowsBehind_l3 at h
  refine Ev_iload 3 (dt_X7_rowsBehind.at 0 rfl) rfl ?_
  refine Ev_if_gt (tgt := 7) (dt_X7_rowsBehind.at 1 rfl) (by decide) (fun c1 => ?_) (fun c1 => ?_)
  · replace h := oPos h c1
    refine Ev_lconst (dt_X7_rowsBehind.at 4 rfl) kl_0 ?_
    refine Ev_lstore (dt_X7_rowsBehind.at 5 rfl) (by decide) (ls' := [(5, .long 0), (0, .ref 17), (1, .int a1), (2, .long a2), (4, .int a4)]) rfl ?_
    refine Ev_iconst (dt_X7_rowsBehind.at 6 rfl) ki_0 ?_
    refine Ev_istore (dt_X7_rowsBehind.at 7 rfl) (by decide) (ls' := [(7, .int 0), (5, .long 0), (0, .ref 17), (1, .int a1), (2, .long a2), (4, .int a4)]) rfl ?_
    refine Ev_sub [2, 3, 4, 5, 1, 0] (ls' := [(0, .ref 17), (1, .int a1), (2, .long a2), (4, .int a4), (5, .long 0), (7, .int 0)]) rfl ?_
    obtain ⟨o10, ho10, h⟩ := oBind h
    refine wl_Splits_rowsBehind_l3_13 σ a1 a2 a4 _ _ 100000 (0, 0) o10 ho10 (fun y ey => ?_)
    subst ey
    refine Ev_lload 0 (dt_X7_rowsBehind.at 35 rfl) rfl ?_
    exact Ev_lret (dt_X7_rowsBehind.at 36 rfl) rfl (oRet h)
  · replace h := oNeg h c1
    refine Ev_lconst (dt_X7_rowsBehind.at 2 rfl) kl_1 ?_
    exact Ev_lret (dt_X7_rowsBehind.at 3 rfl) rfl (oRet h)
def s_Splits_rowsOf (σ : Sg) (a1 : Int32) : Option Int64 :=
  (s_Splits_rowsBehind_l3 σ (gI σ 12 5) (gL σ 17 (Int32.toNatClampNeg 0)) (a1 - 1)).bind fun q1 =>
  some ((Int32.toInt64 (gI σ 12 5)) * q1)
set_option maxRecDepth 100000 in
set_option maxHeartbeats 4000000 in
theorem w_Splits_rowsOf (σ : Sg) (a1 : Int32) (q : Int64) (h : s_Splits_rowsOf σ a1 = some q) : Cal M_X7_rowsOf 4 [.ref 12, .int a1] σ (some (.long q)) σ := by
  refine Cal.of (M := M_X7_rowsOf) (by decide +kernel) (Nat.le_of_ble_eq_true rfl) ?_
  show Ev _ _ _ _ 0 [(0, .ref 12), (1, .int a1)] [] σ
  unfold s_Splits_rowsOf at h
  refine Ev_aload_n 0 (dt_X7_rowsOf.at 0 rfl) rfl ?_
  refine Ev_get (i := 5) (v := .int (gI σ 12 5)) (dt_X7_rowsOf.at 1 rfl) ff_X7_32 sk_12 rfl rfl ?_
  refine Ev_i2l (dt_X7_rowsOf.at 2 rfl) ?_
  refine Ev_aload_n 0 (dt_X7_rowsOf.at 3 rfl) rfl ?_
  refine Ev_get (i := 4) (v := .ref 17) (dt_X7_rowsOf.at 4 rfl) ff_X7_25 sk_12 rfl rfl ?_
  refine Ev_aload_n 0 (dt_X7_rowsOf.at 5 rfl) rfl ?_
  refine Ev_get (i := 5) (v := .int (gI σ 12 5)) (dt_X7_rowsOf.at 6 rfl) ff_X7_32 sk_12 rfl rfl ?_
  refine Ev_aload_n 0 (dt_X7_rowsOf.at 7 rfl) rfl ?_
  refine Ev_get (i := 4) (v := .ref 17) (dt_X7_rowsOf.at 8 rfl) ff_X7_25 sk_12 rfl rfl ?_
  refine Ev_iconst (dt_X7_rowsOf.at 9 rfl) ki_0 ?_
  refine Ev_laload 17 (dt_X7_rowsOf.at 10 rfl) sk_17 ib_0_280 ?_
  refine Ev_iload_n 1 (dt_X7_rowsOf.at 11 rfl) rfl ?_
  refine Ev_iconst (dt_X7_rowsOf.at 12 rfl) ki_1 ?_
  refine Ev_isub (dt_X7_rowsOf.at 13 rfl) ?_
  obtain ⟨q1, hq1, h⟩ := oBind h
  refine Ev_callS (st := [.long (Int32.toInt64 (gI σ 12 5))]) (st' := [.long q1, .long (Int32.toInt64 (gI σ 12 5))]) [.ref 17, .int (gI σ 12 5), .long (gL σ 17 (Int32.toNatClampNeg 0)), .int (a1 - 1)] (dt_X7_rowsOf.at 14 rfl) cf_X7_55 (w_Splits_rowsBehind_l3 σ (gI σ 12 5) (gL σ 17 (Int32.toNatClampNeg 0)) (a1 - 1) q1 hq1) (by decide) rfl rfl (Nat.le_of_ble_eq_true rfl) rfl ?_
  refine Ev_lmul (dt_X7_rowsOf.at 15 rfl) ?_
  exact Ev_lret (dt_X7_rowsOf.at 16 rfl) rfl (oRet h)
def s_x_rows (σ : Sg) (a1 : Int32) : Option (Int64 × Sg) :=
  if a1 < 1 then
    (s_x_refusedBad σ (-2)).bind fun q2 =>
    some ((Int32.toInt64 q2.1), q2.2)
  else
    if a1 ≤ 4 then
      (s_x_isAllInThrees σ ).bind fun q4 =>
      if q4 = 0 then
        (s_x_refusedNo σ (-3)).bind fun q8 =>
        some ((Int32.toInt64 q8.1), q8.2)
      else
        (s_Splits_list σ (gI σ 19 6)).bind fun q6 =>
        (s_Splits_rowsOf q6 a1).bind fun q7 =>
        some (q7, q6)
    else
      (s_x_refusedBad σ (-2)).bind fun q9 =>
      some ((Int32.toInt64 q9.1), q9.2)
set_option maxRecDepth 100000 in
set_option maxHeartbeats 4000000 in
theorem w_x_rows (σ : Sg) (a1 : Int32) (q : (Int64 × Sg)) (h : s_x_rows σ a1 = some q) : Cal M_X11_rows 5 [.ref 0, .int a1] σ (some (.long q.1)) q.2 := by
  refine Cal.of (M := M_X11_rows) (by decide +kernel) (Nat.le_of_ble_eq_true rfl) ?_
  show Ev _ _ _ _ 0 [(0, .ref 0), (1, .int a1)] [] σ
  unfold s_x_rows at h
  refine Ev_iload_n 1 (dt_X11_rows.at 0 rfl) rfl ?_
  refine Ev_iconst (dt_X11_rows.at 1 rfl) ki_1 ?_
  refine Ev_icmp_lt (tgt := 10) (dt_X11_rows.at 2 rfl) (by decide) (fun c1 => ?_) (fun c1 => ?_)
  · replace h := oPos h c1
    refine Ev_aload_n 0 (dt_X11_rows.at 6 rfl) rfl ?_
    refine Ev_bipush (dt_X11_rows.at 7 rfl) kb_m2 ?_
    obtain ⟨q2, hq2, h⟩ := oBind h
    refine Ev_callV (st := []) (st' := [.int q2.1]) [.int (-2)] (dt_X11_rows.at 8 rfl) cf_X11_68 (w_x_refusedBad σ (-2) q2 hq2) (by decide) sk_0 rfl rfl rfl (Nat.le_of_ble_eq_true rfl) rfl ?_
    refine Ev_i2l (dt_X11_rows.at 9 rfl) ?_
    exact Ev_lret (dt_X11_rows.at 10 rfl) rfl h
  · replace h := oNeg h c1
    refine Ev_iload_n 1 (dt_X11_rows.at 3 rfl) rfl ?_
    refine Ev_iconst (dt_X11_rows.at 4 rfl) ki_4 ?_
    refine Ev_icmp_le (tgt := 18) (dt_X11_rows.at 5 rfl) (by decide) (fun c3 => ?_) (fun c3 => ?_)
    · replace h := oPos h c3
      refine Ev_aload_n 0 (dt_X11_rows.at 11 rfl) rfl ?_
      obtain ⟨q4, hq4, h⟩ := oBind h
      refine Ev_callV (st := []) (st' := [.int q4]) [] (dt_X11_rows.at 12 rfl) cf_X11_147 (w_x_isAllInThrees σ  q4 hq4) (by decide) sk_0 rfl rfl rfl (Nat.le_of_ble_eq_true rfl) rfl ?_
      refine Ev_if_ne (tgt := 33) (dt_X11_rows.at 13 rfl) (by decide) (fun c5 => ?_) (fun c5 => ?_)
      · replace h := oNeg h c5
        refine Ev_aload_n 0 (dt_X11_rows.at 19 rfl) rfl ?_
        refine Ev_get (i := 7) (v := .ref 12) (dt_X11_rows.at 20 rfl) ff_X11_33 sk_0 rfl rfl ?_
        refine Ev_aload_n 0 (dt_X11_rows.at 21 rfl) rfl ?_
        refine Ev_get (i := 0) (v := .ref 25) (dt_X11_rows.at 22 rfl) ff_X11_50 sk_0 rfl rfl ?_
        refine Ev_get (i := 0) (v := .ref 19) (dt_X11_rows.at 23 rfl) ff_X11_72 sk_25 rfl rfl ?_
        refine Ev_get (i := 6) (v := .int (gI σ 19 6)) (dt_X11_rows.at 24 rfl) ff_X11_90 sk_19 rfl rfl ?_
        obtain ⟨q6, hq6, h⟩ := oBind h
        refine Ev_callV (st := []) (st' := []) [.int (gI σ 19 6)] (dt_X11_rows.at 25 rfl) cf_X11_151 (w_Splits_list σ (gI σ 19 6) q6 hq6) (by decide) sk_12 rfl rfl rfl (Nat.le_of_ble_eq_true rfl) rfl ?_
        refine Ev_aload_n 0 (dt_X11_rows.at 26 rfl) rfl ?_
        refine Ev_get (i := 7) (v := .ref 12) (dt_X11_rows.at 27 rfl) ff_X11_33 sk_0 rfl rfl ?_
        refine Ev_iload_n 1 (dt_X11_rows.at 28 rfl) rfl ?_
        obtain ⟨q7, hq7, h⟩ := oBind h
        refine Ev_callV (st := []) (st' := [.long q7]) [.int a1] (dt_X11_rows.at 29 rfl) cf_X11_174 (w_Splits_rowsOf q6 a1 q7 hq7) (by decide) sk_12 rfl rfl rfl (Nat.le_of_ble_eq_true rfl) rfl ?_
        exact Ev_lret (dt_X11_rows.at 30 rfl) rfl h
      · replace h := oPos h c5
        refine Ev_aload_n 0 (dt_X11_rows.at 14 rfl) rfl ?_
        refine Ev_bipush (dt_X11_rows.at 15 rfl) kb_m3 ?_
        obtain ⟨q8, hq8, h⟩ := oBind h
        refine Ev_callV (st := []) (st' := [.int q8.1]) [.int (-3)] (dt_X11_rows.at 16 rfl) cf_X11_118 (w_x_refusedNo σ (-3) q8 hq8) (by decide) sk_0 rfl rfl rfl (Nat.le_of_ble_eq_true rfl) rfl ?_
        refine Ev_i2l (dt_X11_rows.at 17 rfl) ?_
        exact Ev_lret (dt_X11_rows.at 18 rfl) rfl h
    · replace h := oNeg h c3
      refine Ev_aload_n 0 (dt_X11_rows.at 6 rfl) rfl ?_
      refine Ev_bipush (dt_X11_rows.at 7 rfl) kb_m2 ?_
      obtain ⟨q9, hq9, h⟩ := oBind h
      refine Ev_callV (st := []) (st' := [.int q9.1]) [.int (-2)] (dt_X11_rows.at 8 rfl) cf_X11_68 (w_x_refusedBad σ (-2) q9 hq9) (by decide) sk_0 rfl rfl rfl (Nat.le_of_ble_eq_true rfl) rfl ?_
      refine Ev_i2l (dt_X11_rows.at 9 rfl) ?_
      exact Ev_lret (dt_X11_rows.at 10 rfl) rfl h
def s_x_isAmount (a0 : Int32) : Option Int32 :=
  if a0 < 0 then
    some 0
  else
    if 99 < a0 then
      some 0
    else
      some 1
set_option maxRecDepth 100000 in
set_option maxHeartbeats 4000000 in
theorem w_x_isAmount (σ : Sg) (a0 : Int32) (q : Int32) (h : s_x_isAmount a0 = some q) : Cal M_X11_isAmount 0 [.int a0] σ (some (.int q)) σ := by
  refine Cal.of (M := M_X11_isAmount) (by decide +kernel) (Nat.le_of_ble_eq_true rfl) ?_
  show Ev _ _ _ _ 0 [(0, .int a0)] [] σ
  unfold s_x_isAmount at h
  refine Ev_iload_n 0 (dt_X11_isAmount.at 0 rfl) rfl ?_
  refine Ev_if_lt (tgt := 14) (dt_X11_isAmount.at 1 rfl) (by decide) (fun c1 => ?_) (fun c1 => ?_)
  · replace h := oPos h c1
    refine Ev_iconst (dt_X11_isAmount.at 7 rfl) ki_0 ?_
    exact Ev_zret (dt_X11_isAmount.at 8 rfl) rfl (by decide) (oRet h)
  · replace h := oNeg h c1
    refine Ev_iload_n 0 (dt_X11_isAmount.at 2 rfl) rfl ?_
    refine Ev_bipush (dt_X11_isAmount.at 3 rfl) kb_99 ?_
    refine Ev_icmp_gt (tgt := 14) (dt_X11_isAmount.at 4 rfl) (by decide) (fun c2 => ?_) (fun c2 => ?_)
    · replace h := oPos h c2
      refine Ev_iconst (dt_X11_isAmount.at 7 rfl) ki_0 ?_
      exact Ev_zret (dt_X11_isAmount.at 8 rfl) rfl (by decide) (oRet h)
    · replace h := oNeg h c2
      refine Ev_iconst (dt_X11_isAmount.at 5 rfl) ki_1 ?_
      refine Ev_goto (tgt := 15) (dt_X11_isAmount.at 6 rfl) (by decide) ?_
      exact Ev_zret (dt_X11_isAmount.at 8 rfl) rfl (by decide) (oRet h)
def s_x_gain (σ : Sg) (a1 : Int32) (a2 : Int32) : Option (Int32 × Sg) :=
  if a1 < 1 then
    (s_x_refusedBad σ (-2)).bind fun q2 =>
    some (q2.1, q2.2)
  else
    if 7 < a1 then
      (s_x_refusedBad σ (-2)).bind fun q4 =>
      some (q4.1, q4.2)
    else
      (s_x_isAmount a2).bind fun q5 =>
      if q5 = 0 then
        (s_x_refusedBad σ (-2)).bind fun q11 =>
        some (q11.1, q11.2)
      else
        if inB a1 8 = true then
          lt ((gI σ 26 (Int32.toNatClampNeg a1)) : Int32) fun x8 =>
          if inB a1 8 = true then
            lt (pI σ 26 (Int32.toNatClampNeg a1) a2 : Sg) fun s10 =>
            some (x8, s10)
          else none
        else none
set_option maxRecDepth 100000 in
set_option maxHeartbeats 4000000 in
theorem w_x_gain (σ : Sg) (a1 : Int32) (a2 : Int32) (q : (Int32 × Sg)) (h : s_x_gain σ a1 a2 = some q) : Cal M_X11_gain 1 [.ref 0, .int a1, .int a2] σ (some (.int q.1)) q.2 := by
  refine Cal.of (M := M_X11_gain) (by decide +kernel) (Nat.le_of_ble_eq_true rfl) ?_
  show Ev _ _ _ _ 0 [(0, .ref 0), (1, .int a1), (2, .int a2)] [] σ
  unfold s_x_gain at h
  refine Ev_iload_n 1 (dt_X11_gain.at 0 rfl) rfl ?_
  refine Ev_iconst (dt_X11_gain.at 1 rfl) ki_1 ?_
  refine Ev_icmp_lt (tgt := 18) (dt_X11_gain.at 2 rfl) (by decide) (fun c1 => ?_) (fun c1 => ?_)
  · replace h := oPos h c1
    refine Ev_aload_n 0 (dt_X11_gain.at 9 rfl) rfl ?_
    refine Ev_bipush (dt_X11_gain.at 10 rfl) kb_m2 ?_
    obtain ⟨q2, hq2, h⟩ := oBind h
    refine Ev_callV (st := []) (st' := [.int q2.1]) [.int (-2)] (dt_X11_gain.at 11 rfl) cf_X11_68 (w_x_refusedBad σ (-2) q2 hq2) (by decide) sk_0 rfl rfl rfl (Nat.le_of_ble_eq_true rfl) rfl ?_
    exact Ev_iret (dt_X11_gain.at 12 rfl) rfl h
  · replace h := oNeg h c1
    refine Ev_iload_n 1 (dt_X11_gain.at 3 rfl) rfl ?_
    refine Ev_bipush (dt_X11_gain.at 4 rfl) kb_7 ?_
    refine Ev_icmp_gt (tgt := 18) (dt_X11_gain.at 5 rfl) (by decide) (fun c3 => ?_) (fun c3 => ?_)
    · replace h := oPos h c3
      refine Ev_aload_n 0 (dt_X11_gain.at 9 rfl) rfl ?_
      refine Ev_bipush (dt_X11_gain.at 10 rfl) kb_m2 ?_
      obtain ⟨q4, hq4, h⟩ := oBind h
      refine Ev_callV (st := []) (st' := [.int q4.1]) [.int (-2)] (dt_X11_gain.at 11 rfl) cf_X11_68 (w_x_refusedBad σ (-2) q4 hq4) (by decide) sk_0 rfl rfl rfl (Nat.le_of_ble_eq_true rfl) rfl ?_
      exact Ev_iret (dt_X11_gain.at 12 rfl) rfl h
    · replace h := oNeg h c3
      refine Ev_iload_n 2 (dt_X11_gain.at 6 rfl) rfl ?_
      obtain ⟨q5, hq5, h⟩ := oBind h
      refine Ev_callS (st := []) (st' := [.int q5]) [.int a2] (dt_X11_gain.at 7 rfl) cf_X11_178 (w_x_isAmount σ a2 q5 hq5) (by decide) rfl rfl (Nat.le_of_ble_eq_true rfl) rfl ?_
      refine Ev_if_ne (tgt := 25) (dt_X11_gain.at 8 rfl) (by decide) (fun c6 => ?_) (fun c6 => ?_)
      · replace h := oNeg h c6
        refine Ev_aload_n 0 (dt_X11_gain.at 13 rfl) rfl ?_
        refine Ev_get (i := 0) (v := .ref 25) (dt_X11_gain.at 14 rfl) ff_X11_50 sk_0 rfl rfl ?_
        refine Ev_get (i := 1) (v := .ref 26) (dt_X11_gain.at 15 rfl) ff_X11_181 sk_25 rfl rfl ?_
        refine Ev_iload_n 1 (dt_X11_gain.at 16 rfl) rfl ?_
        obtain ⟨g7, h⟩ := oGuard h
        refine Ev_iaload 26 (dt_X11_gain.at 17 rfl) sk_26 g7 ?_
        refine Ev_nmI (fun x8 ex8 => ?_)
        replace h := oLt h ex8
        refine Ev_istore_n (dt_X11_gain.at 18 rfl) (by decide) (ls' := [(3, .int x8), (0, .ref 0), (1, .int a1), (2, .int a2)]) rfl ?_
        refine Ev_aload_n 1 (dt_X11_gain.at 19 rfl) rfl ?_
        refine Ev_get (i := 0) (v := .ref 25) (dt_X11_gain.at 20 rfl) ff_X11_50 sk_0 rfl rfl ?_
        refine Ev_get (i := 1) (v := .ref 26) (dt_X11_gain.at 21 rfl) ff_X11_181 sk_25 rfl rfl ?_
        refine Ev_iload_n 2 (dt_X11_gain.at 22 rfl) rfl ?_
        refine Ev_iload_n 3 (dt_X11_gain.at 23 rfl) rfl ?_
        obtain ⟨g9, h⟩ := oGuard h
        refine Ev_iastore 26 (dt_X11_gain.at 24 rfl) sk_26 g9 ?_
        refine Ev_nmS (fun s10 es10 => ?_)
        replace h := oLt h es10
        refine Ev_iload_n 0 (dt_X11_gain.at 25 rfl) rfl ?_
        exact Ev_iret (dt_X11_gain.at 26 rfl) rfl h
      · replace h := oPos h c6
        refine Ev_aload_n 0 (dt_X11_gain.at 9 rfl) rfl ?_
        refine Ev_bipush (dt_X11_gain.at 10 rfl) kb_m2 ?_
        obtain ⟨q11, hq11, h⟩ := oBind h
        refine Ev_callV (st := []) (st' := [.int q11.1]) [.int (-2)] (dt_X11_gain.at 11 rfl) cf_X11_68 (w_x_refusedBad σ (-2) q11 hq11) (by decide) sk_0 rfl rfl rfl (Nat.le_of_ble_eq_true rfl) rfl ?_
        exact Ev_iret (dt_X11_gain.at 12 rfl) rfl h
def b_x_leaves_52 (σ : Sg) (v1 : Int32) (v2 : Int32) (v3 : Int32) (x : Int32) : Option (Int32 ⊕ (Int32 ⊕ (Int32 × Sg))) :=
  if 7 ≤ x then
    some (.inr (.inl x))
  else
    lt (((((x &&& 1) * v1) + (((x >>> ((1 : Int32) &&& 31)) &&& 1) * v2)) + (((x >>> ((2 : Int32) &&& 31)) &&& 1) * v3)) : Int32) fun x11 =>
    if inB x 8 = true then
      if (gI σ 26 (Int32.toNatClampNeg x)) ≤ x11 then
        lt (x + 1 : Int32) fun x14 =>
        some (.inl x14)
      else
        some (.inr (.inr (x, σ)))
    else none
def s_x_leaves (σ : Sg) (a1 : Int32) (a2 : Int32) (a3 : Int32) : Option (Int32 × Sg) :=
  (s_x_isAmount a1).bind fun q1 =>
  if q1 = 0 then
    (s_x_refusedBad σ (-2)).bind fun q3 =>
    some (q3.1, q3.2)
  else
    (s_x_isAmount a2).bind fun q4 =>
    if q4 = 0 then
      (s_x_refusedBad σ (-2)).bind fun q6 =>
      some (q6.1, q6.2)
    else
      (s_x_isAmount a3).bind fun q7 =>
      if q7 = 0 then
        (s_x_refusedBad σ (-2)).bind fun q18 =>
        some (q18.1, q18.2)
      else
        if ((a1 + a2) + a3) = (gI σ 26 (Int32.toNatClampNeg 7)) then
          (lp (b_x_leaves_52 σ a1 a2 a3) 100000 1).bind fun o15 =>
          oElim o15 (fun y16 =>
            some ((-1), σ)) (fun q17 => some q17)
        else
          some (7, σ)
set_option maxRecDepth 100000 in
set_option maxHeartbeats 4000000 in
theorem wb_x_leaves_52 (σ : Sg) (v1 : Int32) (v2 : Int32) (v3 : Int32) (x : Int32) (r : Option Value) (τ : Sg) (o : (Int32 ⊕ (Int32 ⊕ (Int32 × Sg)))) (h : (b_x_leaves_52 σ v1 v2 v3 x) = some o) (hc : ∀ y : Int32, o = .inl y → Ev M_X11_leaves 1 r τ 52 [(0, .ref 0), (1, .int v1), (2, .int v2), (3, .int v3), (4, .int y)] [] σ) (he : ∀ y : Int32, o = .inr (.inl y) → Ev M_X11_leaves 1 r τ 109 [] [] σ) (hr : ∀ q : (Int32 × Sg), o = .inr (.inr q) → r = (some (.int q.1)) ∧ τ = q.2) : Ev M_X11_leaves 1 r τ 52 [(0, .ref 0), (1, .int v1), (2, .int v2), (3, .int v3), (4, .int x)] [] σ := by
  unfold b_x_leaves_52 at h
  refine Ev_iload 4 (dt_X11_leaves.at 28 rfl) rfl ?_
  refine Ev_bipush (dt_X11_leaves.at 29 rfl) kb_7 ?_
  refine Ev_icmp_ge (tgt := 109) (dt_X11_leaves.at 30 rfl) (by decide) (fun c10 => ?_) (fun c10 => ?_)
  · replace h := oPos h c10
    refine Ev_sub [] (ls' := []) rfl ?_
    exact he x (Option.some.inj h).symm
  · replace h := oNeg h c10
    refine Ev_iload 4 (dt_X11_leaves.at 31 rfl) rfl ?_
    refine Ev_iconst (dt_X11_leaves.at 32 rfl) ki_1 ?_
    refine Ev_iand (dt_X11_leaves.at 33 rfl) ?_
    refine Ev_iload_n 1 (dt_X11_leaves.at 34 rfl) rfl ?_
    refine Ev_imul (dt_X11_leaves.at 35 rfl) ?_
    refine Ev_iload 4 (dt_X11_leaves.at 36 rfl) rfl ?_
    refine Ev_iconst (dt_X11_leaves.at 37 rfl) ki_1 ?_
    refine Ev_ishr (dt_X11_leaves.at 38 rfl) ?_
    refine Ev_iconst (dt_X11_leaves.at 39 rfl) ki_1 ?_
    refine Ev_iand (dt_X11_leaves.at 40 rfl) ?_
    refine Ev_iload_n 2 (dt_X11_leaves.at 41 rfl) rfl ?_
    refine Ev_imul (dt_X11_leaves.at 42 rfl) ?_
    refine Ev_iadd (dt_X11_leaves.at 43 rfl) ?_
    refine Ev_iload 4 (dt_X11_leaves.at 44 rfl) rfl ?_
    refine Ev_iconst (dt_X11_leaves.at 45 rfl) ki_2 ?_
    refine Ev_ishr (dt_X11_leaves.at 46 rfl) ?_
    refine Ev_iconst (dt_X11_leaves.at 47 rfl) ki_1 ?_
    refine Ev_iand (dt_X11_leaves.at 48 rfl) ?_
    refine Ev_iload_n 3 (dt_X11_leaves.at 49 rfl) rfl ?_
    refine Ev_imul (dt_X11_leaves.at 50 rfl) ?_
    refine Ev_iadd (dt_X11_leaves.at 51 rfl) ?_
    refine Ev_nmI (fun x11 ex11 => ?_)
    replace h := oLt h ex11
    refine Ev_istore (dt_X11_leaves.at 52 rfl) (by decide) (ls' := [(5, .int x11), (0, .ref 0), (1, .int v1), (2, .int v2), (3, .int v3), (4, .int x)]) rfl ?_
    refine Ev_iload 0 (dt_X11_leaves.at 53 rfl) rfl ?_
    refine Ev_aload_n 1 (dt_X11_leaves.at 54 rfl) rfl ?_
    refine Ev_get (i := 0) (v := .ref 25) (dt_X11_leaves.at 55 rfl) ff_X11_50 sk_0 rfl rfl ?_
    refine Ev_get (i := 1) (v := .ref 26) (dt_X11_leaves.at 56 rfl) ff_X11_181 sk_25 rfl rfl ?_
    refine Ev_iload 5 (dt_X11_leaves.at 57 rfl) rfl ?_
    obtain ⟨g12, h⟩ := oGuard h
    refine Ev_iaload 26 (dt_X11_leaves.at 58 rfl) sk_26 g12 ?_
    refine Ev_icmp_ge (tgt := 103) (dt_X11_leaves.at 59 rfl) (by decide) (fun c13 => ?_) (fun c13 => ?_)
    · replace h := oPos h c13
      obtain ⟨x14, ex14⟩ : ∃ z : Int32, z = x + 1 := ⟨_, rfl⟩
      replace h := oLt h ex14
      refine Ev_iinc (v := x14) 5 (dt_X11_leaves.at 62 rfl) rfl (ex14.trans (congrArg (fun z => x + z) ki_1.symm)) (by decide) (ls' := [(4, .int x14), (5, .int x11), (0, .ref 0), (1, .int v1), (2, .int v2), (3, .int v3)]) rfl ?_
      refine Ev_goto (tgt := 52) (dt_X11_leaves.at 63 rfl) (by decide) ?_
      refine Ev_sub [2, 3, 4, 5, 0] (ls' := [(0, .ref 0), (1, .int v1), (2, .int v2), (3, .int v3), (4, .int x14)]) rfl ?_
      exact hc x14 (Option.some.inj h).symm
    · replace h := oNeg h c13
      refine Ev_iload 5 (dt_X11_leaves.at 60 rfl) rfl ?_
      have hz := hr _ (Option.some.inj h).symm
      rw [hz.1, hz.2]
      exact Ev_iret (dt_X11_leaves.at 61 rfl) rfl rfl
set_option maxRecDepth 100000 in
set_option maxHeartbeats 4000000 in
theorem wl_x_leaves_52 (σ : Sg) (v1 : Int32) (v2 : Int32) (v3 : Int32) (r : Option Value) (τ : Sg) (n : Nat) (x : Int32) (z : (Int32 ⊕ (Int32 × Sg))) (h : lp (b_x_leaves_52 σ v1 v2 v3) n x = some z) (he : ∀ y : Int32, z = .inl y → Ev M_X11_leaves 1 r τ 109 [] [] σ) (hr : ∀ q : (Int32 × Sg), z = .inr q → r = (some (.int q.1)) ∧ τ = q.2) : Ev M_X11_leaves 1 r τ 52 [(0, .ref 0), (1, .int v1), (2, .int v2), (3, .int v3), (4, .int x)] [] σ := by
  refine lp_ind (E := fun x : Int32 => Ev M_X11_leaves 1 r τ 52 [(0, .ref 0), (1, .int v1), (2, .int v2), (3, .int v3), (4, .int x)] [] σ) (fun x => ⟨fun y hb hy => ?_, fun hb => ?_⟩) n x h
  · exact wb_x_leaves_52 σ v1 v2 v3 x r τ _ hb (fun y' e => by cases e; exact hy) (fun y' e => by cases e) (fun y' e => by cases e)
  · exact wb_x_leaves_52 σ v1 v2 v3 x r τ _ hb (fun y' e => by cases e) (fun y' e => he y' (Sum.inr.inj e)) (fun y' e => hr y' (Sum.inr.inj e))
set_option maxRecDepth 100000 in
set_option maxHeartbeats 4000000 in
theorem w_x_leaves (σ : Sg) (a1 : Int32) (a2 : Int32) (a3 : Int32) (q : (Int32 × Sg)) (h : s_x_leaves σ a1 a2 a3 = some q) : Cal M_X11_leaves 1 [.ref 0, .int a1, .int a2, .int a3] σ (some (.int q.1)) q.2 := by
  refine Cal.of (M := M_X11_leaves) (by decide +kernel) (Nat.le_of_ble_eq_true rfl) ?_
  show Ev _ _ _ _ 0 [(0, .ref 0), (1, .int a1), (2, .int a2), (3, .int a3)] [] σ
  unfold s_x_leaves at h
  refine Ev_iload_n 1 (dt_X11_leaves.at 0 rfl) rfl ?_
  obtain ⟨q1, hq1, h⟩ := oBind h
  refine Ev_callS (st := []) (st' := [.int q1]) [.int a1] (dt_X11_leaves.at 1 rfl) cf_X11_178 (w_x_isAmount σ a1 q1 hq1) (by decide) rfl rfl (Nat.le_of_ble_eq_true rfl) rfl ?_
  refine Ev_if_eq (tgt := 21) (dt_X11_leaves.at 2 rfl) (by decide) (fun c2 => ?_) (fun c2 => ?_)
  · replace h := oPos h c2
    refine Ev_aload_n 0 (dt_X11_leaves.at 9 rfl) rfl ?_
    refine Ev_bipush (dt_X11_leaves.at 10 rfl) kb_m2 ?_
    obtain ⟨q3, hq3, h⟩ := oBind h
    refine Ev_callV (st := []) (st' := [.int q3.1]) [.int (-2)] (dt_X11_leaves.at 11 rfl) cf_X11_68 (w_x_refusedBad σ (-2) q3 hq3) (by decide) sk_0 rfl rfl rfl (Nat.le_of_ble_eq_true rfl) rfl ?_
    exact Ev_iret (dt_X11_leaves.at 12 rfl) rfl h
  · replace h := oNeg h c2
    refine Ev_iload_n 2 (dt_X11_leaves.at 3 rfl) rfl ?_
    obtain ⟨q4, hq4, h⟩ := oBind h
    refine Ev_callS (st := []) (st' := [.int q4]) [.int a2] (dt_X11_leaves.at 4 rfl) cf_X11_178 (w_x_isAmount σ a2 q4 hq4) (by decide) rfl rfl (Nat.le_of_ble_eq_true rfl) rfl ?_
    refine Ev_if_eq (tgt := 21) (dt_X11_leaves.at 5 rfl) (by decide) (fun c5 => ?_) (fun c5 => ?_)
    · replace h := oPos h c5
      refine Ev_aload_n 0 (dt_X11_leaves.at 9 rfl) rfl ?_
      refine Ev_bipush (dt_X11_leaves.at 10 rfl) kb_m2 ?_
      obtain ⟨q6, hq6, h⟩ := oBind h
      refine Ev_callV (st := []) (st' := [.int q6.1]) [.int (-2)] (dt_X11_leaves.at 11 rfl) cf_X11_68 (w_x_refusedBad σ (-2) q6 hq6) (by decide) sk_0 rfl rfl rfl (Nat.le_of_ble_eq_true rfl) rfl ?_
      exact Ev_iret (dt_X11_leaves.at 12 rfl) rfl h
    · replace h := oNeg h c5
      refine Ev_iload_n 3 (dt_X11_leaves.at 6 rfl) rfl ?_
      obtain ⟨q7, hq7, h⟩ := oBind h
      refine Ev_callS (st := []) (st' := [.int q7]) [.int a3] (dt_X11_leaves.at 7 rfl) cf_X11_178 (w_x_isAmount σ a3 q7 hq7) (by decide) rfl rfl (Nat.le_of_ble_eq_true rfl) rfl ?_
      refine Ev_if_ne (tgt := 28) (dt_X11_leaves.at 8 rfl) (by decide) (fun c8 => ?_) (fun c8 => ?_)
      · replace h := oNeg h c8
        refine Ev_iload_n 1 (dt_X11_leaves.at 13 rfl) rfl ?_
        refine Ev_iload_n 2 (dt_X11_leaves.at 14 rfl) rfl ?_
        refine Ev_iadd (dt_X11_leaves.at 15 rfl) ?_
        refine Ev_iload_n 3 (dt_X11_leaves.at 16 rfl) rfl ?_
        refine Ev_iadd (dt_X11_leaves.at 17 rfl) ?_
        refine Ev_aload_n 0 (dt_X11_leaves.at 18 rfl) rfl ?_
        refine Ev_get (i := 0) (v := .ref 25) (dt_X11_leaves.at 19 rfl) ff_X11_50 sk_0 rfl rfl ?_
        refine Ev_get (i := 1) (v := .ref 26) (dt_X11_leaves.at 20 rfl) ff_X11_181 sk_25 rfl rfl ?_
        refine Ev_bipush (dt_X11_leaves.at 21 rfl) kb_7 ?_
        refine Ev_iaload 26 (dt_X11_leaves.at 22 rfl) sk_26 ib_7_8 ?_
        refine Ev_icmp_eq (tgt := 49) (dt_X11_leaves.at 23 rfl) (by decide) (fun c9 => ?_) (fun c9 => ?_)
        · replace h := oPos h c9
          refine Ev_iconst (dt_X11_leaves.at 26 rfl) ki_1 ?_
          refine Ev_istore (dt_X11_leaves.at 27 rfl) (by decide) (ls' := [(4, .int 1), (0, .ref 0), (1, .int a1), (2, .int a2), (3, .int a3)]) rfl ?_
          refine Ev_sub [1, 2, 3, 4, 0] (ls' := [(0, .ref 0), (1, .int a1), (2, .int a2), (3, .int a3), (4, .int 1)]) rfl ?_
          obtain ⟨o15, ho15, h⟩ := oBind h
          refine wl_x_leaves_52 σ a1 a2 a3 _ _ 100000 1 o15 ho15 (fun y16 ey => ?_) (fun q17 eq => ?_)
          · rw [ey] at h
            replace h := oElimL h
            refine Ev_iconst (dt_X11_leaves.at 64 rfl) ki_m1 ?_
            exact Ev_iret (dt_X11_leaves.at 65 rfl) rfl h
          · rw [eq] at h
            replace h := oElimR h
            cases h; exact ⟨rfl, rfl⟩
        · replace h := oNeg h c9
          refine Ev_bipush (dt_X11_leaves.at 24 rfl) kb_7 ?_
          exact Ev_iret (dt_X11_leaves.at 25 rfl) rfl h
      · replace h := oPos h c8
        refine Ev_aload_n 0 (dt_X11_leaves.at 9 rfl) rfl ?_
        refine Ev_bipush (dt_X11_leaves.at 10 rfl) kb_m2 ?_
        obtain ⟨q18, hq18, h⟩ := oBind h
        refine Ev_callV (st := []) (st' := [.int q18.1]) [.int (-2)] (dt_X11_leaves.at 11 rfl) cf_X11_68 (w_x_refusedBad σ (-2) q18 hq18) (by decide) sk_0 rfl rfl rfl (Nat.le_of_ble_eq_true rfl) rfl ?_
        exact Ev_iret (dt_X11_leaves.at 12 rfl) rfl h
