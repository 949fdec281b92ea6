def b_x_threeWith_11 (σ : Sg) (v1 : Int32) (v3 : Int32) (x : Int32) : Option (Int32 ⊕ (Int32 ⊕ Int32)) :=
  if v3 ≤ x then
    some (.inr (.inl x))
  else
    if inB x 3 = true then
      lt ((gI σ 18 (Int32.toNatClampNeg x)) : Int32) fun x3 =>
      (s_x_isIn x3 v1).bind fun q4 =>
      if q4 = 0 then
        lt (x + 1 : Int32) fun x6 =>
        some (.inl x6)
      else
        some (.inr (.inr x3))
    else none
def s_x_threeWith (σ : Sg) (a1 : Int32) : Option Int32 :=
  (lp (b_x_threeWith_11 σ a1 3) 100000 0).bind fun o7 =>
  oElim o7 (fun y8 =>
    some 0) (fun q9 => some q9)
set_option maxRecDepth 100000 in
set_option maxHeartbeats 4000000 in
theorem wb_x_threeWith_11 (σ : Sg) (v1 : Int32) (v3 : Int32) (x : Int32) (r : Option Value) (τ : Sg) (o : (Int32 ⊕ (Int32 ⊕ Int32))) (h : (b_x_threeWith_11 σ v1 v3 x) = some o) (hc : ∀ y : Int32, o = .inl y → Ev M_X11_threeWith 1 r τ 11 [(1, .int v1), (2, .ref 18), (3, .int v3), (4, .int y)] [] σ) (he : ∀ y : Int32, o = .inr (.inl y) → Ev M_X11_threeWith 1 r τ 41 [] [] σ) (hr : ∀ q : Int32, o = .inr (.inr q) → r = (some (.int q)) ∧ τ = σ) : Ev M_X11_threeWith 1 r τ 11 [(1, .int v1), (2, .ref 18), (3, .int v3), (4, .int x)] [] σ := by
  unfold b_x_threeWith_11 at h
  refine Ev_iload 3 (dt_X11_threeWith.at 8 rfl) rfl ?_
  refine Ev_iload_n 2 (dt_X11_threeWith.at 9 rfl) rfl ?_
  refine Ev_icmp_ge (tgt := 41) (dt_X11_threeWith.at 10 rfl) (by decide) (fun c1 => ?_) (fun c1 => ?_)
  · replace h := oPos h c1
    refine Ev_sub [] (ls' := []) rfl ?_
    exact he x (Option.some.inj h).symm
  · replace h := oNeg h c1
    refine Ev_aload_n 1 (dt_X11_threeWith.at 11 rfl) rfl ?_
    refine Ev_iload 3 (dt_X11_threeWith.at 12 rfl) rfl ?_
    obtain ⟨g2, h⟩ := oGuard h
    refine Ev_iaload 18 (dt_X11_threeWith.at 13 rfl) sk_18 g2 ?_
    refine Ev_nmI (fun x3 ex3 => ?_)
    replace h := oLt h ex3
    refine Ev_istore (dt_X11_threeWith.at 14 rfl) (by decide) (ls' := [(5, .int x3), (1, .int v1), (2, .ref 18), (3, .int v3), (4, .int x)]) rfl ?_
    refine Ev_iload 0 (dt_X11_threeWith.at 15 rfl) rfl ?_
    refine Ev_iload_n 1 (dt_X11_threeWith.at 16 rfl) rfl ?_
    obtain ⟨q4, hq4, h⟩ := oBind h
    refine Ev_callS (st := []) (st' := [.int q4]) [.int x3, .int v1] (dt_X11_threeWith.at 17 rfl) cf_X11_202 (w_x_isIn σ x3 v1 q4 hq4) (by decide) rfl rfl (Nat.le_of_ble_eq_true rfl) rfl ?_
    refine Ev_if_eq (tgt := 35) (dt_X11_threeWith.at 18 rfl) (by decide) (fun c5 => ?_) (fun c5 => ?_)
    · replace h := oPos h c5
      obtain ⟨x6, ex6⟩ : ∃ z : Int32, z = x + 1 := ⟨_, rfl⟩
      replace h := oLt h ex6
      refine Ev_iinc (v := x6) 4 (dt_X11_threeWith.at 21 rfl) rfl (ex6.trans (congrArg (fun z => x + z) ki_1.symm)) (by decide) (ls' := [(4, .int x6), (5, .int x3), (1, .int v1), (2, .ref 18), (3, .int v3)]) rfl ?_
      refine Ev_goto (tgt := 11) (dt_X11_threeWith.at 22 rfl) (by decide) ?_
      refine Ev_sub [2, 3, 4, 0] (ls' := [(1, .int v1), (2, .ref 18), (3, .int v3), (4, .int x6)]) rfl ?_
      exact hc x6 (Option.some.inj h).symm
    · replace h := oNeg h c5
      refine Ev_iload 0 (dt_X11_threeWith.at 19 rfl) rfl ?_
      have hz := hr _ (Option.some.inj h).symm
      rw [hz.1, hz.2]
      exact Ev_iret (dt_X11_threeWith.at 20 rfl) rfl rfl
set_option maxRecDepth 100000 in
set_option maxHeartbeats 4000000 in
theorem wl_x_threeWith_11 (σ : Sg) (v1 : Int32) (v3 : Int32) (r : Option Value) (τ : Sg) (n : Nat) (x : Int32) (z : (Int32 ⊕ Int32)) (h : lp (b_x_threeWith_11 σ v1 v3) n x = some z) (he : ∀ y : Int32, z = .inl y → Ev M_X11_threeWith 1 r τ 41 [] [] σ) (hr : ∀ q : Int32, z = .inr q → r = (some (.int q)) ∧ τ = σ) : Ev M_X11_threeWith 1 r τ 11 [(1, .int v1), (2, .ref 18), (3, .int v3), (4, .int x)] [] σ := by
  refine lp_ind (E := fun x : Int32 => Ev M_X11_threeWith 1 r τ 11 [(1, .int v1), (2, .ref 18), (3, .int v3), (4, .int x)] [] σ) (fun x => ⟨fun y hb hy => ?_, fun hb => ?_⟩) n x h
  · exact wb_x_threeWith_11 σ v1 v3 x r τ _ hb (fun y' e => by cases e; exact hy) (fun y' e => by cases e) (fun y' e => by cases e)
  · exact wb_x_threeWith_11 σ v1 v3 x r τ _ hb (fun y' e => by cases e) (fun y' e => he y' (Sum.inr.inj e)) (fun y' e => hr y' (Sum.inr.inj e))
set_option maxRecDepth 100000 in
set_option maxHeartbeats 4000000 in
theorem w_x_threeWith (σ : Sg) (a1 : Int32) (q : Int32) (h : s_x_threeWith σ a1 = some q) : Cal M_X11_threeWith 1 [.ref 0, .int a1] σ (some (.int q)) σ := by
  refine Cal.of (M := M_X11_threeWith) (by decide +kernel) (Nat.le_of_ble_eq_true rfl) ?_
  show Ev _ _ _ _ 0 [(0, .ref 0), (1, .int a1)] [] σ
  unfold s_x_threeWith at h
  refine Ev_aload_n 0 (dt_X11_threeWith.at 0 rfl) rfl ?_
  refine Ev_get (i := 8) (v := .ref 18) (dt_X11_threeWith.at 1 rfl) ff_X11_37 sk_0 rfl rfl ?_
  refine Ev_astore_n (dt_X11_threeWith.at 2 rfl) (by decide) (ls' := [(2, .ref 18), (0, .ref 0), (1, .int a1)]) rfl ?_
  refine Ev_aload_n 0 (dt_X11_threeWith.at 3 rfl) rfl ?_
  refine Ev_alen 18 (dt_X11_threeWith.at 4 rfl) sk_18 (Or.inl rfl) kn_3 ?_
  refine Ev_istore_n (dt_X11_threeWith.at 5 rfl) (by decide) (ls' := [(3, .int 3), (2, .ref 18), (0, .ref 0), (1, .int a1)]) rfl ?_
  refine Ev_iconst (dt_X11_threeWith.at 6 rfl) ki_0 ?_
  refine Ev_istore (dt_X11_threeWith.at 7 rfl) (by decide) (ls' := [(4, .int 0), (3, .int 3), (2, .ref 18), (0, .ref 0), (1, .int a1)]) rfl ?_
  refine Ev_sub [4, 2, 1, 0] (ls' := [(1, .int a1), (2, .ref 18), (3, .int 3), (4, .int 0)]) rfl ?_
  obtain ⟨o7, ho7, h⟩ := oBind h
  refine wl_x_threeWith_11 σ a1 3 _ _ 100000 0 o7 ho7 (fun y8 ey => ?_) (fun q9 eq => ?_)
  · rw [ey] at h
    replace h := oElimL h
    refine Ev_iconst (dt_X11_threeWith.at 23 rfl) ki_0 ?_
    exact Ev_iret (dt_X11_threeWith.at 24 rfl) rfl (oRet h)
  · rw [eq] at h
    replace h := oElimR h
    cases h; exact ⟨rfl, rfl⟩
def s_x_lot (σ : Sg) (a1 : Int32) (a2 : Int32) : Option (Int32 × Sg) :=
  if a1 < 0 then
    (s_x_refusedBad σ (-2)).bind fun q2 =>
    some (q2.1, q2.2)
  else
    if 999999 < a1 then
      (s_x_refusedBad σ (-2)).bind fun q4 =>
      some (q4.1, q4.2)
    else
      (s_Town_hasPerson σ a2).bind fun q5 =>
      if q5 = 0 then
        (s_x_refusedBad σ (-2)).bind fun q12 =>
        some (q12.1, q12.2)
      else
        (s_x_isAllInThrees σ ).bind fun q7 =>
        if q7 = 0 then
          (s_x_refusedNo σ (-3)).bind fun q11 =>
          some (q11.1, q11.2)
        else
          (s_x_drawLots σ (Int32.toInt64 a1)).bind fun q9 =>
          (s_x_threeWith q9 a2).bind fun q10 =>
          some (q10, q9)
set_option maxRecDepth 100000 in
set_option maxHeartbeats 4000000 in
theorem w_x_lot (σ : Sg) (a1 : Int32) (a2 : Int32) (q : (Int32 × Sg)) (h : s_x_lot σ a1 a2 = some q) : Cal M_X11_lot 3 [.ref 0, .int a1, .int a2] σ (some (.int q.1)) q.2 := by
  refine Cal.of (M := M_X11_lot) (by decide +kernel) (Nat.le_of_ble_eq_true rfl) ?_
  show Ev _ _ _ _ 0 [(0, .ref 0), (1, .int a1), (2, .int a2)] [] σ
  unfold s_x_lot at h
  refine Ev_iload_n 1 (dt_X11_lot.at 0 rfl) rfl ?_
  refine Ev_if_lt (tgt := 24) (dt_X11_lot.at 1 rfl) (by decide) (fun c1 => ?_) (fun c1 => ?_)
  · replace h := oPos h c1
    refine Ev_aload_n 0 (dt_X11_lot.at 11 rfl) rfl ?_
    refine Ev_bipush (dt_X11_lot.at 12 rfl) kb_m2 ?_
    obtain ⟨q2, hq2, h⟩ := oBind h
    refine Ev_callV (st := []) (st' := [.int q2.1]) [.int (-2)] (dt_X11_lot.at 13 rfl) cf_X11_68 (w_x_refusedBad σ (-2) q2 hq2) (by decide) sk_0 rfl rfl rfl (Nat.le_of_ble_eq_true rfl) rfl ?_
    exact Ev_iret (dt_X11_lot.at 14 rfl) rfl h
  · replace h := oNeg h c1
    refine Ev_iload_n 1 (dt_X11_lot.at 2 rfl) rfl ?_
    refine Ev_ldc (dt_X11_lot.at 3 rfl) ci_X11_166 ?_
    refine Ev_icmp_gt (tgt := 24) (dt_X11_lot.at 4 rfl) (by decide) (fun c3 => ?_) (fun c3 => ?_)
    · replace h := oPos h c3
      refine Ev_aload_n 0 (dt_X11_lot.at 11 rfl) rfl ?_
      refine Ev_bipush (dt_X11_lot.at 12 rfl) kb_m2 ?_
      obtain ⟨q4, hq4, h⟩ := oBind h
      refine Ev_callV (st := []) (st' := [.int q4.1]) [.int (-2)] (dt_X11_lot.at 13 rfl) cf_X11_68 (w_x_refusedBad σ (-2) q4 hq4) (by decide) sk_0 rfl rfl rfl (Nat.le_of_ble_eq_true rfl) rfl ?_
      exact Ev_iret (dt_X11_lot.at 14 rfl) rfl h
    · replace h := oNeg h c3
      refine Ev_aload_n 0 (dt_X11_lot.at 5 rfl) rfl ?_
      refine Ev_get (i := 0) (v := .ref 25) (dt_X11_lot.at 6 rfl) ff_X11_50 sk_0 rfl rfl ?_
      refine Ev_get (i := 0) (v := .ref 19) (dt_X11_lot.at 7 rfl) ff_X11_72 sk_25 rfl rfl ?_
      refine Ev_iload_n 2 (dt_X11_lot.at 8 rfl) rfl ?_
      obtain ⟨q5, hq5, h⟩ := oBind h
      refine Ev_callV (st := []) (st' := [.int q5]) [.int a2] (dt_X11_lot.at 9 rfl) cf_X11_101 (w_Town_hasPerson σ a2 q5 hq5) (by decide) sk_19 rfl rfl rfl (Nat.le_of_ble_eq_true rfl) rfl ?_
      refine Ev_if_ne (tgt := 31) (dt_X11_lot.at 10 rfl) (by decide) (fun c6 => ?_) (fun c6 => ?_)
      · replace h := oNeg h c6
        refine Ev_aload_n 0 (dt_X11_lot.at 15 rfl) rfl ?_
        obtain ⟨q7, hq7, h⟩ := oBind h
        refine Ev_callV (st := []) (st' := [.int q7]) [] (dt_X11_lot.at 16 rfl) cf_X11_147 (w_x_isAllInThrees σ  q7 hq7) (by decide) sk_0 rfl rfl rfl (Nat.le_of_ble_eq_true rfl) rfl ?_
        refine Ev_if_ne (tgt := 45) (dt_X11_lot.at 17 rfl) (by decide) (fun c8 => ?_) (fun c8 => ?_)
        · replace h := oNeg h c8
          refine Ev_aload_n 0 (dt_X11_lot.at 22 rfl) rfl ?_
          refine Ev_iload_n 1 (dt_X11_lot.at 23 rfl) rfl ?_
          refine Ev_i2l (dt_X11_lot.at 24 rfl) ?_
          obtain ⟨q9, hq9, h⟩ := oBind h
          refine Ev_callV (st := []) (st' := []) [.long (Int32.toInt64 a1)] (dt_X11_lot.at 25 rfl) cf_X11_167 (w_x_drawLots σ (Int32.toInt64 a1) q9 hq9) (by decide) sk_0 rfl rfl rfl (Nat.le_of_ble_eq_true rfl) rfl ?_
          refine Ev_aload_n 0 (dt_X11_lot.at 26 rfl) rfl ?_
          refine Ev_iload_n 2 (dt_X11_lot.at 27 rfl) rfl ?_
          obtain ⟨q10, hq10, h⟩ := oBind h
          refine Ev_callV (st := []) (st' := [.int q10]) [.int a2] (dt_X11_lot.at 28 rfl) cf_X11_171 (w_x_threeWith q9 a2 q10 hq10) (by decide) sk_0 rfl rfl rfl (Nat.le_of_ble_eq_true rfl) rfl ?_
          exact Ev_iret (dt_X11_lot.at 29 rfl) rfl h
        · replace h := oPos h c8
          refine Ev_aload_n 0 (dt_X11_lot.at 18 rfl) rfl ?_
          refine Ev_bipush (dt_X11_lot.at 19 rfl) kb_m3 ?_
          obtain ⟨q11, hq11, h⟩ := oBind h
          refine Ev_callV (st := []) (st' := [.int q11.1]) [.int (-3)] (dt_X11_lot.at 20 rfl) cf_X11_118 (w_x_refusedNo σ (-3) q11 hq11) (by decide) sk_0 rfl rfl rfl (Nat.le_of_ble_eq_true rfl) rfl ?_
          exact Ev_iret (dt_X11_lot.at 21 rfl) rfl h
      · replace h := oPos h c6
        refine Ev_aload_n 0 (dt_X11_lot.at 11 rfl) rfl ?_
        refine Ev_bipush (dt_X11_lot.at 12 rfl) kb_m2 ?_
        obtain ⟨q12, hq12, h⟩ := oBind h
        refine Ev_callV (st := []) (st' := [.int q12.1]) [.int (-2)] (dt_X11_lot.at 13 rfl) cf_X11_68 (w_x_refusedBad σ (-2) q12 hq12) (by decide) sk_0 rfl rfl rfl (Nat.le_of_ble_eq_true rfl) rfl ?_
        exact Ev_iret (dt_X11_lot.at 14 rfl) rfl h
def b_Splits_rowsBehind_17_l0_13 (σ : Sg) (v1 : Int32) (v2 : Int64) (v4 : Int32) (x : (Int64 × Int32)) : Option ((Int64 × Int32) ⊕ (Int64 × Int32)) :=
  if v1 ≤ x.2 then
    some (.inr (x.1, x.2))
  else
    if inB x.2 280 = true then
      if (lg_cmp ((gL σ 17 (Int32.toNatClampNeg x.2)) &&& v2) 0) = 0 then
        if inB x.2 280 = true then
          none
        else none
      else
        lt (x.2 + 1 : Int32) fun x5 =>
        some (.inl (x.1, x5))
    else none
def s_Splits_rowsBehind_17_l0 (σ : Sg) (a1 : Int32) (a2 : Int64) (a4 : Int32) : Option Int64 :=
  if 0 < a4 then
    (lp (b_Splits_rowsBehind_17_l0_13 σ a1 a2 a4) 100000 (0, 0)).bind fun o7 =>
    some o7.1
  else
    some 1
set_option maxRecDepth 100000 in
set_option maxHeartbeats 4000000 in
theorem wb_Splits_rowsBehind_17_l0_13 (σ : Sg) (v1 : Int32) (v2 : Int64) (v4 : Int32) (x : (Int64 × Int32)) (r : Option Value) (τ : Sg) (o : ((Int64 × Int32) ⊕ (Int64 × Int32))) (h : (b_Splits_rowsBehind_17_l0_13 σ v1 v2 v4 x) = some o) (hc : ∀ y : (Int64 × Int32), o = .inl y → Ev M_X7_rowsBehind 0 r τ 13 [(0, .ref 17), (1, .int v1), (2, .long v2), (4, .int v4), (5, .long y.1), (7, .int y.2)] [] σ) (he : ∀ y : (Int64 × Int32), o = .inr y → Ev M_X7_rowsBehind 0 r τ 56 [(5, .long y.1)] [] σ) : Ev M_X7_rowsBehind 0 r τ 13 [(0, .ref 17), (1, .int v1), (2, .long v2), (4, .int v4), (5, .long x.1), (7, .int x.2)] [] σ := by
  unfold b_Splits_rowsBehind_17_l0_13 at h
  refine Ev_iload 5 (dt_X7_rowsBehind.at 8 rfl) rfl ?_
  refine Ev_iload_n 1 (dt_X7_rowsBehind.at 9 rfl) rfl ?_
  refine Ev_icmp_ge (tgt := 56) (dt_X7_rowsBehind.at 10 rfl) (by decide) (fun c2 => ?_) (fun c2 => ?_)
  · replace h := oPos h c2
    refine Ev_sub [4] (ls' := [(5, .long x.1)]) rfl ?_
    exact he (x.1, x.2) (Option.some.inj h).symm
  · replace h := oNeg h c2
    refine Ev_aload_n 0 (dt_X7_rowsBehind.at 11 rfl) rfl ?_
    refine Ev_iload 5 (dt_X7_rowsBehind.at 12 rfl) rfl ?_
    obtain ⟨g3, h⟩ := oGuard h
    refine Ev_laload 17 (dt_X7_rowsBehind.at 13 rfl) sk_17 g3 ?_
    refine Ev_lload_n 2 (dt_X7_rowsBehind.at 14 rfl) rfl ?_
    refine Ev_land (dt_X7_rowsBehind.at 15 rfl) ?_
    refine Ev_lconst (dt_X7_rowsBehind.at 16 rfl) kl_0 ?_
    refine Ev_lcmp (dt_X7_rowsBehind.at 17 rfl) ?_
    refine Ev_if_ne (tgt := 50) (dt_X7_rowsBehind.at 18 rfl) (by decide) (fun c4 => ?_) (fun c4 => ?_)
    · replace h := oNeg h c4
      obtain ⟨x5, ex5⟩ : ∃ z : Int32, z = x.2 + 1 := ⟨_, rfl⟩
      replace h := oLt h ex5
      refine Ev_iinc (v := x5) 5 (dt_X7_rowsBehind.at 33 rfl) rfl (ex5.trans (congrArg (fun z => x.2 + z) ki_1.symm)) (by decide) (ls' := [(7, .int x5), (0, .ref 17), (1, .int v1), (2, .long v2), (4, .int v4), (5, .long x.1)]) rfl ?_
      refine Ev_goto (tgt := 13) (dt_X7_rowsBehind.at 34 rfl) (by decide) ?_
      refine Ev_sub [1, 2, 3, 4, 5, 0] (ls' := [(0, .ref 17), (1, .int v1), (2, .long v2), (4, .int v4), (5, .long x.1), (7, .int x5)]) rfl ?_
      exact hc (x.1, x5) (Option.some.inj h).symm
    · replace h := oPos h c4
      refine Ev_lload 4 (dt_X7_rowsBehind.at 19 rfl) rfl ?_
      refine Ev_aload_n 0 (dt_X7_rowsBehind.at 20 rfl) rfl ?_
      refine Ev_iload_n 1 (dt_X7_rowsBehind.at 21 rfl) rfl ?_
      refine Ev_lload_n 2 (dt_X7_rowsBehind.at 22 rfl) rfl ?_
      refine Ev_aload_n 0 (dt_X7_rowsBehind.at 23 rfl) rfl ?_
      refine Ev_iload 5 (dt_X7_rowsBehind.at 24 rfl) rfl ?_
      obtain ⟨g6, h⟩ := oGuard h
      refine Ev_laload 17 (dt_X7_rowsBehind.at 25 rfl) sk_17 g6 ?_
      refine Ev_lor (dt_X7_rowsBehind.at 26 rfl) ?_
      refine Ev_iload 3 (dt_X7_rowsBehind.at 27 rfl) rfl ?_
      refine Ev_iconst (dt_X7_rowsBehind.at 28 rfl) ki_1 ?_
      refine Ev_isub (dt_X7_rowsBehind.at 29 rfl) ?_
      cases h
set_option maxRecDepth 100000 in
set_option maxHeartbeats 4000000 in
theorem wl_Splits_rowsBehind_17_l0_13 (σ : Sg) (v1 : Int32) (v2 : Int64) (v4 : Int32) (r : Option Value) (τ : Sg) (n : Nat) (x : (Int64 × Int32)) (z : (Int64 × Int32)) (h : lp (b_Splits_rowsBehind_17_l0_13 σ v1 v2 v4) n x = some z) (he : ∀ y : (Int64 × Int32), z = y → Ev M_X7_rowsBehind 0 r τ 56 [(5, .long y.1)] [] σ) : Ev M_X7_rowsBehind 0 r τ 13 [(0, .ref 17), (1, .int v1), (2, .long v2), (4, .int v4), (5, .long x.1), (7, .int x.2)] [] σ := by
  refine lp_ind (E := fun x : (Int64 × Int32) => Ev M_X7_rowsBehind 0 r τ 13 [(0, .ref 17), (1, .int v1), (2, .long v2), (4, .int v4), (5, .long x.1), (7, .int x.2)] [] σ) (fun x => ⟨fun y hb hy => ?_, fun hb => ?_⟩) n x h
  · exact wb_Splits_rowsBehind_17_l0_13 σ v1 v2 v4 x r τ _ hb (fun y' e => by cases e; exact hy) (fun y' e => by cases e)
  · exact wb_Splits_rowsBehind_17_l0_13 σ v1 v2 v4 x r τ _ hb (fun y' e => by cases e) (fun y' e => he y' (Sum.inr.inj e))
set_option maxRecDepth 100000 in
set_option maxHeartbeats 4000000 in
theorem w_Splits_rowsBehind_17_l0 (σ : Sg) (a1 : Int32) (a2 : Int64) (a4 : Int32) (q : Int64) (h : s_Splits_rowsBehind_17_l0 σ a1 a2 a4 = some q) : Cal M_X7_rowsBehind 0 [.ref 17, .int a1, .long a2, .int a4] σ (some (.long q)) σ := by
  refine Cal.of (M := M_X7_rowsBehind) (by decide +kernel) (Nat.le_of_ble_eq_true rfl) ?_
  show Ev _ _ _ _ 0 [(0, .ref 17), (1, .int a1), (2, .long a2), (4, .int a4)] [] σ
  unfold s_Splits_rowsBehind_17_l0 at h
  refine Ev_iload 3 (dt_X7_rowsBehind.at 0 rfl) rfl ?_
  refine Ev_if_gt (tgt := 7) (dt_X7_rowsBehind.at 1 rfl) (by decide) (fun c1 => ?_) (fun c1 => ?_)
  · replace h := oPos h c1
    refine Ev_lconst (dt_X7_rowsBehind.at 4 rfl) kl_0 ?_
    refine Ev_lstore (dt_X7_rowsBehind.at 5 rfl) (by decide) (ls' := [(5, .long 0), (0, .ref 17), (1, .int a1), (2, .long a2), (4, .int a4)]) rfl ?_
    refine Ev_iconst (dt_X7_rowsBehind.at 6 rfl) ki_0 ?_
    refine Ev_istore (dt_X7_rowsBehind.at 7 rfl) (by decide) (ls' := [(7, .int 0), (5, .long 0), (0, .ref 17), (1, .int a1), (2, .long a2), (4, .int a4)]) rfl ?_
    refine Ev_sub [2, 3, 4, 5, 1, 0] (ls' := [(0, .ref 17), (1, .int a1), (2, .long a2), (4, .int a4), (5, .long 0), (7, .int 0)]) rfl ?_
    obtain ⟨o7, ho7, h⟩ := oBind h
    refine wl_Splits_rowsBehind_17_l0_13 σ a1 a2 a4 _ _ 100000 (0, 0) o7 ho7 (fun y ey => ?_)
    subst ey
    refine Ev_lload 0 (dt_X7_rowsBehind.at 35 rfl) rfl ?_
    exact Ev_lret (dt_X7_rowsBehind.at 36 rfl) rfl (oRet h)
  · replace h := oNeg h c1
    refine Ev_lconst (dt_X7_rowsBehind.at 2 rfl) kl_1 ?_
    exact Ev_lret (dt_X7_rowsBehind.at 3 rfl) rfl (oRet h)
def b_Splits_rowsBehind_17_l1_13 (σ : Sg) (v1 : Int32) (v2 : Int64) (v4 : Int32) (x : (Int64 × Int32)) : Option ((Int64 × Int32) ⊕ (Int64 × Int32)) :=
  if v1 ≤ x.2 then
    some (.inr (x.1, x.2))
  else
    if inB x.2 280 = true then
      if (lg_cmp ((gL σ 17 (Int32.toNatClampNeg x.2)) &&& v2) 0) = 0 then
        if inB x.2 280 = true then
          (s_Splits_rowsBehind_17_l0 σ v1 (v2 ||| (gL σ 17 (Int32.toNatClampNeg x.2))) (v4 - 1)).bind fun q7 =>
          lt ((x.1 + q7) : Int64) fun x8 =>
          lt (x.2 + 1 : Int32) fun x9 =>
          some (.inl (x8, x9))
        else none
      else
        lt (x.2 + 1 : Int32) fun x5 =>
        some (.inl (x.1, x5))
    else none
def s_Splits_rowsBehind_17_l1 (σ : Sg) (a1 : Int32) (a2 : Int64) (a4 : Int32) : Option Int64 :=
  if 0 < a4 then
    (lp (b_Splits_rowsBehind_17_l1_13 σ a1 a2 a4) 100000 (0, 0)).bind fun o10 =>
    some o10.1
  else
    some 1
set_option maxRecDepth 100000 in
set_option maxHeartbeats 4000000 in
theorem wb_Splits_rowsBehind_17_l1_13 (σ : Sg) (v1 : Int32) (v2 : Int64) (v4 : Int32) (x : (Int64 × Int32)) (r : Option Value) (τ : Sg) (o : ((Int64 × Int32) ⊕ (Int64 × Int32))) (h : (b_Splits_rowsBehind_17_l1_13 σ v1 v2 v4 x) = some o) (hc : ∀ y : (Int64 × Int32), o = .inl y → Ev M_X7_rowsBehind 1 r τ 13 [(0, .ref 17), (1, .int v1), (2, .long v2), (4, .int v4), (5, .long y.1), (7, .int y.2)] [] σ) (he : ∀ y : (Int64 × Int32), o = .inr y → Ev M_X7_rowsBehind 1 r τ 56 [(5, .long y.1)] [] σ) : Ev M_X7_rowsBehind 1 r τ 13 [(0, .ref 17), (1, .int v1), (2, .long v2), (4, .int v4), (5, .long x.1), (7, .int x.2)] [] σ := by
  unfold b_Splits_rowsBehind_17_l1_13 at h
  refine Ev_iload 5 (dt_X7_rowsBehind.at 8 rfl) rfl ?_
  refine Ev_iload_n 1 (dt_X7_rowsBehind.at 9 rfl) rfl ?_
  refine Ev_icmp_ge (tgt := 56) (dt_X7_rowsBehind.at 10 rfl) (by decide) (fun c2 => ?_) (fun c2 => ?_)
  · replace h := oPos h c2
    refine Ev_sub [4] (ls' := [(5, .long x.1)]) rfl ?_
    exact he (x.1, x.2) (Option.some.inj h).symm
  · replace h := oNeg h c2
    refine Ev_aload_n 0 (dt_X7_rowsBehind.at 11 rfl) rfl ?_
    refine Ev_iload 5 (dt_X7_rowsBehind.at 12 rfl) rfl ?_
    obtain ⟨g3, h⟩ := oGuard h
    refine Ev_laload 17 (dt_X7_rowsBehind.at 13 rfl) sk_17 g3 ?_
    refine Ev_lload_n 2 (dt_X7_rowsBehind.at 14 rfl) rfl ?_
    refine Ev_land (dt_X7_rowsBehind.at 15 rfl) ?_
    refine Ev_lconst (dt_X7_rowsBehind.at 16 rfl) kl_0 ?_
    refine Ev_lcmp (dt_X7_rowsBehind.at 17 rfl) ?_
    refine Ev_if_ne (tgt := 50) (dt_X7_rowsBehind.at 18 rfl) (by decide) (fun c4 => ?_) (fun c4 => ?_)
    · replace h := oNeg h c4
      obtain ⟨x5, ex5⟩ : ∃ z : Int32, z = x.2 + 1 := ⟨_, rfl⟩
      replace h := oLt h ex5
      refine Ev_iinc (v := x5) 5 (dt_X7_rowsBehind.at 33 rfl) rfl (ex5.trans (congrArg (fun z => x.2 + z) ki_1.symm)) (by decide) (ls' := [(7, .int x5), (0, .ref 17), (1, .int v1), (2, .long v2), (4, .int v4), (5, .long x.1)]) rfl ?_
      refine Ev_goto (tgt := 13) (dt_X7_rowsBehind.at 34 rfl) (by decide) ?_
      refine Ev_sub [1, 2, 3, 4, 5, 0] (ls' := [(0, .ref 17), (1, .int v1), (2, .long v2), (4, .int v4), (5, .long x.1), (7, .int x5)]) rfl ?_
      exact hc (x.1, x5) (Option.some.inj h).symm
    · replace h := oPos h c4
      refine Ev_lload 4 (dt_X7_rowsBehind.at 19 rfl) rfl ?_
      refine Ev_aload_n 0 (dt_X7_rowsBehind.at 20 rfl) rfl ?_
      refine Ev_iload_n 1 (dt_X7_rowsBehind.at 21 rfl) rfl ?_
      refine Ev_lload_n 2 (dt_X7_rowsBehind.at 22 rfl) rfl ?_
      refine Ev_aload_n 0 (dt_X7_rowsBehind.at 23 rfl) rfl ?_
      refine Ev_iload 5 (dt_X7_rowsBehind.at 24 rfl) rfl ?_
      obtain ⟨g6, h⟩ := oGuard h
      refine Ev_laload 17 (dt_X7_rowsBehind.at 25 rfl) sk_17 g6 ?_
      refine Ev_lor (dt_X7_rowsBehind.at 26 rfl) ?_
      refine Ev_iload 3 (dt_X7_rowsBehind.at 27 rfl) rfl ?_
      refine Ev_iconst (dt_X7_rowsBehind.at 28 rfl) ki_1 ?_
      refine Ev_isub (dt_X7_rowsBehind.at 29 rfl) ?_
      obtain ⟨q7, hq7, h⟩ := oBind h
      refine Ev_callS (st := [.long x.1]) (st' := [.long q7, .long x.1]) [.ref 17, .int v1, .long (v2 ||| (gL σ 17 (Int32.toNatClampNeg x.2))), .int (v4 - 1)] (dt_X7_rowsBehind.at 30 rfl) cf_X7_55 (w_Splits_rowsBehind_17_l0 σ v1 (v2 ||| (gL σ 17 (Int32.toNatClampNeg x.2))) (v4 - 1) q7 hq7) (by decide) rfl rfl (Nat.le_of_ble_eq_true rfl) rfl ?_
      refine Ev_ladd (dt_X7_rowsBehind.at 31 rfl) ?_
      refine Ev_nmL (fun x8 ex8 => ?_)
      replace h := oLt h ex8
      refine Ev_lstore (dt_X7_rowsBehind.at 32 rfl) (by decide) (ls' := [(5, .long x8), (0, .ref 17), (1, .int v1), (2, .long v2), (4, .int v4), (7, .int x.2)]) rfl ?_
      obtain ⟨x9, ex9⟩ : ∃ z : Int32, z = x.2 + 1 := ⟨_, rfl⟩
      replace h := oLt h ex9
      refine Ev_iinc (v := x9) 5 (dt_X7_rowsBehind.at 33 rfl) rfl (ex9.trans (congrArg (fun z => x.2 + z) ki_1.symm)) (by decide) (ls' := [(7, .int x9), (5, .long x8), (0, .ref 17), (1, .int v1), (2, .long v2), (4, .int v4)]) rfl ?_
      refine Ev_goto (tgt := 13) (dt_X7_rowsBehind.at 34 rfl) (by decide) ?_
      refine Ev_sub [2, 3, 4, 5, 1, 0] (ls' := [(0, .ref 17), (1, .int v1), (2, .long v2), (4, .int v4), (5, .long x8), (7, .int x9)]) rfl ?_
      exact hc (x8, x9) (Option.some.inj h).symm
set_option maxRecDepth 100000 in
set_option maxHeartbeats 4000000 in
theorem wl_Splits_rowsBehind_17_l1_13 (σ : Sg) (v1 : Int32) (v2 : Int64) (v4 : Int32) (r : Option Value) (τ : Sg) (n : Nat) (x : (Int64 × Int32)) (z : (Int64 × Int32)) (h : lp (b_Splits_rowsBehind_17_l1_13 σ v1 v2 v4) n x = some z) (he : ∀ y : (Int64 × Int32), z = y → Ev M_X7_rowsBehind 1 r τ 56 [(5, .long y.1)] [] σ) : Ev M_X7_rowsBehind 1 r τ 13 [(0, .ref 17), (1, .int v1), (2, .long v2), (4, .int v4), (5, .long x.1), (7, .int x.2)] [] σ := by
  refine lp_ind (E := fun x : (Int64 × Int32) => Ev M_X7_rowsBehind 1 r τ 13 [(0, .ref 17), (1, .int v1), (2, .long v2), (4, .int v4), (5, .long x.1), (7, .int x.2)] [] σ) (fun x => ⟨fun y hb hy => ?_, fun hb => ?_⟩) n x h
  · exact wb_Splits_rowsBehind_17_l1_13 σ v1 v2 v4 x r τ _ hb (fun y' e => by cases e; exact hy) (fun y' e => by cases e)
  · exact wb_Splits_rowsBehind_17_l1_13 σ v1 v2 v4 x r τ _ hb (fun y' e => by cases e) (fun y' e => he y' (Sum.inr.inj e))
set_option maxRecDepth 100000 in
set_option maxHeartbeats 4000000 in
theorem w_Splits_rowsBehind_17_l1 (σ : Sg) (a1 : Int32) (a2 : Int64) (a4 : Int32) (q : Int64) (h : s_Splits_rowsBehind_17_l1 σ a1 a2 a4 = some q) : Cal M_X7_rowsBehind 1 [.ref 17, .int a1, .long a2, .int a4] σ (some (.long q)) σ := by
  refine Cal.of (M := M_X7_rowsBehind) (by decide +kernel) (Nat.le_of_ble_eq_true rfl) ?_
  show Ev _ _ _ _ 0 [(0, .ref 17), (1, .int a1), (2, .long a2), (4, .int a4)] [] σ
  unfold s_Splits_rowsBehind_17_l1 at h
  refine Ev_iload 3 (dt_X7_rowsBehind.at 0 rfl) rfl ?_
  refine Ev_if_gt (tgt := 7) (dt_X7_rowsBehind.at 1 rfl) (by decide) (fun c1 => ?_) (fun c1 => ?_)
  · replace h := oPos h c1
    refine Ev_lconst (dt_X7_rowsBehind.at 4 rfl) kl_0 ?_
    refine Ev_lstore (dt_X7_rowsBehind.at 5 rfl) (by decide) (ls' := [(5, .long 0), (0, .ref 17), (1, .int a1), (2, .long a2), (4, .int a4)]) rfl ?_
    refine Ev_iconst (dt_X7_rowsBehind.at 6 rfl) ki_0 ?_
    refine Ev_istore (dt_X7_rowsBehind.at 7 rfl) (by decide) (ls' := [(7, .int 0), (5, .long 0), (0, .ref 17), (1, .int a1), (2, .long a2), (4, .int a4)]) rfl ?_
    refine Ev_sub [2, 3, 4, 5, 1, 0] (ls' := [(0, .ref 17), (1, .int a1), (2, .long a2), (4, .int a4), (5, .long 0), (7, .int 0)]) rfl ?_
    obtain ⟨o10, ho10, h⟩ := oBind h
    refine wl_Splits_rowsBehind_17_l1_13 σ a1 a2 a4 _ _ 100000 (0, 0) o10 ho10 (fun y ey => ?_)
    subst ey
    refine Ev_lload 0 (dt_X7_rowsBehind.at 35 rfl) rfl ?_
    exact Ev_lret (dt_X7_rowsBehind.at 36 rfl) rfl (oRet h)
  · replace h := oNeg h c1
    refine Ev_lconst (dt_X7_rowsBehind.at 2 rfl) kl_1 ?_
    exact Ev_lret (dt_X7_rowsBehind.at 3 rfl) rfl (oRet h)
def b_Splits_rowsBehind_17_l2_13 (σ : Sg) (v1 : Int32) (v2 : Int64) (v4 : Int32) (x : (Int64 × Int32)) : Option ((Int64 × Int32) ⊕ (Int64 × Int32)) :=
  if v1 ≤ x.2 then
    some (.inr (x.1, x.2))
  else
    if inB x.2 280 = true then
      if (lg_cmp ((gL σ 17 (Int32.toNatClampNeg x.2)) &&& v2) 0) = 0 then
        if inB x.2 280 = true then
          (s_Splits_rowsBehind_17_l1 σ v1 (v2 ||| (gL σ 17 (Int32.toNatClampNeg x.2))) (v4 - 1)).bind fun q7 =>
          lt ((x.1 + q7) : Int64) fun x8 =>
          lt (x.2 + 1 : Int32) fun x9 =>
          some (.inl (x8, x9))
        else none
      else
        lt (x.2 + 1 : Int32) fun x5 =>
        some (.inl (x.1, x5))
    else none
def s_Splits_rowsBehind_17_l2 (σ : Sg) (a1 : Int32) (a2 : Int64) (a4 : Int32) : Option Int64 :=
  if 0 < a4 then
    (lp (b_Splits_rowsBehind_17_l2_13 σ a1 a2 a4) 100000 (0, 0)).bind fun o10 =>
    some o10.1
  else
    some 1
set_option maxRecDepth 100000 in
set_option maxHeartbeats 4000000 in
theorem wb_Splits_rowsBehind_17_l2_13 (σ : Sg) (v1 : Int32) (v2 : Int64) (v4 : Int32) (x : (Int64 × Int32)) (r : Option Value) (τ : Sg) (o : ((Int64 × Int32) ⊕ (Int64 × Int32))) (h : (b_Splits_rowsBehind_17_l2_13 σ v1 v2 v4 x) = some o) (hc : ∀ y : (Int64 × Int32), o = .inl y → Ev M_X7_rowsBehind 2 r τ 13 [(0, .ref 17), (1, .int v1), (2, .long v2), (4, .int v4), (5, .long y.1), (7, .int y.2)] [] σ) (he : ∀ y : (Int64 × Int32), o = .inr y → Ev M_X7_rowsBehind 2 r τ 56 [(5, .long y.1)] [] σ) : Ev M_X7_rowsBehind 2 r τ 13 [(0, .ref 17), (1, .int v1), (2, .long v2), (4, .int v4), (5, .long x.1), (7, .int x.2)] [] σ := by
  unfold b_Splits_rowsBehind_17_l2_13 at h
  refine Ev_iload 5 (dt_X7_rowsBehind.at 8 rfl) rfl ?_
  refine Ev_iload_n 1 (dt_X7_rowsBehind.at 9 rfl) rfl ?_
  refine Ev_icmp_ge (tgt := 56) (dt_X7_rowsBehind.at 10 rfl) (by decide) (fun c2 => ?_) (fun c2 => ?_)
  · replace h := oPos h c2
    refine Ev_sub [4] (ls' := [(5, .long x.1)]) rfl ?_
    exact he (x.1, x.2) (Option.some.inj h).symm
  · replace h := oNeg h c2
    refine Ev_aload_n 0 (dt_X7_rowsBehind.at 11 rfl) rfl ?_
    refine Ev_iload 5 (dt_X7_rowsBehind.at 12 rfl) rfl ?_
    obtain ⟨g3, h⟩ := oGuard h
    refine Ev_laload 17 (dt_X7_rowsBehind.at 13 rfl) sk_17 g3 ?_
    refine Ev_lload_n 2 (dt_X7_rowsBehind.at 14 rfl) rfl ?_
    refine Ev_land (dt_X7_rowsBehind.at 15 rfl) ?_
    refine Ev_lconst (dt_X7_rowsBehind.at 16 rfl) kl_0 ?_
    refine Ev_lcmp (dt_X7_rowsBehind.at 17 rfl) ?_
    refine Ev_if_ne (tgt := 50) (dt_X7_rowsBehind.at 18 rfl) (by decide) (fun c4 => ?_) (fun c4 => ?_)
    · replace h := oNeg h c4
      obtain ⟨x5, ex5⟩ : ∃ z : Int32, z = x.2 + 1 := ⟨_, rfl⟩
      replace h := oLt h ex5
      refine Ev_iinc (v := x5) 5 (dt_X7_rowsBehind.at 33 rfl) rfl (ex5.trans (congrArg (fun z => x.2 + z) ki_1.symm)) (by decide) (ls' := [(7, .int x5), (0, .ref 17), (1, .int v1), (2, .long v2), (4, .int v4), (5, .long x.1)]) rfl ?_
      refine Ev_goto (tgt := 13) (dt_X7_rowsBehind.at 34 rfl) (by decide) ?_
      refine Ev_sub [1, 2, 3, 4, 5, 0] (ls' := [(0, .ref 17), (1, .int v1), (2, .long v2), (4, .int v4), (5, .long x.1), (7, .int x5)]) rfl ?_
      exact hc (x.1, x5) (Option.some.inj h).symm
    · replace h := oPos h c4
      refine Ev_lload 4 (dt_X7_rowsBehind.at 19 rfl) rfl ?_
      refine Ev_aload_n 0 (dt_X7_rowsBehind.at 20 rfl) rfl ?_
      refine Ev_iload_n 1 (dt_X7_rowsBehind.at 21 rfl) rfl ?_
      refine Ev_lload_n 2 (dt_X7_rowsBehind.at 22 rfl) rfl ?_
      refine Ev_aload_n 0 (dt_X7_rowsBehind.at 23 rfl) rfl ?_
      refine Ev_iload 5 (dt_X7_rowsBehind.at 24 rfl) rfl ?_
      obtain ⟨g6, h⟩ := oGuard h
      refine Ev_laload 17 (dt_X7_rowsBehind.at 25 rfl) sk_17 g6 ?_
      refine Ev_lor (dt_X7_rowsBehind.at 26 rfl) ?_
      refine Ev_iload 3 (dt_X7_rowsBehind.at 27 rfl) rfl ?_
      refine Ev_iconst (dt_X7_rowsBehind.at 28 rfl) ki_1 ?_
      refine Ev_isub (dt_X7_rowsBehind.at 29 rfl) ?_
      obtain ⟨q7, hq7, h⟩ := oBind h
      refine Ev_callS (st := [.long x.1]) (st' := [.long q7, .long x.1]) [.ref 17, .int v1, .long (v2 ||| (gL σ 17 (Int32.toNatClampNeg x.2))), .int (v4 - 1)] (dt_X7_rowsBehind.at 30 rfl) cf_X7_55 (w_Splits_rowsBehind_17_l1 σ v1 (v2 ||| (gL σ 17 (Int32.toNatClampNeg x.2))) (v4 - 1) q7 hq7) (by decide) rfl rfl (Nat.le_of_ble_eq_true rfl) rfl ?_
      refine Ev_ladd (dt_X7_rowsBehind.at 31 rfl) ?_
      refine Ev_nmL (fun x8 ex8 => ?_)
      replace h := oLt h ex8
      refine Ev_lstore (dt_X7_rowsBehind.at 32 rfl) (by decide) (ls' := [(5, .long x8), (0, .ref 17), (1, .int v1), (2, .long v2), (4, .int v4), (7, .int x.2)]) rfl ?_
      obtain ⟨x9, ex9⟩ : ∃ z : Int32, z = x.2 + 1 := ⟨_, rfl⟩
      replace h := oLt h ex9
      refine Ev_iinc (v := x9) 5 (dt_X7_rowsBehind.at 33 rfl) rfl (ex9.trans (congrArg (fun z => x.2 + z) ki_1.symm)) (by decide) (ls' := [(7, .int x9), (5, .long x8), (0, .ref 17), (1, .int v1), (2, .long v2), (4, .int v4)]) rfl ?_
      refine Ev_goto (tgt := 13) (dt_X7_rowsBehind.at 34 rfl) (by decide) ?_
      refine Ev_sub [2, 3, 4, 5, 1, 0] (ls' := [(0, .ref 17), (1, .int v1), (2, .long v2), (4, .int v4), (5, .long x8), (7, .int x9)]) rfl ?_
      exact hc (x8, x9) (Option.some.inj h).symm
set_option maxRecDepth 100000 in
set_option maxHeartbeats 4000000 in
theorem wl_Splits_rowsBehind_17_l2_13 (σ : Sg) (v1 : Int32) (v2 : Int64) (v4 : Int32) (r : Option Value) (τ : Sg) (n : Nat) (x : (Int64 × Int32)) (z : (Int64 × Int32)) (h : lp (b_Splits_rowsBehind_17_l2_13 σ v1 v2 v4) n x = some z) (he : ∀ y : (Int64 × Int32), z = y → Ev M_X7_rowsBehind 2 r τ 56 [(5, .long y.1)] [] σ) : Ev M_X7_rowsBehind 2 r τ 13 [(0, .ref 17), (1, .int v1), (2, .long v2), (4, .int v4), (5, .long x.1), (7, .int x.2)] [] σ := by
  refine lp_ind (E := fun x : (Int64 × Int32) => Ev M_X7_rowsBehind 2 r τ 13 [(0, .ref 17), (1, .int v1), (2, .long v2), (4, .int v4), (5, .long x.1), (7, .int x.2)] [] σ) (fun x => ⟨fun y hb hy => ?_, fun hb => ?_⟩) n x h
  · exact wb_Splits_rowsBehind_17_l2_13 σ v1 v2 v4 x r τ _ hb (fun y' e => by cases e; exact hy) (fun y' e => by cases e)
  · exact wb_Splits_rowsBehind_17_l2_13 σ v1 v2 v4 x r τ _ hb (fun y' e => by cases e) (fun y' e => he y' (Sum.inr.inj e))
set_option maxRecDepth 100000 in
set_option maxHeartbeats 4000000 in
theorem w_Splits_rowsBehind_17_l2 (σ : Sg) (a1 : Int32) (a2 : Int64) (a4 : Int32) (q : Int64) (h : s_Splits_rowsBehind_17_l2 σ a1 a2 a4 = some q) : Cal M_X7_rowsBehind 2 [.ref 17, .int a1, .long a2, .int a4] σ (some (.long q)) σ := by
  refine Cal.of (M := M_X7_rowsBehind) (by decide +kernel) (Nat.le_of_ble_eq_true rfl) ?_
  show Ev _ _ _ _ 0 [(0, .ref 17), (1, .int a1), (2, .long a2), (4, .int a4)] [] σ
  unfold s_Splits_rowsBehind_17_l2 at h
  refine Ev_iload 3 (dt_X7_rowsBehind.at 0 rfl) rfl ?_
  refine Ev_if_gt (tgt := 7) (dt_X7_rowsBehind.at 1 rfl) (by decide) (fun c1 => ?_) (fun c1 => ?_)
  · replace h := oPos h c1
    refine Ev_lconst (dt_X7_rowsBehind.at 4 rfl) kl_0 ?_
    refine Ev_lstore (dt_X7_rowsBehind.at 5 rfl) (by decide) (ls' := [(5, .long 0), (0, .ref 17), (1, .int a1), (2, .long a2), (4, .int a4)]) rfl ?_
    refine Ev_iconst (dt_X7_rowsBehind.at 6 rfl) ki_0 ?_
    refine Ev_istore (dt_X7_rowsBehind.at 7 rfl) (by decide) (ls' := [(7, .int 0), (5, .long 0), (0, .ref 17), (1, .int a1), (2, .long a2), (4, .int a4)]) rfl ?_
    refine Ev_sub [2, 3, 4, 5, 1, 0] (ls' := [(0, .ref 17), (1, .int a1), (2, .long a2), (4, .int a4), (5, .long 0), (7, .int 0)]) rfl ?_
    obtain ⟨o10, ho10, h⟩ := oBind h
    refine wl_Splits_rowsBehind_17_l2_13 σ a1 a2 a4 _ _ 100000 (0, 0) o10 ho10 (fun y ey => ?_)
    subst ey
    refine Ev_lload 0 (dt_X7_rowsBehind.at 35 rfl) rfl ?_
    exact Ev_lret (dt_X7_rowsBehind.at 36 rfl) rfl (oRet h)
  · replace h := oNeg h c1
    refine Ev_lconst (dt_X7_rowsBehind.at 2 rfl) kl_1 ?_
    exact Ev_lret (dt_X7_rowsBehind.at 3 rfl) rfl (oRet h)
