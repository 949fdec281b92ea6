def s_m_gain (σ : Sg) (a1 : Int32) (a2 : Int32) : Option (Int32 × Sg) :=
  (s_m_in (Int32.toInt64 a1) 1 7).bind fun q1 =>
  if q1 = 0 then
    (s_m_bad σ (-2)).bind fun q3 =>
    some (q3.1, q3.2)
  else
    (s_m_in (Int32.toInt64 a2) 0 99).bind fun q4 =>
    if q4 = 0 then
      (s_m_bad σ (-2)).bind fun q10 =>
      some (q10.1, q10.2)
    else
      if inB ((101 + a1) - 1) 143 = true then
        lt ((gI σ 72 (Int32.toNatClampNeg ((101 + a1) - 1))) : Int32) fun x7 =>
        if inB ((101 + a1) - 1) 143 = true then
          lt (pI σ 72 (Int32.toNatClampNeg ((101 + a1) - 1)) a2 : Sg) fun s9 =>
          some (x7, s9)
        else none
      else none
set_option maxRecDepth 100000 in
set_option maxHeartbeats 4000000 in
theorem w_m_gain (σ : Sg) (a1 : Int32) (a2 : Int32) (q : (Int32 × Sg)) (h : s_m_gain σ a1 a2 = some q) : Cal M_X12_gain 1 [.ref 71, .int a1, .int a2] σ (some (.int q.1)) q.2 := by
  refine Cal.of (M := M_X12_gain) (by decide +kernel) (Nat.le_of_ble_eq_true rfl) ?_
  show Ev _ _ _ _ 0 [(0, .ref 71), (1, .int a1), (2, .int a2)] [] σ
  unfold s_m_gain at h
  refine Ev_iload_n 1 (dt_X12_gain.at 0 rfl) rfl ?_
  refine Ev_i2l (dt_X12_gain.at 1 rfl) ?_
  refine Ev_lconst (dt_X12_gain.at 2 rfl) kl_1 ?_
  refine Ev_ldc2 (dt_X12_gain.at 3 rfl) cl_X12_219 ?_
  obtain ⟨q1, hq1, h⟩ := oBind h
  refine Ev_callS (st := []) (st' := [.int q1]) [.long (Int32.toInt64 a1), .long 1, .long 7] (dt_X12_gain.at 4 rfl) cf_X12_74 (w_m_in σ (Int32.toInt64 a1) 1 7 q1 hq1) (by decide) rfl rfl (Nat.le_of_ble_eq_true rfl) rfl ?_
  refine Ev_if_eq (tgt := 24) (dt_X12_gain.at 5 rfl) (by decide) (fun c2 => ?_) (fun c2 => ?_)
  · replace h := oPos h c2
    refine Ev_aload_n 0 (dt_X12_gain.at 12 rfl) rfl ?_
    refine Ev_bipush (dt_X12_gain.at 13 rfl) kb_m2 ?_
    obtain ⟨q3, hq3, h⟩ := oBind h
    refine Ev_callV (st := []) (st' := [.int q3.1]) [.int (-2)] (dt_X12_gain.at 14 rfl) cf_X12_88 (w_m_bad σ (-2) q3 hq3) (by decide) sk_71 rfl rfl rfl (Nat.le_of_ble_eq_true rfl) rfl ?_
    exact Ev_iret (dt_X12_gain.at 15 rfl) rfl h
  · replace h := oNeg h c2
    refine Ev_iload_n 2 (dt_X12_gain.at 6 rfl) rfl ?_
    refine Ev_i2l (dt_X12_gain.at 7 rfl) ?_
    refine Ev_lconst (dt_X12_gain.at 8 rfl) kl_0 ?_
    refine Ev_ldc2 (dt_X12_gain.at 9 rfl) cl_X12_221 ?_
    obtain ⟨q4, hq4, h⟩ := oBind h
    refine Ev_callS (st := []) (st' := [.int q4]) [.long (Int32.toInt64 a2), .long 0, .long 99] (dt_X12_gain.at 10 rfl) cf_X12_74 (w_m_in σ (Int32.toInt64 a2) 0 99 q4 hq4) (by decide) rfl rfl (Nat.le_of_ble_eq_true rfl) rfl ?_
    refine Ev_if_ne (tgt := 31) (dt_X12_gain.at 11 rfl) (by decide) (fun c5 => ?_) (fun c5 => ?_)
    · replace h := oNeg h c5
      refine Ev_aload_n 0 (dt_X12_gain.at 16 rfl) rfl ?_
      refine Ev_get (i := 0) (v := .ref 72) (dt_X12_gain.at 17 rfl) ff_X12_7 sk_71 rfl rfl ?_
      refine Ev_bipush (dt_X12_gain.at 18 rfl) kb_101 ?_
      refine Ev_iload_n 1 (dt_X12_gain.at 19 rfl) rfl ?_
      refine Ev_iadd (dt_X12_gain.at 20 rfl) ?_
      refine Ev_iconst (dt_X12_gain.at 21 rfl) ki_1 ?_
      refine Ev_isub (dt_X12_gain.at 22 rfl) ?_
      obtain ⟨g6, h⟩ := oGuard h
      refine Ev_iaload 72 (dt_X12_gain.at 23 rfl) sk_72 g6 ?_
      refine Ev_nmI (fun x7 ex7 => ?_)
      replace h := oLt h ex7
      refine Ev_istore_n (dt_X12_gain.at 24 rfl) (by decide) (ls' := [(3, .int x7), (0, .ref 71), (1, .int a1), (2, .int a2)]) rfl ?_
      refine Ev_aload_n 1 (dt_X12_gain.at 25 rfl) rfl ?_
      refine Ev_get (i := 0) (v := .ref 72) (dt_X12_gain.at 26 rfl) ff_X12_7 sk_71 rfl rfl ?_
      refine Ev_bipush (dt_X12_gain.at 27 rfl) kb_101 ?_
      refine Ev_iload_n 2 (dt_X12_gain.at 28 rfl) rfl ?_
      refine Ev_iadd (dt_X12_gain.at 29 rfl) ?_
      refine Ev_iconst (dt_X12_gain.at 30 rfl) ki_1 ?_
      refine Ev_isub (dt_X12_gain.at 31 rfl) ?_
      refine Ev_iload_n 3 (dt_X12_gain.at 32 rfl) rfl ?_
      obtain ⟨g8, h⟩ := oGuard h
      refine Ev_iastore 72 (dt_X12_gain.at 33 rfl) sk_72 g8 ?_
      refine Ev_nmS (fun s9 es9 => ?_)
      replace h := oLt h es9
      refine Ev_iload_n 0 (dt_X12_gain.at 34 rfl) rfl ?_
      exact Ev_iret (dt_X12_gain.at 35 rfl) rfl h
    · replace h := oPos h c5
      refine Ev_aload_n 0 (dt_X12_gain.at 12 rfl) rfl ?_
      refine Ev_bipush (dt_X12_gain.at 13 rfl) kb_m2 ?_
      obtain ⟨q10, hq10, h⟩ := oBind h
      refine Ev_callV (st := []) (st' := [.int q10.1]) [.int (-2)] (dt_X12_gain.at 14 rfl) cf_X12_88 (w_m_bad σ (-2) q10 hq10) (by decide) sk_71 rfl rfl rfl (Nat.le_of_ble_eq_true rfl) rfl ?_
      exact Ev_iret (dt_X12_gain.at 15 rfl) rfl h
def s_m_gainOf (σ : Sg) (a1 : Int32) : Option Int32 :=
  if a1 = 0 then
    some 0
  else
    if inB ((101 + a1) - 1) 143 = true then
      some (gI σ 72 (Int32.toNatClampNeg ((101 + a1) - 1)))
    else none
set_option maxRecDepth 100000 in
set_option maxHeartbeats 4000000 in
theorem w_m_gainOf (σ : Sg) (a1 : Int32) (q : Int32) (h : s_m_gainOf σ a1 = some q) : Cal M_X12_gainOf 0 [.ref 71, .int a1] σ (some (.int q)) σ := by
  refine Cal.of (M := M_X12_gainOf) (by decide +kernel) (Nat.le_of_ble_eq_true rfl) ?_
  show Ev _ _ _ _ 0 [(0, .ref 71), (1, .int a1)] [] σ
  unfold s_m_gainOf at h
  refine Ev_iload_n 1 (dt_X12_gainOf.at 0 rfl) rfl ?_
  refine Ev_if_ne (tgt := 8) (dt_X12_gainOf.at 1 rfl) (by decide) (fun c1 => ?_) (fun c1 => ?_)
  · replace h := oNeg h c1
    refine Ev_aload_n 0 (dt_X12_gainOf.at 4 rfl) rfl ?_
    refine Ev_get (i := 0) (v := .ref 72) (dt_X12_gainOf.at 5 rfl) ff_X12_7 sk_71 rfl rfl ?_
    refine Ev_bipush (dt_X12_gainOf.at 6 rfl) kb_101 ?_
    refine Ev_iload_n 1 (dt_X12_gainOf.at 7 rfl) rfl ?_
    refine Ev_iadd (dt_X12_gainOf.at 8 rfl) ?_
    refine Ev_iconst (dt_X12_gainOf.at 9 rfl) ki_1 ?_
    refine Ev_isub (dt_X12_gainOf.at 10 rfl) ?_
    obtain ⟨g2, h⟩ := oGuard h
    refine Ev_iaload 72 (dt_X12_gainOf.at 11 rfl) sk_72 g2 ?_
    exact Ev_iret (dt_X12_gainOf.at 12 rfl) rfl (oRet h)
  · replace h := oPos h c1
    refine Ev_iconst (dt_X12_gainOf.at 2 rfl) ki_0 ?_
    refine Ev_goto (tgt := 19) (dt_X12_gainOf.at 3 rfl) (by decide) ?_
    exact Ev_iret (dt_X12_gainOf.at 12 rfl) rfl (oRet h)
def b_m_leaves_63 (σ : Sg) (v1 : Int32) (v2 : Int32) (v3 : Int32) (x : Int32) : Option (Int32 ⊕ (Int32 ⊕ (Int32 × Sg))) :=
  if 7 ≤ x then
    some (.inr (.inl x))
  else
    lt (((((x &&& 1) * v1) + (((x >>> ((1 : Int32) &&& 31)) &&& 1) * v2)) + (((x >>> ((2 : Int32) &&& 31)) &&& 1) * v3)) : Int32) fun x12 =>
    (s_m_gainOf σ x).bind fun q13 =>
    if q13 ≤ x12 then
      lt (x + 1 : Int32) fun x15 =>
      some (.inl x15)
    else
      some (.inr (.inr (x, σ)))
def s_m_leaves (σ : Sg) (a1 : Int32) (a2 : Int32) (a3 : Int32) : Option (Int32 × Sg) :=
  (s_m_in (Int32.toInt64 a1) 0 99).bind fun q1 =>
  if q1 = 0 then
    (s_m_bad σ (-2)).bind fun q3 =>
    some (q3.1, q3.2)
  else
    (s_m_in (Int32.toInt64 a2) 0 99).bind fun q4 =>
    if q4 = 0 then
      (s_m_bad σ (-2)).bind fun q6 =>
      some (q6.1, q6.2)
    else
      (s_m_in (Int32.toInt64 a3) 0 99).bind fun q7 =>
      if q7 = 0 then
        (s_m_bad σ (-2)).bind fun q19 =>
        some (q19.1, q19.2)
      else
        (s_m_gainOf σ 7).bind fun q9 =>
        if ((a1 + a2) + a3) = q9 then
          (lp (b_m_leaves_63 σ a1 a2 a3) 100000 1).bind fun o16 =>
          oElim o16 (fun y17 =>
            some ((-1), σ)) (fun q18 => some q18)
        else
          some (7, σ)
set_option maxRecDepth 100000 in
set_option maxHeartbeats 4000000 in
theorem wb_m_leaves_63 (σ : Sg) (v1 : Int32) (v2 : Int32) (v3 : Int32) (x : Int32) (r : Option Value) (τ : Sg) (o : (Int32 ⊕ (Int32 ⊕ (Int32 × Sg)))) (h : (b_m_leaves_63 σ v1 v2 v3 x) = some o) (hc : ∀ y : Int32, o = .inl y → Ev M_X12_leaves 1 r τ 63 [(0, .ref 71), (1, .int v1), (2, .int v2), (3, .int v3), (4, .int y)] [] σ) (he : ∀ y : Int32, o = .inr (.inl y) → Ev M_X12_leaves 1 r τ 116 [] [] σ) (hr : ∀ q : (Int32 × Sg), o = .inr (.inr q) → r = (some (.int q.1)) ∧ τ = q.2) : Ev M_X12_leaves 1 r τ 63 [(0, .ref 71), (1, .int v1), (2, .int v2), (3, .int v3), (4, .int x)] [] σ := by
  unfold b_m_leaves_63 at h
  refine Ev_iload 4 (dt_X12_leaves.at 35 rfl) rfl ?_
  refine Ev_bipush (dt_X12_leaves.at 36 rfl) kb_7 ?_
  refine Ev_icmp_ge (tgt := 116) (dt_X12_leaves.at 37 rfl) (by decide) (fun c11 => ?_) (fun c11 => ?_)
  · replace h := oPos h c11
    refine Ev_sub [] (ls' := []) rfl ?_
    exact he x (Option.some.inj h).symm
  · replace h := oNeg h c11
    refine Ev_iload 4 (dt_X12_leaves.at 38 rfl) rfl ?_
    refine Ev_iconst (dt_X12_leaves.at 39 rfl) ki_1 ?_
    refine Ev_iand (dt_X12_leaves.at 40 rfl) ?_
    refine Ev_iload_n 1 (dt_X12_leaves.at 41 rfl) rfl ?_
    refine Ev_imul (dt_X12_leaves.at 42 rfl) ?_
    refine Ev_iload 4 (dt_X12_leaves.at 43 rfl) rfl ?_
    refine Ev_iconst (dt_X12_leaves.at 44 rfl) ki_1 ?_
    refine Ev_ishr (dt_X12_leaves.at 45 rfl) ?_
    refine Ev_iconst (dt_X12_leaves.at 46 rfl) ki_1 ?_
    refine Ev_iand (dt_X12_leaves.at 47 rfl) ?_
    refine Ev_iload_n 2 (dt_X12_leaves.at 48 rfl) rfl ?_
    refine Ev_imul (dt_X12_leaves.at 49 rfl) ?_
    refine Ev_iadd (dt_X12_leaves.at 50 rfl) ?_
    refine Ev_iload 4 (dt_X12_leaves.at 51 rfl) rfl ?_
    refine Ev_iconst (dt_X12_leaves.at 52 rfl) ki_2 ?_
    refine Ev_ishr (dt_X12_leaves.at 53 rfl) ?_
    refine Ev_iconst (dt_X12_leaves.at 54 rfl) ki_1 ?_
    refine Ev_iand (dt_X12_leaves.at 55 rfl) ?_
    refine Ev_iload_n 3 (dt_X12_leaves.at 56 rfl) rfl ?_
    refine Ev_imul (dt_X12_leaves.at 57 rfl) ?_
    refine Ev_iadd (dt_X12_leaves.at 58 rfl) ?_
    refine Ev_nmI (fun x12 ex12 => ?_)
    replace h := oLt h ex12
    refine Ev_istore (dt_X12_leaves.at 59 rfl) (by decide) (ls' := [(5, .int x12), (0, .ref 71), (1, .int v1), (2, .int v2), (3, .int v3), (4, .int x)]) rfl ?_
    refine Ev_iload 0 (dt_X12_leaves.at 60 rfl) rfl ?_
    refine Ev_aload_n 1 (dt_X12_leaves.at 61 rfl) rfl ?_
    refine Ev_iload 5 (dt_X12_leaves.at 62 rfl) rfl ?_
    obtain ⟨q13, hq13, h⟩ := oBind h
    refine Ev_callV (st := [.int x12]) (st' := [.int q13, .int x12]) [.int x] (dt_X12_leaves.at 63 rfl) cf_X12_223 (w_m_gainOf σ x q13 hq13) (by decide) sk_71 rfl rfl rfl (Nat.le_of_ble_eq_true rfl) rfl ?_
    refine Ev_icmp_ge (tgt := 110) (dt_X12_leaves.at 64 rfl) (by decide) (fun c14 => ?_) (fun c14 => ?_)
    · replace h := oPos h c14
      obtain ⟨x15, ex15⟩ : ∃ z : Int32, z = x + 1 := ⟨_, rfl⟩
      replace h := oLt h ex15
      refine Ev_iinc (v := x15) 5 (dt_X12_leaves.at 67 rfl) rfl (ex15.trans (congrArg (fun z => x + z) ki_1.symm)) (by decide) (ls' := [(4, .int x15), (5, .int x12), (0, .ref 71), (1, .int v1), (2, .int v2), (3, .int v3)]) rfl ?_
      refine Ev_goto (tgt := 63) (dt_X12_leaves.at 68 rfl) (by decide) ?_
      refine Ev_sub [2, 3, 4, 5, 0] (ls' := [(0, .ref 71), (1, .int v1), (2, .int v2), (3, .int v3), (4, .int x15)]) rfl ?_
      exact hc x15 (Option.some.inj h).symm
    · replace h := oNeg h c14
      refine Ev_iload 5 (dt_X12_leaves.at 65 rfl) rfl ?_
      have hz := hr _ (Option.some.inj h).symm
      rw [hz.1, hz.2]
      exact Ev_iret (dt_X12_leaves.at 66 rfl) rfl rfl
set_option maxRecDepth 100000 in
set_option maxHeartbeats 4000000 in
theorem wl_m_leaves_63 (σ : Sg) (v1 : Int32) (v2 : Int32) (v3 : Int32) (r : Option Value) (τ : Sg) (n : Nat) (x : Int32) (z : (Int32 ⊕ (Int32 × Sg))) (h : lp (b_m_leaves_63 σ v1 v2 v3) n x = some z) (he : ∀ y : Int32, z = .inl y → Ev M_X12_leaves 1 r τ 116 [] [] σ) (hr : ∀ q : (Int32 × Sg), z = .inr q → r = (some (.int q.1)) ∧ τ = q.2) : Ev M_X12_leaves 1 r τ 63 [(0, .ref 71), (1, .int v1), (2, .int v2), (3, .int v3), (4, .int x)] [] σ := by
  refine lp_ind (E := fun x : Int32 => Ev M_X12_leaves 1 r τ 63 [(0, .ref 71), (1, .int v1), (2, .int v2), (3, .int v3), (4, .int x)] [] σ) (fun x => ⟨fun y hb hy => ?_, fun hb => ?_⟩) n x h
  · exact wb_m_leaves_63 σ v1 v2 v3 x r τ _ hb (fun y' e => by cases e; exact hy) (fun y' e => by cases e) (fun y' e => by cases e)
  · exact wb_m_leaves_63 σ v1 v2 v3 x r τ _ hb (fun y' e => by cases e) (fun y' e => he y' (Sum.inr.inj e)) (fun y' e => hr y' (Sum.inr.inj e))
set_option maxRecDepth 100000 in
set_option maxHeartbeats 4000000 in
theorem w_m_leaves (σ : Sg) (a1 : Int32) (a2 : Int32) (a3 : Int32) (q : (Int32 × Sg)) (h : s_m_leaves σ a1 a2 a3 = some q) : Cal M_X12_leaves 1 [.ref 71, .int a1, .int a2, .int a3] σ (some (.int q.1)) q.2 := by
  refine Cal.of (M := M_X12_leaves) (by decide +kernel) (Nat.le_of_ble_eq_true rfl) ?_
  show Ev _ _ _ _ 0 [(0, .ref 71), (1, .int a1), (2, .int a2), (3, .int a3)] [] σ
  unfold s_m_leaves at h
  refine Ev_iload_n 1 (dt_X12_leaves.at 0 rfl) rfl ?_
  refine Ev_i2l (dt_X12_leaves.at 1 rfl) ?_
  refine Ev_lconst (dt_X12_leaves.at 2 rfl) kl_0 ?_
  refine Ev_ldc2 (dt_X12_leaves.at 3 rfl) cl_X12_221 ?_
  obtain ⟨q1, hq1, h⟩ := oBind h
  refine Ev_callS (st := []) (st' := [.int q1]) [.long (Int32.toInt64 a1), .long 0, .long 99] (dt_X12_leaves.at 4 rfl) cf_X12_74 (w_m_in σ (Int32.toInt64 a1) 0 99 q1 hq1) (by decide) rfl rfl (Nat.le_of_ble_eq_true rfl) rfl ?_
  refine Ev_if_eq (tgt := 36) (dt_X12_leaves.at 5 rfl) (by decide) (fun c2 => ?_) (fun c2 => ?_)
  · replace h := oPos h c2
    refine Ev_aload_n 0 (dt_X12_leaves.at 18 rfl) rfl ?_
    refine Ev_bipush (dt_X12_leaves.at 19 rfl) kb_m2 ?_
    obtain ⟨q3, hq3, h⟩ := oBind h
    refine Ev_callV (st := []) (st' := [.int q3.1]) [.int (-2)] (dt_X12_leaves.at 20 rfl) cf_X12_88 (w_m_bad σ (-2) q3 hq3) (by decide) sk_71 rfl rfl rfl (Nat.le_of_ble_eq_true rfl) rfl ?_
    exact Ev_iret (dt_X12_leaves.at 21 rfl) rfl h
  · replace h := oNeg h c2
    refine Ev_iload_n 2 (dt_X12_leaves.at 6 rfl) rfl ?_
    refine Ev_i2l (dt_X12_leaves.at 7 rfl) ?_
    refine Ev_lconst (dt_X12_leaves.at 8 rfl) kl_0 ?_
    refine Ev_ldc2 (dt_X12_leaves.at 9 rfl) cl_X12_221 ?_
    obtain ⟨q4, hq4, h⟩ := oBind h
    refine Ev_callS (st := []) (st' := [.int q4]) [.long (Int32.toInt64 a2), .long 0, .long 99] (dt_X12_leaves.at 10 rfl) cf_X12_74 (w_m_in σ (Int32.toInt64 a2) 0 99 q4 hq4) (by decide) rfl rfl (Nat.le_of_ble_eq_true rfl) rfl ?_
    refine Ev_if_eq (tgt := 36) (dt_X12_leaves.at 11 rfl) (by decide) (fun c5 => ?_) (fun c5 => ?_)
    · replace h := oPos h c5
      refine Ev_aload_n 0 (dt_X12_leaves.at 18 rfl) rfl ?_
      refine Ev_bipush (dt_X12_leaves.at 19 rfl) kb_m2 ?_
      obtain ⟨q6, hq6, h⟩ := oBind h
      refine Ev_callV (st := []) (st' := [.int q6.1]) [.int (-2)] (dt_X12_leaves.at 20 rfl) cf_X12_88 (w_m_bad σ (-2) q6 hq6) (by decide) sk_71 rfl rfl rfl (Nat.le_of_ble_eq_true rfl) rfl ?_
      exact Ev_iret (dt_X12_leaves.at 21 rfl) rfl h
    · replace h := oNeg h c5
      refine Ev_iload_n 3 (dt_X12_leaves.at 12 rfl) rfl ?_
      refine Ev_i2l (dt_X12_leaves.at 13 rfl) ?_
      refine Ev_lconst (dt_X12_leaves.at 14 rfl) kl_0 ?_
      refine Ev_ldc2 (dt_X12_leaves.at 15 rfl) cl_X12_221 ?_
      obtain ⟨q7, hq7, h⟩ := oBind h
      refine Ev_callS (st := []) (st' := [.int q7]) [.long (Int32.toInt64 a3), .long 0, .long 99] (dt_X12_leaves.at 16 rfl) cf_X12_74 (w_m_in σ (Int32.toInt64 a3) 0 99 q7 hq7) (by decide) rfl rfl (Nat.le_of_ble_eq_true rfl) rfl ?_
      refine Ev_if_ne (tgt := 43) (dt_X12_leaves.at 17 rfl) (by decide) (fun c8 => ?_) (fun c8 => ?_)
      · replace h := oNeg h c8
        refine Ev_iload_n 1 (dt_X12_leaves.at 22 rfl) rfl ?_
        refine Ev_iload_n 2 (dt_X12_leaves.at 23 rfl) rfl ?_
        refine Ev_iadd (dt_X12_leaves.at 24 rfl) ?_
        refine Ev_iload_n 3 (dt_X12_leaves.at 25 rfl) rfl ?_
        refine Ev_iadd (dt_X12_leaves.at 26 rfl) ?_
        refine Ev_aload_n 0 (dt_X12_leaves.at 27 rfl) rfl ?_
        refine Ev_bipush (dt_X12_leaves.at 28 rfl) kb_7 ?_
        obtain ⟨q9, hq9, h⟩ := oBind h
        refine Ev_callV (st := [.int ((a1 + a2) + a3)]) (st' := [.int q9, .int ((a1 + a2) + a3)]) [.int 7] (dt_X12_leaves.at 29 rfl) cf_X12_223 (w_m_gainOf σ 7 q9 hq9) (by decide) sk_71 rfl rfl rfl (Nat.le_of_ble_eq_true rfl) rfl ?_
        refine Ev_icmp_eq (tgt := 60) (dt_X12_leaves.at 30 rfl) (by decide) (fun c10 => ?_) (fun c10 => ?_)
        · replace h := oPos h c10
          refine Ev_iconst (dt_X12_leaves.at 33 rfl) ki_1 ?_
          refine Ev_istore (dt_X12_leaves.at 34 rfl) (by decide) (ls' := [(4, .int 1), (0, .ref 71), (1, .int a1), (2, .int a2), (3, .int a3)]) rfl ?_
          refine Ev_sub [1, 2, 3, 4, 0] (ls' := [(0, .ref 71), (1, .int a1), (2, .int a2), (3, .int a3), (4, .int 1)]) rfl ?_
          obtain ⟨o16, ho16, h⟩ := oBind h
          refine wl_m_leaves_63 σ a1 a2 a3 _ _ 100000 1 o16 ho16 (fun y17 ey => ?_) (fun q18 eq => ?_)
          · rw [ey] at h
            replace h := oElimL h
            refine Ev_iconst (dt_X12_leaves.at 69 rfl) ki_m1 ?_
            exact Ev_iret (dt_X12_leaves.at 70 rfl) rfl h
          · rw [eq] at h
            replace h := oElimR h
            cases h; exact ⟨rfl, rfl⟩
        · replace h := oNeg h c10
          refine Ev_bipush (dt_X12_leaves.at 31 rfl) kb_7 ?_
          exact Ev_iret (dt_X12_leaves.at 32 rfl) rfl h
      · replace h := oPos h c8
        refine Ev_aload_n 0 (dt_X12_leaves.at 18 rfl) rfl ?_
        refine Ev_bipush (dt_X12_leaves.at 19 rfl) kb_m2 ?_
        obtain ⟨q19, hq19, h⟩ := oBind h
        refine Ev_callV (st := []) (st' := [.int q19.1]) [.int (-2)] (dt_X12_leaves.at 20 rfl) cf_X12_88 (w_m_bad σ (-2) q19 hq19) (by decide) sk_71 rfl rfl rfl (Nat.le_of_ble_eq_true rfl) rfl ?_
        exact Ev_iret (dt_X12_leaves.at 21 rfl) rfl h
def b_m_tell_17 (σ : Sg) (v1 : Int64) (v3 : Int64) (x : (Int64 × Int64)) : Option ((Int64 × Int64) ⊕ (Int64 × Int64)) :=
  if (lg_cmp x.2 0) = 0 then
    some (.inr (x.1, x.2))
  else
    if ¬ x.2 = 0 then
      lt ((x.1 - x.1 / x.2 * x.2) : Int64) fun x4 =>
      some (.inl (x.2, x4))
    else none
def j_m_tell_12  (σ : Sg) (v1 : Int64) (v3 : Int64) (u0 : Int64) : Option (Int32 × Sg) :=
  (lp (b_m_tell_17 σ v1 v3) 100000 (u0, v3)).bind fun o5 =>
  if ¬ o5.1 = 0 then
    lt (pL σ 71 4 (v1 / o5.1) : Sg) fun s7 =>
    if ¬ o5.1 = 0 then
      lt (pL s7 71 5 (v3 / o5.1) : Sg) fun s9 =>
      some (1, s9)
    else none
  else none
def s_m_tell (σ : Sg) (a1 : Int64) (a3 : Int64) : Option (Int32 × Sg) :=
  if 0 ≤ (lg_cmp a1 0) then
    j_m_tell_12  σ a1 a3 a1
  else
    j_m_tell_12  σ a1 a3 (-a1)
set_option maxRecDepth 100000 in
set_option maxHeartbeats 4000000 in
theorem wb_m_tell_17 (σ : Sg) (v1 : Int64) (v3 : Int64) (x : (Int64 × Int64)) (r : Option Value) (τ : Sg) (o : ((Int64 × Int64) ⊕ (Int64 × Int64))) (h : (b_m_tell_17 σ v1 v3 x) = some o) (hc : ∀ y : (Int64 × Int64), o = .inl y → Ev M_X12_tell 0 r τ 17 [(0, .ref 71), (1, .long v1), (3, .long v3), (5, .long y.1), (7, .long y.2)] [] σ) (he : ∀ y : (Int64 × Int64), o = .inr y → Ev M_X12_tell 0 r τ 42 [(0, .ref 71), (1, .long v1), (3, .long v3), (5, .long y.1)] [] σ) : Ev M_X12_tell 0 r τ 17 [(0, .ref 71), (1, .long v1), (3, .long v3), (5, .long x.1), (7, .long x.2)] [] σ := by
  unfold b_m_tell_17 at h
  refine Ev_lload 4 (dt_X12_tell.at 11 rfl) rfl ?_
  refine Ev_lconst (dt_X12_tell.at 12 rfl) kl_0 ?_
  refine Ev_lcmp (dt_X12_tell.at 13 rfl) ?_
  refine Ev_if_eq (tgt := 42) (dt_X12_tell.at 14 rfl) (by decide) (fun c2 => ?_) (fun c2 => ?_)
  · replace h := oPos h c2
    refine Ev_sub [0, 1, 2, 3] (ls' := [(0, .ref 71), (1, .long v1), (3, .long v3), (5, .long x.1)]) rfl ?_
    exact he (x.1, x.2) (Option.some.inj h).symm
  · replace h := oNeg h c2
    refine Ev_lload 3 (dt_X12_tell.at 15 rfl) rfl ?_
    refine Ev_lload 4 (dt_X12_tell.at 16 rfl) rfl ?_
    obtain ⟨g3, h⟩ := oGuard h
    refine Ev_lrem (dt_X12_tell.at 17 rfl) g3 ?_
    refine Ev_nmL (fun x4 ex4 => ?_)
    replace h := oLt h ex4
    refine Ev_lstore (dt_X12_tell.at 18 rfl) (by decide) (ls' := [(9, .long x4), (0, .ref 71), (1, .long v1), (3, .long v3), (5, .long x.1), (7, .long x.2)]) rfl ?_
    refine Ev_lload 5 (dt_X12_tell.at 19 rfl) rfl ?_
    refine Ev_lstore (dt_X12_tell.at 20 rfl) (by decide) (ls' := [(5, .long x.2), (9, .long x4), (0, .ref 71), (1, .long v1), (3, .long v3), (7, .long x.2)]) rfl ?_
    refine Ev_lload 1 (dt_X12_tell.at 21 rfl) rfl ?_
    refine Ev_lstore (dt_X12_tell.at 22 rfl) (by decide) (ls' := [(7, .long x4), (5, .long x.2), (9, .long x4), (0, .ref 71), (1, .long v1), (3, .long v3)]) rfl ?_
    refine Ev_goto (tgt := 17) (dt_X12_tell.at 23 rfl) (by decide) ?_
    refine Ev_sub [3, 4, 5, 1, 0] (ls' := [(0, .ref 71), (1, .long v1), (3, .long v3), (5, .long x.2), (7, .long x4)]) rfl ?_
    exact hc (x.2, x4) (Option.some.inj h).symm
set_option maxRecDepth 100000 in
set_option maxHeartbeats 4000000 in
theorem wl_m_tell_17 (σ : Sg) (v1 : Int64) (v3 : Int64) (r : Option Value) (τ : Sg) (n : Nat) (x : (Int64 × Int64)) (z : (Int64 × Int64)) (h : lp (b_m_tell_17 σ v1 v3) n x = some z) (he : ∀ y : (Int64 × Int64), z = y → Ev M_X12_tell 0 r τ 42 [(0, .ref 71), (1, .long v1), (3, .long v3), (5, .long y.1)] [] σ) : Ev M_X12_tell 0 r τ 17 [(0, .ref 71), (1, .long v1), (3, .long v3), (5, .long x.1), (7, .long x.2)] [] σ := by
  refine lp_ind (E := fun x : (Int64 × Int64) => Ev M_X12_tell 0 r τ 17 [(0, .ref 71), (1, .long v1), (3, .long v3), (5, .long x.1), (7, .long x.2)] [] σ) (fun x => ⟨fun y hb hy => ?_, fun hb => ?_⟩) n x h
  · exact wb_m_tell_17 σ v1 v3 x r τ _ hb (fun y' e => by cases e; exact hy) (fun y' e => by cases e)
  · exact wb_m_tell_17 σ v1 v3 x r τ _ hb (fun y' e => by cases e) (fun y' e => he y' (Sum.inr.inj e))
set_option maxRecDepth 100000 in
set_option maxHeartbeats 4000000 in
theorem wj_m_tell_12  (σ : Sg) (v1 : Int64) (v3 : Int64) (u0 : Int64) (q : (Int32 × Sg)) (h : (j_m_tell_12  σ v1 v3 u0) = some q) : Ev M_X12_tell 0 (some (.int q.1)) q.2 12 [(0, .ref 71), (1, .long v1), (3, .long v3)] [.long u0] σ := by
  unfold j_m_tell_12 at h
  refine Ev_lstore (dt_X12_tell.at 8 rfl) (by decide) (ls' := [(5, .long u0), (0, .ref 71), (1, .long v1), (3, .long v3)]) rfl ?_
  refine Ev_lload_n 3 (dt_X12_tell.at 9 rfl) rfl ?_
  refine Ev_lstore (dt_X12_tell.at 10 rfl) (by decide) (ls' := [(7, .long v3), (5, .long u0), (0, .ref 71), (1, .long v1), (3, .long v3)]) rfl ?_
  refine Ev_sub [2, 3, 4, 1, 0] (ls' := [(0, .ref 71), (1, .long v1), (3, .long v3), (5, .long u0), (7, .long v3)]) rfl ?_
  obtain ⟨o5, ho5, h⟩ := oBind h
  refine wl_m_tell_17 σ v1 v3 _ _ 100000 (u0, v3) o5 ho5 (fun y ey => ?_)
  subst ey
  refine Ev_aload_n 0 (dt_X12_tell.at 24 rfl) rfl ?_
  refine Ev_lload_n 1 (dt_X12_tell.at 25 rfl) rfl ?_
  refine Ev_lload 3 (dt_X12_tell.at 26 rfl) rfl ?_
  obtain ⟨g6, h⟩ := oGuard h
  refine Ev_ldiv (dt_X12_tell.at 27 rfl) g6 ?_
  refine Ev_putL (dt_X12_tell.at 28 rfl) ff_X12_226 fw_12_4 sk_71 rfl ?_
  refine Ev_nmS (fun s7 es7 => ?_)
  replace h := oLt h es7
  refine Ev_aload_n 0 (dt_X12_tell.at 29 rfl) rfl ?_
  refine Ev_lload_n 2 (dt_X12_tell.at 30 rfl) rfl ?_
  refine Ev_lload 3 (dt_X12_tell.at 31 rfl) rfl ?_
  obtain ⟨g8, h⟩ := oGuard h
  refine Ev_ldiv (dt_X12_tell.at 32 rfl) g8 ?_
  refine Ev_putL (dt_X12_tell.at 33 rfl) ff_X12_23 fw_12_5 sk_71 rfl ?_
  refine Ev_nmS (fun s9 es9 => ?_)
  replace h := oLt h es9
  refine Ev_iconst (dt_X12_tell.at 34 rfl) ki_1 ?_
  exact Ev_iret (dt_X12_tell.at 35 rfl) rfl h
set_option maxRecDepth 100000 in
set_option maxHeartbeats 4000000 in
theorem w_m_tell (σ : Sg) (a1 : Int64) (a3 : Int64) (q : (Int32 × Sg)) (h : s_m_tell σ a1 a3 = some q) : Cal M_X12_tell 0 [.ref 71, .long a1, .long a3] σ (some (.int q.1)) q.2 := by
  refine Cal.of (M := M_X12_tell) (by decide +kernel) (Nat.le_of_ble_eq_true rfl) ?_
  show Ev _ _ _ _ 0 [(0, .ref 71), (1, .long a1), (3, .long a3)] [] σ
  unfold s_m_tell at h
  refine Ev_lload_n 1 (dt_X12_tell.at 0 rfl) rfl ?_
  refine Ev_lconst (dt_X12_tell.at 1 rfl) kl_0 ?_
  refine Ev_lcmp (dt_X12_tell.at 2 rfl) ?_
  refine Ev_if_ge (tgt := 11) (dt_X12_tell.at 3 rfl) (by decide) (fun c1 => ?_) (fun c1 => ?_)
  · replace h := oPos h c1
    refine Ev_lload_n 1 (dt_X12_tell.at 7 rfl) rfl ?_
    refine Ev_sub [0, 1, 2] (ls' := [(0, .ref 71), (1, .long a1), (3, .long a3)]) rfl ?_
    exact wj_m_tell_12  σ a1 a3 a1 q h
  · replace h := oNeg h c1
    refine Ev_lload_n 1 (dt_X12_tell.at 4 rfl) rfl ?_
    refine Ev_lneg (dt_X12_tell.at 5 rfl) ?_
    refine Ev_goto (tgt := 12) (dt_X12_tell.at 6 rfl) (by decide) ?_
    refine Ev_sub [0, 1, 2] (ls' := [(0, .ref 71), (1, .long a1), (3, .long a3)]) rfl ?_
    exact wj_m_tell_12  σ a1 a3 (-a1) q h
def j_m_fair_49i28 (σ : Sg) (v2 : Int32) (v3 : Int32) (v4 : Int32) (u0 : Int32) : Option ((Int32 × Int32) ⊕ (Int32 × Int32)) :=
  if (v4 &&& v2) = 0 then
    (s_m_gainOf σ (v4 ||| v2)).bind fun q10 =>
    (s_m_gainOf σ v4).bind fun q11 =>
    lt ((v3 + (u0 * (q10 - q11))) : Int32) fun x12 =>
    lt (v4 + 1 : Int32) fun x13 =>
    some (.inl (x12, x13))
  else
    lt ((v3 + 0) : Int32) fun x8 =>
    lt (v4 + 1 : Int32) fun x9 =>
    some (.inl (x8, x9))
def b_m_fair_28 (σ : Sg) (v2 : Int32) (x : (Int32 × Int32)) : Option ((Int32 × Int32) ⊕ (Int32 × Int32)) :=
  if 8 ≤ x.2 then
    some (.inr (x.1, x.2))
  else
    (s_m_bits x.2).bind fun q5 =>
    if q5 = 1 then
      j_m_fair_49i28 σ v2 x.1 x.2 1
    else
      j_m_fair_49i28 σ v2 x.1 x.2 2
def s_m_fair (σ : Sg) (a1 : Int32) : Option (Int32 × Sg) :=
  (s_m_in (Int32.toInt64 a1) 0 2).bind fun q1 =>
  if q1 = 0 then
    (s_m_bad σ (-2)).bind fun q16 =>
    some (q16.1, q16.2)
  else
    lt (((1 : Int32) <<< (a1 &&& 31)) : Int32) fun x3 =>
    (lp (b_m_fair_28 σ x3) 100000 (0, 0)).bind fun o14 =>
    (s_m_tell σ (Int32.toInt64 o14.1) 6).bind fun q15 =>
    some (q15.1, q15.2)
set_option maxRecDepth 100000 in
set_option maxHeartbeats 4000000 in
theorem wj_m_fair_49i28 (σ : Sg) (v2 : Int32) (v3 : Int32) (v4 : Int32) (u0 : Int32) (r : Option Value) (τ : Sg) (o : ((Int32 × Int32) ⊕ (Int32 × Int32))) (h : (j_m_fair_49i28 σ v2 v3 v4 u0) = some o) (hc : ∀ y : (Int32 × Int32), o = .inl y → Ev M_X12_fair 1 r τ 28 [(0, .ref 71), (2, .int v2), (3, .int y.1), (4, .int y.2)] [] σ) (he : ∀ y : (Int32 × Int32), o = .inr y → Ev M_X12_fair 1 r τ 89 [(0, .ref 71), (3, .int y.1)] [] σ) : Ev M_X12_fair 1 r τ 49 [(0, .ref 71), (2, .int v2), (3, .int v3), (4, .int v4)] [.int u0] σ := by
  unfold j_m_fair_49i28 at h
  refine Ev_istore (dt_X12_fair.at 28 rfl) (by decide) (ls' := [(5, .int u0), (0, .ref 71), (2, .int v2), (3, .int v3), (4, .int v4)]) rfl ?_
  refine Ev_iload_n 3 (dt_X12_fair.at 29 rfl) rfl ?_
  refine Ev_iload 4 (dt_X12_fair.at 30 rfl) rfl ?_
  refine Ev_iload_n 2 (dt_X12_fair.at 31 rfl) rfl ?_
  refine Ev_iand (dt_X12_fair.at 32 rfl) ?_
  refine Ev_if_ne (tgt := 80) (dt_X12_fair.at 33 rfl) (by decide) (fun c7 => ?_) (fun c7 => ?_)
  · replace h := oNeg h c7
    refine Ev_iconst (dt_X12_fair.at 46 rfl) ki_0 ?_
    refine Ev_iadd (dt_X12_fair.at 47 rfl) ?_
    refine Ev_nmI (fun x8 ex8 => ?_)
    replace h := oLt h ex8
    refine Ev_istore_n (dt_X12_fair.at 48 rfl) (by decide) (ls' := [(3, .int x8), (5, .int u0), (0, .ref 71), (2, .int v2), (4, .int v4)]) rfl ?_
    obtain ⟨x9, ex9⟩ : ∃ z : Int32, z = v4 + 1 := ⟨_, rfl⟩
    replace h := oLt h ex9
    refine Ev_iinc (v := x9) 4 (dt_X12_fair.at 49 rfl) rfl (ex9.trans (congrArg (fun z => v4 + z) ki_1.symm)) (by decide) (ls' := [(4, .int x9), (3, .int x8), (5, .int u0), (0, .ref 71), (2, .int v2)]) rfl ?_
    refine Ev_goto (tgt := 28) (dt_X12_fair.at 50 rfl) (by decide) ?_
    refine Ev_sub [3, 4, 1, 0] (ls' := [(0, .ref 71), (2, .int v2), (3, .int x8), (4, .int x9)]) rfl ?_
    exact hc (x8, x9) (Option.some.inj h).symm
  · replace h := oPos h c7
    refine Ev_iload 0 (dt_X12_fair.at 34 rfl) rfl ?_
    refine Ev_aload_n 1 (dt_X12_fair.at 35 rfl) rfl ?_
    refine Ev_iload 4 (dt_X12_fair.at 36 rfl) rfl ?_
    refine Ev_iload_n 2 (dt_X12_fair.at 37 rfl) rfl ?_
    refine Ev_ior (dt_X12_fair.at 38 rfl) ?_
    obtain ⟨q10, hq10, h⟩ := oBind h
    refine Ev_callV (st := [.int u0, .int v3]) (st' := [.int q10, .int u0, .int v3]) [.int (v4 ||| v2)] (dt_X12_fair.at 39 rfl) cf_X12_223 (w_m_gainOf σ (v4 ||| v2) q10 hq10) (by decide) sk_71 rfl rfl rfl (Nat.le_of_ble_eq_true rfl) rfl ?_
    refine Ev_aload_n 1 (dt_X12_fair.at 40 rfl) rfl ?_
    refine Ev_iload 4 (dt_X12_fair.at 41 rfl) rfl ?_
    obtain ⟨q11, hq11, h⟩ := oBind h
    refine Ev_callV (st := [.int q10, .int u0, .int v3]) (st' := [.int q11, .int q10, .int u0, .int v3]) [.int v4] (dt_X12_fair.at 42 rfl) cf_X12_223 (w_m_gainOf σ v4 q11 hq11) (by decide) sk_71 rfl rfl rfl (Nat.le_of_ble_eq_true rfl) rfl ?_
    refine Ev_isub (dt_X12_fair.at 43 rfl) ?_
    refine Ev_imul (dt_X12_fair.at 44 rfl) ?_
    refine Ev_goto (tgt := 81) (dt_X12_fair.at 45 rfl) (by decide) ?_
    refine Ev_iadd (dt_X12_fair.at 47 rfl) ?_
    refine Ev_nmI (fun x12 ex12 => ?_)
    replace h := oLt h ex12
    refine Ev_istore_n (dt_X12_fair.at 48 rfl) (by decide) (ls' := [(3, .int x12), (5, .int u0), (0, .ref 71), (2, .int v2), (4, .int v4)]) rfl ?_
    obtain ⟨x13, ex13⟩ : ∃ z : Int32, z = v4 + 1 := ⟨_, rfl⟩
    replace h := oLt h ex13
    refine Ev_iinc (v := x13) 4 (dt_X12_fair.at 49 rfl) rfl (ex13.trans (congrArg (fun z => v4 + z) ki_1.symm)) (by decide) (ls' := [(4, .int x13), (3, .int x12), (5, .int u0), (0, .ref 71), (2, .int v2)]) rfl ?_
    refine Ev_goto (tgt := 28) (dt_X12_fair.at 50 rfl) (by decide) ?_
    refine Ev_sub [3, 4, 1, 0] (ls' := [(0, .ref 71), (2, .int v2), (3, .int x12), (4, .int x13)]) rfl ?_
    exact hc (x12, x13) (Option.some.inj h).symm
set_option maxRecDepth 100000 in
set_option maxHeartbeats 4000000 in
theorem wb_m_fair_28 (σ : Sg) (v2 : Int32) (x : (Int32 × Int32)) (r : Option Value) (τ : Sg) (o : ((Int32 × Int32) ⊕ (Int32 × Int32))) (h : (b_m_fair_28 σ v2 x) = some o) (hc : ∀ y : (Int32 × Int32), o = .inl y → Ev M_X12_fair 1 r τ 28 [(0, .ref 71), (2, .int v2), (3, .int y.1), (4, .int y.2)] [] σ) (he : ∀ y : (Int32 × Int32), o = .inr y → Ev M_X12_fair 1 r τ 89 [(0, .ref 71), (3, .int y.1)] [] σ) : Ev M_X12_fair 1 r τ 28 [(0, .ref 71), (2, .int v2), (3, .int x.1), (4, .int x.2)] [] σ := by
  unfold b_m_fair_28 at h
  refine Ev_iload 3 (dt_X12_fair.at 18 rfl) rfl ?_
  refine Ev_bipush (dt_X12_fair.at 19 rfl) kb_8 ?_
  refine Ev_icmp_ge (tgt := 89) (dt_X12_fair.at 20 rfl) (by decide) (fun c4 => ?_) (fun c4 => ?_)
  · replace h := oPos h c4
    refine Ev_sub [0, 2] (ls' := [(0, .ref 71), (3, .int x.1)]) rfl ?_
    exact he (x.1, x.2) (Option.some.inj h).symm
  · replace h := oNeg h c4
    refine Ev_iload 3 (dt_X12_fair.at 21 rfl) rfl ?_
    obtain ⟨q5, hq5, h⟩ := oBind h
    refine Ev_callS (st := []) (st' := [.int q5]) [.int x.2] (dt_X12_fair.at 22 rfl) cf_X12_78 (w_m_bits σ x.2 q5 hq5) (by decide) rfl rfl (Nat.le_of_ble_eq_true rfl) rfl ?_
    refine Ev_iconst (dt_X12_fair.at 23 rfl) ki_1 ?_
    refine Ev_icmp_ne (tgt := 48) (dt_X12_fair.at 24 rfl) (by decide) (fun c6 => ?_) (fun c6 => ?_)
    · replace h := oNeg h c6
      refine Ev_iconst (dt_X12_fair.at 27 rfl) ki_2 ?_
      refine Ev_sub [0, 1, 2, 3] (ls' := [(0, .ref 71), (2, .int v2), (3, .int x.1), (4, .int x.2)]) rfl ?_
      exact wj_m_fair_49i28 σ v2 x.1 x.2 2 _ _ _ h hc he
    · replace h := oPos h c6
      refine Ev_iconst (dt_X12_fair.at 25 rfl) ki_1 ?_
      refine Ev_goto (tgt := 49) (dt_X12_fair.at 26 rfl) (by decide) ?_
      refine Ev_sub [0, 1, 2, 3] (ls' := [(0, .ref 71), (2, .int v2), (3, .int x.1), (4, .int x.2)]) rfl ?_
      exact wj_m_fair_49i28 σ v2 x.1 x.2 1 _ _ _ h hc he
set_option maxRecDepth 100000 in
set_option maxHeartbeats 4000000 in
theorem wl_m_fair_28 (σ : Sg) (v2 : Int32) (r : Option Value) (τ : Sg) (n : Nat) (x : (Int32 × Int32)) (z : (Int32 × Int32)) (h : lp (b_m_fair_28 σ v2) n x = some z) (he : ∀ y : (Int32 × Int32), z = y → Ev M_X12_fair 1 r τ 89 [(0, .ref 71), (3, .int y.1)] [] σ) : Ev M_X12_fair 1 r τ 28 [(0, .ref 71), (2, .int v2), (3, .int x.1), (4, .int x.2)] [] σ := by
  refine lp_ind (E := fun x : (Int32 × Int32) => Ev M_X12_fair 1 r τ 28 [(0, .ref 71), (2, .int v2), (3, .int x.1), (4, .int x.2)] [] σ) (fun x => ⟨fun y hb hy => ?_, fun hb => ?_⟩) n x h
  · exact wb_m_fair_28 σ v2 x r τ _ hb (fun y' e => by cases e; exact hy) (fun y' e => by cases e)
  · exact wb_m_fair_28 σ v2 x r τ _ hb (fun y' e => by cases e) (fun y' e => he y' (Sum.inr.inj e))
set_option maxRecDepth 100000 in
set_option maxHeartbeats 4000000 in
theorem w_m_fair (σ : Sg) (a1 : Int32) (q : (Int32 × Sg)) (h : s_m_fair σ a1 = some q) : Cal M_X12_fair 1 [.ref 71, .int a1] σ (some (.int q.1)) q.2 := by
  refine Cal.of (M := M_X12_fair) (by decide +kernel) (Nat.le_of_ble_eq_true rfl) ?_
  show Ev _ _ _ _ 0 [(0, .ref 71), (1, .int a1)] [] σ
  unfold s_m_fair at h
  refine Ev_iload_n 1 (dt_X12_fair.at 0 rfl) rfl ?_
  refine Ev_i2l (dt_X12_fair.at 1 rfl) ?_
  refine Ev_lconst (dt_X12_fair.at 2 rfl) kl_0 ?_
  refine Ev_ldc2 (dt_X12_fair.at 3 rfl) cl_X12_229 ?_
  obtain ⟨q1, hq1, h⟩ := oBind h
  refine Ev_callS (st := []) (st' := [.int q1]) [.long (Int32.toInt64 a1), .long 0, .long 2] (dt_X12_fair.at 4 rfl) cf_X12_74 (w_m_in σ (Int32.toInt64 a1) 0 2 q1 hq1) (by decide) rfl rfl (Nat.le_of_ble_eq_true rfl) rfl ?_
  refine Ev_if_ne (tgt := 19) (dt_X12_fair.at 5 rfl) (by decide) (fun c2 => ?_) (fun c2 => ?_)
  · replace h := oNeg h c2
    refine Ev_iconst (dt_X12_fair.at 10 rfl) ki_1 ?_
    refine Ev_iload_n 1 (dt_X12_fair.at 11 rfl) rfl ?_
    refine Ev_ishl (dt_X12_fair.at 12 rfl) ?_
    refine Ev_nmI (fun x3 ex3 => ?_)
    replace h := oLt h ex3
    refine Ev_istore_n (dt_X12_fair.at 13 rfl) (by decide) (ls' := [(2, .int x3), (0, .ref 71), (1, .int a1)]) rfl ?_
    refine Ev_iconst (dt_X12_fair.at 14 rfl) ki_0 ?_
    refine Ev_istore_n (dt_X12_fair.at 15 rfl) (by decide) (ls' := [(3, .int 0), (2, .int x3), (0, .ref 71), (1, .int a1)]) rfl ?_
    refine Ev_iconst (dt_X12_fair.at 16 rfl) ki_0 ?_
    refine Ev_istore (dt_X12_fair.at 17 rfl) (by decide) (ls' := [(4, .int 0), (3, .int 0), (2, .int x3), (0, .ref 71), (1, .int a1)]) rfl ?_
    refine Ev_sub [3, 2, 1, 0] (ls' := [(0, .ref 71), (2, .int x3), (3, .int 0), (4, .int 0)]) rfl ?_
    obtain ⟨o14, ho14, h⟩ := oBind h
    refine wl_m_fair_28 σ x3 _ _ 100000 (0, 0) o14 ho14 (fun y ey => ?_)
    subst ey
    refine Ev_aload_n 0 (dt_X12_fair.at 51 rfl) rfl ?_
    refine Ev_iload_n 1 (dt_X12_fair.at 52 rfl) rfl ?_
    refine Ev_i2l (dt_X12_fair.at 53 rfl) ?_
    refine Ev_ldc2 (dt_X12_fair.at 54 rfl) cl_X12_86 ?_
    obtain ⟨q15, hq15, h⟩ := oBind h
    refine Ev_callV (st := []) (st' := [.int q15.1]) [.long (Int32.toInt64 o14.1), .long 6] (dt_X12_fair.at 55 rfl) cf_X12_231 (w_m_tell σ (Int32.toInt64 o14.1) 6 q15 hq15) (by decide) sk_71 rfl rfl rfl (Nat.le_of_ble_eq_true rfl) rfl ?_
    exact Ev_iret (dt_X12_fair.at 56 rfl) rfl h
  · replace h := oPos h c2
    refine Ev_aload_n 0 (dt_X12_fair.at 6 rfl) rfl ?_
    refine Ev_bipush (dt_X12_fair.at 7 rfl) kb_m2 ?_
    obtain ⟨q16, hq16, h⟩ := oBind h
    refine Ev_callV (st := []) (st' := [.int q16.1]) [.int (-2)] (dt_X12_fair.at 8 rfl) cf_X12_88 (w_m_bad σ (-2) q16 hq16) (by decide) sk_71 rfl rfl rfl (Nat.le_of_ble_eq_true rfl) rfl ?_
    exact Ev_iret (dt_X12_fair.at 9 rfl) rfl h
