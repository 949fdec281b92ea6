def s_m_sight (σ : Sg) (a1 : Int32) (a2 : Int32) (a3 : Int32) : Option (Int32 × Sg) :=
  (s_m_isOne σ a1).bind fun q1 =>
  if q1 = 0 then
    (s_m_bad σ (-2)).bind fun q3 =>
    some (q3.1, q3.2)
  else
    (s_m_ring σ ).bind fun q4 =>
    (s_m_in (Int32.toInt64 a2) 0 (Int32.toInt64 (q4 - 1))).bind fun q5 =>
    if q5 = 0 then
      (s_m_bad σ (-2)).bind fun q7 =>
      some (q7.1, q7.2)
    else
      (s_m_in (Int32.toInt64 a3) 0 9).bind fun q8 =>
      if q8 = 0 then
        (s_m_bad σ (-2)).bind fun q20 =>
        some (q20.1, q20.2)
      else
        lt ((gI σ 72 (Int32.toNatClampNeg 127)) : Int32) fun x10 =>
        if x10 = 5 then
          (s_m_full σ ).bind fun q19 =>
          some (q19.1, q19.2)
        else
          if inB (128 + (3 * x10)) 143 = true then
            lt (pI σ 72 (Int32.toNatClampNeg (128 + (3 * x10))) a1 : Sg) fun s13 =>
            if inB ((128 + (3 * x10)) + 1) 143 = true then
              lt (pI s13 72 (Int32.toNatClampNeg ((128 + (3 * x10)) + 1)) a2 : Sg) fun s15 =>
              if inB ((128 + (3 * x10)) + 2) 143 = true then
                lt (pI s15 72 (Int32.toNatClampNeg ((128 + (3 * x10)) + 2)) a3 : Sg) fun s17 =>
                lt (pI s17 72 (Int32.toNatClampNeg 127) ((gI s17 72 (Int32.toNatClampNeg 127)) + 1) : Sg) fun s18 =>
                some (x10, s18)
              else none
            else none
          else none
set_option maxRecDepth 100000 in
set_option maxHeartbeats 4000000 in
theorem w_m_sight (σ : Sg) (a1 : Int32) (a2 : Int32) (a3 : Int32) (q : (Int32 × Sg)) (h : s_m_sight σ a1 a2 a3 = some q) : Cal M_X12_sight 2 [.ref 71, .int a1, .int a2, .int a3] σ (some (.int q.1)) q.2 := by
  refine Cal.of (M := M_X12_sight) (by decide +kernel) (Nat.le_of_ble_eq_true rfl) ?_
  show Ev _ _ _ _ 0 [(0, .ref 71), (1, .int a1), (2, .int a2), (3, .int a3)] [] σ
  unfold s_m_sight at h
  refine Ev_aload_n 0 (dt_X12_sight.at 0 rfl) rfl ?_
  refine Ev_iload_n 1 (dt_X12_sight.at 1 rfl) rfl ?_
  obtain ⟨q1, hq1, h⟩ := oBind h
  refine Ev_callV (st := []) (st' := [.int q1]) [.int a1] (dt_X12_sight.at 2 rfl) cf_X12_105 (w_m_isOne σ a1 q1 hq1) (by decide) sk_71 rfl rfl rfl (Nat.le_of_ble_eq_true rfl) rfl ?_
  refine Ev_if_eq (tgt := 36) (dt_X12_sight.at 3 rfl) (by decide) (fun c2 => ?_) (fun c2 => ?_)
  · replace h := oPos h c2
    refine Ev_aload_n 0 (dt_X12_sight.at 20 rfl) rfl ?_
    refine Ev_bipush (dt_X12_sight.at 21 rfl) kb_m2 ?_
    obtain ⟨q3, hq3, h⟩ := oBind h
    refine Ev_callV (st := []) (st' := [.int q3.1]) [.int (-2)] (dt_X12_sight.at 22 rfl) cf_X12_88 (w_m_bad σ (-2) q3 hq3) (by decide) sk_71 rfl rfl rfl (Nat.le_of_ble_eq_true rfl) rfl ?_
    exact Ev_iret (dt_X12_sight.at 23 rfl) rfl h
  · replace h := oNeg h c2
    refine Ev_iload_n 2 (dt_X12_sight.at 4 rfl) rfl ?_
    refine Ev_i2l (dt_X12_sight.at 5 rfl) ?_
    refine Ev_lconst (dt_X12_sight.at 6 rfl) kl_0 ?_
    refine Ev_aload_n 0 (dt_X12_sight.at 7 rfl) rfl ?_
    obtain ⟨q4, hq4, h⟩ := oBind h
    refine Ev_callV (st := [.long 0, .long (Int32.toInt64 a2)]) (st' := [.int q4, .long 0, .long (Int32.toInt64 a2)]) [] (dt_X12_sight.at 8 rfl) cf_X12_91 (w_m_ring σ  q4 hq4) (by decide) sk_71 rfl rfl rfl (Nat.le_of_ble_eq_true rfl) rfl ?_
    refine Ev_iconst (dt_X12_sight.at 9 rfl) ki_1 ?_
    refine Ev_isub (dt_X12_sight.at 10 rfl) ?_
    refine Ev_i2l (dt_X12_sight.at 11 rfl) ?_
    obtain ⟨q5, hq5, h⟩ := oBind h
    refine Ev_callS (st := []) (st' := [.int q5]) [.long (Int32.toInt64 a2), .long 0, .long (Int32.toInt64 (q4 - 1))] (dt_X12_sight.at 12 rfl) cf_X12_74 (w_m_in σ (Int32.toInt64 a2) 0 (Int32.toInt64 (q4 - 1)) q5 hq5) (by decide) rfl rfl (Nat.le_of_ble_eq_true rfl) rfl ?_
    refine Ev_if_eq (tgt := 36) (dt_X12_sight.at 13 rfl) (by decide) (fun c6 => ?_) (fun c6 => ?_)
    · replace h := oPos h c6
      refine Ev_aload_n 0 (dt_X12_sight.at 20 rfl) rfl ?_
      refine Ev_bipush (dt_X12_sight.at 21 rfl) kb_m2 ?_
      obtain ⟨q7, hq7, h⟩ := oBind h
      refine Ev_callV (st := []) (st' := [.int q7.1]) [.int (-2)] (dt_X12_sight.at 22 rfl) cf_X12_88 (w_m_bad σ (-2) q7 hq7) (by decide) sk_71 rfl rfl rfl (Nat.le_of_ble_eq_true rfl) rfl ?_
      exact Ev_iret (dt_X12_sight.at 23 rfl) rfl h
    · replace h := oNeg h c6
      refine Ev_iload_n 3 (dt_X12_sight.at 14 rfl) rfl ?_
      refine Ev_i2l (dt_X12_sight.at 15 rfl) ?_
      refine Ev_lconst (dt_X12_sight.at 16 rfl) kl_0 ?_
      refine Ev_ldc2 (dt_X12_sight.at 17 rfl) cl_X12_96 ?_
      obtain ⟨q8, hq8, h⟩ := oBind h
      refine Ev_callS (st := []) (st' := [.int q8]) [.long (Int32.toInt64 a3), .long 0, .long 9] (dt_X12_sight.at 18 rfl) cf_X12_74 (w_m_in σ (Int32.toInt64 a3) 0 9 q8 hq8) (by decide) rfl rfl (Nat.le_of_ble_eq_true rfl) rfl ?_
      refine Ev_if_ne (tgt := 43) (dt_X12_sight.at 19 rfl) (by decide) (fun c9 => ?_) (fun c9 => ?_)
      · replace h := oNeg h c9
        refine Ev_aload_n 0 (dt_X12_sight.at 24 rfl) rfl ?_
        refine Ev_get (i := 0) (v := .ref 72) (dt_X12_sight.at 25 rfl) ff_X12_7 sk_71 rfl rfl ?_
        refine Ev_bipush (dt_X12_sight.at 26 rfl) kb_127 ?_
        refine Ev_iaload 72 (dt_X12_sight.at 27 rfl) sk_72 ib_127_143 ?_
        refine Ev_nmI (fun x10 ex10 => ?_)
        replace h := oLt h ex10
        refine Ev_istore (dt_X12_sight.at 28 rfl) (by decide) (ls' := [(4, .int x10), (0, .ref 71), (1, .int a1), (2, .int a2), (3, .int a3)]) rfl ?_
        refine Ev_iload 0 (dt_X12_sight.at 29 rfl) rfl ?_
        refine Ev_iconst (dt_X12_sight.at 30 rfl) ki_5 ?_
        refine Ev_icmp_ne (tgt := 63) (dt_X12_sight.at 31 rfl) (by decide) (fun c11 => ?_) (fun c11 => ?_)
        · replace h := oNeg h c11
          refine Ev_aload_n 1 (dt_X12_sight.at 35 rfl) rfl ?_
          refine Ev_get (i := 0) (v := .ref 72) (dt_X12_sight.at 36 rfl) ff_X12_7 sk_71 rfl rfl ?_
          refine Ev_sipush (dt_X12_sight.at 37 rfl) ks_128 ?_
          refine Ev_iconst (dt_X12_sight.at 38 rfl) ki_3 ?_
          refine Ev_iload 0 (dt_X12_sight.at 39 rfl) rfl ?_
          refine Ev_imul (dt_X12_sight.at 40 rfl) ?_
          refine Ev_iadd (dt_X12_sight.at 41 rfl) ?_
          refine Ev_iload_n 2 (dt_X12_sight.at 42 rfl) rfl ?_
          obtain ⟨g12, h⟩ := oGuard h
          refine Ev_iastore 72 (dt_X12_sight.at 43 rfl) sk_72 g12 ?_
          refine Ev_nmS (fun s13 es13 => ?_)
          replace h := oLt h es13
          refine Ev_aload_n 1 (dt_X12_sight.at 44 rfl) rfl ?_
          refine Ev_get (i := 0) (v := .ref 72) (dt_X12_sight.at 45 rfl) ff_X12_7 sk_71 rfl rfl ?_
          refine Ev_sipush (dt_X12_sight.at 46 rfl) ks_128 ?_
          refine Ev_iconst (dt_X12_sight.at 47 rfl) ki_3 ?_
          refine Ev_iload 0 (dt_X12_sight.at 48 rfl) rfl ?_
          refine Ev_imul (dt_X12_sight.at 49 rfl) ?_
          refine Ev_iadd (dt_X12_sight.at 50 rfl) ?_
          refine Ev_iconst (dt_X12_sight.at 51 rfl) ki_1 ?_
          refine Ev_iadd (dt_X12_sight.at 52 rfl) ?_
          refine Ev_iload_n 3 (dt_X12_sight.at 53 rfl) rfl ?_
          obtain ⟨g14, h⟩ := oGuard h
          refine Ev_iastore 72 (dt_X12_sight.at 54 rfl) sk_72 g14 ?_
          refine Ev_nmS (fun s15 es15 => ?_)
          replace h := oLt h es15
          refine Ev_aload_n 1 (dt_X12_sight.at 55 rfl) rfl ?_
          refine Ev_get (i := 0) (v := .ref 72) (dt_X12_sight.at 56 rfl) ff_X12_7 sk_71 rfl rfl ?_
          refine Ev_sipush (dt_X12_sight.at 57 rfl) ks_128 ?_
          refine Ev_iconst (dt_X12_sight.at 58 rfl) ki_3 ?_
          refine Ev_iload 0 (dt_X12_sight.at 59 rfl) rfl ?_
          refine Ev_imul (dt_X12_sight.at 60 rfl) ?_
          refine Ev_iadd (dt_X12_sight.at 61 rfl) ?_
          refine Ev_iconst (dt_X12_sight.at 62 rfl) ki_2 ?_
          refine Ev_iadd (dt_X12_sight.at 63 rfl) ?_
          refine Ev_iload_n 4 (dt_X12_sight.at 64 rfl) rfl ?_
          obtain ⟨g16, h⟩ := oGuard h
          refine Ev_iastore 72 (dt_X12_sight.at 65 rfl) sk_72 g16 ?_
          refine Ev_nmS (fun s17 es17 => ?_)
          replace h := oLt h es17
          refine Ev_aload_n 1 (dt_X12_sight.at 66 rfl) rfl ?_
          refine Ev_get (i := 0) (v := .ref 72) (dt_X12_sight.at 67 rfl) ff_X12_7 sk_71 rfl rfl ?_
          refine Ev_bipush (dt_X12_sight.at 68 rfl) kb_127 ?_
          refine Ev_dup2 (dt_X12_sight.at 69 rfl) rfl rfl ?_
          refine Ev_iaload 72 (dt_X12_sight.at 70 rfl) sk_72 ib_127_143 ?_
          refine Ev_iconst (dt_X12_sight.at 71 rfl) ki_1 ?_
          refine Ev_iadd (dt_X12_sight.at 72 rfl) ?_
          refine Ev_iastore 72 (dt_X12_sight.at 73 rfl) sk_72 ib_127_143 ?_
          refine Ev_nmS (fun s18 es18 => ?_)
          replace h := oLt h es18
          refine Ev_iload 0 (dt_X12_sight.at 74 rfl) rfl ?_
          exact Ev_iret (dt_X12_sight.at 75 rfl) rfl h
        · replace h := oPos h c11
          refine Ev_aload_n 1 (dt_X12_sight.at 32 rfl) rfl ?_
          obtain ⟨q19, hq19, h⟩ := oBind h
          refine Ev_callV (st := []) (st' := [.int q19.1]) [] (dt_X12_sight.at 33 rfl) cf_X12_98 (w_m_full σ  q19 hq19) (by decide) sk_71 rfl rfl rfl (Nat.le_of_ble_eq_true rfl) rfl ?_
          exact Ev_iret (dt_X12_sight.at 34 rfl) rfl h
      · replace h := oPos h c9
        refine Ev_aload_n 0 (dt_X12_sight.at 20 rfl) rfl ?_
        refine Ev_bipush (dt_X12_sight.at 21 rfl) kb_m2 ?_
        obtain ⟨q20, hq20, h⟩ := oBind h
        refine Ev_callV (st := []) (st' := [.int q20.1]) [.int (-2)] (dt_X12_sight.at 22 rfl) cf_X12_88 (w_m_bad σ (-2) q20 hq20) (by decide) sk_71 rfl rfl rfl (Nat.le_of_ble_eq_true rfl) rfl ?_
        exact Ev_iret (dt_X12_sight.at 23 rfl) rfl h
def s_m_blind (σ : Sg)  : Option (Int32 × Sg) :=
  lt ((gI σ 72 (Int32.toNatClampNeg 127)) : Int32) fun x1 =>
  lt (pI σ 72 (Int32.toNatClampNeg 127) 0 : Sg) fun s2 =>
  some (x1, s2)
set_option maxRecDepth 100000 in
set_option maxHeartbeats 4000000 in
theorem w_m_blind (σ : Sg)  (q : (Int32 × Sg)) (h : s_m_blind σ  = some q) : Cal M_X12_blind 0 [.ref 71] σ (some (.int q.1)) q.2 := by
  refine Cal.of (M := M_X12_blind) (by decide +kernel) (Nat.le_of_ble_eq_true rfl) ?_
  show Ev _ _ _ _ 0 [(0, .ref 71)] [] σ
  unfold s_m_blind at h
  refine Ev_aload_n 0 (dt_X12_blind.at 0 rfl) rfl ?_
  refine Ev_get (i := 0) (v := .ref 72) (dt_X12_blind.at 1 rfl) ff_X12_7 sk_71 rfl rfl ?_
  refine Ev_bipush (dt_X12_blind.at 2 rfl) kb_127 ?_
  refine Ev_iaload 72 (dt_X12_blind.at 3 rfl) sk_72 ib_127_143 ?_
  refine Ev_nmI (fun x1 ex1 => ?_)
  replace h := oLt h ex1
  refine Ev_istore_n (dt_X12_blind.at 4 rfl) (by decide) (ls' := [(1, .int x1), (0, .ref 71)]) rfl ?_
  refine Ev_aload_n 1 (dt_X12_blind.at 5 rfl) rfl ?_
  refine Ev_get (i := 0) (v := .ref 72) (dt_X12_blind.at 6 rfl) ff_X12_7 sk_71 rfl rfl ?_
  refine Ev_bipush (dt_X12_blind.at 7 rfl) kb_127 ?_
  refine Ev_iconst (dt_X12_blind.at 8 rfl) ki_0 ?_
  refine Ev_iastore 72 (dt_X12_blind.at 9 rfl) sk_72 ib_127_143 ?_
  refine Ev_nmS (fun s2 es2 => ?_)
  replace h := oLt h es2
  refine Ev_iload_n 0 (dt_X12_blind.at 10 rfl) rfl ?_
  exact Ev_iret (dt_X12_blind.at 11 rfl) rfl h
def j_m_isSeen_46i12 (σ : Sg) (v1 : Int32) (v4 : Int32) (v5 : Int32) (u0 : Int32) : Option ((Int32 × Int32) ⊕ (Int32 × Int32)) :=
  if v4 = 0 then
    lt (v5 + 1 : Int32) fun x6 =>
    some (.inl (0, x6))
  else
    if u0 = 0 then
      lt (v5 + 1 : Int32) fun x8 =>
      some (.inl (1, x8))
    else
      if inB ((128 + (3 * v5)) + 2) 143 = true then
        if inB (gI σ 72 (Int32.toNatClampNeg ((128 + (3 * v5)) + 2))) 10 = true then
          if inB ((128 + (3 * v5)) + 1) 143 = true then
            if (gI σ 78 (Int32.toNatClampNeg (gI σ 72 (Int32.toNatClampNeg ((128 + (3 * v5)) + 2))))) = (gI σ 72 (Int32.toNatClampNeg ((128 + (3 * v5)) + 1))) then
              lt (v5 + 1 : Int32) fun x14 =>
              some (.inl (1, x14))
            else
              lt (v5 + 1 : Int32) fun x13 =>
              some (.inl (0, x13))
          else none
        else none
      else none
def b_m_isSeen_12 (σ : Sg) (v1 : Int32) (x : (Int32 × Int32)) : Option ((Int32 × Int32) ⊕ (Int32 × Int32)) :=
  if (gI σ 72 (Int32.toNatClampNeg 127)) ≤ x.2 then
    some (.inr (x.1, x.2))
  else
    if inB (128 + (3 * x.2)) 143 = true then
      if (gI σ 72 (Int32.toNatClampNeg (128 + (3 * x.2)))) = v1 then
        j_m_isSeen_46i12 σ v1 x.1 x.2 1
      else
        j_m_isSeen_46i12 σ v1 x.1 x.2 0
    else none
def s_m_isSeen (σ : Sg) (a1 : Int32) (a2 : Int32) : Option (Int32 × Sg) :=
  (s_m_goDay σ a2).bind fun q1 =>
  (lp (b_m_isSeen_12 q1.2 a1) 100000 (1, 0)).bind fun o15 =>
  if o15.1 &&& 1 = o15.1 then some (o15.1, q1.2) else none
set_option maxRecDepth 100000 in
set_option maxHeartbeats 4000000 in
theorem wj_m_isSeen_46i12 (σ : Sg) (v1 : Int32) (v4 : Int32) (v5 : Int32) (u0 : Int32) (r : Option Value) (τ : Sg) (o : ((Int32 × Int32) ⊕ (Int32 × Int32))) (h : (j_m_isSeen_46i12 σ v1 v4 v5 u0) = some o) (hc : ∀ y : (Int32 × Int32), o = .inl y → Ev M_X12_isSeen 8 r τ 12 [(0, .ref 71), (1, .int v1), (4, .int y.1), (5, .int y.2)] [] σ) (he : ∀ y : (Int32 × Int32), o = .inr y → Ev M_X12_isSeen 8 r τ 109 [(4, .int y.1)] [] σ) : Ev M_X12_isSeen 8 r τ 46 [(0, .ref 71), (1, .int v1), (4, .int v4), (5, .int v5)] [.int u0] σ := by
  unfold j_m_isSeen_46i12 at h
  refine Ev_istore (dt_X12_isSeen.at 27 rfl) (by decide) (ls' := [(6, .int u0), (0, .ref 71), (1, .int v1), (4, .int v4), (5, .int v5)]) rfl ?_
  refine Ev_iload 3 (dt_X12_isSeen.at 28 rfl) rfl ?_
  refine Ev_if_eq (tgt := 100) (dt_X12_isSeen.at 29 rfl) (by decide) (fun c5 => ?_) (fun c5 => ?_)
  · replace h := oPos h c5
    refine Ev_iconst (dt_X12_isSeen.at 58 rfl) ki_0 ?_
    refine Ev_istore (dt_X12_isSeen.at 59 rfl) (by decide) (ls' := [(4, .int 0), (6, .int u0), (0, .ref 71), (1, .int v1), (5, .int v5)]) rfl ?_
    obtain ⟨x6, ex6⟩ : ∃ z : Int32, z = v5 + 1 := ⟨_, rfl⟩
    replace h := oLt h ex6
    refine Ev_iinc (v := x6) 4 (dt_X12_isSeen.at 60 rfl) rfl (ex6.trans (congrArg (fun z => v5 + z) ki_1.symm)) (by decide) (ls' := [(5, .int x6), (4, .int 0), (6, .int u0), (0, .ref 71), (1, .int v1)]) rfl ?_
    refine Ev_goto (tgt := 12) (dt_X12_isSeen.at 61 rfl) (by decide) ?_
    refine Ev_sub [3, 4, 1, 0] (ls' := [(0, .ref 71), (1, .int v1), (4, .int 0), (5, .int x6)]) rfl ?_
    exact hc (0, x6) (Option.some.inj h).symm
  · replace h := oNeg h c5
    refine Ev_iload 0 (dt_X12_isSeen.at 30 rfl) rfl ?_
    refine Ev_if_eq (tgt := 96) (dt_X12_isSeen.at 31 rfl) (by decide) (fun c7 => ?_) (fun c7 => ?_)
    · replace h := oPos h c7
      refine Ev_iconst (dt_X12_isSeen.at 56 rfl) ki_1 ?_
      refine Ev_goto (tgt := 101) (dt_X12_isSeen.at 57 rfl) (by decide) ?_
      refine Ev_istore (dt_X12_isSeen.at 59 rfl) (by decide) (ls' := [(4, .int 1), (6, .int u0), (0, .ref 71), (1, .int v1), (5, .int v5)]) rfl ?_
      obtain ⟨x8, ex8⟩ : ∃ z : Int32, z = v5 + 1 := ⟨_, rfl⟩
      replace h := oLt h ex8
      refine Ev_iinc (v := x8) 4 (dt_X12_isSeen.at 60 rfl) rfl (ex8.trans (congrArg (fun z => v5 + z) ki_1.symm)) (by decide) (ls' := [(5, .int x8), (4, .int 1), (6, .int u0), (0, .ref 71), (1, .int v1)]) rfl ?_
      refine Ev_goto (tgt := 12) (dt_X12_isSeen.at 61 rfl) (by decide) ?_
      refine Ev_sub [3, 4, 1, 0] (ls' := [(0, .ref 71), (1, .int v1), (4, .int 1), (5, .int x8)]) rfl ?_
      exact hc (1, x8) (Option.some.inj h).symm
    · replace h := oNeg h c7
      refine Ev_aload_n 1 (dt_X12_isSeen.at 32 rfl) rfl ?_
      refine Ev_get (i := 8) (v := .ref 78) (dt_X12_isSeen.at 33 rfl) ff_X12_33 sk_71 rfl rfl ?_
      refine Ev_aload_n 1 (dt_X12_isSeen.at 34 rfl) rfl ?_
      refine Ev_get (i := 0) (v := .ref 72) (dt_X12_isSeen.at 35 rfl) ff_X12_7 sk_71 rfl rfl ?_
      refine Ev_sipush (dt_X12_isSeen.at 36 rfl) ks_128 ?_
      refine Ev_iconst (dt_X12_isSeen.at 37 rfl) ki_3 ?_
      refine Ev_iload 4 (dt_X12_isSeen.at 38 rfl) rfl ?_
      refine Ev_imul (dt_X12_isSeen.at 39 rfl) ?_
      refine Ev_iadd (dt_X12_isSeen.at 40 rfl) ?_
      refine Ev_iconst (dt_X12_isSeen.at 41 rfl) ki_2 ?_
      refine Ev_iadd (dt_X12_isSeen.at 42 rfl) ?_
      obtain ⟨g9, h⟩ := oGuard h
      refine Ev_iaload 72 (dt_X12_isSeen.at 43 rfl) sk_72 g9 ?_
      obtain ⟨g10, h⟩ := oGuard h
      refine Ev_iaload 78 (dt_X12_isSeen.at 44 rfl) sk_78 g10 ?_
      refine Ev_aload_n 1 (dt_X12_isSeen.at 45 rfl) rfl ?_
      refine Ev_get (i := 0) (v := .ref 72) (dt_X12_isSeen.at 46 rfl) ff_X12_7 sk_71 rfl rfl ?_
      refine Ev_sipush (dt_X12_isSeen.at 47 rfl) ks_128 ?_
      refine Ev_iconst (dt_X12_isSeen.at 48 rfl) ki_3 ?_
      refine Ev_iload 4 (dt_X12_isSeen.at 49 rfl) rfl ?_
      refine Ev_imul (dt_X12_isSeen.at 50 rfl) ?_
      refine Ev_iadd (dt_X12_isSeen.at 51 rfl) ?_
      refine Ev_iconst (dt_X12_isSeen.at 52 rfl) ki_1 ?_
      refine Ev_iadd (dt_X12_isSeen.at 53 rfl) ?_
      obtain ⟨g11, h⟩ := oGuard h
      refine Ev_iaload 72 (dt_X12_isSeen.at 54 rfl) sk_72 g11 ?_
      refine Ev_icmp_ne (tgt := 100) (dt_X12_isSeen.at 55 rfl) (by decide) (fun c12 => ?_) (fun c12 => ?_)
      · replace h := oNeg h c12
        refine Ev_iconst (dt_X12_isSeen.at 58 rfl) ki_0 ?_
        refine Ev_istore (dt_X12_isSeen.at 59 rfl) (by decide) (ls' := [(4, .int 0), (6, .int u0), (0, .ref 71), (1, .int v1), (5, .int v5)]) rfl ?_
        obtain ⟨x13, ex13⟩ : ∃ z : Int32, z = v5 + 1 := ⟨_, rfl⟩
        replace h := oLt h ex13
        refine Ev_iinc (v := x13) 4 (dt_X12_isSeen.at 60 rfl) rfl (ex13.trans (congrArg (fun z => v5 + z) ki_1.symm)) (by decide) (ls' := [(5, .int x13), (4, .int 0), (6, .int u0), (0, .ref 71), (1, .int v1)]) rfl ?_
        refine Ev_goto (tgt := 12) (dt_X12_isSeen.at 61 rfl) (by decide) ?_
        refine Ev_sub [3, 4, 1, 0] (ls' := [(0, .ref 71), (1, .int v1), (4, .int 0), (5, .int x13)]) rfl ?_
        exact hc (0, x13) (Option.some.inj h).symm
      · replace h := oPos h c12
        refine Ev_iconst (dt_X12_isSeen.at 56 rfl) ki_1 ?_
        refine Ev_goto (tgt := 101) (dt_X12_isSeen.at 57 rfl) (by decide) ?_
        refine Ev_istore (dt_X12_isSeen.at 59 rfl) (by decide) (ls' := [(4, .int 1), (6, .int u0), (0, .ref 71), (1, .int v1), (5, .int v5)]) rfl ?_
        obtain ⟨x14, ex14⟩ : ∃ z : Int32, z = v5 + 1 := ⟨_, rfl⟩
        replace h := oLt h ex14
        refine Ev_iinc (v := x14) 4 (dt_X12_isSeen.at 60 rfl) rfl (ex14.trans (congrArg (fun z => v5 + z) ki_1.symm)) (by decide) (ls' := [(5, .int x14), (4, .int 1), (6, .int u0), (0, .ref 71), (1, .int v1)]) rfl ?_
        refine Ev_goto (tgt := 12) (dt_X12_isSeen.at 61 rfl) (by decide) ?_
        refine Ev_sub [3, 4, 1, 0] (ls' := [(0, .ref 71), (1, .int v1), (4, .int 1), (5, .int x14)]) rfl ?_
        exact hc (1, x14) (Option.some.inj h).symm
set_option maxRecDepth 100000 in
set_option maxHeartbeats 4000000 in
theorem wb_m_isSeen_12 (σ : Sg) (v1 : Int32) (x : (Int32 × Int32)) (r : Option Value) (τ : Sg) (o : ((Int32 × Int32) ⊕ (Int32 × Int32))) (h : (b_m_isSeen_12 σ v1 x) = some o) (hc : ∀ y : (Int32 × Int32), o = .inl y → Ev M_X12_isSeen 8 r τ 12 [(0, .ref 71), (1, .int v1), (4, .int y.1), (5, .int y.2)] [] σ) (he : ∀ y : (Int32 × Int32), o = .inr y → Ev M_X12_isSeen 8 r τ 109 [(4, .int y.1)] [] σ) : Ev M_X12_isSeen 8 r τ 12 [(0, .ref 71), (1, .int v1), (4, .int x.1), (5, .int x.2)] [] σ := by
  unfold b_m_isSeen_12 at h
  refine Ev_iload 3 (dt_X12_isSeen.at 8 rfl) rfl ?_
  refine Ev_aload_n 0 (dt_X12_isSeen.at 9 rfl) rfl ?_
  refine Ev_get (i := 0) (v := .ref 72) (dt_X12_isSeen.at 10 rfl) ff_X12_7 sk_71 rfl rfl ?_
  refine Ev_bipush (dt_X12_isSeen.at 11 rfl) kb_127 ?_
  refine Ev_iaload 72 (dt_X12_isSeen.at 12 rfl) sk_72 ib_127_143 ?_
  refine Ev_icmp_ge (tgt := 109) (dt_X12_isSeen.at 13 rfl) (by decide) (fun c2 => ?_) (fun c2 => ?_)
  · replace h := oPos h c2
    refine Ev_sub [2] (ls' := [(4, .int x.1)]) rfl ?_
    exact he (x.1, x.2) (Option.some.inj h).symm
  · replace h := oNeg h c2
    refine Ev_aload_n 0 (dt_X12_isSeen.at 14 rfl) rfl ?_
    refine Ev_get (i := 0) (v := .ref 72) (dt_X12_isSeen.at 15 rfl) ff_X12_7 sk_71 rfl rfl ?_
    refine Ev_sipush (dt_X12_isSeen.at 16 rfl) ks_128 ?_
    refine Ev_iconst (dt_X12_isSeen.at 17 rfl) ki_3 ?_
    refine Ev_iload 3 (dt_X12_isSeen.at 18 rfl) rfl ?_
    refine Ev_imul (dt_X12_isSeen.at 19 rfl) ?_
    refine Ev_iadd (dt_X12_isSeen.at 20 rfl) ?_
    obtain ⟨g3, h⟩ := oGuard h
    refine Ev_iaload 72 (dt_X12_isSeen.at 21 rfl) sk_72 g3 ?_
    refine Ev_iload_n 1 (dt_X12_isSeen.at 22 rfl) rfl ?_
    refine Ev_icmp_ne (tgt := 45) (dt_X12_isSeen.at 23 rfl) (by decide) (fun c4 => ?_) (fun c4 => ?_)
    · replace h := oNeg h c4
      refine Ev_iconst (dt_X12_isSeen.at 26 rfl) ki_0 ?_
      refine Ev_sub [0, 1, 2, 3] (ls' := [(0, .ref 71), (1, .int v1), (4, .int x.1), (5, .int x.2)]) rfl ?_
      exact wj_m_isSeen_46i12 σ v1 x.1 x.2 0 _ _ _ h hc he
    · replace h := oPos h c4
      refine Ev_iconst (dt_X12_isSeen.at 24 rfl) ki_1 ?_
      refine Ev_goto (tgt := 46) (dt_X12_isSeen.at 25 rfl) (by decide) ?_
      refine Ev_sub [0, 1, 2, 3] (ls' := [(0, .ref 71), (1, .int v1), (4, .int x.1), (5, .int x.2)]) rfl ?_
      exact wj_m_isSeen_46i12 σ v1 x.1 x.2 1 _ _ _ h hc he
set_option maxRecDepth 100000 in
set_option maxHeartbeats 4000000 in
theorem wl_m_isSeen_12 (σ : Sg) (v1 : Int32) (r : Option Value) (τ : Sg) (n : Nat) (x : (Int32 × Int32)) (z : (Int32 × Int32)) (h : lp (b_m_isSeen_12 σ v1) n x = some z) (he : ∀ y : (Int32 × Int32), z = y → Ev M_X12_isSeen 8 r τ 109 [(4, .int y.1)] [] σ) : Ev M_X12_isSeen 8 r τ 12 [(0, .ref 71), (1, .int v1), (4, .int x.1), (5, .int x.2)] [] σ := by
  refine lp_ind (E := fun x : (Int32 × Int32) => Ev M_X12_isSeen 8 r τ 12 [(0, .ref 71), (1, .int v1), (4, .int x.1), (5, .int x.2)] [] σ) (fun x => ⟨fun y hb hy => ?_, fun hb => ?_⟩) n x h
  · exact wb_m_isSeen_12 σ v1 x r τ _ hb (fun y' e => by cases e; exact hy) (fun y' e => by cases e)
  · exact wb_m_isSeen_12 σ v1 x r τ _ hb (fun y' e => by cases e) (fun y' e => he y' (Sum.inr.inj e))
set_option maxRecDepth 100000 in
set_option maxHeartbeats 4000000 in
theorem w_m_isSeen (σ : Sg) (a1 : Int32) (a2 : Int32) (q : (Int32 × Sg)) (h : s_m_isSeen σ a1 a2 = some q) : Cal M_X12_isSeen 8 [.ref 71, .int a1, .int a2] σ (some (.int q.1)) q.2 := by
  refine Cal.of (M := M_X12_isSeen) (by decide +kernel) (Nat.le_of_ble_eq_true rfl) ?_
  show Ev _ _ _ _ 0 [(0, .ref 71), (1, .int a1), (2, .int a2)] [] σ
  unfold s_m_isSeen at h
  refine Ev_aload_n 0 (dt_X12_isSeen.at 0 rfl) rfl ?_
  refine Ev_iload_n 2 (dt_X12_isSeen.at 1 rfl) rfl ?_
  obtain ⟨q1, hq1, h⟩ := oBind h
  refine Ev_callV (st := []) (st' := [.int q1.1]) [.int a2] (dt_X12_isSeen.at 2 rfl) cf_X12_164 (w_m_goDay σ a2 q1 hq1) (by decide) sk_71 rfl rfl rfl (Nat.le_of_ble_eq_true rfl) rfl ?_
  refine Ev_istore_n (dt_X12_isSeen.at 3 rfl) (by decide) (ls' := [(3, .int q1.1), (0, .ref 71), (1, .int a1), (2, .int a2)]) rfl ?_
  refine Ev_iconst (dt_X12_isSeen.at 4 rfl) ki_1 ?_
  refine Ev_istore (dt_X12_isSeen.at 5 rfl) (by decide) (ls' := [(4, .int 1), (3, .int q1.1), (0, .ref 71), (1, .int a1), (2, .int a2)]) rfl ?_
  refine Ev_iconst (dt_X12_isSeen.at 6 rfl) ki_0 ?_
  refine Ev_istore (dt_X12_isSeen.at 7 rfl) (by decide) (ls' := [(5, .int 0), (4, .int 1), (3, .int q1.1), (0, .ref 71), (1, .int a1), (2, .int a2)]) rfl ?_
  refine Ev_sub [3, 4, 1, 0] (ls' := [(0, .ref 71), (1, .int a1), (4, .int 1), (5, .int 0)]) rfl ?_
  obtain ⟨o15, ho15, h⟩ := oBind h
  refine wl_m_isSeen_12 q1.2 a1 _ _ 100000 (1, 0) o15 ho15 (fun y ey => ?_)
  subst ey
  refine Ev_iload 0 (dt_X12_isSeen.at 62 rfl) rfl ?_
  obtain ⟨gz, h⟩ := oGuard h
  exact Ev_zret (dt_X12_isSeen.at 63 rfl) rfl gz h
def b_m_which_29 (v1 : Int32) (v2 : Int32) (x : (Sg × Int32 × Int32 × Int32)) : Option ((Sg × Int32 × Int32 × Int32) ⊕ (Sg × Int32 × Int32 × Int32)) :=
  (s_m_people x.1 ).bind fun q5 =>
  if ((1 : Int32) <<< (q5 &&& 31)) ≤ x.2.2.2 then
    some (.inr (x.1, x.2.1, x.2.2.1, x.2.2.2))
  else
    (s_m_bits x.2.2.2).bind fun q7 =>
    if q7 = 3 then
      if ((x.2.2.2 >>> (v1 &&& 31)) &&& 1) = 1 then
        (s_m_isSeen x.1 v1 x.2.2.2).bind fun q12 =>
        if q12.1 = 0 then
          lt (x.2.2.2 + 1 : Int32) fun x14 =>
          some (.inl (q12.2, x.2.1, x.2.2.1, x14))
        else
          if x.2.1 = v2 then
            lt (x.2.1 + 1 : Int32) fun x18 =>
            lt (x.2.2.2 + 1 : Int32) fun x19 =>
            some (.inl (q12.2, x18, x.2.2.2, x19))
          else
            lt (x.2.1 + 1 : Int32) fun x16 =>
            lt (x.2.2.2 + 1 : Int32) fun x17 =>
            some (.inl (q12.2, x16, x.2.2.1, x17))
      else
        lt (x.2.2.2 + 1 : Int32) fun x11 =>
        some (.inl (x.1, x.2.1, x.2.2.1, x11))
    else
      lt (x.2.2.2 + 1 : Int32) fun x9 =>
      some (.inl (x.1, x.2.1, x.2.2.1, x9))
def s_m_which (σ : Sg) (a1 : Int32) (a2 : Int32) : Option (Int32 × Sg) :=
  (s_m_isOne σ a1).bind fun q1 =>
  if q1 = 0 then
    (s_m_bad σ (-10)).bind fun q3 =>
    some (q3.1, q3.2)
  else
    if (-1) ≤ a2 then
      (lp (b_m_which_29 a1 a2) 100000 (σ, 0, (-5), 0)).bind fun o20 =>
      if a2 = (-1) then
        some (o20.2.1, o20.1)
      else
        some (o20.2.2.1, o20.1)
    else
      (s_m_bad σ (-10)).bind fun q22 =>
      some (q22.1, q22.2)
set_option maxRecDepth 100000 in
set_option maxHeartbeats 4000000 in
theorem wb_m_which_29 (v1 : Int32) (v2 : Int32) (x : (Sg × Int32 × Int32 × Int32)) (r : Option Value) (τ : Sg) (o : ((Sg × Int32 × Int32 × Int32) ⊕ (Sg × Int32 × Int32 × Int32))) (h : (b_m_which_29 v1 v2 x) = some o) (hc : ∀ y : (Sg × Int32 × Int32 × Int32), o = .inl y → Ev M_X12_which 9 r τ 29 [(0, .ref 71), (1, .int v1), (2, .int v2), (3, .int y.2.1), (4, .int y.2.2.1), (5, .int y.2.2.2)] [] y.1) (he : ∀ y : (Sg × Int32 × Int32 × Int32), o = .inr y → Ev M_X12_which 9 r τ 92 [(2, .int v2), (3, .int y.2.1), (4, .int y.2.2.1)] [] y.1) : Ev M_X12_which 9 r τ 29 [(0, .ref 71), (1, .int v1), (2, .int v2), (3, .int x.2.1), (4, .int x.2.2.1), (5, .int x.2.2.2)] [] x.1 := by
  unfold b_m_which_29 at h
  refine Ev_iload 5 (dt_X12_which.at 17 rfl) rfl ?_
  refine Ev_iconst (dt_X12_which.at 18 rfl) ki_1 ?_
  refine Ev_aload_n 0 (dt_X12_which.at 19 rfl) rfl ?_
  obtain ⟨q5, hq5, h⟩ := oBind h
  refine Ev_callV (st := [.int 1, .int x.2.2.2]) (st' := [.int q5, .int 1, .int x.2.2.2]) [] (dt_X12_which.at 20 rfl) cf_X12_70 (w_m_people x.1  q5 hq5) (by decide) sk_71 rfl rfl rfl (Nat.le_of_ble_eq_true rfl) rfl ?_
  refine Ev_ishl (dt_X12_which.at 21 rfl) ?_
  refine Ev_icmp_ge (tgt := 92) (dt_X12_which.at 22 rfl) (by decide) (fun c6 => ?_) (fun c6 => ?_)
  · replace h := oPos h c6
    refine Ev_sub [2, 3, 4] (ls' := [(2, .int v2), (3, .int x.2.1), (4, .int x.2.2.1)]) rfl ?_
    exact he (x.1, x.2.1, x.2.2.1, x.2.2.2) (Option.some.inj h).symm
  · replace h := oNeg h c6
    refine Ev_iload 5 (dt_X12_which.at 23 rfl) rfl ?_
    obtain ⟨q7, hq7, h⟩ := oBind h
    refine Ev_callS (st := []) (st' := [.int q7]) [.int x.2.2.2] (dt_X12_which.at 24 rfl) cf_X12_78 (w_m_bits x.1 x.2.2.2 q7 hq7) (by decide) rfl rfl (Nat.le_of_ble_eq_true rfl) rfl ?_
    refine Ev_iconst (dt_X12_which.at 25 rfl) ki_3 ?_
    refine Ev_icmp_ne (tgt := 86) (dt_X12_which.at 26 rfl) (by decide) (fun c8 => ?_) (fun c8 => ?_)
    · replace h := oNeg h c8
      obtain ⟨x9, ex9⟩ : ∃ z : Int32, z = x.2.2.2 + 1 := ⟨_, rfl⟩
      replace h := oLt h ex9
      refine Ev_iinc (v := x9) 5 (dt_X12_which.at 47 rfl) rfl (ex9.trans (congrArg (fun z => x.2.2.2 + z) ki_1.symm)) (by decide) (ls' := [(5, .int x9), (0, .ref 71), (1, .int v1), (2, .int v2), (3, .int x.2.1), (4, .int x.2.2.1)]) rfl ?_
      refine Ev_goto (tgt := 29) (dt_X12_which.at 48 rfl) (by decide) ?_
      refine Ev_sub [1, 2, 3, 4, 5, 0] (ls' := [(0, .ref 71), (1, .int v1), (2, .int v2), (3, .int x.2.1), (4, .int x.2.2.1), (5, .int x9)]) rfl ?_
      exact hc (x.1, x.2.1, x.2.2.1, x9) (Option.some.inj h).symm
    · replace h := oPos h c8
      refine Ev_iload 5 (dt_X12_which.at 27 rfl) rfl ?_
      refine Ev_iload_n 1 (dt_X12_which.at 28 rfl) rfl ?_
      refine Ev_ishr (dt_X12_which.at 29 rfl) ?_
      refine Ev_iconst (dt_X12_which.at 30 rfl) ki_1 ?_
      refine Ev_iand (dt_X12_which.at 31 rfl) ?_
      refine Ev_iconst (dt_X12_which.at 32 rfl) ki_1 ?_
      refine Ev_icmp_ne (tgt := 86) (dt_X12_which.at 33 rfl) (by decide) (fun c10 => ?_) (fun c10 => ?_)
      · replace h := oNeg h c10
        obtain ⟨x11, ex11⟩ : ∃ z : Int32, z = x.2.2.2 + 1 := ⟨_, rfl⟩
        replace h := oLt h ex11
        refine Ev_iinc (v := x11) 5 (dt_X12_which.at 47 rfl) rfl (ex11.trans (congrArg (fun z => x.2.2.2 + z) ki_1.symm)) (by decide) (ls' := [(5, .int x11), (0, .ref 71), (1, .int v1), (2, .int v2), (3, .int x.2.1), (4, .int x.2.2.1)]) rfl ?_
        refine Ev_goto (tgt := 29) (dt_X12_which.at 48 rfl) (by decide) ?_
        refine Ev_sub [1, 2, 3, 4, 5, 0] (ls' := [(0, .ref 71), (1, .int v1), (2, .int v2), (3, .int x.2.1), (4, .int x.2.2.1), (5, .int x11)]) rfl ?_
        exact hc (x.1, x.2.1, x.2.2.1, x11) (Option.some.inj h).symm
      · replace h := oPos h c10
        refine Ev_aload_n 0 (dt_X12_which.at 34 rfl) rfl ?_
        refine Ev_iload_n 1 (dt_X12_which.at 35 rfl) rfl ?_
        refine Ev_iload 5 (dt_X12_which.at 36 rfl) rfl ?_
        obtain ⟨q12, hq12, h⟩ := oBind h
        refine Ev_callV (st := []) (st' := [.int q12.1]) [.int v1, .int x.2.2.2] (dt_X12_which.at 37 rfl) cf_X12_253 (w_m_isSeen x.1 v1 x.2.2.2 q12 hq12) (by decide) sk_71 rfl rfl rfl (Nat.le_of_ble_eq_true rfl) rfl ?_
        refine Ev_if_eq (tgt := 86) (dt_X12_which.at 38 rfl) (by decide) (fun c13 => ?_) (fun c13 => ?_)
        · replace h := oPos h c13
          obtain ⟨x14, ex14⟩ : ∃ z : Int32, z = x.2.2.2 + 1 := ⟨_, rfl⟩
          replace h := oLt h ex14
          refine Ev_iinc (v := x14) 5 (dt_X12_which.at 47 rfl) rfl (ex14.trans (congrArg (fun z => x.2.2.2 + z) ki_1.symm)) (by decide) (ls' := [(5, .int x14), (0, .ref 71), (1, .int v1), (2, .int v2), (3, .int x.2.1), (4, .int x.2.2.1)]) rfl ?_
          refine Ev_goto (tgt := 29) (dt_X12_which.at 48 rfl) (by decide) ?_
          refine Ev_sub [1, 2, 3, 4, 5, 0] (ls' := [(0, .ref 71), (1, .int v1), (2, .int v2), (3, .int x.2.1), (4, .int x.2.2.1), (5, .int x14)]) rfl ?_
          exact hc (q12.2, x.2.1, x.2.2.1, x14) (Option.some.inj h).symm
        · replace h := oNeg h c13
          refine Ev_iload_n 3 (dt_X12_which.at 39 rfl) rfl ?_
          refine Ev_iload_n 2 (dt_X12_which.at 40 rfl) rfl ?_
          refine Ev_icmp_ne (tgt := 79) (dt_X12_which.at 41 rfl) (by decide) (fun c15 => ?_) (fun c15 => ?_)
          · replace h := oNeg h c15
            refine Ev_iload 4 (dt_X12_which.at 44 rfl) rfl ?_
            refine Ev_istore (dt_X12_which.at 45 rfl) (by decide) (ls' := [(4, .int x.2.2.1), (0, .ref 71), (1, .int v1), (2, .int v2), (3, .int x.2.1), (5, .int x.2.2.2)]) rfl ?_
            obtain ⟨x16, ex16⟩ : ∃ z : Int32, z = x.2.1 + 1 := ⟨_, rfl⟩
            replace h := oLt h ex16
            refine Ev_iinc (v := x16) 4 (dt_X12_which.at 46 rfl) rfl (ex16.trans (congrArg (fun z => x.2.1 + z) ki_1.symm)) (by decide) (ls' := [(3, .int x16), (4, .int x.2.2.1), (0, .ref 71), (1, .int v1), (2, .int v2), (5, .int x.2.2.2)]) rfl ?_
            obtain ⟨x17, ex17⟩ : ∃ z : Int32, z = x.2.2.2 + 1 := ⟨_, rfl⟩
            replace h := oLt h ex17
            refine Ev_iinc (v := x17) 5 (dt_X12_which.at 47 rfl) rfl (ex17.trans (congrArg (fun z => x.2.2.2 + z) ki_1.symm)) (by decide) (ls' := [(5, .int x17), (3, .int x16), (4, .int x.2.2.1), (0, .ref 71), (1, .int v1), (2, .int v2)]) rfl ?_
            refine Ev_goto (tgt := 29) (dt_X12_which.at 48 rfl) (by decide) ?_
            refine Ev_sub [3, 4, 5, 1, 2, 0] (ls' := [(0, .ref 71), (1, .int v1), (2, .int v2), (3, .int x16), (4, .int x.2.2.1), (5, .int x17)]) rfl ?_
            exact hc (q12.2, x16, x.2.2.1, x17) (Option.some.inj h).symm
          · replace h := oPos h c15
            refine Ev_iload 5 (dt_X12_which.at 42 rfl) rfl ?_
            refine Ev_goto (tgt := 81) (dt_X12_which.at 43 rfl) (by decide) ?_
            refine Ev_istore (dt_X12_which.at 45 rfl) (by decide) (ls' := [(4, .int x.2.2.2), (0, .ref 71), (1, .int v1), (2, .int v2), (3, .int x.2.1), (5, .int x.2.2.2)]) rfl ?_
            obtain ⟨x18, ex18⟩ : ∃ z : Int32, z = x.2.1 + 1 := ⟨_, rfl⟩
            replace h := oLt h ex18
            refine Ev_iinc (v := x18) 4 (dt_X12_which.at 46 rfl) rfl (ex18.trans (congrArg (fun z => x.2.1 + z) ki_1.symm)) (by decide) (ls' := [(3, .int x18), (4, .int x.2.2.2), (0, .ref 71), (1, .int v1), (2, .int v2), (5, .int x.2.2.2)]) rfl ?_
            obtain ⟨x19, ex19⟩ : ∃ z : Int32, z = x.2.2.2 + 1 := ⟨_, rfl⟩
            replace h := oLt h ex19
            refine Ev_iinc (v := x19) 5 (dt_X12_which.at 47 rfl) rfl (ex19.trans (congrArg (fun z => x.2.2.2 + z) ki_1.symm)) (by decide) (ls' := [(5, .int x19), (3, .int x18), (4, .int x.2.2.2), (0, .ref 71), (1, .int v1), (2, .int v2)]) rfl ?_
            refine Ev_goto (tgt := 29) (dt_X12_which.at 48 rfl) (by decide) ?_
            refine Ev_sub [3, 4, 5, 1, 2, 0] (ls' := [(0, .ref 71), (1, .int v1), (2, .int v2), (3, .int x18), (4, .int x.2.2.2), (5, .int x19)]) rfl ?_
            exact hc (q12.2, x18, x.2.2.2, x19) (Option.some.inj h).symm
set_option maxRecDepth 100000 in
set_option maxHeartbeats 4000000 in
theorem wl_m_which_29 (v1 : Int32) (v2 : Int32) (r : Option Value) (τ : Sg) (n : Nat) (x : (Sg × Int32 × Int32 × Int32)) (z : (Sg × Int32 × Int32 × Int32)) (h : lp (b_m_which_29 v1 v2) n x = some z) (he : ∀ y : (Sg × Int32 × Int32 × Int32), z = y → Ev M_X12_which 9 r τ 92 [(2, .int v2), (3, .int y.2.1), (4, .int y.2.2.1)] [] y.1) : Ev M_X12_which 9 r τ 29 [(0, .ref 71), (1, .int v1), (2, .int v2), (3, .int x.2.1), (4, .int x.2.2.1), (5, .int x.2.2.2)] [] x.1 := by
  refine lp_ind (E := fun x : (Sg × Int32 × Int32 × Int32) => Ev M_X12_which 9 r τ 29 [(0, .ref 71), (1, .int v1), (2, .int v2), (3, .int x.2.1), (4, .int x.2.2.1), (5, .int x.2.2.2)] [] x.1) (fun x => ⟨fun y hb hy => ?_, fun hb => ?_⟩) n x h
  · exact wb_m_which_29 v1 v2 x r τ _ hb (fun y' e => by cases e; exact hy) (fun y' e => by cases e)
  · exact wb_m_which_29 v1 v2 x r τ _ hb (fun y' e => by cases e) (fun y' e => he y' (Sum.inr.inj e))
set_option maxRecDepth 100000 in
set_option maxHeartbeats 4000000 in
theorem w_m_which (σ : Sg) (a1 : Int32) (a2 : Int32) (q : (Int32 × Sg)) (h : s_m_which σ a1 a2 = some q) : Cal M_X12_which 9 [.ref 71, .int a1, .int a2] σ (some (.int q.1)) q.2 := by
  refine Cal.of (M := M_X12_which) (by decide +kernel) (Nat.le_of_ble_eq_true rfl) ?_
  show Ev _ _ _ _ 0 [(0, .ref 71), (1, .int a1), (2, .int a2)] [] σ
  unfold s_m_which at h
  refine Ev_aload_n 0 (dt_X12_which.at 0 rfl) rfl ?_
  refine Ev_iload_n 1 (dt_X12_which.at 1 rfl) rfl ?_
  obtain ⟨q1, hq1, h⟩ := oBind h
  refine Ev_callV (st := []) (st' := [.int q1]) [.int a1] (dt_X12_which.at 2 rfl) cf_X12_105 (w_m_isOne σ a1 q1 hq1) (by decide) sk_71 rfl rfl rfl (Nat.le_of_ble_eq_true rfl) rfl ?_
  refine Ev_if_eq (tgt := 13) (dt_X12_which.at 3 rfl) (by decide) (fun c2 => ?_) (fun c2 => ?_)
  · replace h := oPos h c2
    refine Ev_aload_n 0 (dt_X12_which.at 7 rfl) rfl ?_
    refine Ev_bipush (dt_X12_which.at 8 rfl) kb_m10 ?_
    obtain ⟨q3, hq3, h⟩ := oBind h
    refine Ev_callV (st := []) (st' := [.int q3.1]) [.int (-10)] (dt_X12_which.at 9 rfl) cf_X12_88 (w_m_bad σ (-10) q3 hq3) (by decide) sk_71 rfl rfl rfl (Nat.le_of_ble_eq_true rfl) rfl ?_
    exact Ev_iret (dt_X12_which.at 10 rfl) rfl h
  · replace h := oNeg h c2
    refine Ev_iload_n 2 (dt_X12_which.at 4 rfl) rfl ?_
    refine Ev_iconst (dt_X12_which.at 5 rfl) ki_m1 ?_
    refine Ev_icmp_ge (tgt := 20) (dt_X12_which.at 6 rfl) (by decide) (fun c4 => ?_) (fun c4 => ?_)
    · replace h := oPos h c4
      refine Ev_iconst (dt_X12_which.at 11 rfl) ki_0 ?_
      refine Ev_istore_n (dt_X12_which.at 12 rfl) (by decide) (ls' := [(3, .int 0), (0, .ref 71), (1, .int a1), (2, .int a2)]) rfl ?_
      refine Ev_bipush (dt_X12_which.at 13 rfl) kb_m5 ?_
      refine Ev_istore (dt_X12_which.at 14 rfl) (by decide) (ls' := [(4, .int (-5)), (3, .int 0), (0, .ref 71), (1, .int a1), (2, .int a2)]) rfl ?_
      refine Ev_iconst (dt_X12_which.at 15 rfl) ki_0 ?_
      refine Ev_istore (dt_X12_which.at 16 rfl) (by decide) (ls' := [(5, .int 0), (4, .int (-5)), (3, .int 0), (0, .ref 71), (1, .int a1), (2, .int a2)]) rfl ?_
      refine Ev_sub [3, 4, 5, 2, 1, 0] (ls' := [(0, .ref 71), (1, .int a1), (2, .int a2), (3, .int 0), (4, .int (-5)), (5, .int 0)]) rfl ?_
      obtain ⟨o20, ho20, h⟩ := oBind h
      refine wl_m_which_29 a1 a2 _ _ 100000 (σ, 0, (-5), 0) o20 ho20 (fun y ey => ?_)
      subst ey
      refine Ev_iload_n 0 (dt_X12_which.at 49 rfl) rfl ?_
      refine Ev_iconst (dt_X12_which.at 50 rfl) ki_m1 ?_
      refine Ev_icmp_ne (tgt := 101) (dt_X12_which.at 51 rfl) (by decide) (fun c21 => ?_) (fun c21 => ?_)
      · replace h := oNeg h c21
        refine Ev_iload 2 (dt_X12_which.at 54 rfl) rfl ?_
        exact Ev_iret (dt_X12_which.at 55 rfl) rfl h
      · replace h := oPos h c21
        refine Ev_iload_n 1 (dt_X12_which.at 52 rfl) rfl ?_
        refine Ev_goto (tgt := 103) (dt_X12_which.at 53 rfl) (by decide) ?_
        exact Ev_iret (dt_X12_which.at 55 rfl) rfl h
    · replace h := oNeg h c4
      refine Ev_aload_n 0 (dt_X12_which.at 7 rfl) rfl ?_
      refine Ev_bipush (dt_X12_which.at 8 rfl) kb_m10 ?_
      obtain ⟨q22, hq22, h⟩ := oBind h
      refine Ev_callV (st := []) (st' := [.int q22.1]) [.int (-10)] (dt_X12_which.at 9 rfl) cf_X12_88 (w_m_bad σ (-10) q22 hq22) (by decide) sk_71 rfl rfl rfl (Nat.le_of_ble_eq_true rfl) rfl ?_
      exact Ev_iret (dt_X12_which.at 10 rfl) rfl h
