def s_m_layPerson_89 (σ : Sg) (a1 : Int32) (a2 : Int32) : Option Sg :=
  lt ((2 + (11 * (gI σ 89 (Int32.toNatClampNeg 1)))) : Int32) fun x1 =>
  if inB (x1 + 0) 101 = true then
    lt (pI σ 89 (Int32.toNatClampNeg (x1 + 0)) a1 : Sg) fun s3 =>
    if inB (x1 + 1) 101 = true then
      lt (pI s3 89 (Int32.toNatClampNeg (x1 + 1)) a2 : Sg) fun s5 =>
      if inB (x1 + 2) 101 = true then
        lt (pI s5 89 (Int32.toNatClampNeg (x1 + 2)) 0 : Sg) fun s7 =>
        lt (pI s7 89 (Int32.toNatClampNeg 1) ((gI s7 89 (Int32.toNatClampNeg 1)) + 1) : Sg) fun s8 =>
        some s8
      else none
    else none
  else none
set_option maxRecDepth 100000 in
set_option maxHeartbeats 4000000 in
theorem w_m_layPerson_89 (σ : Sg) (a1 : Int32) (a2 : Int32) (q : Sg) (h : s_m_layPerson_89 σ a1 a2 = some q) : Cal M_X12_layPerson 0 [.ref 89, .int a1, .int a2] σ none q := by
  refine Cal.of (M := M_X12_layPerson) (by decide +kernel) (Nat.le_of_ble_eq_true rfl) ?_
  show Ev _ _ _ _ 0 [(0, .ref 89), (1, .int a1), (2, .int a2)] [] σ
  unfold s_m_layPerson_89 at h
  refine Ev_iconst (dt_X12_layPerson.at 0 rfl) ki_2 ?_
  refine Ev_bipush (dt_X12_layPerson.at 1 rfl) kb_11 ?_
  refine Ev_aload_n 0 (dt_X12_layPerson.at 2 rfl) rfl ?_
  refine Ev_iconst (dt_X12_layPerson.at 3 rfl) ki_1 ?_
  refine Ev_iaload 89 (dt_X12_layPerson.at 4 rfl) sk_89 ib_1_101 ?_
  refine Ev_imul (dt_X12_layPerson.at 5 rfl) ?_
  refine Ev_iadd (dt_X12_layPerson.at 6 rfl) ?_
  refine Ev_nmI (fun x1 ex1 => ?_)
  replace h := oLt h ex1
  refine Ev_istore_n (dt_X12_layPerson.at 7 rfl) (by decide) (ls' := [(3, .int x1), (0, .ref 89), (1, .int a1), (2, .int a2)]) rfl ?_
  refine Ev_aload_n 1 (dt_X12_layPerson.at 8 rfl) rfl ?_
  refine Ev_iload_n 0 (dt_X12_layPerson.at 9 rfl) rfl ?_
  refine Ev_iconst (dt_X12_layPerson.at 10 rfl) ki_0 ?_
  refine Ev_iadd (dt_X12_layPerson.at 11 rfl) ?_
  refine Ev_iload_n 2 (dt_X12_layPerson.at 12 rfl) rfl ?_
  obtain ⟨g2, h⟩ := oGuard h
  refine Ev_iastore 89 (dt_X12_layPerson.at 13 rfl) sk_89 g2 ?_
  refine Ev_nmS (fun s3 es3 => ?_)
  replace h := oLt h es3
  refine Ev_aload_n 1 (dt_X12_layPerson.at 14 rfl) rfl ?_
  refine Ev_iload_n 0 (dt_X12_layPerson.at 15 rfl) rfl ?_
  refine Ev_iconst (dt_X12_layPerson.at 16 rfl) ki_1 ?_
  refine Ev_iadd (dt_X12_layPerson.at 17 rfl) ?_
  refine Ev_iload_n 3 (dt_X12_layPerson.at 18 rfl) rfl ?_
  obtain ⟨g4, h⟩ := oGuard h
  refine Ev_iastore 89 (dt_X12_layPerson.at 19 rfl) sk_89 g4 ?_
  refine Ev_nmS (fun s5 es5 => ?_)
  replace h := oLt h es5
  refine Ev_aload_n 1 (dt_X12_layPerson.at 20 rfl) rfl ?_
  refine Ev_iload_n 0 (dt_X12_layPerson.at 21 rfl) rfl ?_
  refine Ev_iconst (dt_X12_layPerson.at 22 rfl) ki_2 ?_
  refine Ev_iadd (dt_X12_layPerson.at 23 rfl) ?_
  refine Ev_iconst (dt_X12_layPerson.at 24 rfl) ki_0 ?_
  obtain ⟨g6, h⟩ := oGuard h
  refine Ev_iastore 89 (dt_X12_layPerson.at 25 rfl) sk_89 g6 ?_
  refine Ev_nmS (fun s7 es7 => ?_)
  replace h := oLt h es7
  refine Ev_aload_n 1 (dt_X12_layPerson.at 26 rfl) rfl ?_
  refine Ev_iconst (dt_X12_layPerson.at 27 rfl) ki_1 ?_
  refine Ev_dup2 (dt_X12_layPerson.at 28 rfl) rfl rfl ?_
  refine Ev_iaload 89 (dt_X12_layPerson.at 29 rfl) sk_89 ib_1_101 ?_
  refine Ev_iconst (dt_X12_layPerson.at 30 rfl) ki_1 ?_
  refine Ev_iadd (dt_X12_layPerson.at 31 rfl) ?_
  refine Ev_iastore 89 (dt_X12_layPerson.at 32 rfl) sk_89 ib_1_101 ?_
  refine Ev_nmS (fun s8 es8 => ?_)
  replace h := oLt h es8
  exact Ev_vret (dt_X12_layPerson.at 33 rfl) rfl h
def s_m_readsPerson (σ : Sg)  : Option (Int32 × Sg) :=
  if (gI σ 89 (Int32.toNatClampNeg 1)) = 9 then
    some (0, σ)
  else
    (s_m_goNext σ ).bind fun q2 =>
    (s_m_takes q2 0 4).bind fun q3 =>
    if q3.1 = 0 then
      some (0, q3.2)
    else
      lt ((gI q3.2 71 28) : Int32) fun x5 =>
      (s_m_takes q3.2 1 9).bind fun q6 =>
      if q6.1 = 0 then
        some (0, q6.2)
      else
        (s_m_layPerson_89 q6.2 x5 (gI q6.2 71 28)).bind fun q8 =>
        some (1, q8)
set_option maxRecDepth 100000 in
set_option maxHeartbeats 4000000 in
theorem w_m_readsPerson (σ : Sg)  (q : (Int32 × Sg)) (h : s_m_readsPerson σ  = some q) : Cal M_X12_readsPerson 5 [.ref 71] σ (some (.int q.1)) q.2 := by
  refine Cal.of (M := M_X12_readsPerson) (by decide +kernel) (Nat.le_of_ble_eq_true rfl) ?_
  show Ev _ _ _ _ 0 [(0, .ref 71)] [] σ
  unfold s_m_readsPerson at h
  refine Ev_aload_n 0 (dt_X12_readsPerson.at 0 rfl) rfl ?_
  refine Ev_get (i := 26) (v := .ref 89) (dt_X12_readsPerson.at 1 rfl) ff_X12_67 sk_71 rfl rfl ?_
  refine Ev_iconst (dt_X12_readsPerson.at 2 rfl) ki_1 ?_
  refine Ev_iaload 89 (dt_X12_readsPerson.at 3 rfl) sk_89 ib_1_101 ?_
  refine Ev_bipush (dt_X12_readsPerson.at 4 rfl) kb_9 ?_
  refine Ev_icmp_ne (tgt := 13) (dt_X12_readsPerson.at 5 rfl) (by decide) (fun c1 => ?_) (fun c1 => ?_)
  · replace h := oNeg h c1
    refine Ev_aload_n 0 (dt_X12_readsPerson.at 8 rfl) rfl ?_
    obtain ⟨q2, hq2, h⟩ := oBind h
    refine Ev_callV (st := []) (st' := []) [] (dt_X12_readsPerson.at 9 rfl) cf_X12_296 (w_m_goNext σ  q2 hq2) (by decide) sk_71 rfl rfl rfl (Nat.le_of_ble_eq_true rfl) rfl ?_
    refine Ev_aload_n 0 (dt_X12_readsPerson.at 10 rfl) rfl ?_
    refine Ev_iconst (dt_X12_readsPerson.at 11 rfl) ki_0 ?_
    refine Ev_iconst (dt_X12_readsPerson.at 12 rfl) ki_4 ?_
    obtain ⟨q3, hq3, h⟩ := oBind h
    refine Ev_callV (st := []) (st' := [.int q3.1]) [.int 0, .int 4] (dt_X12_readsPerson.at 13 rfl) cf_X12_299 (w_m_takes q2 0 4 q3 hq3) (by decide) sk_71 rfl rfl rfl (Nat.le_of_ble_eq_true rfl) rfl ?_
    refine Ev_if_ne (tgt := 28) (dt_X12_readsPerson.at 14 rfl) (by decide) (fun c4 => ?_) (fun c4 => ?_)
    · replace h := oNeg h c4
      refine Ev_aload_n 0 (dt_X12_readsPerson.at 17 rfl) rfl ?_
      refine Ev_get (i := 28) (v := .int (gI q3.2 71 28)) (dt_X12_readsPerson.at 18 rfl) ff_X12_293 sk_71 rfl rfl ?_
      refine Ev_nmI (fun x5 ex5 => ?_)
      replace h := oLt h ex5
      refine Ev_istore_n (dt_X12_readsPerson.at 19 rfl) (by decide) (ls' := [(1, .int x5), (0, .ref 71)]) rfl ?_
      refine Ev_aload_n 1 (dt_X12_readsPerson.at 20 rfl) rfl ?_
      refine Ev_iconst (dt_X12_readsPerson.at 21 rfl) ki_1 ?_
      refine Ev_bipush (dt_X12_readsPerson.at 22 rfl) kb_9 ?_
      obtain ⟨q6, hq6, h⟩ := oBind h
      refine Ev_callV (st := []) (st' := [.int q6.1]) [.int 1, .int 9] (dt_X12_readsPerson.at 23 rfl) cf_X12_299 (w_m_takes q3.2 1 9 q6 hq6) (by decide) sk_71 rfl rfl rfl (Nat.le_of_ble_eq_true rfl) rfl ?_
      refine Ev_if_ne (tgt := 45) (dt_X12_readsPerson.at 24 rfl) (by decide) (fun c7 => ?_) (fun c7 => ?_)
      · replace h := oNeg h c7
        refine Ev_aload_n 1 (dt_X12_readsPerson.at 27 rfl) rfl ?_
        refine Ev_get (i := 26) (v := .ref 89) (dt_X12_readsPerson.at 28 rfl) ff_X12_67 sk_71 rfl rfl ?_
        refine Ev_iload_n 0 (dt_X12_readsPerson.at 29 rfl) rfl ?_
        refine Ev_aload_n 1 (dt_X12_readsPerson.at 30 rfl) rfl ?_
        refine Ev_get (i := 28) (v := .int (gI q6.2 71 28)) (dt_X12_readsPerson.at 31 rfl) ff_X12_293 sk_71 rfl rfl ?_
        obtain ⟨q8, hq8, h⟩ := oBind h
        refine Ev_callS (st := []) (st' := []) [.ref 89, .int x5, .int (gI q6.2 71 28)] (dt_X12_readsPerson.at 32 rfl) cf_X12_101 (w_m_layPerson_89 q6.2 x5 (gI q6.2 71 28) q8 hq8) (by decide) rfl rfl (Nat.le_of_ble_eq_true rfl) rfl ?_
        refine Ev_iconst (dt_X12_readsPerson.at 33 rfl) ki_1 ?_
        exact Ev_zret (dt_X12_readsPerson.at 34 rfl) rfl (by decide) h
      · replace h := oPos h c7
        refine Ev_iconst (dt_X12_readsPerson.at 25 rfl) ki_0 ?_
        exact Ev_zret (dt_X12_readsPerson.at 26 rfl) rfl (by decide) h
    · replace h := oPos h c4
      refine Ev_iconst (dt_X12_readsPerson.at 15 rfl) ki_0 ?_
      exact Ev_zret (dt_X12_readsPerson.at 16 rfl) rfl (by decide) h
  · replace h := oPos h c1
    refine Ev_iconst (dt_X12_readsPerson.at 6 rfl) ki_0 ?_
    exact Ev_zret (dt_X12_readsPerson.at 7 rfl) rfl (by decide) h
def s_m_readsItem (σ : Sg)  : Option (Int32 × Sg) :=
  (s_m_isWord σ 112 108 97 99 101 115).bind fun q1 =>
  if q1 = 0 then
    (s_m_isWord σ 112 101 114 115 111 110).bind fun q3 =>
    if q3 = 0 then
      (s_m_isWord σ 101 114 114 97 110 100).bind fun q5 =>
      if q5 = 0 then
        some (0, σ)
      else
        (s_m_readsErrand σ ).bind fun q7 =>
        if q7.1 = 0 then
          some (0, q7.2)
        else
          some (1, q7.2)
    else
      (s_m_readsPerson σ ).bind fun q9 =>
      if q9.1 &&& 1 = q9.1 then some (q9.1, q9.2) else none
  else
    if (gI σ 71 27) = 0 then
      (s_m_goNext σ ).bind fun q11 =>
      (s_m_takes q11 1 6).bind fun q12 =>
      lt (pI q12.2 89 (Int32.toNatClampNeg 0) (gI q12.2 71 28) : Sg) fun s13 =>
      if q12.1 &&& 1 = q12.1 then some (q12.1, s13) else none
    else
      some (0, σ)
set_option maxRecDepth 100000 in
set_option maxHeartbeats 4000000 in
theorem w_m_readsItem (σ : Sg)  (q : (Int32 × Sg)) (h : s_m_readsItem σ  = some q) : Cal M_X12_readsItem 6 [.ref 71] σ (some (.int q.1)) q.2 := by
  refine Cal.of (M := M_X12_readsItem) (by decide +kernel) (Nat.le_of_ble_eq_true rfl) ?_
  show Ev _ _ _ _ 0 [(0, .ref 71)] [] σ
  unfold s_m_readsItem at h
  refine Ev_aload_n 0 (dt_X12_readsItem.at 0 rfl) rfl ?_
  refine Ev_bipush (dt_X12_readsItem.at 1 rfl) kb_112 ?_
  refine Ev_bipush (dt_X12_readsItem.at 2 rfl) kb_108 ?_
  refine Ev_bipush (dt_X12_readsItem.at 3 rfl) kb_97 ?_
  refine Ev_bipush (dt_X12_readsItem.at 4 rfl) kb_99 ?_
  refine Ev_bipush (dt_X12_readsItem.at 5 rfl) kb_101 ?_
  refine Ev_bipush (dt_X12_readsItem.at 6 rfl) kb_115 ?_
  obtain ⟨q1, hq1, h⟩ := oBind h
  refine Ev_callV (st := []) (st' := [.int q1]) [.int 112, .int 108, .int 97, .int 99, .int 101, .int 115] (dt_X12_readsItem.at 7 rfl) cf_X12_306 (w_m_isWord σ 112 108 97 99 101 115 q1 hq1) (by decide) sk_71 rfl rfl rfl (Nat.le_of_ble_eq_true rfl) rfl ?_
  refine Ev_if_eq (tgt := 52) (dt_X12_readsItem.at 8 rfl) (by decide) (fun c2 => ?_) (fun c2 => ?_)
  · replace h := oPos h c2
    refine Ev_aload_n 0 (dt_X12_readsItem.at 29 rfl) rfl ?_
    refine Ev_bipush (dt_X12_readsItem.at 30 rfl) kb_112 ?_
    refine Ev_bipush (dt_X12_readsItem.at 31 rfl) kb_101 ?_
    refine Ev_bipush (dt_X12_readsItem.at 32 rfl) kb_114 ?_
    refine Ev_bipush (dt_X12_readsItem.at 33 rfl) kb_115 ?_
    refine Ev_bipush (dt_X12_readsItem.at 34 rfl) kb_111 ?_
    refine Ev_bipush (dt_X12_readsItem.at 35 rfl) kb_110 ?_
    obtain ⟨q3, hq3, h⟩ := oBind h
    refine Ev_callV (st := []) (st' := [.int q3]) [.int 112, .int 101, .int 114, .int 115, .int 111, .int 110] (dt_X12_readsItem.at 36 rfl) cf_X12_306 (w_m_isWord σ 112 101 114 115 111 110 q3 hq3) (by decide) sk_71 rfl rfl rfl (Nat.le_of_ble_eq_true rfl) rfl ?_
    refine Ev_if_eq (tgt := 76) (dt_X12_readsItem.at 37 rfl) (by decide) (fun c4 => ?_) (fun c4 => ?_)
    · replace h := oPos h c4
      refine Ev_aload_n 0 (dt_X12_readsItem.at 41 rfl) rfl ?_
      refine Ev_bipush (dt_X12_readsItem.at 42 rfl) kb_101 ?_
      refine Ev_bipush (dt_X12_readsItem.at 43 rfl) kb_114 ?_
      refine Ev_bipush (dt_X12_readsItem.at 44 rfl) kb_114 ?_
      refine Ev_bipush (dt_X12_readsItem.at 45 rfl) kb_97 ?_
      refine Ev_bipush (dt_X12_readsItem.at 46 rfl) kb_110 ?_
      refine Ev_bipush (dt_X12_readsItem.at 47 rfl) kb_100 ?_
      obtain ⟨q5, hq5, h⟩ := oBind h
      refine Ev_callV (st := []) (st' := [.int q5]) [.int 101, .int 114, .int 114, .int 97, .int 110, .int 100] (dt_X12_readsItem.at 48 rfl) cf_X12_306 (w_m_isWord σ 101 114 114 97 110 100 q5 hq5) (by decide) sk_71 rfl rfl rfl (Nat.le_of_ble_eq_true rfl) rfl ?_
      refine Ev_if_eq (tgt := 106) (dt_X12_readsItem.at 49 rfl) (by decide) (fun c6 => ?_) (fun c6 => ?_)
      · replace h := oPos h c6
        refine Ev_iconst (dt_X12_readsItem.at 55 rfl) ki_0 ?_
        exact Ev_zret (dt_X12_readsItem.at 56 rfl) rfl (by decide) h
      · replace h := oNeg h c6
        refine Ev_aload_n 0 (dt_X12_readsItem.at 50 rfl) rfl ?_
        obtain ⟨q7, hq7, h⟩ := oBind h
        refine Ev_callV (st := []) (st' := [.int q7.1]) [] (dt_X12_readsItem.at 51 rfl) cf_X12_313 (w_m_readsErrand σ  q7 hq7) (by decide) sk_71 rfl rfl rfl (Nat.le_of_ble_eq_true rfl) rfl ?_
        refine Ev_if_eq (tgt := 106) (dt_X12_readsItem.at 52 rfl) (by decide) (fun c8 => ?_) (fun c8 => ?_)
        · replace h := oPos h c8
          refine Ev_iconst (dt_X12_readsItem.at 55 rfl) ki_0 ?_
          exact Ev_zret (dt_X12_readsItem.at 56 rfl) rfl (by decide) h
        · replace h := oNeg h c8
          refine Ev_iconst (dt_X12_readsItem.at 53 rfl) ki_1 ?_
          refine Ev_goto (tgt := 107) (dt_X12_readsItem.at 54 rfl) (by decide) ?_
          exact Ev_zret (dt_X12_readsItem.at 56 rfl) rfl (by decide) h
    · replace h := oNeg h c4
      refine Ev_aload_n 0 (dt_X12_readsItem.at 38 rfl) rfl ?_
      obtain ⟨q9, hq9, h⟩ := oBind h
      refine Ev_callV (st := []) (st' := [.int q9.1]) [] (dt_X12_readsItem.at 39 rfl) cf_X12_310 (w_m_readsPerson σ  q9 hq9) (by decide) sk_71 rfl rfl rfl (Nat.le_of_ble_eq_true rfl) rfl ?_
      obtain ⟨gz, h⟩ := oGuard h
      exact Ev_zret (dt_X12_readsItem.at 40 rfl) rfl gz h
  · replace h := oNeg h c2
    refine Ev_aload_n 0 (dt_X12_readsItem.at 9 rfl) rfl ?_
    refine Ev_get (i := 27) (v := .int (gI σ 71 27)) (dt_X12_readsItem.at 10 rfl) ff_X12_302 sk_71 rfl rfl ?_
    refine Ev_if_eq (tgt := 28) (dt_X12_readsItem.at 11 rfl) (by decide) (fun c10 => ?_) (fun c10 => ?_)
    · replace h := oPos h c10
      refine Ev_aload_n 0 (dt_X12_readsItem.at 14 rfl) rfl ?_
      obtain ⟨q11, hq11, h⟩ := oBind h
      refine Ev_callV (st := []) (st' := []) [] (dt_X12_readsItem.at 15 rfl) cf_X12_296 (w_m_goNext σ  q11 hq11) (by decide) sk_71 rfl rfl rfl (Nat.le_of_ble_eq_true rfl) rfl ?_
      refine Ev_aload_n 0 (dt_X12_readsItem.at 16 rfl) rfl ?_
      refine Ev_iconst (dt_X12_readsItem.at 17 rfl) ki_1 ?_
      refine Ev_bipush (dt_X12_readsItem.at 18 rfl) kb_6 ?_
      obtain ⟨q12, hq12, h⟩ := oBind h
      refine Ev_callV (st := []) (st' := [.int q12.1]) [.int 1, .int 6] (dt_X12_readsItem.at 19 rfl) cf_X12_299 (w_m_takes q11 1 6 q12 hq12) (by decide) sk_71 rfl rfl rfl (Nat.le_of_ble_eq_true rfl) rfl ?_
      refine Ev_istore_n (dt_X12_readsItem.at 20 rfl) (by decide) (ls' := [(1, .int q12.1), (0, .ref 71)]) rfl ?_
      refine Ev_aload_n 1 (dt_X12_readsItem.at 21 rfl) rfl ?_
      refine Ev_get (i := 26) (v := .ref 89) (dt_X12_readsItem.at 22 rfl) ff_X12_67 sk_71 rfl rfl ?_
      refine Ev_iconst (dt_X12_readsItem.at 23 rfl) ki_0 ?_
      refine Ev_aload_n 1 (dt_X12_readsItem.at 24 rfl) rfl ?_
      refine Ev_get (i := 28) (v := .int (gI q12.2 71 28)) (dt_X12_readsItem.at 25 rfl) ff_X12_293 sk_71 rfl rfl ?_
      refine Ev_iastore 89 (dt_X12_readsItem.at 26 rfl) sk_89 ib_0_101 ?_
      refine Ev_nmS (fun s13 es13 => ?_)
      replace h := oLt h es13
      refine Ev_iload_n 0 (dt_X12_readsItem.at 27 rfl) rfl ?_
      obtain ⟨gz, h⟩ := oGuard h
      exact Ev_zret (dt_X12_readsItem.at 28 rfl) rfl gz h
    · replace h := oNeg h c10
      refine Ev_iconst (dt_X12_readsItem.at 12 rfl) ki_0 ?_
      exact Ev_zret (dt_X12_readsItem.at 13 rfl) rfl (by decide) h
def b_m_read_31  (x : (Sg × Int32)) : Option ((Sg × Int32) ⊕ ((Sg × Int32) ⊕ (Int32 × Sg))) :=
  if (gI x.1 71 24) = 0 then
    some (.inr (.inl (x.1, x.2)))
  else
    (s_m_readsItem x.1 ).bind fun q7 =>
    if q7.1 = 0 then
      some (.inr (.inr (((-10) - (gI q7.2 71 22)), q7.2)))
    else
      if (gI q7.2 71 24) = 3 then
        (s_m_goNext q7.2 ).bind fun q10 =>
        lt (x.2 + 1 : Int32) fun x11 =>
        some (.inl (q10, x11))
      else
        some (.inr (.inr (((-10) - (gI q7.2 71 22)), q7.2)))
def b_m_read_73 (v1 : Int32) (x : (Sg × Int32)) : Option ((Sg × Int32) ⊕ (Sg × Int32)) :=
  if 101 ≤ x.2 then
    some (.inr (x.1, x.2))
  else
    if inB x.2 101 = true then
      if inB x.2 143 = true then
        lt (pI x.1 72 (Int32.toNatClampNeg x.2) (gI x.1 89 (Int32.toNatClampNeg x.2)) : Sg) fun s18 =>
        lt (x.2 + 1 : Int32) fun x19 =>
        some (.inl (s18, x19))
      else none
    else none
def s_m_read (σ : Sg)  : Option (Int32 × Sg) :=
  lt (pI σ 89 (Int32.toNatClampNeg 0) 4 : Sg) fun s1 =>
  lt (pI s1 89 (Int32.toNatClampNeg 1) 0 : Sg) fun s2 =>
  lt (pI s2 71 27 0 : Sg) fun s3 =>
  lt (pI s3 71 28 0 : Sg) fun s4 =>
  (s_m_look s4 0).bind fun q5 =>
  (lp (b_m_read_31 ) 100000 (q5, 0)).bind fun o12 =>
  oElim o12 (fun y13 =>
    (lp (b_m_read_73 y13.2) 100000 (y13.1, 0)).bind fun o20 =>
    lt (pI o20.1 72 (Int32.toNatClampNeg 108) 0 : Sg) fun s21 =>
    lt (pI s21 72 (Int32.toNatClampNeg 127) 0 : Sg) fun s22 =>
    some (y13.2, s22)) (fun q14 => some q14)
set_option maxRecDepth 100000 in
set_option maxHeartbeats 4000000 in
theorem wb_m_read_31  (x : (Sg × Int32)) (r : Option Value) (τ : Sg) (o : ((Sg × Int32) ⊕ ((Sg × Int32) ⊕ (Int32 × Sg)))) (h : (b_m_read_31  x) = some o) (hc : ∀ y : (Sg × Int32), o = .inl y → Ev M_X12_read 7 r τ 31 [(0, .ref 71), (1, .int y.2)] [] y.1) (he : ∀ y : (Sg × Int32), o = .inr (.inl y) → Ev M_X12_read 7 r τ 71 [(0, .ref 71), (1, .int y.2)] [] y.1) (hr : ∀ q : (Int32 × Sg), o = .inr (.inr q) → r = (some (.int q.1)) ∧ τ = q.2) : Ev M_X12_read 7 r τ 31 [(0, .ref 71), (1, .int x.2)] [] x.1 := by
  unfold b_m_read_31 at h
  refine Ev_aload_n 0 (dt_X12_read.at 21 rfl) rfl ?_
  refine Ev_get (i := 24) (v := .int (gI x.1 71 24)) (dt_X12_read.at 22 rfl) ff_X12_278 sk_71 rfl rfl ?_
  refine Ev_if_eq (tgt := 71) (dt_X12_read.at 23 rfl) (by decide) (fun c6 => ?_) (fun c6 => ?_)
  · replace h := oPos h c6
    refine Ev_sub [0, 1] (ls' := [(0, .ref 71), (1, .int x.2)]) rfl ?_
    exact he (x.1, x.2) (Option.some.inj h).symm
  · replace h := oNeg h c6
    refine Ev_aload_n 0 (dt_X12_read.at 24 rfl) rfl ?_
    obtain ⟨q7, hq7, h⟩ := oBind h
    refine Ev_callV (st := []) (st' := [.int q7.1]) [] (dt_X12_read.at 25 rfl) cf_X12_316 (w_m_readsItem x.1  q7 hq7) (by decide) sk_71 rfl rfl rfl (Nat.le_of_ble_eq_true rfl) rfl ?_
    refine Ev_if_eq (tgt := 53) (dt_X12_read.at 26 rfl) (by decide) (fun c8 => ?_) (fun c8 => ?_)
    · replace h := oPos h c8
      refine Ev_bipush (dt_X12_read.at 31 rfl) kb_m10 ?_
      refine Ev_aload_n 0 (dt_X12_read.at 32 rfl) rfl ?_
      refine Ev_get (i := 22) (v := .int (gI q7.2 71 22)) (dt_X12_read.at 33 rfl) ff_X12_272 sk_71 rfl rfl ?_
      refine Ev_isub (dt_X12_read.at 34 rfl) ?_
      have hz := hr _ (Option.some.inj h).symm
      rw [hz.1, hz.2]
      exact Ev_iret (dt_X12_read.at 35 rfl) rfl rfl
    · replace h := oNeg h c8
      refine Ev_aload_n 0 (dt_X12_read.at 27 rfl) rfl ?_
      refine Ev_get (i := 24) (v := .int (gI q7.2 71 24)) (dt_X12_read.at 28 rfl) ff_X12_278 sk_71 rfl rfl ?_
      refine Ev_iconst (dt_X12_read.at 29 rfl) ki_3 ?_
      refine Ev_icmp_eq (tgt := 61) (dt_X12_read.at 30 rfl) (by decide) (fun c9 => ?_) (fun c9 => ?_)
      · replace h := oPos h c9
        refine Ev_aload_n 0 (dt_X12_read.at 36 rfl) rfl ?_
        obtain ⟨q10, hq10, h⟩ := oBind h
        refine Ev_callV (st := []) (st' := []) [] (dt_X12_read.at 37 rfl) cf_X12_296 (w_m_goNext q7.2  q10 hq10) (by decide) sk_71 rfl rfl rfl (Nat.le_of_ble_eq_true rfl) rfl ?_
        obtain ⟨x11, ex11⟩ : ∃ z : Int32, z = x.2 + 1 := ⟨_, rfl⟩
        replace h := oLt h ex11
        refine Ev_iinc (v := x11) 1 (dt_X12_read.at 38 rfl) rfl (ex11.trans (congrArg (fun z => x.2 + z) ki_1.symm)) (by decide) (ls' := [(1, .int x11), (0, .ref 71)]) rfl ?_
        refine Ev_goto (tgt := 31) (dt_X12_read.at 39 rfl) (by decide) ?_
        refine Ev_sub [1, 0] (ls' := [(0, .ref 71), (1, .int x11)]) rfl ?_
        exact hc (q10, x11) (Option.some.inj h).symm
      · replace h := oNeg h c9
        refine Ev_bipush (dt_X12_read.at 31 rfl) kb_m10 ?_
        refine Ev_aload_n 0 (dt_X12_read.at 32 rfl) rfl ?_
        refine Ev_get (i := 22) (v := .int (gI q7.2 71 22)) (dt_X12_read.at 33 rfl) ff_X12_272 sk_71 rfl rfl ?_
        refine Ev_isub (dt_X12_read.at 34 rfl) ?_
        have hz := hr _ (Option.some.inj h).symm
        rw [hz.1, hz.2]
        exact Ev_iret (dt_X12_read.at 35 rfl) rfl rfl
set_option maxRecDepth 100000 in
set_option maxHeartbeats 4000000 in
theorem wl_m_read_31  (r : Option Value) (τ : Sg) (n : Nat) (x : (Sg × Int32)) (z : ((Sg × Int32) ⊕ (Int32 × Sg))) (h : lp (b_m_read_31 ) n x = some z) (he : ∀ y : (Sg × Int32), z = .inl y → Ev M_X12_read 7 r τ 71 [(0, .ref 71), (1, .int y.2)] [] y.1) (hr : ∀ q : (Int32 × Sg), z = .inr q → r = (some (.int q.1)) ∧ τ = q.2) : Ev M_X12_read 7 r τ 31 [(0, .ref 71), (1, .int x.2)] [] x.1 := by
  refine lp_ind (E := fun x : (Sg × Int32) => Ev M_X12_read 7 r τ 31 [(0, .ref 71), (1, .int x.2)] [] x.1) (fun x => ⟨fun y hb hy => ?_, fun hb => ?_⟩) n x h
  · exact wb_m_read_31  x r τ _ hb (fun y' e => by cases e; exact hy) (fun y' e => by cases e) (fun y' e => by cases e)
  · exact wb_m_read_31  x r τ _ hb (fun y' e => by cases e) (fun y' e => he y' (Sum.inr.inj e)) (fun y' e => hr y' (Sum.inr.inj e))
set_option maxRecDepth 100000 in
set_option maxHeartbeats 4000000 in
theorem wb_m_read_73 (v1 : Int32) (x : (Sg × Int32)) (r : Option Value) (τ : Sg) (o : ((Sg × Int32) ⊕ (Sg × Int32))) (h : (b_m_read_73 v1 x) = some o) (hc : ∀ y : (Sg × Int32), o = .inl y → Ev M_X12_read 7 r τ 73 [(0, .ref 71), (1, .int v1), (2, .int y.2)] [] y.1) (he : ∀ y : (Sg × Int32), o = .inr y → Ev M_X12_read 7 r τ 97 [(0, .ref 71), (1, .int v1)] [] y.1) : Ev M_X12_read 7 r τ 73 [(0, .ref 71), (1, .int v1), (2, .int x.2)] [] x.1 := by
  unfold b_m_read_73 at h
  refine Ev_iload_n 2 (dt_X12_read.at 42 rfl) rfl ?_
  refine Ev_bipush (dt_X12_read.at 43 rfl) kb_101 ?_
  refine Ev_icmp_ge (tgt := 97) (dt_X12_read.at 44 rfl) (by decide) (fun c15 => ?_) (fun c15 => ?_)
  · replace h := oPos h c15
    refine Ev_sub [0, 1] (ls' := [(0, .ref 71), (1, .int v1)]) rfl ?_
    exact he (x.1, x.2) (Option.some.inj h).symm
  · replace h := oNeg h c15
    refine Ev_aload_n 0 (dt_X12_read.at 45 rfl) rfl ?_
    refine Ev_get (i := 0) (v := .ref 72) (dt_X12_read.at 46 rfl) ff_X12_7 sk_71 rfl rfl ?_
    refine Ev_iload_n 2 (dt_X12_read.at 47 rfl) rfl ?_
    refine Ev_aload_n 0 (dt_X12_read.at 48 rfl) rfl ?_
    refine Ev_get (i := 26) (v := .ref 89) (dt_X12_read.at 49 rfl) ff_X12_67 sk_71 rfl rfl ?_
    refine Ev_iload_n 2 (dt_X12_read.at 50 rfl) rfl ?_
    obtain ⟨g16, h⟩ := oGuard h
    refine Ev_iaload 89 (dt_X12_read.at 51 rfl) sk_89 g16 ?_
    obtain ⟨g17, h⟩ := oGuard h
    refine Ev_iastore 72 (dt_X12_read.at 52 rfl) sk_72 g17 ?_
    refine Ev_nmS (fun s18 es18 => ?_)
    replace h := oLt h es18
    obtain ⟨x19, ex19⟩ : ∃ z : Int32, z = x.2 + 1 := ⟨_, rfl⟩
    replace h := oLt h ex19
    refine Ev_iinc (v := x19) 2 (dt_X12_read.at 53 rfl) rfl (ex19.trans (congrArg (fun z => x.2 + z) ki_1.symm)) (by decide) (ls' := [(2, .int x19), (0, .ref 71), (1, .int v1)]) rfl ?_
    refine Ev_goto (tgt := 73) (dt_X12_read.at 54 rfl) (by decide) ?_
    refine Ev_sub [1, 2, 0] (ls' := [(0, .ref 71), (1, .int v1), (2, .int x19)]) rfl ?_
    exact hc (s18, x19) (Option.some.inj h).symm
set_option maxRecDepth 100000 in
set_option maxHeartbeats 4000000 in
theorem wl_m_read_73 (v1 : Int32) (r : Option Value) (τ : Sg) (n : Nat) (x : (Sg × Int32)) (z : (Sg × Int32)) (h : lp (b_m_read_73 v1) n x = some z) (he : ∀ y : (Sg × Int32), z = y → Ev M_X12_read 7 r τ 97 [(0, .ref 71), (1, .int v1)] [] y.1) : Ev M_X12_read 7 r τ 73 [(0, .ref 71), (1, .int v1), (2, .int x.2)] [] x.1 := by
  refine lp_ind (E := fun x : (Sg × Int32) => Ev M_X12_read 7 r τ 73 [(0, .ref 71), (1, .int v1), (2, .int x.2)] [] x.1) (fun x => ⟨fun y hb hy => ?_, fun hb => ?_⟩) n x h
  · exact wb_m_read_73 v1 x r τ _ hb (fun y' e => by cases e; exact hy) (fun y' e => by cases e)
  · exact wb_m_read_73 v1 x r τ _ hb (fun y' e => by cases e) (fun y' e => he y' (Sum.inr.inj e))
set_option maxRecDepth 100000 in
set_option maxHeartbeats 4000000 in
theorem w_m_read (σ : Sg)  (q : (Int32 × Sg)) (h : s_m_read σ  = some q) : Cal M_X12_read 7 [.ref 71] σ (some (.int q.1)) q.2 := by
  refine Cal.of (M := M_X12_read) (by decide +kernel) (Nat.le_of_ble_eq_true rfl) ?_
  show Ev _ _ _ _ 0 [(0, .ref 71)] [] σ
  unfold s_m_read at h
  refine Ev_aload_n 0 (dt_X12_read.at 0 rfl) rfl ?_
  refine Ev_get (i := 26) (v := .ref 89) (dt_X12_read.at 1 rfl) ff_X12_67 sk_71 rfl rfl ?_
  refine Ev_iconst (dt_X12_read.at 2 rfl) ki_0 ?_
  refine Ev_iconst (dt_X12_read.at 3 rfl) ki_4 ?_
  refine Ev_iastore 89 (dt_X12_read.at 4 rfl) sk_89 ib_0_101 ?_
  refine Ev_nmS (fun s1 es1 => ?_)
  replace h := oLt h es1
  refine Ev_aload_n 0 (dt_X12_read.at 5 rfl) rfl ?_
  refine Ev_get (i := 26) (v := .ref 89) (dt_X12_read.at 6 rfl) ff_X12_67 sk_71 rfl rfl ?_
  refine Ev_iconst (dt_X12_read.at 7 rfl) ki_1 ?_
  refine Ev_iconst (dt_X12_read.at 8 rfl) ki_0 ?_
  refine Ev_iastore 89 (dt_X12_read.at 9 rfl) sk_89 ib_1_101 ?_
  refine Ev_nmS (fun s2 es2 => ?_)
  replace h := oLt h es2
  refine Ev_aload_n 0 (dt_X12_read.at 10 rfl) rfl ?_
  refine Ev_iconst (dt_X12_read.at 11 rfl) ki_0 ?_
  refine Ev_putZ (by decide) (dt_X12_read.at 12 rfl) ff_X12_302 fw_12_27 sk_71 rfl ?_
  refine Ev_nmS (fun s3 es3 => ?_)
  replace h := oLt h es3
  refine Ev_aload_n 0 (dt_X12_read.at 13 rfl) rfl ?_
  refine Ev_iconst (dt_X12_read.at 14 rfl) ki_0 ?_
  refine Ev_putI (dt_X12_read.at 15 rfl) ff_X12_293 fw_12_28 sk_71 rfl ?_
  refine Ev_nmS (fun s4 es4 => ?_)
  replace h := oLt h es4
  refine Ev_iconst (dt_X12_read.at 16 rfl) ki_0 ?_
  refine Ev_istore_n (dt_X12_read.at 17 rfl) (by decide) (ls' := [(1, .int 0), (0, .ref 71)]) rfl ?_
  refine Ev_aload_n 1 (dt_X12_read.at 18 rfl) rfl ?_
  refine Ev_iconst (dt_X12_read.at 19 rfl) ki_0 ?_
  obtain ⟨q5, hq5, h⟩ := oBind h
  refine Ev_callV (st := []) (st' := []) [.int 0] (dt_X12_read.at 20 rfl) cf_X12_290 (w_m_look s4 0 q5 hq5) (by decide) sk_71 rfl rfl rfl (Nat.le_of_ble_eq_true rfl) rfl ?_
  refine Ev_sub [1, 0] (ls' := [(0, .ref 71), (1, .int 0)]) rfl ?_
  obtain ⟨o12, ho12, h⟩ := oBind h
  refine wl_m_read_31  _ _ 100000 (q5, 0) o12 ho12 (fun y13 ey => ?_) (fun q14 eq => ?_)
  · rw [ey] at h
    replace h := oElimL h
    refine Ev_iconst (dt_X12_read.at 40 rfl) ki_0 ?_
    refine Ev_istore_n (dt_X12_read.at 41 rfl) (by decide) (ls' := [(2, .int 0), (0, .ref 71), (1, .int y13.2)]) rfl ?_
    refine Ev_sub [1, 2, 0] (ls' := [(0, .ref 71), (1, .int y13.2), (2, .int 0)]) rfl ?_
    obtain ⟨o20, ho20, h⟩ := oBind h
    refine wl_m_read_73 y13.2 _ _ 100000 (y13.1, 0) o20 ho20 (fun y ey => ?_)
    subst ey
    refine Ev_aload_n 0 (dt_X12_read.at 55 rfl) rfl ?_
    refine Ev_get (i := 0) (v := .ref 72) (dt_X12_read.at 56 rfl) ff_X12_7 sk_71 rfl rfl ?_
    refine Ev_bipush (dt_X12_read.at 57 rfl) kb_108 ?_
    refine Ev_iconst (dt_X12_read.at 58 rfl) ki_0 ?_
    refine Ev_iastore 72 (dt_X12_read.at 59 rfl) sk_72 ib_108_143 ?_
    refine Ev_nmS (fun s21 es21 => ?_)
    replace h := oLt h es21
    refine Ev_aload_n 0 (dt_X12_read.at 60 rfl) rfl ?_
    refine Ev_get (i := 0) (v := .ref 72) (dt_X12_read.at 61 rfl) ff_X12_7 sk_71 rfl rfl ?_
    refine Ev_bipush (dt_X12_read.at 62 rfl) kb_127 ?_
    refine Ev_iconst (dt_X12_read.at 63 rfl) ki_0 ?_
    refine Ev_iastore 72 (dt_X12_read.at 64 rfl) sk_72 ib_127_143 ?_
    refine Ev_nmS (fun s22 es22 => ?_)
    replace h := oLt h es22
    refine Ev_iload_n 1 (dt_X12_read.at 65 rfl) rfl ?_
    exact Ev_iret (dt_X12_read.at 66 rfl) rfl h
  · rw [eq] at h
    replace h := oElimR h
    cases h; exact ⟨rfl, rfl⟩
