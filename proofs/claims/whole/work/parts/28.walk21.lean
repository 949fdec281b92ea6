def s_m_people (σ : Sg)  : Option Int32 :=
  some (gI σ 72 (Int32.toNatClampNeg 1))
set_option maxRecDepth 100000 in
set_option maxHeartbeats 4000000 in
theorem w_m_people (σ : Sg)  (q : Int32) (h : s_m_people σ  = some q) : Cal M_X12_people 0 [.ref 71] σ (some (.int q)) σ := by
  refine Cal.of (M := M_X12_people) (by decide +kernel) (Nat.le_of_ble_eq_true rfl) ?_
  show Ev _ _ _ _ 0 [(0, .ref 71)] [] σ
  unfold s_m_people at h
  refine Ev_aload_n 0 (dt_X12_people.at 0 rfl) rfl ?_
  refine Ev_get (i := 0) (v := .ref 72) (dt_X12_people.at 1 rfl) ff_X12_7 sk_71 rfl rfl ?_
  refine Ev_iconst (dt_X12_people.at 2 rfl) ki_1 ?_
  refine Ev_iaload 72 (dt_X12_people.at 3 rfl) sk_72 ib_1_143 ?_
  exact Ev_iret (dt_X12_people.at 4 rfl) rfl (oRet h)
def s_m_layPerson (σ : Sg) (a1 : Int32) (a2 : Int32) : Option Sg :=
  lt ((2 + (11 * (gI σ 72 (Int32.toNatClampNeg 1)))) : Int32) fun x1 =>
  if inB (x1 + 0) 143 = true then
    lt (pI σ 72 (Int32.toNatClampNeg (x1 + 0)) a1 : Sg) fun s3 =>
    if inB (x1 + 1) 143 = true then
      lt (pI s3 72 (Int32.toNatClampNeg (x1 + 1)) a2 : Sg) fun s5 =>
      if inB (x1 + 2) 143 = true then
        lt (pI s5 72 (Int32.toNatClampNeg (x1 + 2)) 0 : Sg) fun s7 =>
        lt (pI s7 72 (Int32.toNatClampNeg 1) ((gI s7 72 (Int32.toNatClampNeg 1)) + 1) : Sg) fun s8 =>
        some s8
      else none
    else none
  else none
set_option maxRecDepth 100000 in
set_option maxHeartbeats 4000000 in
theorem w_m_layPerson (σ : Sg) (a1 : Int32) (a2 : Int32) (q : Sg) (h : s_m_layPerson σ a1 a2 = some q) : Cal M_X12_layPerson 0 [.ref 72, .int a1, .int a2] σ none q := by
  refine Cal.of (M := M_X12_layPerson) (by decide +kernel) (Nat.le_of_ble_eq_true rfl) ?_
  show Ev _ _ _ _ 0 [(0, .ref 72), (1, .int a1), (2, .int a2)] [] σ
  unfold s_m_layPerson at h
  refine Ev_iconst (dt_X12_layPerson.at 0 rfl) ki_2 ?_
  refine Ev_bipush (dt_X12_layPerson.at 1 rfl) kb_11 ?_
  refine Ev_aload_n 0 (dt_X12_layPerson.at 2 rfl) rfl ?_
  refine Ev_iconst (dt_X12_layPerson.at 3 rfl) ki_1 ?_
  refine Ev_iaload 72 (dt_X12_layPerson.at 4 rfl) sk_72 ib_1_143 ?_
  refine Ev_imul (dt_X12_layPerson.at 5 rfl) ?_
  refine Ev_iadd (dt_X12_layPerson.at 6 rfl) ?_
  refine Ev_nmI (fun x1 ex1 => ?_)
  replace h := oLt h ex1
  refine Ev_istore_n (dt_X12_layPerson.at 7 rfl) (by decide) (ls' := [(3, .int x1), (0, .ref 72), (1, .int a1), (2, .int a2)]) rfl ?_
  refine Ev_aload_n 1 (dt_X12_layPerson.at 8 rfl) rfl ?_
  refine Ev_iload_n 0 (dt_X12_layPerson.at 9 rfl) rfl ?_
  refine Ev_iconst (dt_X12_layPerson.at 10 rfl) ki_0 ?_
  refine Ev_iadd (dt_X12_layPerson.at 11 rfl) ?_
  refine Ev_iload_n 2 (dt_X12_layPerson.at 12 rfl) rfl ?_
  obtain ⟨g2, h⟩ := oGuard h
  refine Ev_iastore 72 (dt_X12_layPerson.at 13 rfl) sk_72 g2 ?_
  refine Ev_nmS (fun s3 es3 => ?_)
  replace h := oLt h es3
  refine Ev_aload_n 1 (dt_X12_layPerson.at 14 rfl) rfl ?_
  refine Ev_iload_n 0 (dt_X12_layPerson.at 15 rfl) rfl ?_
  refine Ev_iconst (dt_X12_layPerson.at 16 rfl) ki_1 ?_
  refine Ev_iadd (dt_X12_layPerson.at 17 rfl) ?_
  refine Ev_iload_n 3 (dt_X12_layPerson.at 18 rfl) rfl ?_
  obtain ⟨g4, h⟩ := oGuard h
  refine Ev_iastore 72 (dt_X12_layPerson.at 19 rfl) sk_72 g4 ?_
  refine Ev_nmS (fun s5 es5 => ?_)
  replace h := oLt h es5
  refine Ev_aload_n 1 (dt_X12_layPerson.at 20 rfl) rfl ?_
  refine Ev_iload_n 0 (dt_X12_layPerson.at 21 rfl) rfl ?_
  refine Ev_iconst (dt_X12_layPerson.at 22 rfl) ki_2 ?_
  refine Ev_iadd (dt_X12_layPerson.at 23 rfl) ?_
  refine Ev_iconst (dt_X12_layPerson.at 24 rfl) ki_0 ?_
  obtain ⟨g6, h⟩ := oGuard h
  refine Ev_iastore 72 (dt_X12_layPerson.at 25 rfl) sk_72 g6 ?_
  refine Ev_nmS (fun s7 es7 => ?_)
  replace h := oLt h es7
  refine Ev_aload_n 1 (dt_X12_layPerson.at 26 rfl) rfl ?_
  refine Ev_iconst (dt_X12_layPerson.at 27 rfl) ki_1 ?_
  refine Ev_dup2 (dt_X12_layPerson.at 28 rfl) rfl rfl ?_
  refine Ev_iaload 72 (dt_X12_layPerson.at 29 rfl) sk_72 ib_1_143 ?_
  refine Ev_iconst (dt_X12_layPerson.at 30 rfl) ki_1 ?_
  refine Ev_iadd (dt_X12_layPerson.at 31 rfl) ?_
  refine Ev_iastore 72 (dt_X12_layPerson.at 32 rfl) sk_72 ib_1_143 ?_
  refine Ev_nmS (fun s8 es8 => ?_)
  replace h := oLt h es8
  exact Ev_vret (dt_X12_layPerson.at 33 rfl) rfl h
def s_m_full (σ : Sg)  : Option (Int32 × Sg) :=
  lt (pI σ 75 (Int32.toNatClampNeg 2) ((gI σ 75 (Int32.toNatClampNeg 2)) + 1) : Sg) fun s1 =>
  some ((-4), s1)
set_option maxRecDepth 100000 in
set_option maxHeartbeats 4000000 in
theorem w_m_full (σ : Sg)  (q : (Int32 × Sg)) (h : s_m_full σ  = some q) : Cal M_X12_full 0 [.ref 71] σ (some (.int q.1)) q.2 := by
  refine Cal.of (M := M_X12_full) (by decide +kernel) (Nat.le_of_ble_eq_true rfl) ?_
  show Ev _ _ _ _ 0 [(0, .ref 71)] [] σ
  unfold s_m_full at h
  refine Ev_aload_n 0 (dt_X12_full.at 0 rfl) rfl ?_
  refine Ev_get (i := 3) (v := .ref 75) (dt_X12_full.at 1 rfl) ff_X12_20 sk_71 rfl rfl ?_
  refine Ev_iconst (dt_X12_full.at 2 rfl) ki_2 ?_
  refine Ev_dup2 (dt_X12_full.at 3 rfl) rfl rfl ?_
  refine Ev_iaload 75 (dt_X12_full.at 4 rfl) sk_75 ib_2_3 ?_
  refine Ev_iconst (dt_X12_full.at 5 rfl) ki_1 ?_
  refine Ev_iadd (dt_X12_full.at 6 rfl) ?_
  refine Ev_iastore 75 (dt_X12_full.at 7 rfl) sk_75 ib_2_3 ?_
  refine Ev_nmS (fun s1 es1 => ?_)
  replace h := oLt h es1
  refine Ev_bipush (dt_X12_full.at 8 rfl) kb_m4 ?_
  exact Ev_iret (dt_X12_full.at 9 rfl) rfl h
def s_m_person (σ : Sg) (a1 : Int32) (a2 : Int32) : Option (Int32 × Sg) :=
  (s_m_in (Int32.toInt64 a1) 0 4).bind fun q1 =>
  if q1 = 0 then
    (s_m_bad σ (-2)).bind fun q3 =>
    some (q3.1, q3.2)
  else
    (s_m_in (Int32.toInt64 a2) 1 9).bind fun q4 =>
    if q4 = 0 then
      (s_m_bad σ (-2)).bind fun q11 =>
      some (q11.1, q11.2)
    else
      (s_m_people σ ).bind fun q6 =>
      if q6 = 9 then
        (s_m_full σ ).bind fun q10 =>
        some (q10.1, q10.2)
      else
        (s_m_layPerson σ a1 a2).bind fun q8 =>
        (s_m_people q8 ).bind fun q9 =>
        some ((q9 - 1), q8)
set_option maxRecDepth 100000 in
set_option maxHeartbeats 4000000 in
theorem w_m_person (σ : Sg) (a1 : Int32) (a2 : Int32) (q : (Int32 × Sg)) (h : s_m_person σ a1 a2 = some q) : Cal M_X12_person 1 [.ref 71, .int a1, .int a2] σ (some (.int q.1)) q.2 := by
  refine Cal.of (M := M_X12_person) (by decide +kernel) (Nat.le_of_ble_eq_true rfl) ?_
  show Ev _ _ _ _ 0 [(0, .ref 71), (1, .int a1), (2, .int a2)] [] σ
  unfold s_m_person at h
  refine Ev_iload_n 1 (dt_X12_person.at 0 rfl) rfl ?_
  refine Ev_i2l (dt_X12_person.at 1 rfl) ?_
  refine Ev_lconst (dt_X12_person.at 2 rfl) kl_0 ?_
  refine Ev_ldc2 (dt_X12_person.at 3 rfl) cl_X12_94 ?_
  obtain ⟨q1, hq1, h⟩ := oBind h
  refine Ev_callS (st := []) (st' := [.int q1]) [.long (Int32.toInt64 a1), .long 0, .long 4] (dt_X12_person.at 4 rfl) cf_X12_74 (w_m_in σ (Int32.toInt64 a1) 0 4 q1 hq1) (by decide) rfl rfl (Nat.le_of_ble_eq_true rfl) rfl ?_
  refine Ev_if_eq (tgt := 24) (dt_X12_person.at 5 rfl) (by decide) (fun c2 => ?_) (fun c2 => ?_)
  · replace h := oPos h c2
    refine Ev_aload_n 0 (dt_X12_person.at 12 rfl) rfl ?_
    refine Ev_bipush (dt_X12_person.at 13 rfl) kb_m2 ?_
    obtain ⟨q3, hq3, h⟩ := oBind h
    refine Ev_callV (st := []) (st' := [.int q3.1]) [.int (-2)] (dt_X12_person.at 14 rfl) cf_X12_88 (w_m_bad σ (-2) q3 hq3) (by decide) sk_71 rfl rfl rfl (Nat.le_of_ble_eq_true rfl) rfl ?_
    exact Ev_iret (dt_X12_person.at 15 rfl) rfl h
  · replace h := oNeg h c2
    refine Ev_iload_n 2 (dt_X12_person.at 6 rfl) rfl ?_
    refine Ev_i2l (dt_X12_person.at 7 rfl) ?_
    refine Ev_lconst (dt_X12_person.at 8 rfl) kl_1 ?_
    refine Ev_ldc2 (dt_X12_person.at 9 rfl) cl_X12_96 ?_
    obtain ⟨q4, hq4, h⟩ := oBind h
    refine Ev_callS (st := []) (st' := [.int q4]) [.long (Int32.toInt64 a2), .long 1, .long 9] (dt_X12_person.at 10 rfl) cf_X12_74 (w_m_in σ (Int32.toInt64 a2) 1 9 q4 hq4) (by decide) rfl rfl (Nat.le_of_ble_eq_true rfl) rfl ?_
    refine Ev_if_ne (tgt := 31) (dt_X12_person.at 11 rfl) (by decide) (fun c5 => ?_) (fun c5 => ?_)
    · replace h := oNeg h c5
      refine Ev_aload_n 0 (dt_X12_person.at 16 rfl) rfl ?_
      obtain ⟨q6, hq6, h⟩ := oBind h
      refine Ev_callV (st := []) (st' := [.int q6]) [] (dt_X12_person.at 17 rfl) cf_X12_70 (w_m_people σ  q6 hq6) (by decide) sk_71 rfl rfl rfl (Nat.le_of_ble_eq_true rfl) rfl ?_
      refine Ev_bipush (dt_X12_person.at 18 rfl) kb_9 ?_
      refine Ev_icmp_ne (tgt := 45) (dt_X12_person.at 19 rfl) (by decide) (fun c7 => ?_) (fun c7 => ?_)
      · replace h := oNeg h c7
        refine Ev_aload_n 0 (dt_X12_person.at 23 rfl) rfl ?_
        refine Ev_get (i := 0) (v := .ref 72) (dt_X12_person.at 24 rfl) ff_X12_7 sk_71 rfl rfl ?_
        refine Ev_iload_n 1 (dt_X12_person.at 25 rfl) rfl ?_
        refine Ev_iload_n 2 (dt_X12_person.at 26 rfl) rfl ?_
        obtain ⟨q8, hq8, h⟩ := oBind h
        refine Ev_callS (st := []) (st' := []) [.ref 72, .int a1, .int a2] (dt_X12_person.at 27 rfl) cf_X12_101 (w_m_layPerson σ a1 a2 q8 hq8) (by decide) rfl rfl (Nat.le_of_ble_eq_true rfl) rfl ?_
        refine Ev_aload_n 0 (dt_X12_person.at 28 rfl) rfl ?_
        obtain ⟨q9, hq9, h⟩ := oBind h
        refine Ev_callV (st := []) (st' := [.int q9]) [] (dt_X12_person.at 29 rfl) cf_X12_70 (w_m_people q8  q9 hq9) (by decide) sk_71 rfl rfl rfl (Nat.le_of_ble_eq_true rfl) rfl ?_
        refine Ev_iconst (dt_X12_person.at 30 rfl) ki_1 ?_
        refine Ev_isub (dt_X12_person.at 31 rfl) ?_
        exact Ev_iret (dt_X12_person.at 32 rfl) rfl h
      · replace h := oPos h c7
        refine Ev_aload_n 0 (dt_X12_person.at 20 rfl) rfl ?_
        obtain ⟨q10, hq10, h⟩ := oBind h
        refine Ev_callV (st := []) (st' := [.int q10.1]) [] (dt_X12_person.at 21 rfl) cf_X12_98 (w_m_full σ  q10 hq10) (by decide) sk_71 rfl rfl rfl (Nat.le_of_ble_eq_true rfl) rfl ?_
        exact Ev_iret (dt_X12_person.at 22 rfl) rfl h
    · replace h := oPos h c5
      refine Ev_aload_n 0 (dt_X12_person.at 12 rfl) rfl ?_
      refine Ev_bipush (dt_X12_person.at 13 rfl) kb_m2 ?_
      obtain ⟨q11, hq11, h⟩ := oBind h
      refine Ev_callV (st := []) (st' := [.int q11.1]) [.int (-2)] (dt_X12_person.at 14 rfl) cf_X12_88 (w_m_bad σ (-2) q11 hq11) (by decide) sk_71 rfl rfl rfl (Nat.le_of_ble_eq_true rfl) rfl ?_
      exact Ev_iret (dt_X12_person.at 15 rfl) rfl h
def s_m_isOne (σ : Sg) (a1 : Int32) : Option Int32 :=
  (s_m_people σ ).bind fun q1 =>
  (s_m_in (Int32.toInt64 a1) 0 (Int32.toInt64 (q1 - 1))).bind fun q2 =>
  if q2 &&& 1 = q2 then some q2 else none
set_option maxRecDepth 100000 in
set_option maxHeartbeats 4000000 in
theorem w_m_isOne (σ : Sg) (a1 : Int32) (q : Int32) (h : s_m_isOne σ a1 = some q) : Cal M_X12_isOne 1 [.ref 71, .int a1] σ (some (.int q)) σ := by
  refine Cal.of (M := M_X12_isOne) (by decide +kernel) (Nat.le_of_ble_eq_true rfl) ?_
  show Ev _ _ _ _ 0 [(0, .ref 71), (1, .int a1)] [] σ
  unfold s_m_isOne at h
  refine Ev_iload_n 1 (dt_X12_isOne.at 0 rfl) rfl ?_
  refine Ev_i2l (dt_X12_isOne.at 1 rfl) ?_
  refine Ev_lconst (dt_X12_isOne.at 2 rfl) kl_0 ?_
  refine Ev_aload_n 0 (dt_X12_isOne.at 3 rfl) rfl ?_
  obtain ⟨q1, hq1, h⟩ := oBind h
  refine Ev_callV (st := [.long 0, .long (Int32.toInt64 a1)]) (st' := [.int q1, .long 0, .long (Int32.toInt64 a1)]) [] (dt_X12_isOne.at 4 rfl) cf_X12_70 (w_m_people σ  q1 hq1) (by decide) sk_71 rfl rfl rfl (Nat.le_of_ble_eq_true rfl) rfl ?_
  refine Ev_iconst (dt_X12_isOne.at 5 rfl) ki_1 ?_
  refine Ev_isub (dt_X12_isOne.at 6 rfl) ?_
  refine Ev_i2l (dt_X12_isOne.at 7 rfl) ?_
  obtain ⟨q2, hq2, h⟩ := oBind h
  refine Ev_callS (st := []) (st' := [.int q2]) [.long (Int32.toInt64 a1), .long 0, .long (Int32.toInt64 (q1 - 1))] (dt_X12_isOne.at 8 rfl) cf_X12_74 (w_m_in σ (Int32.toInt64 a1) 0 (Int32.toInt64 (q1 - 1)) q2 hq2) (by decide) rfl rfl (Nat.le_of_ble_eq_true rfl) rfl ?_
  obtain ⟨gz, h⟩ := oGuard h
  exact Ev_zret (dt_X12_isOne.at 9 rfl) rfl gz (oRet h)
def s_m_of (σ : Sg) (a1 : Int32) (a2 : Int32) : Option Int32 :=
  if inB ((2 + (11 * a1)) + a2) 143 = true then
    some (gI σ 72 (Int32.toNatClampNeg ((2 + (11 * a1)) + a2)))
  else none
set_option maxRecDepth 100000 in
set_option maxHeartbeats 4000000 in
theorem w_m_of (σ : Sg) (a1 : Int32) (a2 : Int32) (q : Int32) (h : s_m_of σ a1 a2 = some q) : Cal M_X12_of 0 [.ref 71, .int a1, .int a2] σ (some (.int q)) σ := by
  refine Cal.of (M := M_X12_of) (by decide +kernel) (Nat.le_of_ble_eq_true rfl) ?_
  show Ev _ _ _ _ 0 [(0, .ref 71), (1, .int a1), (2, .int a2)] [] σ
  unfold s_m_of at h
  refine Ev_aload_n 0 (dt_X12_of.at 0 rfl) rfl ?_
  refine Ev_get (i := 0) (v := .ref 72) (dt_X12_of.at 1 rfl) ff_X12_7 sk_71 rfl rfl ?_
  refine Ev_iconst (dt_X12_of.at 2 rfl) ki_2 ?_
  refine Ev_bipush (dt_X12_of.at 3 rfl) kb_11 ?_
  refine Ev_iload_n 1 (dt_X12_of.at 4 rfl) rfl ?_
  refine Ev_imul (dt_X12_of.at 5 rfl) ?_
  refine Ev_iadd (dt_X12_of.at 6 rfl) ?_
  refine Ev_iload_n 2 (dt_X12_of.at 7 rfl) rfl ?_
  refine Ev_iadd (dt_X12_of.at 8 rfl) ?_
  obtain ⟨g1, h⟩ := oGuard h
  refine Ev_iaload 72 (dt_X12_of.at 9 rfl) sk_72 g1 ?_
  exact Ev_iret (dt_X12_of.at 10 rfl) rfl (oRet h)
def s_m_layErrand (σ : Sg) (a1 : Int32) (a2 : Int32) (a3 : Int32) : Option Sg :=
  lt ((2 + (11 * a1)) : Int32) fun x1 =>
  if inB (x1 + 2) 143 = true then
    lt ((gI σ 72 (Int32.toNatClampNeg (x1 + 2))) : Int32) fun x3 =>
    if inB ((x1 + 3) + (2 * x3)) 143 = true then
      lt (pI σ 72 (Int32.toNatClampNeg ((x1 + 3) + (2 * x3))) a2 : Sg) fun s5 =>
      if inB (((x1 + 3) + (2 * x3)) + 1) 143 = true then
        lt (pI s5 72 (Int32.toNatClampNeg (((x1 + 3) + (2 * x3)) + 1)) a3 : Sg) fun s7 =>
        if inB (x1 + 2) 143 = true then
          if inB (x1 + 2) 143 = true then
            lt (pI s7 72 (Int32.toNatClampNeg (x1 + 2)) ((gI s7 72 (Int32.toNatClampNeg (x1 + 2))) + 1) : Sg) fun s10 =>
            some s10
          else none
        else none
      else none
    else none
  else none
set_option maxRecDepth 100000 in
set_option maxHeartbeats 4000000 in
theorem w_m_layErrand (σ : Sg) (a1 : Int32) (a2 : Int32) (a3 : Int32) (q : Sg) (h : s_m_layErrand σ a1 a2 a3 = some q) : Cal M_X12_layErrand 0 [.ref 72, .int a1, .int a2, .int a3] σ none q := by
  refine Cal.of (M := M_X12_layErrand) (by decide +kernel) (Nat.le_of_ble_eq_true rfl) ?_
  show Ev _ _ _ _ 0 [(0, .ref 72), (1, .int a1), (2, .int a2), (3, .int a3)] [] σ
  unfold s_m_layErrand at h
  refine Ev_iconst (dt_X12_layErrand.at 0 rfl) ki_2 ?_
  refine Ev_bipush (dt_X12_layErrand.at 1 rfl) kb_11 ?_
  refine Ev_iload_n 1 (dt_X12_layErrand.at 2 rfl) rfl ?_
  refine Ev_imul (dt_X12_layErrand.at 3 rfl) ?_
  refine Ev_iadd (dt_X12_layErrand.at 4 rfl) ?_
  refine Ev_nmI (fun x1 ex1 => ?_)
  replace h := oLt h ex1
  refine Ev_istore (dt_X12_layErrand.at 5 rfl) (by decide) (ls' := [(4, .int x1), (0, .ref 72), (1, .int a1), (2, .int a2), (3, .int a3)]) rfl ?_
  refine Ev_aload_n 1 (dt_X12_layErrand.at 6 rfl) rfl ?_
  refine Ev_iload 0 (dt_X12_layErrand.at 7 rfl) rfl ?_
  refine Ev_iconst (dt_X12_layErrand.at 8 rfl) ki_2 ?_
  refine Ev_iadd (dt_X12_layErrand.at 9 rfl) ?_
  obtain ⟨g2, h⟩ := oGuard h
  refine Ev_iaload 72 (dt_X12_layErrand.at 10 rfl) sk_72 g2 ?_
  refine Ev_nmI (fun x3 ex3 => ?_)
  replace h := oLt h ex3
  refine Ev_istore (dt_X12_layErrand.at 11 rfl) (by decide) (ls' := [(5, .int x3), (4, .int x1), (0, .ref 72), (1, .int a1), (2, .int a2), (3, .int a3)]) rfl ?_
  refine Ev_aload_n 2 (dt_X12_layErrand.at 12 rfl) rfl ?_
  refine Ev_iload 1 (dt_X12_layErrand.at 13 rfl) rfl ?_
  refine Ev_iconst (dt_X12_layErrand.at 14 rfl) ki_3 ?_
  refine Ev_iadd (dt_X12_layErrand.at 15 rfl) ?_
  refine Ev_iconst (dt_X12_layErrand.at 16 rfl) ki_2 ?_
  refine Ev_iload 0 (dt_X12_layErrand.at 17 rfl) rfl ?_
  refine Ev_imul (dt_X12_layErrand.at 18 rfl) ?_
  refine Ev_iadd (dt_X12_layErrand.at 19 rfl) ?_
  refine Ev_iload_n 4 (dt_X12_layErrand.at 20 rfl) rfl ?_
  obtain ⟨g4, h⟩ := oGuard h
  refine Ev_iastore 72 (dt_X12_layErrand.at 21 rfl) sk_72 g4 ?_
  refine Ev_nmS (fun s5 es5 => ?_)
  replace h := oLt h es5
  refine Ev_aload_n 2 (dt_X12_layErrand.at 22 rfl) rfl ?_
  refine Ev_iload 1 (dt_X12_layErrand.at 23 rfl) rfl ?_
  refine Ev_iconst (dt_X12_layErrand.at 24 rfl) ki_3 ?_
  refine Ev_iadd (dt_X12_layErrand.at 25 rfl) ?_
  refine Ev_iconst (dt_X12_layErrand.at 26 rfl) ki_2 ?_
  refine Ev_iload 0 (dt_X12_layErrand.at 27 rfl) rfl ?_
  refine Ev_imul (dt_X12_layErrand.at 28 rfl) ?_
  refine Ev_iadd (dt_X12_layErrand.at 29 rfl) ?_
  refine Ev_iconst (dt_X12_layErrand.at 30 rfl) ki_1 ?_
  refine Ev_iadd (dt_X12_layErrand.at 31 rfl) ?_
  refine Ev_iload_n 5 (dt_X12_layErrand.at 32 rfl) rfl ?_
  obtain ⟨g6, h⟩ := oGuard h
  refine Ev_iastore 72 (dt_X12_layErrand.at 33 rfl) sk_72 g6 ?_
  refine Ev_nmS (fun s7 es7 => ?_)
  replace h := oLt h es7
  refine Ev_aload_n 2 (dt_X12_layErrand.at 34 rfl) rfl ?_
  refine Ev_iload 1 (dt_X12_layErrand.at 35 rfl) rfl ?_
  refine Ev_iconst (dt_X12_layErrand.at 36 rfl) ki_2 ?_
  refine Ev_iadd (dt_X12_layErrand.at 37 rfl) ?_
  refine Ev_dup2 (dt_X12_layErrand.at 38 rfl) rfl rfl ?_
  obtain ⟨g8, h⟩ := oGuard h
  refine Ev_iaload 72 (dt_X12_layErrand.at 39 rfl) sk_72 g8 ?_
  refine Ev_iconst (dt_X12_layErrand.at 40 rfl) ki_1 ?_
  refine Ev_iadd (dt_X12_layErrand.at 41 rfl) ?_
  obtain ⟨g9, h⟩ := oGuard h
  refine Ev_iastore 72 (dt_X12_layErrand.at 42 rfl) sk_72 g9 ?_
  refine Ev_nmS (fun s10 es10 => ?_)
  replace h := oLt h es10
  exact Ev_vret (dt_X12_layErrand.at 43 rfl) rfl h
def s_m_errand (σ : Sg) (a1 : Int32) (a2 : Int32) (a3 : Int32) : Option (Int32 × Sg) :=
  (s_m_isOne σ a1).bind fun q1 =>
  if q1 = 0 then
    (s_m_bad σ (-2)).bind fun q3 =>
    some (q3.1, q3.2)
  else
    (s_m_ring σ ).bind fun q4 =>
    (s_m_in (Int32.toInt64 a2) 0 (Int32.toInt64 (q4 - 1))).bind fun q5 =>
    if q5 = 0 then
      (s_m_bad σ (-2)).bind fun q7 =>
      some (q7.1, q7.2)
    else
      (s_m_in (Int32.toInt64 a3) 0 9).bind fun q8 =>
      if q8 = 0 then
        (s_m_bad σ (-2)).bind fun q15 =>
        some (q15.1, q15.2)
      else
        (s_m_of σ a1 2).bind fun q10 =>
        if q10 = 4 then
          (s_m_full σ ).bind fun q14 =>
          some (q14.1, q14.2)
        else
          (s_m_layErrand σ a1 a2 a3).bind fun q12 =>
          (s_m_of q12 a1 2).bind fun q13 =>
          some ((q13 - 1), q12)
set_option maxRecDepth 100000 in
set_option maxHeartbeats 4000000 in
theorem w_m_errand (σ : Sg) (a1 : Int32) (a2 : Int32) (a3 : Int32) (q : (Int32 × Sg)) (h : s_m_errand σ a1 a2 a3 = some q) : Cal M_X12_errand 2 [.ref 71, .int a1, .int a2, .int a3] σ (some (.int q.1)) q.2 := by
  refine Cal.of (M := M_X12_errand) (by decide +kernel) (Nat.le_of_ble_eq_true rfl) ?_
  show Ev _ _ _ _ 0 [(0, .ref 71), (1, .int a1), (2, .int a2), (3, .int a3)] [] σ
  unfold s_m_errand at h
  refine Ev_aload_n 0 (dt_X12_errand.at 0 rfl) rfl ?_
  refine Ev_iload_n 1 (dt_X12_errand.at 1 rfl) rfl ?_
  obtain ⟨q1, hq1, h⟩ := oBind h
  refine Ev_callV (st := []) (st' := [.int q1]) [.int a1] (dt_X12_errand.at 2 rfl) cf_X12_105 (w_m_isOne σ a1 q1 hq1) (by decide) sk_71 rfl rfl rfl (Nat.le_of_ble_eq_true rfl) rfl ?_
  refine Ev_if_eq (tgt := 36) (dt_X12_errand.at 3 rfl) (by decide) (fun c2 => ?_) (fun c2 => ?_)
  · replace h := oPos h c2
    refine Ev_aload_n 0 (dt_X12_errand.at 20 rfl) rfl ?_
    refine Ev_bipush (dt_X12_errand.at 21 rfl) kb_m2 ?_
    obtain ⟨q3, hq3, h⟩ := oBind h
    refine Ev_callV (st := []) (st' := [.int q3.1]) [.int (-2)] (dt_X12_errand.at 22 rfl) cf_X12_88 (w_m_bad σ (-2) q3 hq3) (by decide) sk_71 rfl rfl rfl (Nat.le_of_ble_eq_true rfl) rfl ?_
    exact Ev_iret (dt_X12_errand.at 23 rfl) rfl h
  · replace h := oNeg h c2
    refine Ev_iload_n 2 (dt_X12_errand.at 4 rfl) rfl ?_
    refine Ev_i2l (dt_X12_errand.at 5 rfl) ?_
    refine Ev_lconst (dt_X12_errand.at 6 rfl) kl_0 ?_
    refine Ev_aload_n 0 (dt_X12_errand.at 7 rfl) rfl ?_
    obtain ⟨q4, hq4, h⟩ := oBind h
    refine Ev_callV (st := [.long 0, .long (Int32.toInt64 a2)]) (st' := [.int q4, .long 0, .long (Int32.toInt64 a2)]) [] (dt_X12_errand.at 8 rfl) cf_X12_91 (w_m_ring σ  q4 hq4) (by decide) sk_71 rfl rfl rfl (Nat.le_of_ble_eq_true rfl) rfl ?_
    refine Ev_iconst (dt_X12_errand.at 9 rfl) ki_1 ?_
    refine Ev_isub (dt_X12_errand.at 10 rfl) ?_
    refine Ev_i2l (dt_X12_errand.at 11 rfl) ?_
    obtain ⟨q5, hq5, h⟩ := oBind h
    refine Ev_callS (st := []) (st' := [.int q5]) [.long (Int32.toInt64 a2), .long 0, .long (Int32.toInt64 (q4 - 1))] (dt_X12_errand.at 12 rfl) cf_X12_74 (w_m_in σ (Int32.toInt64 a2) 0 (Int32.toInt64 (q4 - 1)) q5 hq5) (by decide) rfl rfl (Nat.le_of_ble_eq_true rfl) rfl ?_
    refine Ev_if_eq (tgt := 36) (dt_X12_errand.at 13 rfl) (by decide) (fun c6 => ?_) (fun c6 => ?_)
    · replace h := oPos h c6
      refine Ev_aload_n 0 (dt_X12_errand.at 20 rfl) rfl ?_
      refine Ev_bipush (dt_X12_errand.at 21 rfl) kb_m2 ?_
      obtain ⟨q7, hq7, h⟩ := oBind h
      refine Ev_callV (st := []) (st' := [.int q7.1]) [.int (-2)] (dt_X12_errand.at 22 rfl) cf_X12_88 (w_m_bad σ (-2) q7 hq7) (by decide) sk_71 rfl rfl rfl (Nat.le_of_ble_eq_true rfl) rfl ?_
      exact Ev_iret (dt_X12_errand.at 23 rfl) rfl h
    · replace h := oNeg h c6
      refine Ev_iload_n 3 (dt_X12_errand.at 14 rfl) rfl ?_
      refine Ev_i2l (dt_X12_errand.at 15 rfl) ?_
      refine Ev_lconst (dt_X12_errand.at 16 rfl) kl_0 ?_
      refine Ev_ldc2 (dt_X12_errand.at 17 rfl) cl_X12_96 ?_
      obtain ⟨q8, hq8, h⟩ := oBind h
      refine Ev_callS (st := []) (st' := [.int q8]) [.long (Int32.toInt64 a3), .long 0, .long 9] (dt_X12_errand.at 18 rfl) cf_X12_74 (w_m_in σ (Int32.toInt64 a3) 0 9 q8 hq8) (by decide) rfl rfl (Nat.le_of_ble_eq_true rfl) rfl ?_
      refine Ev_if_ne (tgt := 43) (dt_X12_errand.at 19 rfl) (by decide) (fun c9 => ?_) (fun c9 => ?_)
      · replace h := oNeg h c9
        refine Ev_aload_n 0 (dt_X12_errand.at 24 rfl) rfl ?_
        refine Ev_iload_n 1 (dt_X12_errand.at 25 rfl) rfl ?_
        refine Ev_iconst (dt_X12_errand.at 26 rfl) ki_2 ?_
        obtain ⟨q10, hq10, h⟩ := oBind h
        refine Ev_callV (st := []) (st' := [.int q10]) [.int a1, .int 2] (dt_X12_errand.at 27 rfl) cf_X12_82 (w_m_of σ a1 2 q10 hq10) (by decide) sk_71 rfl rfl rfl (Nat.le_of_ble_eq_true rfl) rfl ?_
        refine Ev_iconst (dt_X12_errand.at 28 rfl) ki_4 ?_
        refine Ev_icmp_ne (tgt := 58) (dt_X12_errand.at 29 rfl) (by decide) (fun c11 => ?_) (fun c11 => ?_)
        · replace h := oNeg h c11
          refine Ev_aload_n 0 (dt_X12_errand.at 33 rfl) rfl ?_
          refine Ev_get (i := 0) (v := .ref 72) (dt_X12_errand.at 34 rfl) ff_X12_7 sk_71 rfl rfl ?_
          refine Ev_iload_n 1 (dt_X12_errand.at 35 rfl) rfl ?_
          refine Ev_iload_n 2 (dt_X12_errand.at 36 rfl) rfl ?_
          refine Ev_iload_n 3 (dt_X12_errand.at 37 rfl) rfl ?_
          obtain ⟨q12, hq12, h⟩ := oBind h
          refine Ev_callS (st := []) (st' := []) [.ref 72, .int a1, .int a2, .int a3] (dt_X12_errand.at 38 rfl) cf_X12_109 (w_m_layErrand σ a1 a2 a3 q12 hq12) (by decide) rfl rfl (Nat.le_of_ble_eq_true rfl) rfl ?_
          refine Ev_aload_n 0 (dt_X12_errand.at 39 rfl) rfl ?_
          refine Ev_iload_n 1 (dt_X12_errand.at 40 rfl) rfl ?_
          refine Ev_iconst (dt_X12_errand.at 41 rfl) ki_2 ?_
          obtain ⟨q13, hq13, h⟩ := oBind h
          refine Ev_callV (st := []) (st' := [.int q13]) [.int a1, .int 2] (dt_X12_errand.at 42 rfl) cf_X12_82 (w_m_of q12 a1 2 q13 hq13) (by decide) sk_71 rfl rfl rfl (Nat.le_of_ble_eq_true rfl) rfl ?_
          refine Ev_iconst (dt_X12_errand.at 43 rfl) ki_1 ?_
          refine Ev_isub (dt_X12_errand.at 44 rfl) ?_
          exact Ev_iret (dt_X12_errand.at 45 rfl) rfl h
        · replace h := oPos h c11
          refine Ev_aload_n 0 (dt_X12_errand.at 30 rfl) rfl ?_
          obtain ⟨q14, hq14, h⟩ := oBind h
          refine Ev_callV (st := []) (st' := [.int q14.1]) [] (dt_X12_errand.at 31 rfl) cf_X12_98 (w_m_full σ  q14 hq14) (by decide) sk_71 rfl rfl rfl (Nat.le_of_ble_eq_true rfl) rfl ?_
          exact Ev_iret (dt_X12_errand.at 32 rfl) rfl h
      · replace h := oPos h c9
        refine Ev_aload_n 0 (dt_X12_errand.at 20 rfl) rfl ?_
        refine Ev_bipush (dt_X12_errand.at 21 rfl) kb_m2 ?_
        obtain ⟨q15, hq15, h⟩ := oBind h
        refine Ev_callV (st := []) (st' := [.int q15.1]) [.int (-2)] (dt_X12_errand.at 22 rfl) cf_X12_88 (w_m_bad σ (-2) q15 hq15) (by decide) sk_71 rfl rfl rfl (Nat.le_of_ble_eq_true rfl) rfl ?_
        exact Ev_iret (dt_X12_errand.at 23 rfl) rfl h
def s_m_no (σ : Sg) (a1 : Int32) : Option (Int32 × Sg) :=
  lt (pI σ 75 (Int32.toNatClampNeg 1) ((gI σ 75 (Int32.toNatClampNeg 1)) + 1) : Sg) fun s1 =>
  some (a1, s1)
set_option maxRecDepth 100000 in
set_option maxHeartbeats 4000000 in
theorem w_m_no (σ : Sg) (a1 : Int32) (q : (Int32 × Sg)) (h : s_m_no σ a1 = some q) : Cal M_X12_no 0 [.ref 71, .int a1] σ (some (.int q.1)) q.2 := by
  refine Cal.of (M := M_X12_no) (by decide +kernel) (Nat.le_of_ble_eq_true rfl) ?_
  show Ev _ _ _ _ 0 [(0, .ref 71), (1, .int a1)] [] σ
  unfold s_m_no at h
  refine Ev_aload_n 0 (dt_X12_no.at 0 rfl) rfl ?_
  refine Ev_get (i := 3) (v := .ref 75) (dt_X12_no.at 1 rfl) ff_X12_20 sk_71 rfl rfl ?_
  refine Ev_iconst (dt_X12_no.at 2 rfl) ki_1 ?_
  refine Ev_dup2 (dt_X12_no.at 3 rfl) rfl rfl ?_
  refine Ev_iaload 75 (dt_X12_no.at 4 rfl) sk_75 ib_1_3 ?_
  refine Ev_iconst (dt_X12_no.at 5 rfl) ki_1 ?_
  refine Ev_iadd (dt_X12_no.at 6 rfl) ?_
  refine Ev_iastore 75 (dt_X12_no.at 7 rfl) sk_75 ib_1_3 ?_
  refine Ev_nmS (fun s1 es1 => ?_)
  replace h := oLt h es1
  refine Ev_iload_n 1 (dt_X12_no.at 8 rfl) rfl ?_
  exact Ev_iret (dt_X12_no.at 9 rfl) rfl h
def s_m_drop (σ : Sg) (a1 : Int32) : Option (Int32 × Sg) :=
  (s_m_isOne σ a1).bind fun q1 =>
  if q1 = 0 then
    (s_m_bad σ (-2)).bind fun q10 =>
    some (q10.1, q10.2)
  else
    (s_m_of σ a1 2).bind fun q3 =>
    if q3 = 0 then
      (s_m_no σ (-3)).bind fun q9 =>
      some (q9.1, q9.2)
    else
      if inB ((2 + (11 * a1)) + 2) 143 = true then
        if inB ((2 + (11 * a1)) + 2) 143 = true then
          lt (pI σ 72 (Int32.toNatClampNeg ((2 + (11 * a1)) + 2)) ((gI σ 72 (Int32.toNatClampNeg ((2 + (11 * a1)) + 2))) - 1) : Sg) fun s7 =>
          (s_m_of s7 a1 2).bind fun q8 =>
          some (q8, s7)
        else none
      else none
set_option maxRecDepth 100000 in
set_option maxHeartbeats 4000000 in
theorem w_m_drop (σ : Sg) (a1 : Int32) (q : (Int32 × Sg)) (h : s_m_drop σ a1 = some q) : Cal M_X12_drop 2 [.ref 71, .int a1] σ (some (.int q.1)) q.2 := by
  refine Cal.of (M := M_X12_drop) (by decide +kernel) (Nat.le_of_ble_eq_true rfl) ?_
  show Ev _ _ _ _ 0 [(0, .ref 71), (1, .int a1)] [] σ
  unfold s_m_drop at h
  refine Ev_aload_n 0 (dt_X12_drop.at 0 rfl) rfl ?_
  refine Ev_iload_n 1 (dt_X12_drop.at 1 rfl) rfl ?_
  obtain ⟨q1, hq1, h⟩ := oBind h
  refine Ev_callV (st := []) (st' := [.int q1]) [.int a1] (dt_X12_drop.at 2 rfl) cf_X12_105 (w_m_isOne σ a1 q1 hq1) (by decide) sk_71 rfl rfl rfl (Nat.le_of_ble_eq_true rfl) rfl ?_
  refine Ev_if_ne (tgt := 15) (dt_X12_drop.at 3 rfl) (by decide) (fun c2 => ?_) (fun c2 => ?_)
  · replace h := oNeg h c2
    refine Ev_aload_n 0 (dt_X12_drop.at 8 rfl) rfl ?_
    refine Ev_iload_n 1 (dt_X12_drop.at 9 rfl) rfl ?_
    refine Ev_iconst (dt_X12_drop.at 10 rfl) ki_2 ?_
    obtain ⟨q3, hq3, h⟩ := oBind h
    refine Ev_callV (st := []) (st' := [.int q3]) [.int a1, .int 2] (dt_X12_drop.at 11 rfl) cf_X12_82 (w_m_of σ a1 2 q3 hq3) (by decide) sk_71 rfl rfl rfl (Nat.le_of_ble_eq_true rfl) rfl ?_
    refine Ev_if_ne (tgt := 31) (dt_X12_drop.at 12 rfl) (by decide) (fun c4 => ?_) (fun c4 => ?_)
    · replace h := oNeg h c4
      refine Ev_aload_n 0 (dt_X12_drop.at 17 rfl) rfl ?_
      refine Ev_get (i := 0) (v := .ref 72) (dt_X12_drop.at 18 rfl) ff_X12_7 sk_71 rfl rfl ?_
      refine Ev_iconst (dt_X12_drop.at 19 rfl) ki_2 ?_
      refine Ev_bipush (dt_X12_drop.at 20 rfl) kb_11 ?_
      refine Ev_iload_n 1 (dt_X12_drop.at 21 rfl) rfl ?_
      refine Ev_imul (dt_X12_drop.at 22 rfl) ?_
      refine Ev_iadd (dt_X12_drop.at 23 rfl) ?_
      refine Ev_iconst (dt_X12_drop.at 24 rfl) ki_2 ?_
      refine Ev_iadd (dt_X12_drop.at 25 rfl) ?_
      refine Ev_dup2 (dt_X12_drop.at 26 rfl) rfl rfl ?_
      obtain ⟨g5, h⟩ := oGuard h
      refine Ev_iaload 72 (dt_X12_drop.at 27 rfl) sk_72 g5 ?_
      refine Ev_iconst (dt_X12_drop.at 28 rfl) ki_1 ?_
      refine Ev_isub (dt_X12_drop.at 29 rfl) ?_
      obtain ⟨g6, h⟩ := oGuard h
      refine Ev_iastore 72 (dt_X12_drop.at 30 rfl) sk_72 g6 ?_
      refine Ev_nmS (fun s7 es7 => ?_)
      replace h := oLt h es7
      refine Ev_aload_n 0 (dt_X12_drop.at 31 rfl) rfl ?_
      refine Ev_iload_n 1 (dt_X12_drop.at 32 rfl) rfl ?_
      refine Ev_iconst (dt_X12_drop.at 33 rfl) ki_2 ?_
      obtain ⟨q8, hq8, h⟩ := oBind h
      refine Ev_callV (st := []) (st' := [.int q8]) [.int a1, .int 2] (dt_X12_drop.at 34 rfl) cf_X12_82 (w_m_of s7 a1 2 q8 hq8) (by decide) sk_71 rfl rfl rfl (Nat.le_of_ble_eq_true rfl) rfl ?_
      exact Ev_iret (dt_X12_drop.at 35 rfl) rfl h
    · replace h := oPos h c4
      refine Ev_aload_n 0 (dt_X12_drop.at 13 rfl) rfl ?_
      refine Ev_bipush (dt_X12_drop.at 14 rfl) kb_m3 ?_
      obtain ⟨q9, hq9, h⟩ := oBind h
      refine Ev_callV (st := []) (st' := [.int q9.1]) [.int (-3)] (dt_X12_drop.at 15 rfl) cf_X12_113 (w_m_no σ (-3) q9 hq9) (by decide) sk_71 rfl rfl rfl (Nat.le_of_ble_eq_true rfl) rfl ?_
      exact Ev_iret (dt_X12_drop.at 16 rfl) rfl h
  · replace h := oPos h c2
    refine Ev_aload_n 0 (dt_X12_drop.at 4 rfl) rfl ?_
    refine Ev_bipush (dt_X12_drop.at 5 rfl) kb_m2 ?_
    obtain ⟨q10, hq10, h⟩ := oBind h
    refine Ev_callV (st := []) (st' := [.int q10.1]) [.int (-2)] (dt_X12_drop.at 6 rfl) cf_X12_88 (w_m_bad σ (-2) q10 hq10) (by decide) sk_71 rfl rfl rfl (Nat.le_of_ble_eq_true rfl) rfl ?_
    exact Ev_iret (dt_X12_drop.at 7 rfl) rfl h
def b_m_type_41 (v1 : Int64) (x : (Sg × Int32)) : Option ((Sg × Int32) ⊕ (Sg × Int32)) :=
  if x.2 < 0 then
    some (.inr (x.1, x.2))
  else
    if inB (gI x.1 71 21) 250 = true then
      lt (pI x.1 88 (Int32.toNatClampNeg (gI x.1 71 21)) (Int64.toInt32 (((Int64.toUInt64 v1 >>> (Int64.toUInt64 (Int32.toInt64 (8 * x.2)) &&& Int64.toUInt64 63)).toInt64) &&& 255)) : Sg) fun s7 =>
      lt (pI s7 71 21 ((gI s7 71 21) + 1) : Sg) fun s8 =>
      lt (x.2 + (-1) : Int32) fun x9 =>
      some (.inl (s8, x9))
    else none
def s_m_type (σ : Sg) (a1 : Int64) (a3 : Int32) : Option (Int32 × Sg) :=
  (s_m_in (Int32.toInt64 a3) 1 8).bind fun q1 =>
  if q1 = 0 then
    (s_m_bad σ (-2)).bind fun q12 =>
    some (q12.1, q12.2)
  else
    if ((gI σ 71 21) + a3) ≤ 250 then
      lt ((a3 - 1) : Int32) fun x4 =>
      (lp (b_m_type_41 a1) 100000 (σ, x4)).bind fun o10 =>
      some ((gI o10.1 71 21), o10.1)
    else
      (s_m_full σ ).bind fun q11 =>
      some (q11.1, q11.2)
set_option maxRecDepth 100000 in
set_option maxHeartbeats 4000000 in
theorem wb_m_type_41 (v1 : Int64) (x : (Sg × Int32)) (r : Option Value) (τ : Sg) (o : ((Sg × Int32) ⊕ (Sg × Int32))) (h : (b_m_type_41 v1 x) = some o) (hc : ∀ y : (Sg × Int32), o = .inl y → Ev M_X12_type 1 r τ 41 [(0, .ref 71), (1, .long v1), (4, .int y.2)] [] y.1) (he : ∀ y : (Sg × Int32), o = .inr y → Ev M_X12_type 1 r τ 83 [(0, .ref 71)] [] y.1) : Ev M_X12_type 1 r τ 41 [(0, .ref 71), (1, .long v1), (4, .int x.2)] [] x.1 := by
  unfold b_m_type_41 at h
  refine Ev_iload 2 (dt_X12_type.at 23 rfl) rfl ?_
  refine Ev_if_lt (tgt := 83) (dt_X12_type.at 24 rfl) (by decide) (fun c5 => ?_) (fun c5 => ?_)
  · replace h := oPos h c5
    refine Ev_sub [0] (ls' := [(0, .ref 71)]) rfl ?_
    exact he (x.1, x.2) (Option.some.inj h).symm
  · replace h := oNeg h c5
    refine Ev_aload_n 0 (dt_X12_type.at 25 rfl) rfl ?_
    refine Ev_get (i := 20) (v := .ref 88) (dt_X12_type.at 26 rfl) ff_X12_64 sk_71 rfl rfl ?_
    refine Ev_aload_n 0 (dt_X12_type.at 27 rfl) rfl ?_
    refine Ev_get (i := 21) (v := .int (gI x.1 71 21)) (dt_X12_type.at 28 rfl) ff_X12_259 sk_71 rfl rfl ?_
    refine Ev_lload_n 1 (dt_X12_type.at 29 rfl) rfl ?_
    refine Ev_bipush (dt_X12_type.at 30 rfl) kb_8 ?_
    refine Ev_iload 2 (dt_X12_type.at 31 rfl) rfl ?_
    refine Ev_imul (dt_X12_type.at 32 rfl) ?_
    refine Ev_lushr (dt_X12_type.at 33 rfl) ?_
    refine Ev_ldc2 (dt_X12_type.at 34 rfl) cl_X12_262 ?_
    refine Ev_land (dt_X12_type.at 35 rfl) ?_
    refine Ev_l2i (dt_X12_type.at 36 rfl) ?_
    obtain ⟨g6, h⟩ := oGuard h
    refine Ev_iastore 88 (dt_X12_type.at 37 rfl) sk_88 g6 ?_
    refine Ev_nmS (fun s7 es7 => ?_)
    replace h := oLt h es7
    refine Ev_aload_n 0 (dt_X12_type.at 38 rfl) rfl ?_
    refine Ev_dup (dt_X12_type.at 39 rfl) rfl ?_
    refine Ev_get (i := 21) (v := .int (gI s7 71 21)) (dt_X12_type.at 40 rfl) ff_X12_259 sk_71 rfl rfl ?_
    refine Ev_iconst (dt_X12_type.at 41 rfl) ki_1 ?_
    refine Ev_iadd (dt_X12_type.at 42 rfl) ?_
    refine Ev_putI (dt_X12_type.at 43 rfl) ff_X12_259 fw_12_21 sk_71 rfl ?_
    refine Ev_nmS (fun s8 es8 => ?_)
    replace h := oLt h es8
    obtain ⟨x9, ex9⟩ : ∃ z : Int32, z = x.2 + (-1) := ⟨_, rfl⟩
    replace h := oLt h ex9
    refine Ev_iinc (v := x9) 2 (dt_X12_type.at 44 rfl) rfl (ex9.trans (congrArg (fun z => x.2 + z) ki_m1.symm)) (by decide) (ls' := [(4, .int x9), (0, .ref 71), (1, .long v1)]) rfl ?_
    refine Ev_goto (tgt := 41) (dt_X12_type.at 45 rfl) (by decide) ?_
    refine Ev_sub [1, 2, 0] (ls' := [(0, .ref 71), (1, .long v1), (4, .int x9)]) rfl ?_
    exact hc (s8, x9) (Option.some.inj h).symm
set_option maxRecDepth 100000 in
set_option maxHeartbeats 4000000 in
theorem wl_m_type_41 (v1 : Int64) (r : Option Value) (τ : Sg) (n : Nat) (x : (Sg × Int32)) (z : (Sg × Int32)) (h : lp (b_m_type_41 v1) n x = some z) (he : ∀ y : (Sg × Int32), z = y → Ev M_X12_type 1 r τ 83 [(0, .ref 71)] [] y.1) : Ev M_X12_type 1 r τ 41 [(0, .ref 71), (1, .long v1), (4, .int x.2)] [] x.1 := by
  refine lp_ind (E := fun x : (Sg × Int32) => Ev M_X12_type 1 r τ 41 [(0, .ref 71), (1, .long v1), (4, .int x.2)] [] x.1) (fun x => ⟨fun y hb hy => ?_, fun hb => ?_⟩) n x h
  · exact wb_m_type_41 v1 x r τ _ hb (fun y' e => by cases e; exact hy) (fun y' e => by cases e)
  · exact wb_m_type_41 v1 x r τ _ hb (fun y' e => by cases e) (fun y' e => he y' (Sum.inr.inj e))
set_option maxRecDepth 100000 in
set_option maxHeartbeats 4000000 in
theorem w_m_type (σ : Sg) (a1 : Int64) (a3 : Int32) (q : (Int32 × Sg)) (h : s_m_type σ a1 a3 = some q) : Cal M_X12_type 1 [.ref 71, .long a1, .int a3] σ (some (.int q.1)) q.2 := by
  refine Cal.of (M := M_X12_type) (by decide +kernel) (Nat.le_of_ble_eq_true rfl) ?_
  show Ev _ _ _ _ 0 [(0, .ref 71), (1, .long a1), (3, .int a3)] [] σ
  unfold s_m_type at h
  refine Ev_iload_n 2 (dt_X12_type.at 0 rfl) rfl ?_
  refine Ev_i2l (dt_X12_type.at 1 rfl) ?_
  refine Ev_lconst (dt_X12_type.at 2 rfl) kl_1 ?_
  refine Ev_ldc2 (dt_X12_type.at 3 rfl) cl_X12_257 ?_
  obtain ⟨q1, hq1, h⟩ := oBind h
  refine Ev_callS (st := []) (st' := [.int q1]) [.long (Int32.toInt64 a3), .long 1, .long 8] (dt_X12_type.at 4 rfl) cf_X12_74 (w_m_in σ (Int32.toInt64 a3) 1 8 q1 hq1) (by decide) rfl rfl (Nat.le_of_ble_eq_true rfl) rfl ?_
  refine Ev_if_ne (tgt := 19) (dt_X12_type.at 5 rfl) (by decide) (fun c2 => ?_) (fun c2 => ?_)
  · replace h := oNeg h c2
    refine Ev_aload_n 0 (dt_X12_type.at 10 rfl) rfl ?_
    refine Ev_get (i := 21) (v := .int (gI σ 71 21)) (dt_X12_type.at 11 rfl) ff_X12_259 sk_71 rfl rfl ?_
    refine Ev_iload_n 2 (dt_X12_type.at 12 rfl) rfl ?_
    refine Ev_iadd (dt_X12_type.at 13 rfl) ?_
    refine Ev_sipush (dt_X12_type.at 14 rfl) ks_250 ?_
    refine Ev_icmp_le (tgt := 36) (dt_X12_type.at 15 rfl) (by decide) (fun c3 => ?_) (fun c3 => ?_)
    · replace h := oPos h c3
      refine Ev_iload_n 2 (dt_X12_type.at 19 rfl) rfl ?_
      refine Ev_iconst (dt_X12_type.at 20 rfl) ki_1 ?_
      refine Ev_isub (dt_X12_type.at 21 rfl) ?_
      refine Ev_nmI (fun x4 ex4 => ?_)
      replace h := oLt h ex4
      refine Ev_istore (dt_X12_type.at 22 rfl) (by decide) (ls' := [(4, .int x4), (0, .ref 71), (1, .long a1), (3, .int a3)]) rfl ?_
      refine Ev_sub [1, 2, 0] (ls' := [(0, .ref 71), (1, .long a1), (4, .int x4)]) rfl ?_
      obtain ⟨o10, ho10, h⟩ := oBind h
      refine wl_m_type_41 a1 _ _ 100000 (σ, x4) o10 ho10 (fun y ey => ?_)
      subst ey
      refine Ev_aload_n 0 (dt_X12_type.at 46 rfl) rfl ?_
      refine Ev_get (i := 21) (v := .int (gI o10.1 71 21)) (dt_X12_type.at 47 rfl) ff_X12_259 sk_71 rfl rfl ?_
      exact Ev_iret (dt_X12_type.at 48 rfl) rfl h
    · replace h := oNeg h c3
      refine Ev_aload_n 0 (dt_X12_type.at 16 rfl) rfl ?_
      obtain ⟨q11, hq11, h⟩ := oBind h
      refine Ev_callV (st := []) (st' := [.int q11.1]) [] (dt_X12_type.at 17 rfl) cf_X12_98 (w_m_full σ  q11 hq11) (by decide) sk_71 rfl rfl rfl (Nat.le_of_ble_eq_true rfl) rfl ?_
      exact Ev_iret (dt_X12_type.at 18 rfl) rfl h
  · replace h := oPos h c2
    refine Ev_aload_n 0 (dt_X12_type.at 6 rfl) rfl ?_
    refine Ev_bipush (dt_X12_type.at 7 rfl) kb_m2 ?_
    obtain ⟨q12, hq12, h⟩ := oBind h
    refine Ev_callV (st := []) (st' := [.int q12.1]) [.int (-2)] (dt_X12_type.at 8 rfl) cf_X12_88 (w_m_bad σ (-2) q12 hq12) (by decide) sk_71 rfl rfl rfl (Nat.le_of_ble_eq_true rfl) rfl ?_
    exact Ev_iret (dt_X12_type.at 9 rfl) rfl h
