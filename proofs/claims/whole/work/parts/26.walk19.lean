def s_Town_hasPerson_6 (σ : Sg) (a1 : Int32) : Option Int32 :=
  if a1 < 0 then
    some 0
  else
    if (gI σ 6 6) ≤ a1 then
      some 0
    else
      some 1
set_option maxRecDepth 100000 in
set_option maxHeartbeats 4000000 in
theorem w_Town_hasPerson_6 (σ : Sg) (a1 : Int32) (q : Int32) (h : s_Town_hasPerson_6 σ a1 = some q) : Cal M_X9_hasPerson 0 [.ref 6, .int a1] σ (some (.int q)) σ := by
  refine Cal.of (M := M_X9_hasPerson) (by decide +kernel) (Nat.le_of_ble_eq_true rfl) ?_
  show Ev _ _ _ _ 0 [(0, .ref 6), (1, .int a1)] [] σ
  unfold s_Town_hasPerson_6 at h
  refine Ev_iload_n 1 (dt_X9_hasPerson.at 0 rfl) rfl ?_
  refine Ev_if_lt (tgt := 16) (dt_X9_hasPerson.at 1 rfl) (by decide) (fun c1 => ?_) (fun c1 => ?_)
  · replace h := oPos h c1
    refine Ev_iconst (dt_X9_hasPerson.at 8 rfl) ki_0 ?_
    exact Ev_zret (dt_X9_hasPerson.at 9 rfl) rfl (by decide) (oRet h)
  · replace h := oNeg h c1
    refine Ev_iload_n 1 (dt_X9_hasPerson.at 2 rfl) rfl ?_
    refine Ev_aload_n 0 (dt_X9_hasPerson.at 3 rfl) rfl ?_
    refine Ev_get (i := 6) (v := .int (gI σ 6 6)) (dt_X9_hasPerson.at 4 rfl) ff_X9_31 sk_6 rfl rfl ?_
    refine Ev_icmp_ge (tgt := 16) (dt_X9_hasPerson.at 5 rfl) (by decide) (fun c2 => ?_) (fun c2 => ?_)
    · replace h := oPos h c2
      refine Ev_iconst (dt_X9_hasPerson.at 8 rfl) ki_0 ?_
      exact Ev_zret (dt_X9_hasPerson.at 9 rfl) rfl (by decide) (oRet h)
    · replace h := oNeg h c2
      refine Ev_iconst (dt_X9_hasPerson.at 6 rfl) ki_1 ?_
      refine Ev_goto (tgt := 17) (dt_X9_hasPerson.at 7 rfl) (by decide) ?_
      exact Ev_zret (dt_X9_hasPerson.at 9 rfl) rfl (by decide) (oRet h)
def s_TownReader_end (σ : Sg)  : Option Sg :=
  if (gI σ 4 4) = (-1) then
    (s_TownReader_skipBlanks σ ).bind fun q2 =>
    if (gI q2 4 2) ≤ (gI q2 4 3) then
      lt (pI q2 4 4 (gI q2 4 3) : Sg) fun s4 =>
      some s4
    else
      if gR q2 4 1 = 3 then
        if inB (gI q2 4 3) 250 = true then
          if (gI q2 3 (Int32.toNatClampNeg (gI q2 4 3))) = 59 then
            lt (pI q2 4 3 ((gI q2 4 3) + 1) : Sg) fun s9 =>
            some s9
          else
            lt (pI q2 4 4 (gI q2 4 3) : Sg) fun s8 =>
            some s8
        else none
      else
        none
  else
    some σ
set_option maxRecDepth 100000 in
set_option maxHeartbeats 4000000 in
theorem w_TownReader_end (σ : Sg)  (q : Sg) (h : s_TownReader_end σ  = some q) : Cal M_X10_end 1 [.ref 4] σ none q := by
  refine Cal.of (M := M_X10_end) (by decide +kernel) (Nat.le_of_ble_eq_true rfl) ?_
  show Ev _ _ _ _ 0 [(0, .ref 4)] [] σ
  unfold s_TownReader_end at h
  refine Ev_aload_n 0 (dt_X10_end.at 0 rfl) rfl ?_
  refine Ev_get (i := 4) (v := .int (gI σ 4 4)) (dt_X10_end.at 1 rfl) ff_X10_35 sk_4 rfl rfl ?_
  refine Ev_iconst (dt_X10_end.at 2 rfl) ki_m1 ?_
  refine Ev_icmp_eq (tgt := 9) (dt_X10_end.at 3 rfl) (by decide) (fun c1 => ?_) (fun c1 => ?_)
  · replace h := oPos h c1
    refine Ev_aload_n 0 (dt_X10_end.at 5 rfl) rfl ?_
    obtain ⟨q2, hq2, h⟩ := oBind h
    refine Ev_callV (st := []) (st' := []) [] (dt_X10_end.at 6 rfl) cf_X10_42 (w_TownReader_skipBlanks σ  q2 hq2) (by decide) sk_4 rfl rfl rfl (Nat.le_of_ble_eq_true rfl) rfl ?_
    refine Ev_aload_n 0 (dt_X10_end.at 7 rfl) rfl ?_
    refine Ev_get (i := 3) (v := .int (gI q2 4 3)) (dt_X10_end.at 8 rfl) ff_X10_32 sk_4 rfl rfl ?_
    refine Ev_aload_n 0 (dt_X10_end.at 9 rfl) rfl ?_
    refine Ev_get (i := 2) (v := .int (gI q2 4 2)) (dt_X10_end.at 10 rfl) ff_X10_28 sk_4 rfl rfl ?_
    refine Ev_icmp_ge (tgt := 51) (dt_X10_end.at 11 rfl) (by decide) (fun c3 => ?_) (fun c3 => ?_)
    · replace h := oPos h c3
      refine Ev_aload_n 0 (dt_X10_end.at 26 rfl) rfl ?_
      refine Ev_aload_n 0 (dt_X10_end.at 27 rfl) rfl ?_
      refine Ev_get (i := 3) (v := .int (gI q2 4 3)) (dt_X10_end.at 28 rfl) ff_X10_32 sk_4 rfl rfl ?_
      refine Ev_putI (dt_X10_end.at 29 rfl) ff_X10_35 fw_10_4 sk_4 rfl ?_
      refine Ev_nmS (fun s4 es4 => ?_)
      replace h := oLt h es4
      exact Ev_vret (dt_X10_end.at 30 rfl) rfl h
    · replace h := oNeg h c3
      refine Ev_aload_n 0 (dt_X10_end.at 12 rfl) rfl ?_
      obtain ⟨c5, h⟩ := oGuard h
      refine Ev_get (i := 1) (v := .ref 3) (dt_X10_end.at 13 rfl) ff_X10_18 sk_4 rfl (congrArg Value.ref c5) ?_
      refine Ev_aload_n 0 (dt_X10_end.at 14 rfl) rfl ?_
      refine Ev_get (i := 3) (v := .int (gI q2 4 3)) (dt_X10_end.at 15 rfl) ff_X10_32 sk_4 rfl rfl ?_
      obtain ⟨g6, h⟩ := oGuard h
      refine Ev_iaload 3 (dt_X10_end.at 16 rfl) sk_3 g6 ?_
      refine Ev_bipush (dt_X10_end.at 17 rfl) kb_59 ?_
      refine Ev_icmp_ne (tgt := 51) (dt_X10_end.at 18 rfl) (by decide) (fun c7 => ?_) (fun c7 => ?_)
      · replace h := oNeg h c7
        refine Ev_aload_n 0 (dt_X10_end.at 26 rfl) rfl ?_
        refine Ev_aload_n 0 (dt_X10_end.at 27 rfl) rfl ?_
        refine Ev_get (i := 3) (v := .int (gI q2 4 3)) (dt_X10_end.at 28 rfl) ff_X10_32 sk_4 rfl rfl ?_
        refine Ev_putI (dt_X10_end.at 29 rfl) ff_X10_35 fw_10_4 sk_4 rfl ?_
        refine Ev_nmS (fun s8 es8 => ?_)
        replace h := oLt h es8
        exact Ev_vret (dt_X10_end.at 30 rfl) rfl h
      · replace h := oPos h c7
        refine Ev_aload_n 0 (dt_X10_end.at 19 rfl) rfl ?_
        refine Ev_dup (dt_X10_end.at 20 rfl) rfl ?_
        refine Ev_get (i := 3) (v := .int (gI q2 4 3)) (dt_X10_end.at 21 rfl) ff_X10_32 sk_4 rfl rfl ?_
        refine Ev_iconst (dt_X10_end.at 22 rfl) ki_1 ?_
        refine Ev_iadd (dt_X10_end.at 23 rfl) ?_
        refine Ev_putI (dt_X10_end.at 24 rfl) ff_X10_32 fw_10_3 sk_4 rfl ?_
        refine Ev_nmS (fun s9 es9 => ?_)
        replace h := oLt h es9
        refine Ev_goto (tgt := 59) (dt_X10_end.at 25 rfl) (by decide) ?_
        exact Ev_vret (dt_X10_end.at 30 rfl) rfl h
  · replace h := oNeg h c1
    exact Ev_vret (dt_X10_end.at 4 rfl) rfl h
def s_Town_addErrand_6 (σ : Sg) (a1 : Int32) (a2 : Int32) (a3 : Int32) : Option (Int32 × Sg) :=
  (s_Town_hasPerson_6 σ a1).bind fun q1 =>
  if q1 = 0 then
    some ((-1), σ)
  else
    if inB a1 9 = true then
      if (gI σ 9 (Int32.toNatClampNeg a1)) < 4 then
        if inB a1 9 = true then
          lt ((gI σ 9 (Int32.toNatClampNeg a1)) : Int32) fun x6 =>
          if inB ((a1 * 4) + x6) 36 = true then
            lt (pI σ 10 (Int32.toNatClampNeg ((a1 * 4) + x6)) a2 : Sg) fun s8 =>
            if inB ((a1 * 4) + x6) 36 = true then
              lt (pI s8 11 (Int32.toNatClampNeg ((a1 * 4) + x6)) a3 : Sg) fun s10 =>
              if inB a1 9 = true then
                if inB a1 9 = true then
                  lt (pI s10 9 (Int32.toNatClampNeg a1) ((gI s10 9 (Int32.toNatClampNeg a1)) + 1) : Sg) fun s13 =>
                  some (x6, s13)
                else none
              else none
            else none
          else none
        else none
      else
        some ((-1), σ)
    else none
set_option maxRecDepth 100000 in
set_option maxHeartbeats 4000000 in
theorem w_Town_addErrand_6 (σ : Sg) (a1 : Int32) (a2 : Int32) (a3 : Int32) (q : (Int32 × Sg)) (h : s_Town_addErrand_6 σ a1 a2 a3 = some q) : Cal M_X9_addErrand 1 [.ref 6, .int a1, .int a2, .int a3] σ (some (.int q.1)) q.2 := by
  refine Cal.of (M := M_X9_addErrand) (by decide +kernel) (Nat.le_of_ble_eq_true rfl) ?_
  show Ev _ _ _ _ 0 [(0, .ref 6), (1, .int a1), (2, .int a2), (3, .int a3)] [] σ
  unfold s_Town_addErrand_6 at h
  refine Ev_aload_n 0 (dt_X9_addErrand.at 0 rfl) rfl ?_
  refine Ev_iload_n 1 (dt_X9_addErrand.at 1 rfl) rfl ?_
  obtain ⟨q1, hq1, h⟩ := oBind h
  refine Ev_callV (st := []) (st' := [.int q1]) [.int a1] (dt_X9_addErrand.at 2 rfl) cf_X9_47 (w_Town_hasPerson_6 σ a1 q1 hq1) (by decide) sk_6 rfl rfl rfl (Nat.le_of_ble_eq_true rfl) rfl ?_
  refine Ev_if_eq (tgt := 18) (dt_X9_addErrand.at 3 rfl) (by decide) (fun c2 => ?_) (fun c2 => ?_)
  · replace h := oPos h c2
    refine Ev_iconst (dt_X9_addErrand.at 10 rfl) ki_m1 ?_
    exact Ev_iret (dt_X9_addErrand.at 11 rfl) rfl h
  · replace h := oNeg h c2
    refine Ev_aload_n 0 (dt_X9_addErrand.at 4 rfl) rfl ?_
    refine Ev_get (i := 2) (v := .ref 9) (dt_X9_addErrand.at 5 rfl) ff_X9_18 sk_6 rfl rfl ?_
    refine Ev_iload_n 1 (dt_X9_addErrand.at 6 rfl) rfl ?_
    obtain ⟨g3, h⟩ := oGuard h
    refine Ev_iaload 9 (dt_X9_addErrand.at 7 rfl) sk_9 g3 ?_
    refine Ev_iconst (dt_X9_addErrand.at 8 rfl) ki_4 ?_
    refine Ev_icmp_lt (tgt := 20) (dt_X9_addErrand.at 9 rfl) (by decide) (fun c4 => ?_) (fun c4 => ?_)
    · replace h := oPos h c4
      refine Ev_aload_n 0 (dt_X9_addErrand.at 12 rfl) rfl ?_
      refine Ev_get (i := 2) (v := .ref 9) (dt_X9_addErrand.at 13 rfl) ff_X9_18 sk_6 rfl rfl ?_
      refine Ev_iload_n 1 (dt_X9_addErrand.at 14 rfl) rfl ?_
      obtain ⟨g5, h⟩ := oGuard h
      refine Ev_iaload 9 (dt_X9_addErrand.at 15 rfl) sk_9 g5 ?_
      refine Ev_nmI (fun x6 ex6 => ?_)
      replace h := oLt h ex6
      refine Ev_istore (dt_X9_addErrand.at 16 rfl) (by decide) (ls' := [(4, .int x6), (0, .ref 6), (1, .int a1), (2, .int a2), (3, .int a3)]) rfl ?_
      refine Ev_aload_n 1 (dt_X9_addErrand.at 17 rfl) rfl ?_
      refine Ev_get (i := 3) (v := .ref 10) (dt_X9_addErrand.at 18 rfl) ff_X9_21 sk_6 rfl rfl ?_
      refine Ev_iload_n 2 (dt_X9_addErrand.at 19 rfl) rfl ?_
      refine Ev_iconst (dt_X9_addErrand.at 20 rfl) ki_4 ?_
      refine Ev_imul (dt_X9_addErrand.at 21 rfl) ?_
      refine Ev_iload 0 (dt_X9_addErrand.at 22 rfl) rfl ?_
      refine Ev_iadd (dt_X9_addErrand.at 23 rfl) ?_
      refine Ev_iload_n 3 (dt_X9_addErrand.at 24 rfl) rfl ?_
      obtain ⟨g7, h⟩ := oGuard h
      refine Ev_iastore 10 (dt_X9_addErrand.at 25 rfl) sk_10 g7 ?_
      refine Ev_nmS (fun s8 es8 => ?_)
      replace h := oLt h es8
      refine Ev_aload_n 1 (dt_X9_addErrand.at 26 rfl) rfl ?_
      refine Ev_get (i := 4) (v := .ref 11) (dt_X9_addErrand.at 27 rfl) ff_X9_24 sk_6 rfl rfl ?_
      refine Ev_iload_n 2 (dt_X9_addErrand.at 28 rfl) rfl ?_
      refine Ev_iconst (dt_X9_addErrand.at 29 rfl) ki_4 ?_
      refine Ev_imul (dt_X9_addErrand.at 30 rfl) ?_
      refine Ev_iload 0 (dt_X9_addErrand.at 31 rfl) rfl ?_
      refine Ev_iadd (dt_X9_addErrand.at 32 rfl) ?_
      refine Ev_iload_n 4 (dt_X9_addErrand.at 33 rfl) rfl ?_
      obtain ⟨g9, h⟩ := oGuard h
      refine Ev_iastore 11 (dt_X9_addErrand.at 34 rfl) sk_11 g9 ?_
      refine Ev_nmS (fun s10 es10 => ?_)
      replace h := oLt h es10
      refine Ev_aload_n 1 (dt_X9_addErrand.at 35 rfl) rfl ?_
      refine Ev_get (i := 2) (v := .ref 9) (dt_X9_addErrand.at 36 rfl) ff_X9_18 sk_6 rfl rfl ?_
      refine Ev_iload_n 2 (dt_X9_addErrand.at 37 rfl) rfl ?_
      refine Ev_dup2 (dt_X9_addErrand.at 38 rfl) rfl rfl ?_
      obtain ⟨g11, h⟩ := oGuard h
      refine Ev_iaload 9 (dt_X9_addErrand.at 39 rfl) sk_9 g11 ?_
      refine Ev_iconst (dt_X9_addErrand.at 40 rfl) ki_1 ?_
      refine Ev_iadd (dt_X9_addErrand.at 41 rfl) ?_
      obtain ⟨g12, h⟩ := oGuard h
      refine Ev_iastore 9 (dt_X9_addErrand.at 42 rfl) sk_9 g12 ?_
      refine Ev_nmS (fun s13 es13 => ?_)
      replace h := oLt h es13
      refine Ev_iload 0 (dt_X9_addErrand.at 43 rfl) rfl ?_
      exact Ev_iret (dt_X9_addErrand.at 44 rfl) rfl h
    · replace h := oNeg h c4
      refine Ev_iconst (dt_X9_addErrand.at 10 rfl) ki_m1 ?_
      exact Ev_iret (dt_X9_addErrand.at 11 rfl) rfl h
def j_TownReader_readErrand_49  (σ : Sg) (v1 : Int32) : Option Sg :=
  (s_TownReader_number σ 0 ((gI σ 6 5) - 1)).bind fun q4 =>
  (s_TownReader_number q4.2 0 9).bind fun q5 =>
  (s_TownReader_end q5.2 ).bind fun q6 =>
  if (gI q6 4 4) = (-1) then
    (s_Town_addErrand_6 q6 v1 q4.1 q5.1).bind fun q8 =>
    some q8.2
  else
    some q6
def s_TownReader_readErrand (σ : Sg)  : Option Sg :=
  (s_TownReader_number σ 0 ((gI σ 6 6) - 1)).bind fun q1 =>
  (s_Town_hasPerson_6 q1.2 q1.1).bind fun q2 =>
  if q2 = 0 then
    j_TownReader_readErrand_49  q1.2 q1.1
  else
    if inB q1.1 9 = true then
      if (gI q1.2 9 (Int32.toNatClampNeg q1.1)) < 4 then
        j_TownReader_readErrand_49  q1.2 q1.1
      else
        lt (pI q1.2 4 4 ((gI q1.2 4 3) - 1) : Sg) fun s11 =>
        j_TownReader_readErrand_49  s11 q1.1
    else none
set_option maxRecDepth 100000 in
set_option maxHeartbeats 4000000 in
theorem wj_TownReader_readErrand_49  (σ : Sg) (v1 : Int32) (q : Sg) (h : (j_TownReader_readErrand_49  σ v1) = some q) : Ev M_X10_readErrand 2 none q 49 [(0, .ref 4), (1, .int v1)] [] σ := by
  unfold j_TownReader_readErrand_49 at h
  refine Ev_aload_n 0 (dt_X10_readErrand.at 27 rfl) rfl ?_
  refine Ev_iconst (dt_X10_readErrand.at 28 rfl) ki_0 ?_
  refine Ev_aload_n 0 (dt_X10_readErrand.at 29 rfl) rfl ?_
  refine Ev_get (i := 0) (v := .ref 6) (dt_X10_readErrand.at 30 rfl) ff_X10_12 sk_4 rfl rfl ?_
  refine Ev_get (i := 5) (v := .int (gI σ 6 5)) (dt_X10_readErrand.at 31 rfl) ff_X10_83 sk_6 rfl rfl ?_
  refine Ev_iconst (dt_X10_readErrand.at 32 rfl) ki_1 ?_
  refine Ev_isub (dt_X10_readErrand.at 33 rfl) ?_
  obtain ⟨q4, hq4, h⟩ := oBind h
  refine Ev_callV (st := []) (st' := [.int q4.1]) [.int 0, .int ((gI σ 6 5) - 1)] (dt_X10_readErrand.at 34 rfl) cf_X10_77 (w_TownReader_number σ 0 ((gI σ 6 5) - 1) q4 hq4) (by decide) sk_4 rfl rfl rfl (Nat.le_of_ble_eq_true rfl) rfl ?_
  refine Ev_istore_n (dt_X10_readErrand.at 35 rfl) (by decide) (ls' := [(2, .int q4.1), (0, .ref 4), (1, .int v1)]) rfl ?_
  refine Ev_aload_n 1 (dt_X10_readErrand.at 36 rfl) rfl ?_
  refine Ev_iconst (dt_X10_readErrand.at 37 rfl) ki_0 ?_
  refine Ev_bipush (dt_X10_readErrand.at 38 rfl) kb_9 ?_
  obtain ⟨q5, hq5, h⟩ := oBind h
  refine Ev_callV (st := []) (st' := [.int q5.1]) [.int 0, .int 9] (dt_X10_readErrand.at 39 rfl) cf_X10_77 (w_TownReader_number q4.2 0 9 q5 hq5) (by decide) sk_4 rfl rfl rfl (Nat.le_of_ble_eq_true rfl) rfl ?_
  refine Ev_istore_n (dt_X10_readErrand.at 40 rfl) (by decide) (ls' := [(3, .int q5.1), (2, .int q4.1), (0, .ref 4), (1, .int v1)]) rfl ?_
  refine Ev_aload_n 2 (dt_X10_readErrand.at 41 rfl) rfl ?_
  obtain ⟨q6, hq6, h⟩ := oBind h
  refine Ev_callV (st := []) (st' := []) [] (dt_X10_readErrand.at 42 rfl) cf_X10_80 (w_TownReader_end q5.2  q6 hq6) (by decide) sk_4 rfl rfl rfl (Nat.le_of_ble_eq_true rfl) rfl ?_
  refine Ev_aload_n 2 (dt_X10_readErrand.at 43 rfl) rfl ?_
  refine Ev_get (i := 4) (v := .int (gI q6 4 4)) (dt_X10_readErrand.at 44 rfl) ff_X10_35 sk_4 rfl rfl ?_
  refine Ev_iconst (dt_X10_readErrand.at 45 rfl) ki_m1 ?_
  refine Ev_icmp_ne (tgt := 95) (dt_X10_readErrand.at 46 rfl) (by decide) (fun c7 => ?_) (fun c7 => ?_)
  · replace h := oNeg h c7
    exact Ev_vret (dt_X10_readErrand.at 54 rfl) rfl h
  · replace h := oPos h c7
    refine Ev_aload_n 2 (dt_X10_readErrand.at 47 rfl) rfl ?_
    refine Ev_get (i := 0) (v := .ref 6) (dt_X10_readErrand.at 48 rfl) ff_X10_12 sk_4 rfl rfl ?_
    refine Ev_iload_n 3 (dt_X10_readErrand.at 49 rfl) rfl ?_
    refine Ev_iload_n 1 (dt_X10_readErrand.at 50 rfl) rfl ?_
    refine Ev_iload_n 0 (dt_X10_readErrand.at 51 rfl) rfl ?_
    obtain ⟨q8, hq8, h⟩ := oBind h
    refine Ev_callV (st := []) (st' := [.int q8.1]) [.int v1, .int q4.1, .int q5.1] (dt_X10_readErrand.at 52 rfl) cf_X10_95 (w_Town_addErrand_6 q6 v1 q4.1 q5.1 q8 hq8) (by decide) sk_6 rfl rfl rfl (Nat.le_of_ble_eq_true rfl) rfl ?_
    refine Ev_pop (dt_X10_readErrand.at 53 rfl) rfl ?_
    exact Ev_vret (dt_X10_readErrand.at 54 rfl) rfl h
set_option maxRecDepth 100000 in
set_option maxHeartbeats 4000000 in
theorem w_TownReader_readErrand (σ : Sg)  (q : Sg) (h : s_TownReader_readErrand σ  = some q) : Cal M_X10_readErrand 2 [.ref 4] σ none q := by
  refine Cal.of (M := M_X10_readErrand) (by decide +kernel) (Nat.le_of_ble_eq_true rfl) ?_
  show Ev _ _ _ _ 0 [(0, .ref 4)] [] σ
  unfold s_TownReader_readErrand at h
  refine Ev_aload_n 0 (dt_X10_readErrand.at 0 rfl) rfl ?_
  refine Ev_iconst (dt_X10_readErrand.at 1 rfl) ki_0 ?_
  refine Ev_aload_n 0 (dt_X10_readErrand.at 2 rfl) rfl ?_
  refine Ev_get (i := 0) (v := .ref 6) (dt_X10_readErrand.at 3 rfl) ff_X10_12 sk_4 rfl rfl ?_
  refine Ev_get (i := 6) (v := .int (gI σ 6 6)) (dt_X10_readErrand.at 4 rfl) ff_X10_66 sk_6 rfl rfl ?_
  refine Ev_iconst (dt_X10_readErrand.at 5 rfl) ki_1 ?_
  refine Ev_isub (dt_X10_readErrand.at 6 rfl) ?_
  obtain ⟨q1, hq1, h⟩ := oBind h
  refine Ev_callV (st := []) (st' := [.int q1.1]) [.int 0, .int ((gI σ 6 6) - 1)] (dt_X10_readErrand.at 7 rfl) cf_X10_77 (w_TownReader_number σ 0 ((gI σ 6 6) - 1) q1 hq1) (by decide) sk_4 rfl rfl rfl (Nat.le_of_ble_eq_true rfl) rfl ?_
  refine Ev_istore_n (dt_X10_readErrand.at 8 rfl) (by decide) (ls' := [(1, .int q1.1), (0, .ref 4)]) rfl ?_
  refine Ev_aload_n 1 (dt_X10_readErrand.at 9 rfl) rfl ?_
  refine Ev_get (i := 0) (v := .ref 6) (dt_X10_readErrand.at 10 rfl) ff_X10_12 sk_4 rfl rfl ?_
  refine Ev_iload_n 0 (dt_X10_readErrand.at 11 rfl) rfl ?_
  obtain ⟨q2, hq2, h⟩ := oBind h
  refine Ev_callV (st := []) (st' := [.int q2]) [.int q1.1] (dt_X10_readErrand.at 12 rfl) cf_X10_88 (w_Town_hasPerson_6 q1.2 q1.1 q2 hq2) (by decide) sk_6 rfl rfl rfl (Nat.le_of_ble_eq_true rfl) rfl ?_
  refine Ev_if_eq (tgt := 49) (dt_X10_readErrand.at 13 rfl) (by decide) (fun c3 => ?_) (fun c3 => ?_)
  · replace h := oPos h c3
    refine Ev_sub [1, 0] (ls' := [(0, .ref 4), (1, .int q1.1)]) rfl ?_
    exact wj_TownReader_readErrand_49  q1.2 q1.1 q h
  · replace h := oNeg h c3
    refine Ev_aload_n 1 (dt_X10_readErrand.at 14 rfl) rfl ?_
    refine Ev_get (i := 0) (v := .ref 6) (dt_X10_readErrand.at 15 rfl) ff_X10_12 sk_4 rfl rfl ?_
    refine Ev_get (i := 2) (v := .ref 9) (dt_X10_readErrand.at 16 rfl) ff_X10_92 sk_6 rfl rfl ?_
    refine Ev_iload_n 0 (dt_X10_readErrand.at 17 rfl) rfl ?_
    obtain ⟨g9, h⟩ := oGuard h
    refine Ev_iaload 9 (dt_X10_readErrand.at 18 rfl) sk_9 g9 ?_
    refine Ev_iconst (dt_X10_readErrand.at 19 rfl) ki_4 ?_
    refine Ev_icmp_lt (tgt := 49) (dt_X10_readErrand.at 20 rfl) (by decide) (fun c10 => ?_) (fun c10 => ?_)
    · replace h := oPos h c10
      refine Ev_sub [1, 0] (ls' := [(0, .ref 4), (1, .int q1.1)]) rfl ?_
      exact wj_TownReader_readErrand_49  q1.2 q1.1 q h
    · replace h := oNeg h c10
      refine Ev_aload_n 1 (dt_X10_readErrand.at 21 rfl) rfl ?_
      refine Ev_aload_n 1 (dt_X10_readErrand.at 22 rfl) rfl ?_
      refine Ev_get (i := 3) (v := .int (gI q1.2 4 3)) (dt_X10_readErrand.at 23 rfl) ff_X10_32 sk_4 rfl rfl ?_
      refine Ev_iconst (dt_X10_readErrand.at 24 rfl) ki_1 ?_
      refine Ev_isub (dt_X10_readErrand.at 25 rfl) ?_
      refine Ev_putI (dt_X10_readErrand.at 26 rfl) ff_X10_35 fw_10_4 sk_4 rfl ?_
      refine Ev_nmS (fun s11 es11 => ?_)
      replace h := oLt h es11
      refine Ev_sub [1, 0] (ls' := [(0, .ref 4), (1, .int q1.1)]) rfl ?_
      exact wj_TownReader_readErrand_49  s11 q1.1 q h
def s_Town_addPerson_6 (σ : Sg) (a1 : Int32) (a2 : Int32) : Option (Int32 × Sg) :=
  if (gI σ 6 6) < 9 then
    if inB (gI σ 6 6) 9 = true then
      lt (pI σ 7 (Int32.toNatClampNeg (gI σ 6 6)) a1 : Sg) fun s3 =>
      if inB (gI s3 6 6) 9 = true then
        lt (pI s3 8 (Int32.toNatClampNeg (gI s3 6 6)) a2 : Sg) fun s5 =>
        if inB (gI s5 6 6) 9 = true then
          lt (pI s5 9 (Int32.toNatClampNeg (gI s5 6 6)) 0 : Sg) fun s7 =>
          lt (pI s7 6 6 ((gI s7 6 6) + 1) : Sg) fun s8 =>
          some (((gI s8 6 6) - 1), s8)
        else none
      else none
    else none
  else
    some ((-1), σ)
set_option maxRecDepth 100000 in
set_option maxHeartbeats 4000000 in
theorem w_Town_addPerson_6 (σ : Sg) (a1 : Int32) (a2 : Int32) (q : (Int32 × Sg)) (h : s_Town_addPerson_6 σ a1 a2 = some q) : Cal M_X9_addPerson 0 [.ref 6, .int a1, .int a2] σ (some (.int q.1)) q.2 := by
  refine Cal.of (M := M_X9_addPerson) (by decide +kernel) (Nat.le_of_ble_eq_true rfl) ?_
  show Ev _ _ _ _ 0 [(0, .ref 6), (1, .int a1), (2, .int a2)] [] σ
  unfold s_Town_addPerson_6 at h
  refine Ev_aload_n 0 (dt_X9_addPerson.at 0 rfl) rfl ?_
  refine Ev_get (i := 6) (v := .int (gI σ 6 6)) (dt_X9_addPerson.at 1 rfl) ff_X9_31 sk_6 rfl rfl ?_
  refine Ev_bipush (dt_X9_addPerson.at 2 rfl) kb_9 ?_
  refine Ev_icmp_lt (tgt := 11) (dt_X9_addPerson.at 3 rfl) (by decide) (fun c1 => ?_) (fun c1 => ?_)
  · replace h := oPos h c1
    refine Ev_aload_n 0 (dt_X9_addPerson.at 6 rfl) rfl ?_
    refine Ev_get (i := 0) (v := .ref 7) (dt_X9_addPerson.at 7 rfl) ff_X9_9 sk_6 rfl rfl ?_
    refine Ev_aload_n 0 (dt_X9_addPerson.at 8 rfl) rfl ?_
    refine Ev_get (i := 6) (v := .int (gI σ 6 6)) (dt_X9_addPerson.at 9 rfl) ff_X9_31 sk_6 rfl rfl ?_
    refine Ev_iload_n 1 (dt_X9_addPerson.at 10 rfl) rfl ?_
    obtain ⟨g2, h⟩ := oGuard h
    refine Ev_iastore 7 (dt_X9_addPerson.at 11 rfl) sk_7 g2 ?_
    refine Ev_nmS (fun s3 es3 => ?_)
    replace h := oLt h es3
    refine Ev_aload_n 0 (dt_X9_addPerson.at 12 rfl) rfl ?_
    refine Ev_get (i := 1) (v := .ref 8) (dt_X9_addPerson.at 13 rfl) ff_X9_15 sk_6 rfl rfl ?_
    refine Ev_aload_n 0 (dt_X9_addPerson.at 14 rfl) rfl ?_
    refine Ev_get (i := 6) (v := .int (gI s3 6 6)) (dt_X9_addPerson.at 15 rfl) ff_X9_31 sk_6 rfl rfl ?_
    refine Ev_iload_n 2 (dt_X9_addPerson.at 16 rfl) rfl ?_
    obtain ⟨g4, h⟩ := oGuard h
    refine Ev_iastore 8 (dt_X9_addPerson.at 17 rfl) sk_8 g4 ?_
    refine Ev_nmS (fun s5 es5 => ?_)
    replace h := oLt h es5
    refine Ev_aload_n 0 (dt_X9_addPerson.at 18 rfl) rfl ?_
    refine Ev_get (i := 2) (v := .ref 9) (dt_X9_addPerson.at 19 rfl) ff_X9_18 sk_6 rfl rfl ?_
    refine Ev_aload_n 0 (dt_X9_addPerson.at 20 rfl) rfl ?_
    refine Ev_get (i := 6) (v := .int (gI s5 6 6)) (dt_X9_addPerson.at 21 rfl) ff_X9_31 sk_6 rfl rfl ?_
    refine Ev_iconst (dt_X9_addPerson.at 22 rfl) ki_0 ?_
    obtain ⟨g6, h⟩ := oGuard h
    refine Ev_iastore 9 (dt_X9_addPerson.at 23 rfl) sk_9 g6 ?_
    refine Ev_nmS (fun s7 es7 => ?_)
    replace h := oLt h es7
    refine Ev_aload_n 0 (dt_X9_addPerson.at 24 rfl) rfl ?_
    refine Ev_dup (dt_X9_addPerson.at 25 rfl) rfl ?_
    refine Ev_get (i := 6) (v := .int (gI s7 6 6)) (dt_X9_addPerson.at 26 rfl) ff_X9_31 sk_6 rfl rfl ?_
    refine Ev_iconst (dt_X9_addPerson.at 27 rfl) ki_1 ?_
    refine Ev_iadd (dt_X9_addPerson.at 28 rfl) ?_
    refine Ev_putI (dt_X9_addPerson.at 29 rfl) ff_X9_31 fw_9_6 sk_6 rfl ?_
    refine Ev_nmS (fun s8 es8 => ?_)
    replace h := oLt h es8
    refine Ev_aload_n 0 (dt_X9_addPerson.at 30 rfl) rfl ?_
    refine Ev_get (i := 6) (v := .int (gI s8 6 6)) (dt_X9_addPerson.at 31 rfl) ff_X9_31 sk_6 rfl rfl ?_
    refine Ev_iconst (dt_X9_addPerson.at 32 rfl) ki_1 ?_
    refine Ev_isub (dt_X9_addPerson.at 33 rfl) ?_
    exact Ev_iret (dt_X9_addPerson.at 34 rfl) rfl h
  · replace h := oNeg h c1
    refine Ev_iconst (dt_X9_addPerson.at 4 rfl) ki_m1 ?_
    exact Ev_iret (dt_X9_addPerson.at 5 rfl) rfl h
def s_TownReader_readPerson (σ : Sg)  : Option Sg :=
  (s_TownReader_number σ 0 4).bind fun q1 =>
  (s_TownReader_number q1.2 1 9).bind fun q2 =>
  (s_TownReader_end q2.2 ).bind fun q3 =>
  if (gI q3 4 4) = (-1) then
    (s_Town_addPerson_6 q3 q1.1 q2.1).bind fun q5 =>
    some q5.2
  else
    some q3
set_option maxRecDepth 100000 in
set_option maxHeartbeats 4000000 in
theorem w_TownReader_readPerson (σ : Sg)  (q : Sg) (h : s_TownReader_readPerson σ  = some q) : Cal M_X10_readPerson 2 [.ref 4] σ none q := by
  refine Cal.of (M := M_X10_readPerson) (by decide +kernel) (Nat.le_of_ble_eq_true rfl) ?_
  show Ev _ _ _ _ 0 [(0, .ref 4)] [] σ
  unfold s_TownReader_readPerson at h
  refine Ev_aload_n 0 (dt_X10_readPerson.at 0 rfl) rfl ?_
  refine Ev_iconst (dt_X10_readPerson.at 1 rfl) ki_0 ?_
  refine Ev_iconst (dt_X10_readPerson.at 2 rfl) ki_4 ?_
  obtain ⟨q1, hq1, h⟩ := oBind h
  refine Ev_callV (st := []) (st' := [.int q1.1]) [.int 0, .int 4] (dt_X10_readPerson.at 3 rfl) cf_X10_77 (w_TownReader_number σ 0 4 q1 hq1) (by decide) sk_4 rfl rfl rfl (Nat.le_of_ble_eq_true rfl) rfl ?_
  refine Ev_istore_n (dt_X10_readPerson.at 4 rfl) (by decide) (ls' := [(1, .int q1.1), (0, .ref 4)]) rfl ?_
  refine Ev_aload_n 1 (dt_X10_readPerson.at 5 rfl) rfl ?_
  refine Ev_iconst (dt_X10_readPerson.at 6 rfl) ki_1 ?_
  refine Ev_bipush (dt_X10_readPerson.at 7 rfl) kb_9 ?_
  obtain ⟨q2, hq2, h⟩ := oBind h
  refine Ev_callV (st := []) (st' := [.int q2.1]) [.int 1, .int 9] (dt_X10_readPerson.at 8 rfl) cf_X10_77 (w_TownReader_number q1.2 1 9 q2 hq2) (by decide) sk_4 rfl rfl rfl (Nat.le_of_ble_eq_true rfl) rfl ?_
  refine Ev_istore_n (dt_X10_readPerson.at 9 rfl) (by decide) (ls' := [(2, .int q2.1), (1, .int q1.1), (0, .ref 4)]) rfl ?_
  refine Ev_aload_n 2 (dt_X10_readPerson.at 10 rfl) rfl ?_
  obtain ⟨q3, hq3, h⟩ := oBind h
  refine Ev_callV (st := []) (st' := []) [] (dt_X10_readPerson.at 11 rfl) cf_X10_80 (w_TownReader_end q2.2  q3 hq3) (by decide) sk_4 rfl rfl rfl (Nat.le_of_ble_eq_true rfl) rfl ?_
  refine Ev_aload_n 2 (dt_X10_readPerson.at 12 rfl) rfl ?_
  refine Ev_get (i := 4) (v := .int (gI q3 4 4)) (dt_X10_readPerson.at 13 rfl) ff_X10_35 sk_4 rfl rfl ?_
  refine Ev_iconst (dt_X10_readPerson.at 14 rfl) ki_m1 ?_
  refine Ev_icmp_ne (tgt := 37) (dt_X10_readPerson.at 15 rfl) (by decide) (fun c4 => ?_) (fun c4 => ?_)
  · replace h := oNeg h c4
    exact Ev_vret (dt_X10_readPerson.at 22 rfl) rfl h
  · replace h := oPos h c4
    refine Ev_aload_n 2 (dt_X10_readPerson.at 16 rfl) rfl ?_
    refine Ev_get (i := 0) (v := .ref 6) (dt_X10_readPerson.at 17 rfl) ff_X10_12 sk_4 rfl rfl ?_
    refine Ev_iload_n 1 (dt_X10_readPerson.at 18 rfl) rfl ?_
    refine Ev_iload_n 0 (dt_X10_readPerson.at 19 rfl) rfl ?_
    obtain ⟨q5, hq5, h⟩ := oBind h
    refine Ev_callV (st := []) (st' := [.int q5.1]) [.int q1.1, .int q2.1] (dt_X10_readPerson.at 20 rfl) cf_X10_85 (w_Town_addPerson_6 q3 q1.1 q2.1 q5 hq5) (by decide) sk_6 rfl rfl rfl (Nat.le_of_ble_eq_true rfl) rfl ?_
    refine Ev_pop (dt_X10_readPerson.at 21 rfl) rfl ?_
    exact Ev_vret (dt_X10_readPerson.at 22 rfl) rfl h
def b_Town_errandsOfAll_6_4 (σ : Sg) (x : (Int32 × Int32)) : Option ((Int32 × Int32) ⊕ (Int32 × Int32)) :=
  if (gI σ 6 6) ≤ x.2 then
    some (.inr (x.1, x.2))
  else
    if inB x.2 9 = true then
      lt ((x.1 + (gI σ 9 (Int32.toNatClampNeg x.2))) : Int32) fun x3 =>
      lt (x.2 + 1 : Int32) fun x4 =>
      some (.inl (x3, x4))
    else none
def s_Town_errandsOfAll_6 (σ : Sg)  : Option Int32 :=
  (lp (b_Town_errandsOfAll_6_4 σ) 100000 (0, 0)).bind fun o5 =>
  some o5.1
set_option maxRecDepth 100000 in
set_option maxHeartbeats 4000000 in
theorem wb_Town_errandsOfAll_6_4 (σ : Sg) (x : (Int32 × Int32)) (r : Option Value) (τ : Sg) (o : ((Int32 × Int32) ⊕ (Int32 × Int32))) (h : (b_Town_errandsOfAll_6_4 σ x) = some o) (hc : ∀ y : (Int32 × Int32), o = .inl y → Ev M_X9_errandsOfAll 0 r τ 4 [(0, .ref 6), (1, .int y.1), (2, .int y.2)] [] σ) (he : ∀ y : (Int32 × Int32), o = .inr y → Ev M_X9_errandsOfAll 0 r τ 27 [(1, .int y.1)] [] σ) : Ev M_X9_errandsOfAll 0 r τ 4 [(0, .ref 6), (1, .int x.1), (2, .int x.2)] [] σ := by
  unfold b_Town_errandsOfAll_6_4 at h
  refine Ev_iload_n 2 (dt_X9_errandsOfAll.at 4 rfl) rfl ?_
  refine Ev_aload_n 0 (dt_X9_errandsOfAll.at 5 rfl) rfl ?_
  refine Ev_get (i := 6) (v := .int (gI σ 6 6)) (dt_X9_errandsOfAll.at 6 rfl) ff_X9_31 sk_6 rfl rfl ?_
  refine Ev_icmp_ge (tgt := 27) (dt_X9_errandsOfAll.at 7 rfl) (by decide) (fun c1 => ?_) (fun c1 => ?_)
  · replace h := oPos h c1
    refine Ev_sub [1] (ls' := [(1, .int x.1)]) rfl ?_
    exact he (x.1, x.2) (Option.some.inj h).symm
  · replace h := oNeg h c1
    refine Ev_iload_n 1 (dt_X9_errandsOfAll.at 8 rfl) rfl ?_
    refine Ev_aload_n 0 (dt_X9_errandsOfAll.at 9 rfl) rfl ?_
    refine Ev_get (i := 2) (v := .ref 9) (dt_X9_errandsOfAll.at 10 rfl) ff_X9_18 sk_6 rfl rfl ?_
    refine Ev_iload_n 2 (dt_X9_errandsOfAll.at 11 rfl) rfl ?_
    obtain ⟨g2, h⟩ := oGuard h
    refine Ev_iaload 9 (dt_X9_errandsOfAll.at 12 rfl) sk_9 g2 ?_
    refine Ev_iadd (dt_X9_errandsOfAll.at 13 rfl) ?_
    refine Ev_nmI (fun x3 ex3 => ?_)
    replace h := oLt h ex3
    refine Ev_istore_n (dt_X9_errandsOfAll.at 14 rfl) (by decide) (ls' := [(1, .int x3), (0, .ref 6), (2, .int x.2)]) rfl ?_
    obtain ⟨x4, ex4⟩ : ∃ z : Int32, z = x.2 + 1 := ⟨_, rfl⟩
    replace h := oLt h ex4
    refine Ev_iinc (v := x4) 2 (dt_X9_errandsOfAll.at 15 rfl) rfl (ex4.trans (congrArg (fun z => x.2 + z) ki_1.symm)) (by decide) (ls' := [(2, .int x4), (1, .int x3), (0, .ref 6)]) rfl ?_
    refine Ev_goto (tgt := 4) (dt_X9_errandsOfAll.at 16 rfl) (by decide) ?_
    refine Ev_sub [2, 1, 0] (ls' := [(0, .ref 6), (1, .int x3), (2, .int x4)]) rfl ?_
    exact hc (x3, x4) (Option.some.inj h).symm
set_option maxRecDepth 100000 in
set_option maxHeartbeats 4000000 in
theorem wl_Town_errandsOfAll_6_4 (σ : Sg) (r : Option Value) (τ : Sg) (n : Nat) (x : (Int32 × Int32)) (z : (Int32 × Int32)) (h : lp (b_Town_errandsOfAll_6_4 σ) n x = some z) (he : ∀ y : (Int32 × Int32), z = y → Ev M_X9_errandsOfAll 0 r τ 27 [(1, .int y.1)] [] σ) : Ev M_X9_errandsOfAll 0 r τ 4 [(0, .ref 6), (1, .int x.1), (2, .int x.2)] [] σ := by
  refine lp_ind (E := fun x : (Int32 × Int32) => Ev M_X9_errandsOfAll 0 r τ 4 [(0, .ref 6), (1, .int x.1), (2, .int x.2)] [] σ) (fun x => ⟨fun y hb hy => ?_, fun hb => ?_⟩) n x h
  · exact wb_Town_errandsOfAll_6_4 σ x r τ _ hb (fun y' e => by cases e; exact hy) (fun y' e => by cases e)
  · exact wb_Town_errandsOfAll_6_4 σ x r τ _ hb (fun y' e => by cases e) (fun y' e => he y' (Sum.inr.inj e))
set_option maxRecDepth 100000 in
set_option maxHeartbeats 4000000 in
theorem w_Town_errandsOfAll_6 (σ : Sg)  (q : Int32) (h : s_Town_errandsOfAll_6 σ  = some q) : Cal M_X9_errandsOfAll 0 [.ref 6] σ (some (.int q)) σ := by
  refine Cal.of (M := M_X9_errandsOfAll) (by decide +kernel) (Nat.le_of_ble_eq_true rfl) ?_
  show Ev _ _ _ _ 0 [(0, .ref 6)] [] σ
  unfold s_Town_errandsOfAll_6 at h
  refine Ev_iconst (dt_X9_errandsOfAll.at 0 rfl) ki_0 ?_
  refine Ev_istore_n (dt_X9_errandsOfAll.at 1 rfl) (by decide) (ls' := [(1, .int 0), (0, .ref 6)]) rfl ?_
  refine Ev_iconst (dt_X9_errandsOfAll.at 2 rfl) ki_0 ?_
  refine Ev_istore_n (dt_X9_errandsOfAll.at 3 rfl) (by decide) (ls' := [(2, .int 0), (1, .int 0), (0, .ref 6)]) rfl ?_
  refine Ev_sub [2, 1, 0] (ls' := [(0, .ref 6), (1, .int 0), (2, .int 0)]) rfl ?_
  obtain ⟨o5, ho5, h⟩ := oBind h
  refine wl_Town_errandsOfAll_6_4 σ _ _ 100000 (0, 0) o5 ho5 (fun y ey => ?_)
  subst ey
  refine Ev_iload_n 0 (dt_X9_errandsOfAll.at 17 rfl) rfl ?_
  exact Ev_iret (dt_X9_errandsOfAll.at 18 rfl) rfl (oRet h)
def s_TownReader_readPlaces (σ : Sg)  : Option Sg :=
  (s_TownReader_number σ 1 6).bind fun q1 =>
  (s_TownReader_end q1.2 ).bind fun q2 =>
  if (gI q2 4 4) = (-1) then
    lt (pI q2 6 5 q1.1 : Sg) fun s4 =>
    some s4
  else
    some q2
set_option maxRecDepth 100000 in
set_option maxHeartbeats 4000000 in
theorem w_TownReader_readPlaces (σ : Sg)  (q : Sg) (h : s_TownReader_readPlaces σ  = some q) : Cal M_X10_readPlaces 2 [.ref 4] σ none q := by
  refine Cal.of (M := M_X10_readPlaces) (by decide +kernel) (Nat.le_of_ble_eq_true rfl) ?_
  show Ev _ _ _ _ 0 [(0, .ref 4)] [] σ
  unfold s_TownReader_readPlaces at h
  refine Ev_aload_n 0 (dt_X10_readPlaces.at 0 rfl) rfl ?_
  refine Ev_iconst (dt_X10_readPlaces.at 1 rfl) ki_1 ?_
  refine Ev_bipush (dt_X10_readPlaces.at 2 rfl) kb_6 ?_
  obtain ⟨q1, hq1, h⟩ := oBind h
  refine Ev_callV (st := []) (st' := [.int q1.1]) [.int 1, .int 6] (dt_X10_readPlaces.at 3 rfl) cf_X10_77 (w_TownReader_number σ 1 6 q1 hq1) (by decide) sk_4 rfl rfl rfl (Nat.le_of_ble_eq_true rfl) rfl ?_
  refine Ev_istore_n (dt_X10_readPlaces.at 4 rfl) (by decide) (ls' := [(1, .int q1.1), (0, .ref 4)]) rfl ?_
  refine Ev_aload_n 1 (dt_X10_readPlaces.at 5 rfl) rfl ?_
  obtain ⟨q2, hq2, h⟩ := oBind h
  refine Ev_callV (st := []) (st' := []) [] (dt_X10_readPlaces.at 6 rfl) cf_X10_80 (w_TownReader_end q1.2  q2 hq2) (by decide) sk_4 rfl rfl rfl (Nat.le_of_ble_eq_true rfl) rfl ?_
  refine Ev_aload_n 1 (dt_X10_readPlaces.at 7 rfl) rfl ?_
  refine Ev_get (i := 4) (v := .int (gI q2 4 4)) (dt_X10_readPlaces.at 8 rfl) ff_X10_35 sk_4 rfl rfl ?_
  refine Ev_iconst (dt_X10_readPlaces.at 9 rfl) ki_m1 ?_
  refine Ev_icmp_ne (tgt := 28) (dt_X10_readPlaces.at 10 rfl) (by decide) (fun c3 => ?_) (fun c3 => ?_)
  · replace h := oNeg h c3
    exact Ev_vret (dt_X10_readPlaces.at 15 rfl) rfl h
  · replace h := oPos h c3
    refine Ev_aload_n 1 (dt_X10_readPlaces.at 11 rfl) rfl ?_
    refine Ev_get (i := 0) (v := .ref 6) (dt_X10_readPlaces.at 12 rfl) ff_X10_12 sk_4 rfl rfl ?_
    refine Ev_iload_n 0 (dt_X10_readPlaces.at 13 rfl) rfl ?_
    refine Ev_putI (dt_X10_readPlaces.at 14 rfl) ff_X10_83 fw_9_5 sk_6 rfl ?_
    refine Ev_nmS (fun s4 es4 => ?_)
    replace h := oLt h es4
    exact Ev_vret (dt_X10_readPlaces.at 15 rfl) rfl h
