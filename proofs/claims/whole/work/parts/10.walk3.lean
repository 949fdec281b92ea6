def s_Hasty_vote (σ : Sg) (a2 : Int32) : Option Int32 :=
  (s_Day_mostPressing σ a2).bind fun q1 =>
  some q1
set_option maxRecDepth 100000 in
set_option maxHeartbeats 4000000 in
theorem w_Hasty_vote (σ : Sg) (a2 : Int32) (q : Int32) (h : s_Hasty_vote σ a2 = some q) : Cal M_X2_vote 2 [.ref 39, .ref 31, .int a2] σ (some (.int q)) σ := by
  refine Cal.of (M := M_X2_vote) (by decide +kernel) (Nat.le_of_ble_eq_true rfl) ?_
  show Ev _ _ _ _ 0 [(0, .ref 39), (1, .ref 31), (2, .int a2)] [] σ
  unfold s_Hasty_vote at h
  refine Ev_aload_n 1 (dt_X2_vote.at 0 rfl) rfl ?_
  refine Ev_iload_n 2 (dt_X2_vote.at 1 rfl) rfl ?_
  obtain ⟨q1, hq1, h⟩ := oBind h
  refine Ev_callV (st := []) (st' := [.int q1]) [.int a2] (dt_X2_vote.at 2 rfl) cf_X2_7 (w_Day_mostPressing σ a2 q1 hq1) (by decide) sk_31 rfl rfl rfl (Nat.le_of_ble_eq_true rfl) rfl ?_
  exact Ev_iret (dt_X2_vote.at 3 rfl) rfl (oRet h)
def s_Day_firstUndone (σ : Sg) (a1 : Int32) : Option Int32 :=
  if inB a1 3 = true then
    lt (((gI σ 33 (Int32.toNatClampNeg a1)) * 4) : Int32) fun x2 =>
    if inB a1 3 = true then
      if inB (gI σ 33 (Int32.toNatClampNeg a1)) 9 = true then
        if (gI σ 22 (Int32.toNatClampNeg (gI σ 33 (Int32.toNatClampNeg a1)))) = 0 then
          some (-1)
        else
          if inB x2 36 = true then
            if (gI σ 36 (Int32.toNatClampNeg x2)) = 0 then
              if inB x2 36 = true then
                some (gI σ 23 (Int32.toNatClampNeg x2))
              else none
            else
              some (-1)
          else none
      else none
    else none
  else none
set_option maxRecDepth 100000 in
set_option maxHeartbeats 4000000 in
theorem w_Day_firstUndone (σ : Sg) (a1 : Int32) (q : Int32) (h : s_Day_firstUndone σ a1 = some q) : Cal M_X0_firstUndone 0 [.ref 31, .int a1] σ (some (.int q)) σ := by
  refine Cal.of (M := M_X0_firstUndone) (by decide +kernel) (Nat.le_of_ble_eq_true rfl) ?_
  show Ev _ _ _ _ 0 [(0, .ref 31), (1, .int a1)] [] σ
  unfold s_Day_firstUndone at h
  refine Ev_aload_n 0 (dt_X0_firstUndone.at 0 rfl) rfl ?_
  refine Ev_get (i := 2) (v := .ref 33) (dt_X0_firstUndone.at 1 rfl) ff_X0_17 sk_31 rfl rfl ?_
  refine Ev_iload_n 1 (dt_X0_firstUndone.at 2 rfl) rfl ?_
  obtain ⟨g1, h⟩ := oGuard h
  refine Ev_iaload 33 (dt_X0_firstUndone.at 3 rfl) sk_33 g1 ?_
  refine Ev_iconst (dt_X0_firstUndone.at 4 rfl) ki_4 ?_
  refine Ev_imul (dt_X0_firstUndone.at 5 rfl) ?_
  refine Ev_nmI (fun x2 ex2 => ?_)
  replace h := oLt h ex2
  refine Ev_istore_n (dt_X0_firstUndone.at 6 rfl) (by decide) (ls' := [(2, .int x2), (0, .ref 31), (1, .int a1)]) rfl ?_
  refine Ev_aload_n 1 (dt_X0_firstUndone.at 7 rfl) rfl ?_
  refine Ev_get (i := 0) (v := .ref 19) (dt_X0_firstUndone.at 8 rfl) ff_X0_34 sk_31 rfl rfl ?_
  refine Ev_get (i := 2) (v := .ref 22) (dt_X0_firstUndone.at 9 rfl) ff_X0_93 sk_19 rfl rfl ?_
  refine Ev_aload_n 1 (dt_X0_firstUndone.at 10 rfl) rfl ?_
  refine Ev_get (i := 2) (v := .ref 33) (dt_X0_firstUndone.at 11 rfl) ff_X0_17 sk_31 rfl rfl ?_
  refine Ev_iload_n 2 (dt_X0_firstUndone.at 12 rfl) rfl ?_
  obtain ⟨g3, h⟩ := oGuard h
  refine Ev_iaload 33 (dt_X0_firstUndone.at 13 rfl) sk_33 g3 ?_
  obtain ⟨g4, h⟩ := oGuard h
  refine Ev_iaload 22 (dt_X0_firstUndone.at 14 rfl) sk_22 g4 ?_
  refine Ev_if_eq (tgt := 35) (dt_X0_firstUndone.at 15 rfl) (by decide) (fun c5 => ?_) (fun c5 => ?_)
  · replace h := oPos h c5
    refine Ev_iconst (dt_X0_firstUndone.at 21 rfl) ki_m1 ?_
    refine Ev_goto (tgt := 48) (dt_X0_firstUndone.at 22 rfl) (by decide) ?_
    exact Ev_iret (dt_X0_firstUndone.at 28 rfl) rfl (oRet h)
  · replace h := oNeg h c5
    refine Ev_aload_n 1 (dt_X0_firstUndone.at 16 rfl) rfl ?_
    refine Ev_get (i := 5) (v := .ref 36) (dt_X0_firstUndone.at 17 rfl) ff_X0_28 sk_31 rfl rfl ?_
    refine Ev_iload_n 0 (dt_X0_firstUndone.at 18 rfl) rfl ?_
    obtain ⟨g6, h⟩ := oGuard h
    refine Ev_baload 36 (dt_X0_firstUndone.at 19 rfl) sk_36 g6 ?_
    refine Ev_if_eq (tgt := 39) (dt_X0_firstUndone.at 20 rfl) (by decide) (fun c7 => ?_) (fun c7 => ?_)
    · replace h := oPos h c7
      refine Ev_aload_n 1 (dt_X0_firstUndone.at 23 rfl) rfl ?_
      refine Ev_get (i := 0) (v := .ref 19) (dt_X0_firstUndone.at 24 rfl) ff_X0_34 sk_31 rfl rfl ?_
      refine Ev_get (i := 3) (v := .ref 23) (dt_X0_firstUndone.at 25 rfl) ff_X0_99 sk_19 rfl rfl ?_
      refine Ev_iload_n 0 (dt_X0_firstUndone.at 26 rfl) rfl ?_
      obtain ⟨g8, h⟩ := oGuard h
      refine Ev_iaload 23 (dt_X0_firstUndone.at 27 rfl) sk_23 g8 ?_
      exact Ev_iret (dt_X0_firstUndone.at 28 rfl) rfl (oRet h)
    · replace h := oNeg h c7
      refine Ev_iconst (dt_X0_firstUndone.at 21 rfl) ki_m1 ?_
      refine Ev_goto (tgt := 48) (dt_X0_firstUndone.at 22 rfl) (by decide) ?_
      exact Ev_iret (dt_X0_firstUndone.at 28 rfl) rfl (oRet h)
def s_Stubborn_vote (σ : Sg) (a2 : Int32) : Option Int32 :=
  (s_Day_firstUndone σ a2).bind fun q1 =>
  if q1 = (-1) then
    if inB a2 3 = true then
      some (gI σ 34 (Int32.toNatClampNeg a2))
    else none
  else
    some q1
set_option maxRecDepth 100000 in
set_option maxHeartbeats 4000000 in
theorem w_Stubborn_vote (σ : Sg) (a2 : Int32) (q : Int32) (h : s_Stubborn_vote σ a2 = some q) : Cal M_X8_vote 1 [.ref 40, .ref 31, .int a2] σ (some (.int q)) σ := by
  refine Cal.of (M := M_X8_vote) (by decide +kernel) (Nat.le_of_ble_eq_true rfl) ?_
  show Ev _ _ _ _ 0 [(0, .ref 40), (1, .ref 31), (2, .int a2)] [] σ
  unfold s_Stubborn_vote at h
  refine Ev_aload_n 1 (dt_X8_vote.at 0 rfl) rfl ?_
  refine Ev_iload_n 2 (dt_X8_vote.at 1 rfl) rfl ?_
  obtain ⟨q1, hq1, h⟩ := oBind h
  refine Ev_callV (st := []) (st' := [.int q1]) [.int a2] (dt_X8_vote.at 2 rfl) cf_X8_9 (w_Day_firstUndone σ a2 q1 hq1) (by decide) sk_31 rfl rfl rfl (Nat.le_of_ble_eq_true rfl) rfl ?_
  refine Ev_istore_n (dt_X8_vote.at 3 rfl) (by decide) (ls' := [(3, .int q1), (0, .ref 40), (1, .ref 31), (2, .int a2)]) rfl ?_
  refine Ev_iload_n 0 (dt_X8_vote.at 4 rfl) rfl ?_
  refine Ev_iconst (dt_X8_vote.at 5 rfl) ki_m1 ?_
  refine Ev_icmp_ne (tgt := 20) (dt_X8_vote.at 6 rfl) (by decide) (fun c2 => ?_) (fun c2 => ?_)
  · replace h := oNeg h c2
    refine Ev_iload_n 0 (dt_X8_vote.at 12 rfl) rfl ?_
    exact Ev_iret (dt_X8_vote.at 13 rfl) rfl (oRet h)
  · replace h := oPos h c2
    refine Ev_aload_n 2 (dt_X8_vote.at 7 rfl) rfl ?_
    refine Ev_get (i := 3) (v := .ref 34) (dt_X8_vote.at 8 rfl) ff_X8_15 sk_31 rfl rfl ?_
    refine Ev_iload_n 3 (dt_X8_vote.at 9 rfl) rfl ?_
    obtain ⟨g3, h⟩ := oGuard h
    refine Ev_iaload 34 (dt_X8_vote.at 10 rfl) sk_34 g3 ?_
    refine Ev_goto (tgt := 21) (dt_X8_vote.at 11 rfl) (by decide) ?_
    exact Ev_iret (dt_X8_vote.at 13 rfl) rfl (oRet h)
def s_Kind_kindly (σ : Sg) (a2 : Int32) : Option Int32 :=
  if inB a2 3 = true then
    if (gI σ 35 (Int32.toNatClampNeg a2)) = 0 then
      if a2 = 0 then
        some (gI σ 34 (Int32.toNatClampNeg 1))
      else
        some (gI σ 34 (Int32.toNatClampNeg 0))
    else
      if inB a2 3 = true then
        some (gI σ 34 (Int32.toNatClampNeg a2))
      else none
  else none
set_option maxRecDepth 100000 in
set_option maxHeartbeats 4000000 in
theorem w_Kind_kindly (σ : Sg) (a2 : Int32) (q : Int32) (h : s_Kind_kindly σ a2 = some q) : Cal M_X4_kindly 0 [.ref 41, .ref 31, .int a2] σ (some (.int q)) σ := by
  refine Cal.of (M := M_X4_kindly) (by decide +kernel) (Nat.le_of_ble_eq_true rfl) ?_
  show Ev _ _ _ _ 0 [(0, .ref 41), (1, .ref 31), (2, .int a2)] [] σ
  unfold s_Kind_kindly at h
  refine Ev_aload_n 1 (dt_X4_kindly.at 0 rfl) rfl ?_
  refine Ev_get (i := 4) (v := .ref 35) (dt_X4_kindly.at 1 rfl) ff_X4_13 sk_31 rfl rfl ?_
  refine Ev_iload_n 2 (dt_X4_kindly.at 2 rfl) rfl ?_
  obtain ⟨g1, h⟩ := oGuard h
  refine Ev_baload 35 (dt_X4_kindly.at 3 rfl) sk_35 g1 ?_
  refine Ev_if_eq (tgt := 16) (dt_X4_kindly.at 4 rfl) (by decide) (fun c2 => ?_) (fun c2 => ?_)
  · replace h := oPos h c2
    refine Ev_aload_n 1 (dt_X4_kindly.at 10 rfl) rfl ?_
    refine Ev_get (i := 3) (v := .ref 34) (dt_X4_kindly.at 11 rfl) ff_X4_19 sk_31 rfl rfl ?_
    refine Ev_iload_n 2 (dt_X4_kindly.at 12 rfl) rfl ?_
    refine Ev_if_ne (tgt := 28) (dt_X4_kindly.at 13 rfl) (by decide) (fun c3 => ?_) (fun c3 => ?_)
    · replace h := oNeg h c3
      refine Ev_iconst (dt_X4_kindly.at 16 rfl) ki_0 ?_
      refine Ev_iaload 34 (dt_X4_kindly.at 17 rfl) sk_34 ib_0_3 ?_
      exact Ev_iret (dt_X4_kindly.at 18 rfl) rfl (oRet h)
    · replace h := oPos h c3
      refine Ev_iconst (dt_X4_kindly.at 14 rfl) ki_1 ?_
      refine Ev_goto (tgt := 29) (dt_X4_kindly.at 15 rfl) (by decide) ?_
      refine Ev_iaload 34 (dt_X4_kindly.at 17 rfl) sk_34 ib_1_3 ?_
      exact Ev_iret (dt_X4_kindly.at 18 rfl) rfl (oRet h)
  · replace h := oNeg h c2
    refine Ev_aload_n 1 (dt_X4_kindly.at 5 rfl) rfl ?_
    refine Ev_get (i := 3) (v := .ref 34) (dt_X4_kindly.at 6 rfl) ff_X4_19 sk_31 rfl rfl ?_
    refine Ev_iload_n 2 (dt_X4_kindly.at 7 rfl) rfl ?_
    obtain ⟨g4, h⟩ := oGuard h
    refine Ev_iaload 34 (dt_X4_kindly.at 8 rfl) sk_34 g4 ?_
    exact Ev_iret (dt_X4_kindly.at 9 rfl) rfl (oRet h)
def s_Kind_vote (σ : Sg) (a2 : Int32) : Option Int32 :=
  (s_Kind_kindly σ a2).bind fun q1 =>
  some q1
set_option maxRecDepth 100000 in
set_option maxHeartbeats 4000000 in
theorem w_Kind_vote (σ : Sg) (a2 : Int32) (q : Int32) (h : s_Kind_vote σ a2 = some q) : Cal M_X4_vote 1 [.ref 41, .ref 31, .int a2] σ (some (.int q)) σ := by
  refine Cal.of (M := M_X4_vote) (by decide +kernel) (Nat.le_of_ble_eq_true rfl) ?_
  show Ev _ _ _ _ 0 [(0, .ref 41), (1, .ref 31), (2, .int a2)] [] σ
  unfold s_Kind_vote at h
  refine Ev_aload_n 0 (dt_X4_vote.at 0 rfl) rfl ?_
  refine Ev_aload_n 1 (dt_X4_vote.at 1 rfl) rfl ?_
  refine Ev_iload_n 2 (dt_X4_vote.at 2 rfl) rfl ?_
  obtain ⟨q1, hq1, h⟩ := oBind h
  refine Ev_callV (st := []) (st' := [.int q1]) [.ref 31, .int a2] (dt_X4_vote.at 3 rfl) cf_X4_7 (w_Kind_kindly σ a2 q1 hq1) (by decide) sk_41 rfl rfl rfl (Nat.le_of_ble_eq_true rfl) rfl ?_
  exact Ev_iret (dt_X4_vote.at 4 rfl) rfl (oRet h)
def s_Kind_kindly_42_31 (σ : Sg) (a2 : Int32) : Option Int32 :=
  if inB a2 3 = true then
    if (gI σ 35 (Int32.toNatClampNeg a2)) = 0 then
      if a2 = 0 then
        some (gI σ 34 (Int32.toNatClampNeg 1))
      else
        some (gI σ 34 (Int32.toNatClampNeg 0))
    else
      if inB a2 3 = true then
        some (gI σ 34 (Int32.toNatClampNeg a2))
      else none
  else none
set_option maxRecDepth 100000 in
set_option maxHeartbeats 4000000 in
theorem w_Kind_kindly_42_31 (σ : Sg) (a2 : Int32) (q : Int32) (h : s_Kind_kindly_42_31 σ a2 = some q) : Cal M_X4_kindly 0 [.ref 42, .ref 31, .int a2] σ (some (.int q)) σ := by
  refine Cal.of (M := M_X4_kindly) (by decide +kernel) (Nat.le_of_ble_eq_true rfl) ?_
  show Ev _ _ _ _ 0 [(0, .ref 42), (1, .ref 31), (2, .int a2)] [] σ
  unfold s_Kind_kindly_42_31 at h
  refine Ev_aload_n 1 (dt_X4_kindly.at 0 rfl) rfl ?_
  refine Ev_get (i := 4) (v := .ref 35) (dt_X4_kindly.at 1 rfl) ff_X4_13 sk_31 rfl rfl ?_
  refine Ev_iload_n 2 (dt_X4_kindly.at 2 rfl) rfl ?_
  obtain ⟨g1, h⟩ := oGuard h
  refine Ev_baload 35 (dt_X4_kindly.at 3 rfl) sk_35 g1 ?_
  refine Ev_if_eq (tgt := 16) (dt_X4_kindly.at 4 rfl) (by decide) (fun c2 => ?_) (fun c2 => ?_)
  · replace h := oPos h c2
    refine Ev_aload_n 1 (dt_X4_kindly.at 10 rfl) rfl ?_
    refine Ev_get (i := 3) (v := .ref 34) (dt_X4_kindly.at 11 rfl) ff_X4_19 sk_31 rfl rfl ?_
    refine Ev_iload_n 2 (dt_X4_kindly.at 12 rfl) rfl ?_
    refine Ev_if_ne (tgt := 28) (dt_X4_kindly.at 13 rfl) (by decide) (fun c3 => ?_) (fun c3 => ?_)
    · replace h := oNeg h c3
      refine Ev_iconst (dt_X4_kindly.at 16 rfl) ki_0 ?_
      refine Ev_iaload 34 (dt_X4_kindly.at 17 rfl) sk_34 ib_0_3 ?_
      exact Ev_iret (dt_X4_kindly.at 18 rfl) rfl (oRet h)
    · replace h := oPos h c3
      refine Ev_iconst (dt_X4_kindly.at 14 rfl) ki_1 ?_
      refine Ev_goto (tgt := 29) (dt_X4_kindly.at 15 rfl) (by decide) ?_
      refine Ev_iaload 34 (dt_X4_kindly.at 17 rfl) sk_34 ib_1_3 ?_
      exact Ev_iret (dt_X4_kindly.at 18 rfl) rfl (oRet h)
  · replace h := oNeg h c2
    refine Ev_aload_n 1 (dt_X4_kindly.at 5 rfl) rfl ?_
    refine Ev_get (i := 3) (v := .ref 34) (dt_X4_kindly.at 6 rfl) ff_X4_19 sk_31 rfl rfl ?_
    refine Ev_iload_n 2 (dt_X4_kindly.at 7 rfl) rfl ?_
    obtain ⟨g4, h⟩ := oGuard h
    refine Ev_iaload 34 (dt_X4_kindly.at 8 rfl) sk_34 g4 ?_
    exact Ev_iret (dt_X4_kindly.at 9 rfl) rfl (oRet h)
def s_Idle_vote (σ : Sg) (a2 : Int32) : Option Int32 :=
  if ((gI σ 31 7) - (gI σ 31 7) / 2 * 2) = 0 then
    some (gI σ 31 8)
  else
    (s_Kind_kindly_42_31 σ a2).bind fun q2 =>
    some q2
set_option maxRecDepth 100000 in
set_option maxHeartbeats 4000000 in
theorem w_Idle_vote (σ : Sg) (a2 : Int32) (q : Int32) (h : s_Idle_vote σ a2 = some q) : Cal M_X3_vote 1 [.ref 42, .ref 31, .int a2] σ (some (.int q)) σ := by
  refine Cal.of (M := M_X3_vote) (by decide +kernel) (Nat.le_of_ble_eq_true rfl) ?_
  show Ev _ _ _ _ 0 [(0, .ref 42), (1, .ref 31), (2, .int a2)] [] σ
  unfold s_Idle_vote at h
  refine Ev_aload_n 1 (dt_X3_vote.at 0 rfl) rfl ?_
  refine Ev_get (i := 7) (v := .int (gI σ 31 7)) (dt_X3_vote.at 1 rfl) ff_X3_7 sk_31 rfl rfl ?_
  refine Ev_iconst (dt_X3_vote.at 2 rfl) ki_2 ?_
  refine Ev_irem (dt_X3_vote.at 3 rfl) (by decide) ?_
  refine Ev_if_ne (tgt := 16) (dt_X3_vote.at 4 rfl) (by decide) (fun c1 => ?_) (fun c1 => ?_)
  · replace h := oNeg h c1
    refine Ev_aload_n 0 (dt_X3_vote.at 8 rfl) rfl ?_
    refine Ev_aload_n 1 (dt_X3_vote.at 9 rfl) rfl ?_
    refine Ev_iload_n 2 (dt_X3_vote.at 10 rfl) rfl ?_
    obtain ⟨q2, hq2, h⟩ := oBind h
    refine Ev_callU (st := []) (st' := [.int q2]) [.ref 31, .int a2] (dt_X3_vote.at 11 rfl) cu_X3_16_X3 (w_Kind_kindly_42_31 σ a2 q2 hq2) (by decide) sk_42 rfl rfl rfl (Nat.le_of_ble_eq_true rfl) rfl ?_
    exact Ev_iret (dt_X3_vote.at 12 rfl) rfl (oRet h)
  · replace h := oPos h c1
    refine Ev_aload_n 1 (dt_X3_vote.at 5 rfl) rfl ?_
    refine Ev_get (i := 8) (v := .int (gI σ 31 8)) (dt_X3_vote.at 6 rfl) ff_X3_13 sk_31 rfl rfl ?_
    refine Ev_goto (tgt := 22) (dt_X3_vote.at 7 rfl) (by decide) ?_
    exact Ev_iret (dt_X3_vote.at 12 rfl) rfl (oRet h)
def s_vote (σ : Sg) (j i : Int32) : Option Int32 :=
  if j = 0 then s_Person_vote σ i
  else if j = 1 then s_Hasty_vote σ i
  else if j = 2 then s_Stubborn_vote σ i
  else if j = 3 then s_Kind_vote σ i
  else if j = 4 then s_Idle_vote σ i
  else none
set_option maxRecDepth 100000 in
set_option maxHeartbeats 4000000 in
theorem Ev_vote {d : Nat} {r : Option Value} {τ σ : Sg} {pc pc' : Nat} {ls : List (Nat × Value)} {st : List Value} {i j q : Int32} (hd : Dc M_X0_chosen.2.1 pc (.invokevirtual 105) 3 pc') (h : s_vote σ j i = some q) (hlt : 2 < d) (hroom : (st.map fun v => v.category).sum ≤ 8) (kk : Ev M_X0_chosen d r τ pc' ls (.int q :: st) σ) : Ev M_X0_chosen d r τ pc ls (.int i :: .ref 31 :: .ref (38 + j.toNatClampNeg) :: st) σ := by
  unfold s_vote at h
  by_cases c0 : j = 0
  · replace h := oPos h c0
    rw [c0]
    show Ev _ _ _ _ pc ls (.int i :: .ref 31 :: .ref 38 :: st) σ
    exact Ev_callV (st := st) (st' := .int q :: st) [.ref 31, .int i] hd cf_X0_105 (w_Person_vote σ i q h) (Nat.lt_of_le_of_lt (by decide) hlt) sk_38 rfl rfl rfl hroom rfl kk
  replace h := oNeg h c0
  by_cases c1 : j = 1
  · replace h := oPos h c1
    rw [c1]
    show Ev _ _ _ _ pc ls (.int i :: .ref 31 :: .ref 39 :: st) σ
    exact Ev_callO (st := st) (st' := .int q :: st) [.ref 31, .int i] hd co_X0_105_X2 (w_Hasty_vote σ i q h) (Nat.lt_of_le_of_lt (by decide) hlt) sk_39 rfl rfl rfl hroom rfl kk
  replace h := oNeg h c1
  by_cases c2 : j = 2
  · replace h := oPos h c2
    rw [c2]
    show Ev _ _ _ _ pc ls (.int i :: .ref 31 :: .ref 40 :: st) σ
    exact Ev_callO (st := st) (st' := .int q :: st) [.ref 31, .int i] hd co_X0_105_X8 (w_Stubborn_vote σ i q h) (Nat.lt_of_le_of_lt (by decide) hlt) sk_40 rfl rfl rfl hroom rfl kk
  replace h := oNeg h c2
  by_cases c3 : j = 3
  · replace h := oPos h c3
    rw [c3]
    show Ev _ _ _ _ pc ls (.int i :: .ref 31 :: .ref 41 :: st) σ
    exact Ev_callO (st := st) (st' := .int q :: st) [.ref 31, .int i] hd co_X0_105_X4 (w_Kind_vote σ i q h) (Nat.lt_of_le_of_lt (by decide) hlt) sk_41 rfl rfl rfl hroom rfl kk
  replace h := oNeg h c3
  obtain ⟨c4, h⟩ := oGuard h
  rw [c4]
  show Ev _ _ _ _ pc ls (.int i :: .ref 31 :: .ref 42 :: st) σ
  exact Ev_callO (st := st) (st' := .int q :: st) [.ref 31, .int i] hd co_X0_105_X3 (w_Idle_vote σ i q h) (Nat.lt_of_le_of_lt (by decide) hlt) sk_42 rfl rfl rfl hroom rfl kk
def s_Day_chosen (σ : Sg)  : Option Int32 :=
  if inB (gI σ 33 (Int32.toNatClampNeg 0)) 9 = true then
    if inB (gI σ 20 (Int32.toNatClampNeg (gI σ 33 (Int32.toNatClampNeg 0)))) 5 = true then
      (s_vote σ (gI σ 20 (Int32.toNatClampNeg (gI σ 33 (Int32.toNatClampNeg 0)))) 0).bind fun q3 =>
      if inB (gI σ 33 (Int32.toNatClampNeg 1)) 9 = true then
        if inB (gI σ 20 (Int32.toNatClampNeg (gI σ 33 (Int32.toNatClampNeg 1)))) 5 = true then
          (s_vote σ (gI σ 20 (Int32.toNatClampNeg (gI σ 33 (Int32.toNatClampNeg 1)))) 1).bind fun q6 =>
          if inB (gI σ 33 (Int32.toNatClampNeg 2)) 9 = true then
            if inB (gI σ 20 (Int32.toNatClampNeg (gI σ 33 (Int32.toNatClampNeg 2)))) 5 = true then
              (s_vote σ (gI σ 20 (Int32.toNatClampNeg (gI σ 33 (Int32.toNatClampNeg 2)))) 2).bind fun q9 =>
              if q6 = q9 then
                some q6
              else
                some q3
            else none
          else none
        else none
      else none
    else none
  else none
set_option maxRecDepth 100000 in
set_option maxHeartbeats 4000000 in
theorem w_Day_chosen (σ : Sg)  (q : Int32) (h : s_Day_chosen σ  = some q) : Cal M_X0_chosen 3 [.ref 31] σ (some (.int q)) σ := by
  refine Cal.of (M := M_X0_chosen) (by decide +kernel) (Nat.le_of_ble_eq_true rfl) ?_
  show Ev _ _ _ _ 0 [(0, .ref 31)] [] σ
  unfold s_Day_chosen at h
  refine Ev_aload_n 0 (dt_X0_chosen.at 0 rfl) rfl ?_
  refine Ev_get (i := 1) (v := .ref 32) (dt_X0_chosen.at 1 rfl) ff_X0_11 sk_31 rfl rfl ?_
  refine Ev_aload_n 0 (dt_X0_chosen.at 2 rfl) rfl ?_
  refine Ev_get (i := 0) (v := .ref 19) (dt_X0_chosen.at 3 rfl) ff_X0_34 sk_31 rfl rfl ?_
  refine Ev_get (i := 0) (v := .ref 20) (dt_X0_chosen.at 4 rfl) ff_X0_102 sk_19 rfl rfl ?_
  refine Ev_aload_n 0 (dt_X0_chosen.at 5 rfl) rfl ?_
  refine Ev_get (i := 2) (v := .ref 33) (dt_X0_chosen.at 6 rfl) ff_X0_17 sk_31 rfl rfl ?_
  refine Ev_iconst (dt_X0_chosen.at 7 rfl) ki_0 ?_
  refine Ev_iaload 33 (dt_X0_chosen.at 8 rfl) sk_33 ib_0_3 ?_
  obtain ⟨g1, h⟩ := oGuard h
  refine Ev_iaload 20 (dt_X0_chosen.at 9 rfl) sk_20 g1 ?_
  obtain ⟨g2, h⟩ := oGuard h
  refine Ev_aaload (c1 := 38 + (gI σ 20 (Int32.toNatClampNeg (gI σ 33 (Int32.toNatClampNeg 0)))).toNatClampNeg) 32 (dt_X0_chosen.at 10 rfl) sk_32 (Or.inr rfl) g2 (vt_at g2) ?_
  refine Ev_aload_n 0 (dt_X0_chosen.at 11 rfl) rfl ?_
  refine Ev_iconst (dt_X0_chosen.at 12 rfl) ki_0 ?_
  obtain ⟨q3, hq3, h⟩ := oBind h
  refine Ev_vote (st := []) (dt_X0_chosen.at 13 rfl) hq3 (by decide) (Nat.le_of_ble_eq_true rfl) ?_
  refine Ev_istore_n (dt_X0_chosen.at 14 rfl) (by decide) (ls' := [(1, .int q3), (0, .ref 31)]) rfl ?_
  refine Ev_aload_n 1 (dt_X0_chosen.at 15 rfl) rfl ?_
  refine Ev_get (i := 1) (v := .ref 32) (dt_X0_chosen.at 16 rfl) ff_X0_11 sk_31 rfl rfl ?_
  refine Ev_aload_n 1 (dt_X0_chosen.at 17 rfl) rfl ?_
  refine Ev_get (i := 0) (v := .ref 19) (dt_X0_chosen.at 18 rfl) ff_X0_34 sk_31 rfl rfl ?_
  refine Ev_get (i := 0) (v := .ref 20) (dt_X0_chosen.at 19 rfl) ff_X0_102 sk_19 rfl rfl ?_
  refine Ev_aload_n 1 (dt_X0_chosen.at 20 rfl) rfl ?_
  refine Ev_get (i := 2) (v := .ref 33) (dt_X0_chosen.at 21 rfl) ff_X0_17 sk_31 rfl rfl ?_
  refine Ev_iconst (dt_X0_chosen.at 22 rfl) ki_1 ?_
  refine Ev_iaload 33 (dt_X0_chosen.at 23 rfl) sk_33 ib_1_3 ?_
  obtain ⟨g4, h⟩ := oGuard h
  refine Ev_iaload 20 (dt_X0_chosen.at 24 rfl) sk_20 g4 ?_
  obtain ⟨g5, h⟩ := oGuard h
  refine Ev_aaload (c1 := 38 + (gI σ 20 (Int32.toNatClampNeg (gI σ 33 (Int32.toNatClampNeg 1)))).toNatClampNeg) 32 (dt_X0_chosen.at 25 rfl) sk_32 (Or.inr rfl) g5 (vt_at g5) ?_
  refine Ev_aload_n 1 (dt_X0_chosen.at 26 rfl) rfl ?_
  refine Ev_iconst (dt_X0_chosen.at 27 rfl) ki_1 ?_
  obtain ⟨q6, hq6, h⟩ := oBind h
  refine Ev_vote (st := []) (dt_X0_chosen.at 28 rfl) hq6 (by decide) (Nat.le_of_ble_eq_true rfl) ?_
  refine Ev_istore_n (dt_X0_chosen.at 29 rfl) (by decide) (ls' := [(2, .int q6), (1, .int q3), (0, .ref 31)]) rfl ?_
  refine Ev_aload_n 2 (dt_X0_chosen.at 30 rfl) rfl ?_
  refine Ev_get (i := 1) (v := .ref 32) (dt_X0_chosen.at 31 rfl) ff_X0_11 sk_31 rfl rfl ?_
  refine Ev_aload_n 2 (dt_X0_chosen.at 32 rfl) rfl ?_
  refine Ev_get (i := 0) (v := .ref 19) (dt_X0_chosen.at 33 rfl) ff_X0_34 sk_31 rfl rfl ?_
  refine Ev_get (i := 0) (v := .ref 20) (dt_X0_chosen.at 34 rfl) ff_X0_102 sk_19 rfl rfl ?_
  refine Ev_aload_n 2 (dt_X0_chosen.at 35 rfl) rfl ?_
  refine Ev_get (i := 2) (v := .ref 33) (dt_X0_chosen.at 36 rfl) ff_X0_17 sk_31 rfl rfl ?_
  refine Ev_iconst (dt_X0_chosen.at 37 rfl) ki_2 ?_
  refine Ev_iaload 33 (dt_X0_chosen.at 38 rfl) sk_33 ib_2_3 ?_
  obtain ⟨g7, h⟩ := oGuard h
  refine Ev_iaload 20 (dt_X0_chosen.at 39 rfl) sk_20 g7 ?_
  obtain ⟨g8, h⟩ := oGuard h
  refine Ev_aaload (c1 := 38 + (gI σ 20 (Int32.toNatClampNeg (gI σ 33 (Int32.toNatClampNeg 2)))).toNatClampNeg) 32 (dt_X0_chosen.at 40 rfl) sk_32 (Or.inr rfl) g8 (vt_at g8) ?_
  refine Ev_aload_n 2 (dt_X0_chosen.at 41 rfl) rfl ?_
  refine Ev_iconst (dt_X0_chosen.at 42 rfl) ki_2 ?_
  obtain ⟨q9, hq9, h⟩ := oBind h
  refine Ev_vote (st := []) (dt_X0_chosen.at 43 rfl) hq9 (by decide) (Nat.le_of_ble_eq_true rfl) ?_
  refine Ev_istore_n (dt_X0_chosen.at 44 rfl) (by decide) (ls' := [(3, .int q9), (2, .int q6), (1, .int q3), (0, .ref 31)]) rfl ?_
  refine Ev_iload_n 1 (dt_X0_chosen.at 45 rfl) rfl ?_
  refine Ev_iload_n 0 (dt_X0_chosen.at 46 rfl) rfl ?_
  refine Ev_icmp_ne (tgt := 84) (dt_X0_chosen.at 47 rfl) (by decide) (fun c10 => ?_) (fun c10 => ?_)
  · replace h := oNeg h c10
    refine Ev_iload_n 2 (dt_X0_chosen.at 50 rfl) rfl ?_
    exact Ev_iret (dt_X0_chosen.at 51 rfl) rfl (oRet h)
  · replace h := oPos h c10
    refine Ev_iload_n 1 (dt_X0_chosen.at 48 rfl) rfl ?_
    refine Ev_goto (tgt := 85) (dt_X0_chosen.at 49 rfl) (by decide) ?_
    exact Ev_iret (dt_X0_chosen.at 51 rfl) rfl (oRet h)
def s_Math_floorMod (a0 : Int32) (a1 : Int32) : Option Int32 :=
  if ¬ a1 = 0 then
    lt ((a0 - a0 / a1 * a1) : Int32) fun x2 =>
    if 0 ≤ (a0 ^^^ a1) then
      some x2
    else
      if x2 = 0 then
        some x2
      else
        some (x2 + a1)
  else none
set_option maxRecDepth 100000 in
set_option maxHeartbeats 4000000 in
theorem w_Math_floorMod (σ : Sg) (a0 : Int32) (a1 : Int32) (q : Int32) (h : s_Math_floorMod a0 a1 = some q) : Cal M_J9_floorMod 0 [.int a0, .int a1] σ (some (.int q)) σ := by
  refine Cal.of (M := M_J9_floorMod) (by decide +kernel) (Nat.le_of_ble_eq_true rfl) ?_
  show Ev _ _ _ _ 0 [(0, .int a0), (1, .int a1)] [] σ
  unfold s_Math_floorMod at h
  refine Ev_iload_n 0 (dt_J9_floorMod.at 0 rfl) rfl ?_
  refine Ev_iload_n 1 (dt_J9_floorMod.at 1 rfl) rfl ?_
  obtain ⟨g1, h⟩ := oGuard h
  refine Ev_irem (dt_J9_floorMod.at 2 rfl) g1 ?_
  refine Ev_nmI (fun x2 ex2 => ?_)
  replace h := oLt h ex2
  refine Ev_istore_n (dt_J9_floorMod.at 3 rfl) (by decide) (ls' := [(2, .int x2), (0, .int a0), (1, .int a1)]) rfl ?_
  refine Ev_iload_n 1 (dt_J9_floorMod.at 4 rfl) rfl ?_
  refine Ev_iload_n 2 (dt_J9_floorMod.at 5 rfl) rfl ?_
  refine Ev_ixor (dt_J9_floorMod.at 6 rfl) ?_
  refine Ev_if_ge (tgt := 18) (dt_J9_floorMod.at 7 rfl) (by decide) (fun c3 => ?_) (fun c3 => ?_)
  · replace h := oPos h c3
    refine Ev_iload_n 0 (dt_J9_floorMod.at 14 rfl) rfl ?_
    exact Ev_iret (dt_J9_floorMod.at 15 rfl) rfl (oRet h)
  · replace h := oNeg h c3
    refine Ev_iload_n 0 (dt_J9_floorMod.at 8 rfl) rfl ?_
    refine Ev_if_eq (tgt := 18) (dt_J9_floorMod.at 9 rfl) (by decide) (fun c4 => ?_) (fun c4 => ?_)
    · replace h := oPos h c4
      refine Ev_iload_n 0 (dt_J9_floorMod.at 14 rfl) rfl ?_
      exact Ev_iret (dt_J9_floorMod.at 15 rfl) rfl (oRet h)
    · replace h := oNeg h c4
      refine Ev_iload_n 0 (dt_J9_floorMod.at 10 rfl) rfl ?_
      refine Ev_iload_n 2 (dt_J9_floorMod.at 11 rfl) rfl ?_
      refine Ev_iadd (dt_J9_floorMod.at 12 rfl) ?_
      exact Ev_iret (dt_J9_floorMod.at 13 rfl) rfl (oRet h)
def s_Town_onRing (σ : Sg) (a1 : Int32) : Option Int32 :=
  if 1 ≤ (gI σ 19 5) then
    (s_Math_floorMod a1 (gI σ 19 5)).bind fun q2 =>
    some q2
  else
    some 0
set_option maxRecDepth 100000 in
set_option maxHeartbeats 4000000 in
theorem w_Town_onRing (σ : Sg) (a1 : Int32) (q : Int32) (h : s_Town_onRing σ a1 = some q) : Cal M_X9_onRing 1 [.ref 19, .int a1] σ (some (.int q)) σ := by
  refine Cal.of (M := M_X9_onRing) (by decide +kernel) (Nat.le_of_ble_eq_true rfl) ?_
  show Ev _ _ _ _ 0 [(0, .ref 19), (1, .int a1)] [] σ
  unfold s_Town_onRing at h
  refine Ev_aload_n 0 (dt_X9_onRing.at 0 rfl) rfl ?_
  refine Ev_get (i := 5) (v := .int (gI σ 19 5)) (dt_X9_onRing.at 1 rfl) ff_X9_27 sk_19 rfl rfl ?_
  refine Ev_iconst (dt_X9_onRing.at 2 rfl) ki_1 ?_
  refine Ev_icmp_ge (tgt := 12) (dt_X9_onRing.at 3 rfl) (by decide) (fun c1 => ?_) (fun c1 => ?_)
  · replace h := oPos h c1
    refine Ev_iload_n 1 (dt_X9_onRing.at 6 rfl) rfl ?_
    refine Ev_aload_n 0 (dt_X9_onRing.at 7 rfl) rfl ?_
    refine Ev_get (i := 5) (v := .int (gI σ 19 5)) (dt_X9_onRing.at 8 rfl) ff_X9_27 sk_19 rfl rfl ?_
    obtain ⟨q2, hq2, h⟩ := oBind h
    refine Ev_callS (st := []) (st' := [.int q2]) [.int a1, .int (gI σ 19 5)] (dt_X9_onRing.at 9 rfl) cf_X9_54 (w_Math_floorMod σ a1 (gI σ 19 5) q2 hq2) (by decide) rfl rfl (Nat.le_of_ble_eq_true rfl) rfl ?_
    exact Ev_iret (dt_X9_onRing.at 10 rfl) rfl (oRet h)
  · replace h := oNeg h c1
    refine Ev_iconst (dt_X9_onRing.at 4 rfl) ki_0 ?_
    refine Ev_goto (tgt := 20) (dt_X9_onRing.at 5 rfl) (by decide) ?_
    exact Ev_iret (dt_X9_onRing.at 10 rfl) rfl (oRet h)
def s_Day_stepTowards (σ : Sg) (a1 : Int32) : Option Sg :=
  (s_Town_onRing σ (a1 - (gI σ 31 8))).bind fun q1 =>
  if q1 = 0 then
    some σ
  else
    if (gI σ 19 5) < (2 * q1) then
      (s_Town_onRing σ ((gI σ 31 8) - 1)).bind fun q4 =>
      lt (pI σ 31 8 q4 : Sg) fun s5 =>
      some s5
    else
      (s_Town_onRing σ ((gI σ 31 8) + 1)).bind fun q6 =>
      lt (pI σ 31 8 q6 : Sg) fun s7 =>
      some s7
set_option maxRecDepth 100000 in
set_option maxHeartbeats 4000000 in
theorem w_Day_stepTowards (σ : Sg) (a1 : Int32) (q : Sg) (h : s_Day_stepTowards σ a1 = some q) : Cal M_X0_stepTowards 2 [.ref 31, .int a1] σ none q := by
  refine Cal.of (M := M_X0_stepTowards) (by decide +kernel) (Nat.le_of_ble_eq_true rfl) ?_
  show Ev _ _ _ _ 0 [(0, .ref 31), (1, .int a1)] [] σ
  unfold s_Day_stepTowards at h
  refine Ev_aload_n 0 (dt_X0_stepTowards.at 0 rfl) rfl ?_
  refine Ev_get (i := 0) (v := .ref 19) (dt_X0_stepTowards.at 1 rfl) ff_X0_34 sk_31 rfl rfl ?_
  refine Ev_iload_n 1 (dt_X0_stepTowards.at 2 rfl) rfl ?_
  refine Ev_aload_n 0 (dt_X0_stepTowards.at 3 rfl) rfl ?_
  refine Ev_get (i := 8) (v := .int (gI σ 31 8)) (dt_X0_stepTowards.at 4 rfl) ff_X0_78 sk_31 rfl rfl ?_
  refine Ev_isub (dt_X0_stepTowards.at 5 rfl) ?_
  obtain ⟨q1, hq1, h⟩ := oBind h
  refine Ev_callV (st := []) (st' := [.int q1]) [.int (a1 - (gI σ 31 8))] (dt_X0_stepTowards.at 6 rfl) cf_X0_109 (w_Town_onRing σ (a1 - (gI σ 31 8)) q1 hq1) (by decide) sk_19 rfl rfl rfl (Nat.le_of_ble_eq_true rfl) rfl ?_
  refine Ev_istore_n (dt_X0_stepTowards.at 7 rfl) (by decide) (ls' := [(2, .int q1), (0, .ref 31), (1, .int a1)]) rfl ?_
  refine Ev_iload_n 0 (dt_X0_stepTowards.at 8 rfl) rfl ?_
  refine Ev_if_ne (tgt := 19) (dt_X0_stepTowards.at 9 rfl) (by decide) (fun c2 => ?_) (fun c2 => ?_)
  · replace h := oNeg h c2
    refine Ev_aload_n 1 (dt_X0_stepTowards.at 11 rfl) rfl ?_
    refine Ev_aload_n 1 (dt_X0_stepTowards.at 12 rfl) rfl ?_
    refine Ev_get (i := 0) (v := .ref 19) (dt_X0_stepTowards.at 13 rfl) ff_X0_34 sk_31 rfl rfl ?_
    refine Ev_iconst (dt_X0_stepTowards.at 14 rfl) ki_2 ?_
    refine Ev_iload_n 0 (dt_X0_stepTowards.at 15 rfl) rfl ?_
    refine Ev_imul (dt_X0_stepTowards.at 16 rfl) ?_
    refine Ev_aload_n 1 (dt_X0_stepTowards.at 17 rfl) rfl ?_
    refine Ev_get (i := 0) (v := .ref 19) (dt_X0_stepTowards.at 18 rfl) ff_X0_34 sk_31 rfl rfl ?_
    refine Ev_get (i := 5) (v := .int (gI σ 19 5)) (dt_X0_stepTowards.at 19 rfl) ff_X0_113 sk_19 rfl rfl ?_
    refine Ev_icmp_gt (tgt := 46) (dt_X0_stepTowards.at 20 rfl) (by decide) (fun c3 => ?_) (fun c3 => ?_)
    · replace h := oPos h c3
      refine Ev_aload_n 1 (dt_X0_stepTowards.at 26 rfl) rfl ?_
      refine Ev_get (i := 8) (v := .int (gI σ 31 8)) (dt_X0_stepTowards.at 27 rfl) ff_X0_78 sk_31 rfl rfl ?_
      refine Ev_iconst (dt_X0_stepTowards.at 28 rfl) ki_1 ?_
      refine Ev_isub (dt_X0_stepTowards.at 29 rfl) ?_
      obtain ⟨q4, hq4, h⟩ := oBind h
      refine Ev_callV (st := [.ref 31]) (st' := [.int q4, .ref 31]) [.int ((gI σ 31 8) - 1)] (dt_X0_stepTowards.at 30 rfl) cf_X0_109 (w_Town_onRing σ ((gI σ 31 8) - 1) q4 hq4) (by decide) sk_19 rfl rfl rfl (Nat.le_of_ble_eq_true rfl) rfl ?_
      refine Ev_putI (dt_X0_stepTowards.at 31 rfl) ff_X0_78 fw_0_8 sk_31 rfl ?_
      refine Ev_nmS (fun s5 es5 => ?_)
      replace h := oLt h es5
      exact Ev_vret (dt_X0_stepTowards.at 32 rfl) rfl h
    · replace h := oNeg h c3
      refine Ev_aload_n 1 (dt_X0_stepTowards.at 21 rfl) rfl ?_
      refine Ev_get (i := 8) (v := .int (gI σ 31 8)) (dt_X0_stepTowards.at 22 rfl) ff_X0_78 sk_31 rfl rfl ?_
      refine Ev_iconst (dt_X0_stepTowards.at 23 rfl) ki_1 ?_
      refine Ev_iadd (dt_X0_stepTowards.at 24 rfl) ?_
      refine Ev_goto (tgt := 52) (dt_X0_stepTowards.at 25 rfl) (by decide) ?_
      obtain ⟨q6, hq6, h⟩ := oBind h
      refine Ev_callV (st := [.ref 31]) (st' := [.int q6, .ref 31]) [.int ((gI σ 31 8) + 1)] (dt_X0_stepTowards.at 30 rfl) cf_X0_109 (w_Town_onRing σ ((gI σ 31 8) + 1) q6 hq6) (by decide) sk_19 rfl rfl rfl (Nat.le_of_ble_eq_true rfl) rfl ?_
      refine Ev_putI (dt_X0_stepTowards.at 31 rfl) ff_X0_78 fw_0_8 sk_31 rfl ?_
      refine Ev_nmS (fun s7 es7 => ?_)
      replace h := oLt h es7
      exact Ev_vret (dt_X0_stepTowards.at 32 rfl) rfl h
  · replace h := oPos h c2
    exact Ev_vret (dt_X0_stepTowards.at 10 rfl) rfl h
