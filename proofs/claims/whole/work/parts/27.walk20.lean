def j_TownReader_readItem_65  (σ : Sg) (v1 : Int32) : Option Sg :=
  (s_TownReader_isWord_4_92 σ v1).bind fun q7 =>
  if q7 = 0 then
    lt (pI σ 4 4 v1 : Sg) fun s9 =>
    some s9
  else
    (s_TownReader_readErrand σ ).bind fun q10 =>
    some q10
def j_TownReader_readItem_36  (σ : Sg) (v1 : Int32) : Option Sg :=
  (s_TownReader_isWord_4_91 σ v1).bind fun q5 =>
  if q5 = 0 then
    j_TownReader_readItem_65  σ v1
  else
    if 9 ≤ (gI σ 6 6) then
      j_TownReader_readItem_65  σ v1
    else
      (s_TownReader_readPerson σ ).bind fun q12 =>
      some q12
def s_TownReader_readItem (σ : Sg)  : Option Sg :=
  lt ((gI σ 4 3) : Int32) fun x1 =>
  (s_TownReader_skipWord σ ).bind fun q2 =>
  (s_TownReader_isWord q2 x1).bind fun q3 =>
  if q3 = 0 then
    j_TownReader_readItem_36  q2 x1
  else
    (s_Town_errandsOfAll_6 q2 ).bind fun q13 =>
    if q13 = 0 then
      (s_TownReader_readPlaces q2 ).bind fun q15 =>
      some q15
    else
      j_TownReader_readItem_36  q2 x1
set_option maxRecDepth 100000 in
set_option maxHeartbeats 4000000 in
theorem wj_TownReader_readItem_65  (σ : Sg) (v1 : Int32) (q : Sg) (h : (j_TownReader_readItem_65  σ v1) = some q) : Ev M_X10_readItem 5 none q 65 [(0, .ref 4), (1, .int v1)] [] σ := by
  unfold j_TownReader_readItem_65 at h
  refine Ev_aload_n 0 (dt_X10_readItem.at 30 rfl) rfl ?_
  refine Ev_iload_n 1 (dt_X10_readItem.at 31 rfl) rfl ?_
  refine Ev_ldcS2 (dt_X10_readItem.at 32 rfl) rfl ?_
  obtain ⟨q7, hq7, h⟩ := oBind h
  refine Ev_callV (st := []) (st' := [.int q7]) [.int v1, .ref 92] (dt_X10_readItem.at 33 rfl) cf_X10_53 (w_TownReader_isWord_4_92 σ v1 q7 hq7) (by decide) sk_4 rfl rfl rfl (Nat.le_of_ble_eq_true rfl) rfl ?_
  refine Ev_if_eq (tgt := 82) (dt_X10_readItem.at 34 rfl) (by decide) (fun c8 => ?_) (fun c8 => ?_)
  · replace h := oPos h c8
    refine Ev_aload_n 0 (dt_X10_readItem.at 38 rfl) rfl ?_
    refine Ev_iload_n 1 (dt_X10_readItem.at 39 rfl) rfl ?_
    refine Ev_putI (dt_X10_readItem.at 40 rfl) ff_X10_35 fw_10_4 sk_4 rfl ?_
    refine Ev_nmS (fun s9 es9 => ?_)
    replace h := oLt h es9
    exact Ev_vret (dt_X10_readItem.at 41 rfl) rfl h
  · replace h := oNeg h c8
    refine Ev_aload_n 0 (dt_X10_readItem.at 35 rfl) rfl ?_
    obtain ⟨q10, hq10, h⟩ := oBind h
    refine Ev_callV (st := []) (st' := []) [] (dt_X10_readItem.at 36 rfl) cf_X10_74 (w_TownReader_readErrand σ  q10 hq10) (by decide) sk_4 rfl rfl rfl (Nat.le_of_ble_eq_true rfl) rfl ?_
    refine Ev_goto (tgt := 87) (dt_X10_readItem.at 37 rfl) (by decide) ?_
    exact Ev_vret (dt_X10_readItem.at 41 rfl) rfl h
set_option maxRecDepth 100000 in
set_option maxHeartbeats 4000000 in
theorem wj_TownReader_readItem_36  (σ : Sg) (v1 : Int32) (q : Sg) (h : (j_TownReader_readItem_36  σ v1) = some q) : Ev M_X10_readItem 5 none q 36 [(0, .ref 4), (1, .int v1)] [] σ := by
  unfold j_TownReader_readItem_36 at h
  refine Ev_aload_n 0 (dt_X10_readItem.at 17 rfl) rfl ?_
  refine Ev_iload_n 1 (dt_X10_readItem.at 18 rfl) rfl ?_
  refine Ev_ldcS1 (dt_X10_readItem.at 19 rfl) rfl ?_
  obtain ⟨q5, hq5, h⟩ := oBind h
  refine Ev_callV (st := []) (st' := [.int q5]) [.int v1, .ref 91] (dt_X10_readItem.at 20 rfl) cf_X10_53 (w_TownReader_isWord_4_91 σ v1 q5 hq5) (by decide) sk_4 rfl rfl rfl (Nat.le_of_ble_eq_true rfl) rfl ?_
  refine Ev_if_eq (tgt := 65) (dt_X10_readItem.at 21 rfl) (by decide) (fun c6 => ?_) (fun c6 => ?_)
  · replace h := oPos h c6
    refine Ev_sub [0, 1] (ls' := [(0, .ref 4), (1, .int v1)]) rfl ?_
    exact wj_TownReader_readItem_65  σ v1 q h
  · replace h := oNeg h c6
    refine Ev_aload_n 0 (dt_X10_readItem.at 22 rfl) rfl ?_
    refine Ev_get (i := 0) (v := .ref 6) (dt_X10_readItem.at 23 rfl) ff_X10_12 sk_4 rfl rfl ?_
    refine Ev_get (i := 6) (v := .int (gI σ 6 6)) (dt_X10_readItem.at 24 rfl) ff_X10_66 sk_6 rfl rfl ?_
    refine Ev_bipush (dt_X10_readItem.at 25 rfl) kb_9 ?_
    refine Ev_icmp_ge (tgt := 65) (dt_X10_readItem.at 26 rfl) (by decide) (fun c11 => ?_) (fun c11 => ?_)
    · replace h := oPos h c11
      refine Ev_sub [0, 1] (ls' := [(0, .ref 4), (1, .int v1)]) rfl ?_
      exact wj_TownReader_readItem_65  σ v1 q h
    · replace h := oNeg h c11
      refine Ev_aload_n 0 (dt_X10_readItem.at 27 rfl) rfl ?_
      obtain ⟨q12, hq12, h⟩ := oBind h
      refine Ev_callV (st := []) (st' := []) [] (dt_X10_readItem.at 28 rfl) cf_X10_69 (w_TownReader_readPerson σ  q12 hq12) (by decide) sk_4 rfl rfl rfl (Nat.le_of_ble_eq_true rfl) rfl ?_
      refine Ev_goto (tgt := 87) (dt_X10_readItem.at 29 rfl) (by decide) ?_
      exact Ev_vret (dt_X10_readItem.at 41 rfl) rfl h
set_option maxRecDepth 100000 in
set_option maxHeartbeats 4000000 in
theorem w_TownReader_readItem (σ : Sg)  (q : Sg) (h : s_TownReader_readItem σ  = some q) : Cal M_X10_readItem 5 [.ref 4] σ none q := by
  refine Cal.of (M := M_X10_readItem) (by decide +kernel) (Nat.le_of_ble_eq_true rfl) ?_
  show Ev _ _ _ _ 0 [(0, .ref 4)] [] σ
  unfold s_TownReader_readItem at h
  refine Ev_aload_n 0 (dt_X10_readItem.at 0 rfl) rfl ?_
  refine Ev_get (i := 3) (v := .int (gI σ 4 3)) (dt_X10_readItem.at 1 rfl) ff_X10_32 sk_4 rfl rfl ?_
  refine Ev_nmI (fun x1 ex1 => ?_)
  replace h := oLt h ex1
  refine Ev_istore_n (dt_X10_readItem.at 2 rfl) (by decide) (ls' := [(1, .int x1), (0, .ref 4)]) rfl ?_
  refine Ev_aload_n 1 (dt_X10_readItem.at 3 rfl) rfl ?_
  obtain ⟨q2, hq2, h⟩ := oBind h
  refine Ev_callV (st := []) (st' := []) [] (dt_X10_readItem.at 4 rfl) cf_X10_48 (w_TownReader_skipWord σ  q2 hq2) (by decide) sk_4 rfl rfl rfl (Nat.le_of_ble_eq_true rfl) rfl ?_
  refine Ev_aload_n 1 (dt_X10_readItem.at 5 rfl) rfl ?_
  refine Ev_iload_n 0 (dt_X10_readItem.at 6 rfl) rfl ?_
  refine Ev_ldcS0 (dt_X10_readItem.at 7 rfl) rfl ?_
  obtain ⟨q3, hq3, h⟩ := oBind h
  refine Ev_callV (st := []) (st' := [.int q3]) [.int x1, .ref 90] (dt_X10_readItem.at 8 rfl) cf_X10_53 (w_TownReader_isWord q2 x1 q3 hq3) (by decide) sk_4 rfl rfl rfl (Nat.le_of_ble_eq_true rfl) rfl ?_
  refine Ev_if_eq (tgt := 36) (dt_X10_readItem.at 9 rfl) (by decide) (fun c4 => ?_) (fun c4 => ?_)
  · replace h := oPos h c4
    refine Ev_sub [1, 0] (ls' := [(0, .ref 4), (1, .int x1)]) rfl ?_
    exact wj_TownReader_readItem_36  q2 x1 q h
  · replace h := oNeg h c4
    refine Ev_aload_n 1 (dt_X10_readItem.at 10 rfl) rfl ?_
    refine Ev_get (i := 0) (v := .ref 6) (dt_X10_readItem.at 11 rfl) ff_X10_12 sk_4 rfl rfl ?_
    obtain ⟨q13, hq13, h⟩ := oBind h
    refine Ev_callV (st := []) (st' := [.int q13]) [] (dt_X10_readItem.at 12 rfl) cf_X10_57 (w_Town_errandsOfAll_6 q2  q13 hq13) (by decide) sk_6 rfl rfl rfl (Nat.le_of_ble_eq_true rfl) rfl ?_
    refine Ev_if_ne (tgt := 36) (dt_X10_readItem.at 13 rfl) (by decide) (fun c14 => ?_) (fun c14 => ?_)
    · replace h := oNeg h c14
      refine Ev_sub [1, 0] (ls' := [(0, .ref 4), (1, .int x1)]) rfl ?_
      exact wj_TownReader_readItem_36  q2 x1 q h
    · replace h := oPos h c14
      refine Ev_aload_n 1 (dt_X10_readItem.at 14 rfl) rfl ?_
      obtain ⟨q15, hq15, h⟩ := oBind h
      refine Ev_callV (st := []) (st' := []) [] (dt_X10_readItem.at 15 rfl) cf_X10_61 (w_TownReader_readPlaces q2  q15 hq15) (by decide) sk_4 rfl rfl rfl (Nat.le_of_ble_eq_true rfl) rfl ?_
      refine Ev_goto (tgt := 87) (dt_X10_readItem.at 16 rfl) (by decide) ?_
      exact Ev_vret (dt_X10_readItem.at 41 rfl) rfl h
def b_TownReader_readTown_39  (x : (Sg × Int32)) : Option ((Sg × Int32) ⊕ (Sg × Int32)) :=
  if (gI x.1 4 2) ≤ (gI x.1 4 3) then
    some (.inr (x.1, x.2))
  else
    if (gI x.1 4 4) = (-1) then
      if 250 ≤ x.2 then
        some (.inr (x.1, x.2))
      else
        (s_TownReader_readItem x.1 ).bind fun q11 =>
        (s_TownReader_skipBlanks q11 ).bind fun q12 =>
        lt (x.2 + 1 : Int32) fun x13 =>
        some (.inl (q12, x13))
    else
      some (.inr (x.1, x.2))
def j_TownReader_readTown_79  (σ : Sg) (v3 : Int32) : Option (Int32 × Sg) :=
  if (gI σ 4 4) = (-1) then
    some (v3, σ)
  else
    some (((-10) - (gI σ 4 4)), σ)
def s_TownReader_readTown (σ : Sg) (a2 : Int32) : Option (Int32 × Sg) :=
  lt (pR σ 4 1 3 : Sg) fun s1 =>
  (s_Math_min a2 250).bind fun q2 =>
  lt (pI s1 4 2 q2 : Sg) fun s3 =>
  lt (pI s3 4 3 0 : Sg) fun s4 =>
  lt (pI s4 4 4 (-1) : Sg) fun s5 =>
  (s_Town_startOver_6 s5 4).bind fun q6 =>
  (s_TownReader_skipBlanks q6 ).bind fun q7 =>
  (lp (b_TownReader_readTown_39 ) 100000 (q7, 0)).bind fun o14 =>
  j_TownReader_readTown_79  o14.1 o14.2
set_option maxRecDepth 100000 in
set_option maxHeartbeats 4000000 in
theorem wb_TownReader_readTown_39  (x : (Sg × Int32)) (r : Option Value) (τ : Sg) (o : ((Sg × Int32) ⊕ (Sg × Int32))) (h : (b_TownReader_readTown_39  x) = some o) (hc : ∀ y : (Sg × Int32), o = .inl y → Ev M_X10_readTown 6 r τ 39 [(0, .ref 4), (3, .int y.2)] [] y.1) (he : ∀ y : (Sg × Int32), o = .inr y → Ev M_X10_readTown 6 r τ 79 [(0, .ref 4), (3, .int y.2)] [] y.1) : Ev M_X10_readTown 6 r τ 39 [(0, .ref 4), (3, .int x.2)] [] x.1 := by
  unfold b_TownReader_readTown_39 at h
  refine Ev_aload_n 0 (dt_X10_readTown.at 23 rfl) rfl ?_
  refine Ev_get (i := 3) (v := .int (gI x.1 4 3)) (dt_X10_readTown.at 24 rfl) ff_X10_32 sk_4 rfl rfl ?_
  refine Ev_aload_n 0 (dt_X10_readTown.at 25 rfl) rfl ?_
  refine Ev_get (i := 2) (v := .int (gI x.1 4 2)) (dt_X10_readTown.at 26 rfl) ff_X10_28 sk_4 rfl rfl ?_
  refine Ev_icmp_ge (tgt := 79) (dt_X10_readTown.at 27 rfl) (by decide) (fun c8 => ?_) (fun c8 => ?_)
  · replace h := oPos h c8
    refine Ev_sub [0, 1] (ls' := [(0, .ref 4), (3, .int x.2)]) rfl ?_
    exact he (x.1, x.2) (Option.some.inj h).symm
  · replace h := oNeg h c8
    refine Ev_aload_n 0 (dt_X10_readTown.at 28 rfl) rfl ?_
    refine Ev_get (i := 4) (v := .int (gI x.1 4 4)) (dt_X10_readTown.at 29 rfl) ff_X10_35 sk_4 rfl rfl ?_
    refine Ev_iconst (dt_X10_readTown.at 30 rfl) ki_m1 ?_
    refine Ev_icmp_ne (tgt := 79) (dt_X10_readTown.at 31 rfl) (by decide) (fun c9 => ?_) (fun c9 => ?_)
    · replace h := oNeg h c9
      refine Ev_sub [0, 1] (ls' := [(0, .ref 4), (3, .int x.2)]) rfl ?_
      exact he (x.1, x.2) (Option.some.inj h).symm
    · replace h := oPos h c9
      refine Ev_iload_n 1 (dt_X10_readTown.at 32 rfl) rfl ?_
      refine Ev_sipush (dt_X10_readTown.at 33 rfl) ks_250 ?_
      refine Ev_icmp_ge (tgt := 79) (dt_X10_readTown.at 34 rfl) (by decide) (fun c10 => ?_) (fun c10 => ?_)
      · replace h := oPos h c10
        refine Ev_sub [0, 1] (ls' := [(0, .ref 4), (3, .int x.2)]) rfl ?_
        exact he (x.1, x.2) (Option.some.inj h).symm
      · replace h := oNeg h c10
        refine Ev_aload_n 0 (dt_X10_readTown.at 35 rfl) rfl ?_
        obtain ⟨q11, hq11, h⟩ := oBind h
        refine Ev_callV (st := []) (st' := []) [] (dt_X10_readTown.at 36 rfl) cf_X10_45 (w_TownReader_readItem x.1  q11 hq11) (by decide) sk_4 rfl rfl rfl (Nat.le_of_ble_eq_true rfl) rfl ?_
        refine Ev_aload_n 0 (dt_X10_readTown.at 37 rfl) rfl ?_
        obtain ⟨q12, hq12, h⟩ := oBind h
        refine Ev_callV (st := []) (st' := []) [] (dt_X10_readTown.at 38 rfl) cf_X10_42 (w_TownReader_skipBlanks q11  q12 hq12) (by decide) sk_4 rfl rfl rfl (Nat.le_of_ble_eq_true rfl) rfl ?_
        obtain ⟨x13, ex13⟩ : ∃ z : Int32, z = x.2 + 1 := ⟨_, rfl⟩
        replace h := oLt h ex13
        refine Ev_iinc (v := x13) 1 (dt_X10_readTown.at 39 rfl) rfl (ex13.trans (congrArg (fun z => x.2 + z) ki_1.symm)) (by decide) (ls' := [(3, .int x13), (0, .ref 4)]) rfl ?_
        refine Ev_goto (tgt := 39) (dt_X10_readTown.at 40 rfl) (by decide) ?_
        refine Ev_sub [1, 0] (ls' := [(0, .ref 4), (3, .int x13)]) rfl ?_
        exact hc (q12, x13) (Option.some.inj h).symm
set_option maxRecDepth 100000 in
set_option maxHeartbeats 4000000 in
theorem wl_TownReader_readTown_39  (r : Option Value) (τ : Sg) (n : Nat) (x : (Sg × Int32)) (z : (Sg × Int32)) (h : lp (b_TownReader_readTown_39 ) n x = some z) (he : ∀ y : (Sg × Int32), z = y → Ev M_X10_readTown 6 r τ 79 [(0, .ref 4), (3, .int y.2)] [] y.1) : Ev M_X10_readTown 6 r τ 39 [(0, .ref 4), (3, .int x.2)] [] x.1 := by
  refine lp_ind (E := fun x : (Sg × Int32) => Ev M_X10_readTown 6 r τ 39 [(0, .ref 4), (3, .int x.2)] [] x.1) (fun x => ⟨fun y hb hy => ?_, fun hb => ?_⟩) n x h
  · exact wb_TownReader_readTown_39  x r τ _ hb (fun y' e => by cases e; exact hy) (fun y' e => by cases e)
  · exact wb_TownReader_readTown_39  x r τ _ hb (fun y' e => by cases e) (fun y' e => he y' (Sum.inr.inj e))
set_option maxRecDepth 100000 in
set_option maxHeartbeats 4000000 in
theorem wj_TownReader_readTown_79  (σ : Sg) (v3 : Int32) (q : (Int32 × Sg)) (h : (j_TownReader_readTown_79  σ v3) = some q) : Ev M_X10_readTown 6 (some (.int q.1)) q.2 79 [(0, .ref 4), (3, .int v3)] [] σ := by
  unfold j_TownReader_readTown_79 at h
  refine Ev_aload_n 0 (dt_X10_readTown.at 41 rfl) rfl ?_
  refine Ev_get (i := 4) (v := .int (gI σ 4 4)) (dt_X10_readTown.at 42 rfl) ff_X10_35 sk_4 rfl rfl ?_
  refine Ev_iconst (dt_X10_readTown.at 43 rfl) ki_m1 ?_
  refine Ev_icmp_ne (tgt := 91) (dt_X10_readTown.at 44 rfl) (by decide) (fun c15 => ?_) (fun c15 => ?_)
  · replace h := oNeg h c15
    refine Ev_bipush (dt_X10_readTown.at 47 rfl) kb_m10 ?_
    refine Ev_aload_n 0 (dt_X10_readTown.at 48 rfl) rfl ?_
    refine Ev_get (i := 4) (v := .int (gI σ 4 4)) (dt_X10_readTown.at 49 rfl) ff_X10_35 sk_4 rfl rfl ?_
    refine Ev_isub (dt_X10_readTown.at 50 rfl) ?_
    exact Ev_iret (dt_X10_readTown.at 51 rfl) rfl h
  · replace h := oPos h c15
    refine Ev_iload_n 1 (dt_X10_readTown.at 45 rfl) rfl ?_
    refine Ev_goto (tgt := 98) (dt_X10_readTown.at 46 rfl) (by decide) ?_
    exact Ev_iret (dt_X10_readTown.at 51 rfl) rfl h
set_option maxRecDepth 100000 in
set_option maxHeartbeats 4000000 in
theorem w_TownReader_readTown (σ : Sg) (a2 : Int32) (q : (Int32 × Sg)) (h : s_TownReader_readTown σ a2 = some q) : Cal M_X10_readTown 6 [.ref 4, .ref 3, .int a2] σ (some (.int q.1)) q.2 := by
  refine Cal.of (M := M_X10_readTown) (by decide +kernel) (Nat.le_of_ble_eq_true rfl) ?_
  show Ev _ _ _ _ 0 [(0, .ref 4), (1, .ref 3), (2, .int a2)] [] σ
  unfold s_TownReader_readTown at h
  refine Ev_aload_n 0 (dt_X10_readTown.at 0 rfl) rfl ?_
  refine Ev_aload_n 1 (dt_X10_readTown.at 1 rfl) rfl ?_
  refine Ev_putR (dt_X10_readTown.at 2 rfl) ff_X10_18 fw_10_1 sk_4 rfl ?_
  refine Ev_nmS (fun s1 es1 => ?_)
  replace h := oLt h es1
  refine Ev_aload_n 0 (dt_X10_readTown.at 3 rfl) rfl ?_
  refine Ev_iload_n 2 (dt_X10_readTown.at 4 rfl) rfl ?_
  refine Ev_aload_n 1 (dt_X10_readTown.at 5 rfl) rfl ?_
  refine Ev_alen 3 (dt_X10_readTown.at 6 rfl) sk_3 (Or.inl rfl) kn_250 ?_
  obtain ⟨q2, hq2, h⟩ := oBind h
  refine Ev_callS (st := [.ref 4]) (st' := [.int q2, .ref 4]) [.int a2, .int 250] (dt_X10_readTown.at 7 rfl) cf_X10_22 (w_Math_min s1 a2 250 q2 hq2) (by decide) rfl rfl (Nat.le_of_ble_eq_true rfl) rfl ?_
  refine Ev_putI (dt_X10_readTown.at 8 rfl) ff_X10_28 fw_10_2 sk_4 rfl ?_
  refine Ev_nmS (fun s3 es3 => ?_)
  replace h := oLt h es3
  refine Ev_aload_n 0 (dt_X10_readTown.at 9 rfl) rfl ?_
  refine Ev_iconst (dt_X10_readTown.at 10 rfl) ki_0 ?_
  refine Ev_putI (dt_X10_readTown.at 11 rfl) ff_X10_32 fw_10_3 sk_4 rfl ?_
  refine Ev_nmS (fun s4 es4 => ?_)
  replace h := oLt h es4
  refine Ev_aload_n 0 (dt_X10_readTown.at 12 rfl) rfl ?_
  refine Ev_iconst (dt_X10_readTown.at 13 rfl) ki_m1 ?_
  refine Ev_putI (dt_X10_readTown.at 14 rfl) ff_X10_35 fw_10_4 sk_4 rfl ?_
  refine Ev_nmS (fun s5 es5 => ?_)
  replace h := oLt h es5
  refine Ev_aload_n 0 (dt_X10_readTown.at 15 rfl) rfl ?_
  refine Ev_get (i := 0) (v := .ref 6) (dt_X10_readTown.at 16 rfl) ff_X10_12 sk_4 rfl rfl ?_
  refine Ev_iconst (dt_X10_readTown.at 17 rfl) ki_4 ?_
  obtain ⟨q6, hq6, h⟩ := oBind h
  refine Ev_callV (st := []) (st' := []) [.int 4] (dt_X10_readTown.at 18 rfl) cf_X10_38 (w_Town_startOver_6 s5 4 q6 hq6) (by decide) sk_6 rfl rfl rfl (Nat.le_of_ble_eq_true rfl) rfl ?_
  refine Ev_iconst (dt_X10_readTown.at 19 rfl) ki_0 ?_
  refine Ev_istore_n (dt_X10_readTown.at 20 rfl) (by decide) (ls' := [(3, .int 0), (0, .ref 4), (1, .ref 3), (2, .int a2)]) rfl ?_
  refine Ev_aload_n 1 (dt_X10_readTown.at 21 rfl) rfl ?_
  obtain ⟨q7, hq7, h⟩ := oBind h
  refine Ev_callV (st := []) (st' := []) [] (dt_X10_readTown.at 22 rfl) cf_X10_42 (w_TownReader_skipBlanks q6  q7 hq7) (by decide) sk_4 rfl rfl rfl (Nat.le_of_ble_eq_true rfl) rfl ?_
  refine Ev_sub [1, 0] (ls' := [(0, .ref 4), (3, .int 0)]) rfl ?_
  obtain ⟨o14, ho14, h⟩ := oBind h
  refine wl_TownReader_readTown_39  _ _ 100000 (q7, 0) o14 ho14 (fun y ey => ?_)
  subst ey
  refine Ev_sub [0, 1] (ls' := [(0, .ref 4), (3, .int o14.2)]) rfl ?_
  exact wj_TownReader_readTown_79  o14.1 o14.2 q h
def s_Town_become_19_6 (σ : Sg)  : Option Sg :=
  lt (pI σ 19 5 (gI σ 6 5) : Sg) fun s1 =>
  lt (pI s1 19 6 (gI s1 6 6) : Sg) fun s2 =>
  lt (cpI s2 7 (Int32.toNatClampNeg 0) 20 (Int32.toNatClampNeg 0) (Int32.toNatClampNeg 9) : Sg) fun s3 =>
  lt (cpI s3 8 (Int32.toNatClampNeg 0) 21 (Int32.toNatClampNeg 0) (Int32.toNatClampNeg 9) : Sg) fun s4 =>
  lt (cpI s4 9 (Int32.toNatClampNeg 0) 22 (Int32.toNatClampNeg 0) (Int32.toNatClampNeg 9) : Sg) fun s5 =>
  lt (cpI s5 10 (Int32.toNatClampNeg 0) 23 (Int32.toNatClampNeg 0) (Int32.toNatClampNeg 36) : Sg) fun s6 =>
  lt (cpI s6 11 (Int32.toNatClampNeg 0) 24 (Int32.toNatClampNeg 0) (Int32.toNatClampNeg 36) : Sg) fun s7 =>
  some s7
set_option maxRecDepth 100000 in
set_option maxHeartbeats 4000000 in
theorem w_Town_become_19_6 (σ : Sg)  (q : Sg) (h : s_Town_become_19_6 σ  = some q) : Cal M_X9_become 1 [.ref 19, .ref 6] σ none q := by
  refine Cal.of (M := M_X9_become) (by decide +kernel) (Nat.le_of_ble_eq_true rfl) ?_
  show Ev _ _ _ _ 0 [(0, .ref 19), (1, .ref 6)] [] σ
  unfold s_Town_become_19_6 at h
  refine Ev_aload_n 0 (dt_X9_become.at 0 rfl) rfl ?_
  refine Ev_aload_n 1 (dt_X9_become.at 1 rfl) rfl ?_
  refine Ev_get (i := 5) (v := .int (gI σ 6 5)) (dt_X9_become.at 2 rfl) ff_X9_27 sk_6 rfl rfl ?_
  refine Ev_putI (dt_X9_become.at 3 rfl) ff_X9_27 fw_9_5 sk_19 rfl ?_
  refine Ev_nmS (fun s1 es1 => ?_)
  replace h := oLt h es1
  refine Ev_aload_n 0 (dt_X9_become.at 4 rfl) rfl ?_
  refine Ev_aload_n 1 (dt_X9_become.at 5 rfl) rfl ?_
  refine Ev_get (i := 6) (v := .int (gI s1 6 6)) (dt_X9_become.at 6 rfl) ff_X9_31 sk_6 rfl rfl ?_
  refine Ev_putI (dt_X9_become.at 7 rfl) ff_X9_31 fw_9_6 sk_19 rfl ?_
  refine Ev_nmS (fun s2 es2 => ?_)
  replace h := oLt h es2
  refine Ev_aload_n 1 (dt_X9_become.at 8 rfl) rfl ?_
  refine Ev_get (i := 0) (v := .ref 7) (dt_X9_become.at 9 rfl) ff_X9_9 sk_6 rfl rfl ?_
  refine Ev_iconst (dt_X9_become.at 10 rfl) ki_0 ?_
  refine Ev_aload_n 0 (dt_X9_become.at 11 rfl) rfl ?_
  refine Ev_get (i := 0) (v := .ref 20) (dt_X9_become.at 12 rfl) ff_X9_9 sk_19 rfl rfl ?_
  refine Ev_iconst (dt_X9_become.at 13 rfl) ki_0 ?_
  refine Ev_bipush (dt_X9_become.at 14 rfl) kb_9 ?_
  refine Ev_copy (st := []) (dt_X9_become.at 15 rfl) ac_X9_60 (by decide) sk_7 sk_20 (by decide) (Nat.le_of_ble_eq_true rfl) ?_
  refine Ev_nmS (fun s3 es3 => ?_)
  replace h := oLt h es3
  refine Ev_aload_n 1 (dt_X9_become.at 16 rfl) rfl ?_
  refine Ev_get (i := 1) (v := .ref 8) (dt_X9_become.at 17 rfl) ff_X9_15 sk_6 rfl rfl ?_
  refine Ev_iconst (dt_X9_become.at 18 rfl) ki_0 ?_
  refine Ev_aload_n 0 (dt_X9_become.at 19 rfl) rfl ?_
  refine Ev_get (i := 1) (v := .ref 21) (dt_X9_become.at 20 rfl) ff_X9_15 sk_19 rfl rfl ?_
  refine Ev_iconst (dt_X9_become.at 21 rfl) ki_0 ?_
  refine Ev_bipush (dt_X9_become.at 22 rfl) kb_9 ?_
  refine Ev_copy (st := []) (dt_X9_become.at 23 rfl) ac_X9_60 (by decide) sk_8 sk_21 (by decide) (Nat.le_of_ble_eq_true rfl) ?_
  refine Ev_nmS (fun s4 es4 => ?_)
  replace h := oLt h es4
  refine Ev_aload_n 1 (dt_X9_become.at 24 rfl) rfl ?_
  refine Ev_get (i := 2) (v := .ref 9) (dt_X9_become.at 25 rfl) ff_X9_18 sk_6 rfl rfl ?_
  refine Ev_iconst (dt_X9_become.at 26 rfl) ki_0 ?_
  refine Ev_aload_n 0 (dt_X9_become.at 27 rfl) rfl ?_
  refine Ev_get (i := 2) (v := .ref 22) (dt_X9_become.at 28 rfl) ff_X9_18 sk_19 rfl rfl ?_
  refine Ev_iconst (dt_X9_become.at 29 rfl) ki_0 ?_
  refine Ev_bipush (dt_X9_become.at 30 rfl) kb_9 ?_
  refine Ev_copy (st := []) (dt_X9_become.at 31 rfl) ac_X9_60 (by decide) sk_9 sk_22 (by decide) (Nat.le_of_ble_eq_true rfl) ?_
  refine Ev_nmS (fun s5 es5 => ?_)
  replace h := oLt h es5
  refine Ev_aload_n 1 (dt_X9_become.at 32 rfl) rfl ?_
  refine Ev_get (i := 3) (v := .ref 10) (dt_X9_become.at 33 rfl) ff_X9_21 sk_6 rfl rfl ?_
  refine Ev_iconst (dt_X9_become.at 34 rfl) ki_0 ?_
  refine Ev_aload_n 0 (dt_X9_become.at 35 rfl) rfl ?_
  refine Ev_get (i := 3) (v := .ref 23) (dt_X9_become.at 36 rfl) ff_X9_21 sk_19 rfl rfl ?_
  refine Ev_iconst (dt_X9_become.at 37 rfl) ki_0 ?_
  refine Ev_bipush (dt_X9_become.at 38 rfl) kb_36 ?_
  refine Ev_copy (st := []) (dt_X9_become.at 39 rfl) ac_X9_60 (by decide) sk_10 sk_23 (by decide) (Nat.le_of_ble_eq_true rfl) ?_
  refine Ev_nmS (fun s6 es6 => ?_)
  replace h := oLt h es6
  refine Ev_aload_n 1 (dt_X9_become.at 40 rfl) rfl ?_
  refine Ev_get (i := 4) (v := .ref 11) (dt_X9_become.at 41 rfl) ff_X9_24 sk_6 rfl rfl ?_
  refine Ev_iconst (dt_X9_become.at 42 rfl) ki_0 ?_
  refine Ev_aload_n 0 (dt_X9_become.at 43 rfl) rfl ?_
  refine Ev_get (i := 4) (v := .ref 24) (dt_X9_become.at 44 rfl) ff_X9_24 sk_19 rfl rfl ?_
  refine Ev_iconst (dt_X9_become.at 45 rfl) ki_0 ?_
  refine Ev_bipush (dt_X9_become.at 46 rfl) kb_36 ?_
  refine Ev_copy (st := []) (dt_X9_become.at 47 rfl) ac_X9_60 (by decide) sk_11 sk_24 (by decide) (Nat.le_of_ble_eq_true rfl) ?_
  refine Ev_nmS (fun s7 es7 => ?_)
  replace h := oLt h es7
  exact Ev_vret (dt_X9_become.at 48 rfl) rfl h
def s_x_read (σ : Sg)  : Option (Int32 × Sg) :=
  (s_TownReader_readTown σ (gI σ 0 9)).bind fun q1 =>
  if q1.1 < 0 then
    some (q1.1, q1.2)
  else
    (s_Town_become_19_6 q1.2 ).bind fun q3 =>
    (s_Scene_forgetWeeksAndSights q3 ).bind fun q4 =>
    some (q1.1, q4)
set_option maxRecDepth 100000 in
set_option maxHeartbeats 4000000 in
theorem w_x_read (σ : Sg)  (q : (Int32 × Sg)) (h : s_x_read σ  = some q) : Cal M_X11_read 7 [.ref 0] σ (some (.int q.1)) q.2 := by
  refine Cal.of (M := M_X11_read) (by decide +kernel) (Nat.le_of_ble_eq_true rfl) ?_
  show Ev _ _ _ _ 0 [(0, .ref 0)] [] σ
  unfold s_x_read at h
  refine Ev_aload_n 0 (dt_X11_read.at 0 rfl) rfl ?_
  refine Ev_get (i := 4) (v := .ref 4) (dt_X11_read.at 1 rfl) ff_X11_26 sk_0 rfl rfl ?_
  refine Ev_aload_n 0 (dt_X11_read.at 2 rfl) rfl ?_
  refine Ev_get (i := 3) (v := .ref 3) (dt_X11_read.at 3 rfl) ff_X11_19 sk_0 rfl rfl ?_
  refine Ev_aload_n 0 (dt_X11_read.at 4 rfl) rfl ?_
  refine Ev_get (i := 9) (v := .int (gI σ 0 9)) (dt_X11_read.at 5 rfl) ff_X11_121 sk_0 rfl rfl ?_
  obtain ⟨q1, hq1, h⟩ := oBind h
  refine Ev_callV (st := []) (st' := [.int q1.1]) [.ref 3, .int (gI σ 0 9)] (dt_X11_read.at 6 rfl) cf_X11_124 (w_TownReader_readTown σ (gI σ 0 9) q1 hq1) (by decide) sk_4 rfl rfl rfl (Nat.le_of_ble_eq_true rfl) rfl ?_
  refine Ev_istore_n (dt_X11_read.at 7 rfl) (by decide) (ls' := [(1, .int q1.1), (0, .ref 0)]) rfl ?_
  refine Ev_iload_n 0 (dt_X11_read.at 8 rfl) rfl ?_
  refine Ev_if_lt (tgt := 44) (dt_X11_read.at 9 rfl) (by decide) (fun c2 => ?_) (fun c2 => ?_)
  · replace h := oPos h c2
    refine Ev_iload_n 0 (dt_X11_read.at 20 rfl) rfl ?_
    exact Ev_iret (dt_X11_read.at 21 rfl) rfl h
  · replace h := oNeg h c2
    refine Ev_aload_n 1 (dt_X11_read.at 10 rfl) rfl ?_
    refine Ev_get (i := 0) (v := .ref 25) (dt_X11_read.at 11 rfl) ff_X11_50 sk_0 rfl rfl ?_
    refine Ev_get (i := 0) (v := .ref 19) (dt_X11_read.at 12 rfl) ff_X11_72 sk_25 rfl rfl ?_
    refine Ev_aload_n 1 (dt_X11_read.at 13 rfl) rfl ?_
    refine Ev_get (i := 4) (v := .ref 4) (dt_X11_read.at 14 rfl) ff_X11_26 sk_0 rfl rfl ?_
    refine Ev_get (i := 0) (v := .ref 6) (dt_X11_read.at 15 rfl) ff_X11_128 sk_4 rfl rfl ?_
    obtain ⟨q3, hq3, h⟩ := oBind h
    refine Ev_callV (st := []) (st' := []) [.ref 6] (dt_X11_read.at 16 rfl) cf_X11_129 (w_Town_become_19_6 q1.2  q3 hq3) (by decide) sk_19 rfl rfl rfl (Nat.le_of_ble_eq_true rfl) rfl ?_
    refine Ev_aload_n 1 (dt_X11_read.at 17 rfl) rfl ?_
    refine Ev_get (i := 0) (v := .ref 25) (dt_X11_read.at 18 rfl) ff_X11_50 sk_0 rfl rfl ?_
    obtain ⟨q4, hq4, h⟩ := oBind h
    refine Ev_callV (st := []) (st' := []) [] (dt_X11_read.at 19 rfl) cf_X11_83 (w_Scene_forgetWeeksAndSights q3  q4 hq4) (by decide) sk_25 rfl rfl rfl (Nat.le_of_ble_eq_true rfl) rfl ?_
    refine Ev_iload_n 0 (dt_X11_read.at 20 rfl) rfl ?_
    exact Ev_iret (dt_X11_read.at 21 rfl) rfl h
def s_m_in (a0 : Int64) (a2 : Int64) (a4 : Int64) : Option Int32 :=
  if (lg_cmp a0 a2) < 0 then
    some 0
  else
    if 0 < (lg_cmp a0 a4) then
      some 0
    else
      some 1
set_option maxRecDepth 100000 in
set_option maxHeartbeats 4000000 in
theorem w_m_in (σ : Sg) (a0 : Int64) (a2 : Int64) (a4 : Int64) (q : Int32) (h : s_m_in a0 a2 a4 = some q) : Cal M_X12_in 0 [.long a0, .long a2, .long a4] σ (some (.int q)) σ := by
  refine Cal.of (M := M_X12_in) (by decide +kernel) (Nat.le_of_ble_eq_true rfl) ?_
  show Ev _ _ _ _ 0 [(0, .long a0), (2, .long a2), (4, .long a4)] [] σ
  unfold s_m_in at h
  refine Ev_lload_n 0 (dt_X12_in.at 0 rfl) rfl ?_
  refine Ev_lload_n 1 (dt_X12_in.at 1 rfl) rfl ?_
  refine Ev_lcmp (dt_X12_in.at 2 rfl) ?_
  refine Ev_if_lt (tgt := 17) (dt_X12_in.at 3 rfl) (by decide) (fun c1 => ?_) (fun c1 => ?_)
  · replace h := oPos h c1
    refine Ev_iconst (dt_X12_in.at 10 rfl) ki_0 ?_
    exact Ev_zret (dt_X12_in.at 11 rfl) rfl (by decide) (oRet h)
  · replace h := oNeg h c1
    refine Ev_lload_n 0 (dt_X12_in.at 4 rfl) rfl ?_
    refine Ev_lload 2 (dt_X12_in.at 5 rfl) rfl ?_
    refine Ev_lcmp (dt_X12_in.at 6 rfl) ?_
    refine Ev_if_gt (tgt := 17) (dt_X12_in.at 7 rfl) (by decide) (fun c2 => ?_) (fun c2 => ?_)
    · replace h := oPos h c2
      refine Ev_iconst (dt_X12_in.at 10 rfl) ki_0 ?_
      exact Ev_zret (dt_X12_in.at 11 rfl) rfl (by decide) (oRet h)
    · replace h := oNeg h c2
      refine Ev_iconst (dt_X12_in.at 8 rfl) ki_1 ?_
      refine Ev_goto (tgt := 18) (dt_X12_in.at 9 rfl) (by decide) ?_
      exact Ev_zret (dt_X12_in.at 11 rfl) rfl (by decide) (oRet h)
def s_m_ring (σ : Sg)  : Option Int32 :=
  some (gI σ 72 (Int32.toNatClampNeg 0))
set_option maxRecDepth 100000 in
set_option maxHeartbeats 4000000 in
theorem w_m_ring (σ : Sg)  (q : Int32) (h : s_m_ring σ  = some q) : Cal M_X12_ring 0 [.ref 71] σ (some (.int q)) σ := by
  refine Cal.of (M := M_X12_ring) (by decide +kernel) (Nat.le_of_ble_eq_true rfl) ?_
  show Ev _ _ _ _ 0 [(0, .ref 71)] [] σ
  unfold s_m_ring at h
  refine Ev_aload_n 0 (dt_X12_ring.at 0 rfl) rfl ?_
  refine Ev_get (i := 0) (v := .ref 72) (dt_X12_ring.at 1 rfl) ff_X12_7 sk_71 rfl rfl ?_
  refine Ev_iconst (dt_X12_ring.at 2 rfl) ki_0 ?_
  refine Ev_iaload 72 (dt_X12_ring.at 3 rfl) sk_72 ib_0_143 ?_
  exact Ev_iret (dt_X12_ring.at 4 rfl) rfl (oRet h)
def s_m_bad (σ : Sg) (a1 : Int32) : Option (Int32 × Sg) :=
  lt (pI σ 75 (Int32.toNatClampNeg 0) ((gI σ 75 (Int32.toNatClampNeg 0)) + 1) : Sg) fun s1 =>
  some (a1, s1)
set_option maxRecDepth 100000 in
set_option maxHeartbeats 4000000 in
theorem w_m_bad (σ : Sg) (a1 : Int32) (q : (Int32 × Sg)) (h : s_m_bad σ a1 = some q) : Cal M_X12_bad 0 [.ref 71, .int a1] σ (some (.int q.1)) q.2 := by
  refine Cal.of (M := M_X12_bad) (by decide +kernel) (Nat.le_of_ble_eq_true rfl) ?_
  show Ev _ _ _ _ 0 [(0, .ref 71), (1, .int a1)] [] σ
  unfold s_m_bad at h
  refine Ev_aload_n 0 (dt_X12_bad.at 0 rfl) rfl ?_
  refine Ev_get (i := 3) (v := .ref 75) (dt_X12_bad.at 1 rfl) ff_X12_20 sk_71 rfl rfl ?_
  refine Ev_iconst (dt_X12_bad.at 2 rfl) ki_0 ?_
  refine Ev_dup2 (dt_X12_bad.at 3 rfl) rfl rfl ?_
  refine Ev_iaload 75 (dt_X12_bad.at 4 rfl) sk_75 ib_0_3 ?_
  refine Ev_iconst (dt_X12_bad.at 5 rfl) ki_1 ?_
  refine Ev_iadd (dt_X12_bad.at 6 rfl) ?_
  refine Ev_iastore 75 (dt_X12_bad.at 7 rfl) sk_75 ib_0_3 ?_
  refine Ev_nmS (fun s1 es1 => ?_)
  replace h := oLt h es1
  refine Ev_iload_n 1 (dt_X12_bad.at 8 rfl) rfl ?_
  exact Ev_iret (dt_X12_bad.at 9 rfl) rfl h
def s_m_places (σ : Sg) (a1 : Int32) : Option (Int32 × Sg) :=
  (s_m_in (Int32.toInt64 a1) 1 6).bind fun q1 =>
  if q1 = 0 then
    (s_m_bad σ (-2)).bind fun q8 =>
    some (q8.1, q8.2)
  else
    (s_m_ring σ ).bind fun q3 =>
    lt (pI σ 72 (Int32.toNatClampNeg 0) a1 : Sg) fun s4 =>
    lt (pI s4 72 (Int32.toNatClampNeg 1) 0 : Sg) fun s5 =>
    lt (pI s5 72 (Int32.toNatClampNeg 108) 0 : Sg) fun s6 =>
    lt (pI s6 72 (Int32.toNatClampNeg 127) 0 : Sg) fun s7 =>
    some (q3, s7)
set_option maxRecDepth 100000 in
set_option maxHeartbeats 4000000 in
theorem w_m_places (σ : Sg) (a1 : Int32) (q : (Int32 × Sg)) (h : s_m_places σ a1 = some q) : Cal M_X12_places 1 [.ref 71, .int a1] σ (some (.int q.1)) q.2 := by
  refine Cal.of (M := M_X12_places) (by decide +kernel) (Nat.le_of_ble_eq_true rfl) ?_
  show Ev _ _ _ _ 0 [(0, .ref 71), (1, .int a1)] [] σ
  unfold s_m_places at h
  refine Ev_iload_n 1 (dt_X12_places.at 0 rfl) rfl ?_
  refine Ev_i2l (dt_X12_places.at 1 rfl) ?_
  refine Ev_lconst (dt_X12_places.at 2 rfl) kl_1 ?_
  refine Ev_ldc2 (dt_X12_places.at 3 rfl) cl_X12_86 ?_
  obtain ⟨q1, hq1, h⟩ := oBind h
  refine Ev_callS (st := []) (st' := [.int q1]) [.long (Int32.toInt64 a1), .long 1, .long 6] (dt_X12_places.at 4 rfl) cf_X12_74 (w_m_in σ (Int32.toInt64 a1) 1 6 q1 hq1) (by decide) rfl rfl (Nat.le_of_ble_eq_true rfl) rfl ?_
  refine Ev_if_ne (tgt := 19) (dt_X12_places.at 5 rfl) (by decide) (fun c2 => ?_) (fun c2 => ?_)
  · replace h := oNeg h c2
    refine Ev_aload_n 0 (dt_X12_places.at 10 rfl) rfl ?_
    obtain ⟨q3, hq3, h⟩ := oBind h
    refine Ev_callV (st := []) (st' := [.int q3]) [] (dt_X12_places.at 11 rfl) cf_X12_91 (w_m_ring σ  q3 hq3) (by decide) sk_71 rfl rfl rfl (Nat.le_of_ble_eq_true rfl) rfl ?_
    refine Ev_istore_n (dt_X12_places.at 12 rfl) (by decide) (ls' := [(2, .int q3), (0, .ref 71), (1, .int a1)]) rfl ?_
    refine Ev_aload_n 1 (dt_X12_places.at 13 rfl) rfl ?_
    refine Ev_get (i := 0) (v := .ref 72) (dt_X12_places.at 14 rfl) ff_X12_7 sk_71 rfl rfl ?_
    refine Ev_iconst (dt_X12_places.at 15 rfl) ki_0 ?_
    refine Ev_iload_n 2 (dt_X12_places.at 16 rfl) rfl ?_
    refine Ev_iastore 72 (dt_X12_places.at 17 rfl) sk_72 ib_0_143 ?_
    refine Ev_nmS (fun s4 es4 => ?_)
    replace h := oLt h es4
    refine Ev_aload_n 1 (dt_X12_places.at 18 rfl) rfl ?_
    refine Ev_get (i := 0) (v := .ref 72) (dt_X12_places.at 19 rfl) ff_X12_7 sk_71 rfl rfl ?_
    refine Ev_iconst (dt_X12_places.at 20 rfl) ki_1 ?_
    refine Ev_iconst (dt_X12_places.at 21 rfl) ki_0 ?_
    refine Ev_iastore 72 (dt_X12_places.at 22 rfl) sk_72 ib_1_143 ?_
    refine Ev_nmS (fun s5 es5 => ?_)
    replace h := oLt h es5
    refine Ev_aload_n 1 (dt_X12_places.at 23 rfl) rfl ?_
    refine Ev_get (i := 0) (v := .ref 72) (dt_X12_places.at 24 rfl) ff_X12_7 sk_71 rfl rfl ?_
    refine Ev_bipush (dt_X12_places.at 25 rfl) kb_108 ?_
    refine Ev_iconst (dt_X12_places.at 26 rfl) ki_0 ?_
    refine Ev_iastore 72 (dt_X12_places.at 27 rfl) sk_72 ib_108_143 ?_
    refine Ev_nmS (fun s6 es6 => ?_)
    replace h := oLt h es6
    refine Ev_aload_n 1 (dt_X12_places.at 28 rfl) rfl ?_
    refine Ev_get (i := 0) (v := .ref 72) (dt_X12_places.at 29 rfl) ff_X12_7 sk_71 rfl rfl ?_
    refine Ev_bipush (dt_X12_places.at 30 rfl) kb_127 ?_
    refine Ev_iconst (dt_X12_places.at 31 rfl) ki_0 ?_
    refine Ev_iastore 72 (dt_X12_places.at 32 rfl) sk_72 ib_127_143 ?_
    refine Ev_nmS (fun s7 es7 => ?_)
    replace h := oLt h es7
    refine Ev_iload_n 0 (dt_X12_places.at 33 rfl) rfl ?_
    exact Ev_iret (dt_X12_places.at 34 rfl) rfl h
  · replace h := oPos h c2
    refine Ev_aload_n 0 (dt_X12_places.at 6 rfl) rfl ?_
    refine Ev_bipush (dt_X12_places.at 7 rfl) kb_m2 ?_
    obtain ⟨q8, hq8, h⟩ := oBind h
    refine Ev_callV (st := []) (st' := [.int q8.1]) [.int (-2)] (dt_X12_places.at 8 rfl) cf_X12_88 (w_m_bad σ (-2) q8 hq8) (by decide) sk_71 rfl rfl rfl (Nat.le_of_ble_eq_true rfl) rfl ?_
    exact Ev_iret (dt_X12_places.at 9 rfl) rfl h
