def s_x_refusedBad (σ : Sg) (a1 : Int32) : Option (Int32 × Sg) :=
  lt (pI σ 0 12 ((gI σ 0 12) + 1) : Sg) fun s1 =>
  some (a1, s1)
set_option maxRecDepth 100000 in
set_option maxHeartbeats 4000000 in
theorem w_x_refusedBad (σ : Sg) (a1 : Int32) (q : (Int32 × Sg)) (h : s_x_refusedBad σ a1 = some q) : Cal M_X11_refusedBad 0 [.ref 0, .int a1] σ (some (.int q.1)) q.2 := by
  refine Cal.of (M := M_X11_refusedBad) (by decide +kernel) (Nat.le_of_ble_eq_true rfl) ?_
  show Ev _ _ _ _ 0 [(0, .ref 0), (1, .int a1)] [] σ
  unfold s_x_refusedBad at h
  refine Ev_aload_n 0 (dt_X11_refusedBad.at 0 rfl) rfl ?_
  refine Ev_dup (dt_X11_refusedBad.at 1 rfl) rfl ?_
  refine Ev_get (i := 12) (v := .int (gI σ 0 12)) (dt_X11_refusedBad.at 2 rfl) ff_X11_232 sk_0 rfl rfl ?_
  refine Ev_iconst (dt_X11_refusedBad.at 3 rfl) ki_1 ?_
  refine Ev_iadd (dt_X11_refusedBad.at 4 rfl) ?_
  refine Ev_putI (dt_X11_refusedBad.at 5 rfl) ff_X11_232 fw_11_12 sk_0 rfl ?_
  refine Ev_nmS (fun s1 es1 => ?_)
  replace h := oLt h es1
  refine Ev_iload_n 1 (dt_X11_refusedBad.at 6 rfl) rfl ?_
  exact Ev_iret (dt_X11_refusedBad.at 7 rfl) rfl h
def s_Town_startOver (σ : Sg) (a1 : Int32) : Option Sg :=
  lt (pI σ 19 5 a1 : Sg) fun s1 =>
  lt (pI s1 19 6 0 : Sg) fun s2 =>
  some s2
set_option maxRecDepth 100000 in
set_option maxHeartbeats 4000000 in
theorem w_Town_startOver (σ : Sg) (a1 : Int32) (q : Sg) (h : s_Town_startOver σ a1 = some q) : Cal M_X9_startOver 0 [.ref 19, .int a1] σ none q := by
  refine Cal.of (M := M_X9_startOver) (by decide +kernel) (Nat.le_of_ble_eq_true rfl) ?_
  show Ev _ _ _ _ 0 [(0, .ref 19), (1, .int a1)] [] σ
  unfold s_Town_startOver at h
  refine Ev_aload_n 0 (dt_X9_startOver.at 0 rfl) rfl ?_
  refine Ev_iload_n 1 (dt_X9_startOver.at 1 rfl) rfl ?_
  refine Ev_putI (dt_X9_startOver.at 2 rfl) ff_X9_27 fw_9_5 sk_19 rfl ?_
  refine Ev_nmS (fun s1 es1 => ?_)
  replace h := oLt h es1
  refine Ev_aload_n 0 (dt_X9_startOver.at 3 rfl) rfl ?_
  refine Ev_iconst (dt_X9_startOver.at 4 rfl) ki_0 ?_
  refine Ev_putI (dt_X9_startOver.at 5 rfl) ff_X9_31 fw_9_6 sk_19 rfl ?_
  refine Ev_nmS (fun s2 es2 => ?_)
  replace h := oLt h es2
  exact Ev_vret (dt_X9_startOver.at 6 rfl) rfl h
def s_Scene_forgetWeeksAndSights (σ : Sg)  : Option Sg :=
  lt (pI σ 25 6 0 : Sg) fun s1 =>
  lt (pI s1 25 7 0 : Sg) fun s2 =>
  some s2
set_option maxRecDepth 100000 in
set_option maxHeartbeats 4000000 in
theorem w_Scene_forgetWeeksAndSights (σ : Sg)  (q : Sg) (h : s_Scene_forgetWeeksAndSights σ  = some q) : Cal M_X6_forgetWeeksAndSights 0 [.ref 25] σ none q := by
  refine Cal.of (M := M_X6_forgetWeeksAndSights) (by decide +kernel) (Nat.le_of_ble_eq_true rfl) ?_
  show Ev _ _ _ _ 0 [(0, .ref 25)] [] σ
  unfold s_Scene_forgetWeeksAndSights at h
  refine Ev_aload_n 0 (dt_X6_forgetWeeksAndSights.at 0 rfl) rfl ?_
  refine Ev_iconst (dt_X6_forgetWeeksAndSights.at 1 rfl) ki_0 ?_
  refine Ev_putI (dt_X6_forgetWeeksAndSights.at 2 rfl) ff_X6_31 fw_6_6 sk_25 rfl ?_
  refine Ev_nmS (fun s1 es1 => ?_)
  replace h := oLt h es1
  refine Ev_aload_n 0 (dt_X6_forgetWeeksAndSights.at 3 rfl) rfl ?_
  refine Ev_iconst (dt_X6_forgetWeeksAndSights.at 4 rfl) ki_0 ?_
  refine Ev_putI (dt_X6_forgetWeeksAndSights.at 5 rfl) ff_X6_35 fw_6_7 sk_25 rfl ?_
  refine Ev_nmS (fun s2 es2 => ?_)
  replace h := oLt h es2
  exact Ev_vret (dt_X6_forgetWeeksAndSights.at 6 rfl) rfl h
def s_x_places (σ : Sg) (a1 : Int32) : Option (Int32 × Sg) :=
  if a1 < 1 then
    (s_x_refusedBad σ (-2)).bind fun q2 =>
    some (q2.1, q2.2)
  else
    if a1 ≤ 6 then
      lt ((gI σ 19 5) : Int32) fun x4 =>
      (s_Town_startOver σ a1).bind fun q5 =>
      (s_Scene_forgetWeeksAndSights q5 ).bind fun q6 =>
      some (x4, q6)
    else
      (s_x_refusedBad σ (-2)).bind fun q7 =>
      some (q7.1, q7.2)
set_option maxRecDepth 100000 in
set_option maxHeartbeats 4000000 in
theorem w_x_places (σ : Sg) (a1 : Int32) (q : (Int32 × Sg)) (h : s_x_places σ a1 = some q) : Cal M_X11_places 1 [.ref 0, .int a1] σ (some (.int q.1)) q.2 := by
  refine Cal.of (M := M_X11_places) (by decide +kernel) (Nat.le_of_ble_eq_true rfl) ?_
  show Ev _ _ _ _ 0 [(0, .ref 0), (1, .int a1)] [] σ
  unfold s_x_places at h
  refine Ev_iload_n 1 (dt_X11_places.at 0 rfl) rfl ?_
  refine Ev_iconst (dt_X11_places.at 1 rfl) ki_1 ?_
  refine Ev_icmp_lt (tgt := 11) (dt_X11_places.at 2 rfl) (by decide) (fun c1 => ?_) (fun c1 => ?_)
  · replace h := oPos h c1
    refine Ev_aload_n 0 (dt_X11_places.at 6 rfl) rfl ?_
    refine Ev_bipush (dt_X11_places.at 7 rfl) kb_m2 ?_
    obtain ⟨q2, hq2, h⟩ := oBind h
    refine Ev_callV (st := []) (st' := [.int q2.1]) [.int (-2)] (dt_X11_places.at 8 rfl) cf_X11_68 (w_x_refusedBad σ (-2) q2 hq2) (by decide) sk_0 rfl rfl rfl (Nat.le_of_ble_eq_true rfl) rfl ?_
    exact Ev_iret (dt_X11_places.at 9 rfl) rfl h
  · replace h := oNeg h c1
    refine Ev_iload_n 1 (dt_X11_places.at 3 rfl) rfl ?_
    refine Ev_bipush (dt_X11_places.at 4 rfl) kb_6 ?_
    refine Ev_icmp_le (tgt := 18) (dt_X11_places.at 5 rfl) (by decide) (fun c3 => ?_) (fun c3 => ?_)
    · replace h := oPos h c3
      refine Ev_aload_n 0 (dt_X11_places.at 10 rfl) rfl ?_
      refine Ev_get (i := 0) (v := .ref 25) (dt_X11_places.at 11 rfl) ff_X11_50 sk_0 rfl rfl ?_
      refine Ev_get (i := 0) (v := .ref 19) (dt_X11_places.at 12 rfl) ff_X11_72 sk_25 rfl rfl ?_
      refine Ev_get (i := 5) (v := .int (gI σ 19 5)) (dt_X11_places.at 13 rfl) ff_X11_76 sk_19 rfl rfl ?_
      refine Ev_nmI (fun x4 ex4 => ?_)
      replace h := oLt h ex4
      refine Ev_istore_n (dt_X11_places.at 14 rfl) (by decide) (ls' := [(2, .int x4), (0, .ref 0), (1, .int a1)]) rfl ?_
      refine Ev_aload_n 1 (dt_X11_places.at 15 rfl) rfl ?_
      refine Ev_get (i := 0) (v := .ref 25) (dt_X11_places.at 16 rfl) ff_X11_50 sk_0 rfl rfl ?_
      refine Ev_get (i := 0) (v := .ref 19) (dt_X11_places.at 17 rfl) ff_X11_72 sk_25 rfl rfl ?_
      refine Ev_iload_n 2 (dt_X11_places.at 18 rfl) rfl ?_
      obtain ⟨q5, hq5, h⟩ := oBind h
      refine Ev_callV (st := []) (st' := []) [.int a1] (dt_X11_places.at 19 rfl) cf_X11_79 (w_Town_startOver σ a1 q5 hq5) (by decide) sk_19 rfl rfl rfl (Nat.le_of_ble_eq_true rfl) rfl ?_
      refine Ev_aload_n 1 (dt_X11_places.at 20 rfl) rfl ?_
      refine Ev_get (i := 0) (v := .ref 25) (dt_X11_places.at 21 rfl) ff_X11_50 sk_0 rfl rfl ?_
      obtain ⟨q6, hq6, h⟩ := oBind h
      refine Ev_callV (st := []) (st' := []) [] (dt_X11_places.at 22 rfl) cf_X11_83 (w_Scene_forgetWeeksAndSights q5  q6 hq6) (by decide) sk_25 rfl rfl rfl (Nat.le_of_ble_eq_true rfl) rfl ?_
      refine Ev_iload_n 0 (dt_X11_places.at 23 rfl) rfl ?_
      exact Ev_iret (dt_X11_places.at 24 rfl) rfl h
    · replace h := oNeg h c3
      refine Ev_aload_n 0 (dt_X11_places.at 6 rfl) rfl ?_
      refine Ev_bipush (dt_X11_places.at 7 rfl) kb_m2 ?_
      obtain ⟨q7, hq7, h⟩ := oBind h
      refine Ev_callV (st := []) (st' := [.int q7.1]) [.int (-2)] (dt_X11_places.at 8 rfl) cf_X11_68 (w_x_refusedBad σ (-2) q7 hq7) (by decide) sk_0 rfl rfl rfl (Nat.le_of_ble_eq_true rfl) rfl ?_
      exact Ev_iret (dt_X11_places.at 9 rfl) rfl h
def s_x_isKindAndPace (a0 : Int32) (a1 : Int32) : Option Int32 :=
  if a0 < 0 then
    some 0
  else
    if 5 ≤ a0 then
      some 0
    else
      if a1 < 1 then
        some 0
      else
        if 9 < a1 then
          some 0
        else
          some 1
set_option maxRecDepth 100000 in
set_option maxHeartbeats 4000000 in
theorem w_x_isKindAndPace (σ : Sg) (a0 : Int32) (a1 : Int32) (q : Int32) (h : s_x_isKindAndPace a0 a1 = some q) : Cal M_X11_isKindAndPace 0 [.int a0, .int a1] σ (some (.int q)) σ := by
  refine Cal.of (M := M_X11_isKindAndPace) (by decide +kernel) (Nat.le_of_ble_eq_true rfl) ?_
  show Ev _ _ _ _ 0 [(0, .int a0), (1, .int a1)] [] σ
  unfold s_x_isKindAndPace at h
  refine Ev_iload_n 0 (dt_X11_isKindAndPace.at 0 rfl) rfl ?_
  refine Ev_if_lt (tgt := 24) (dt_X11_isKindAndPace.at 1 rfl) (by decide) (fun c1 => ?_) (fun c1 => ?_)
  · replace h := oPos h c1
    refine Ev_iconst (dt_X11_isKindAndPace.at 13 rfl) ki_0 ?_
    exact Ev_zret (dt_X11_isKindAndPace.at 14 rfl) rfl (by decide) (oRet h)
  · replace h := oNeg h c1
    refine Ev_iload_n 0 (dt_X11_isKindAndPace.at 2 rfl) rfl ?_
    refine Ev_iconst (dt_X11_isKindAndPace.at 3 rfl) ki_5 ?_
    refine Ev_icmp_ge (tgt := 24) (dt_X11_isKindAndPace.at 4 rfl) (by decide) (fun c2 => ?_) (fun c2 => ?_)
    · replace h := oPos h c2
      refine Ev_iconst (dt_X11_isKindAndPace.at 13 rfl) ki_0 ?_
      exact Ev_zret (dt_X11_isKindAndPace.at 14 rfl) rfl (by decide) (oRet h)
    · replace h := oNeg h c2
      refine Ev_iload_n 1 (dt_X11_isKindAndPace.at 5 rfl) rfl ?_
      refine Ev_iconst (dt_X11_isKindAndPace.at 6 rfl) ki_1 ?_
      refine Ev_icmp_lt (tgt := 24) (dt_X11_isKindAndPace.at 7 rfl) (by decide) (fun c3 => ?_) (fun c3 => ?_)
      · replace h := oPos h c3
        refine Ev_iconst (dt_X11_isKindAndPace.at 13 rfl) ki_0 ?_
        exact Ev_zret (dt_X11_isKindAndPace.at 14 rfl) rfl (by decide) (oRet h)
      · replace h := oNeg h c3
        refine Ev_iload_n 1 (dt_X11_isKindAndPace.at 8 rfl) rfl ?_
        refine Ev_bipush (dt_X11_isKindAndPace.at 9 rfl) kb_9 ?_
        refine Ev_icmp_gt (tgt := 24) (dt_X11_isKindAndPace.at 10 rfl) (by decide) (fun c4 => ?_) (fun c4 => ?_)
        · replace h := oPos h c4
          refine Ev_iconst (dt_X11_isKindAndPace.at 13 rfl) ki_0 ?_
          exact Ev_zret (dt_X11_isKindAndPace.at 14 rfl) rfl (by decide) (oRet h)
        · replace h := oNeg h c4
          refine Ev_iconst (dt_X11_isKindAndPace.at 11 rfl) ki_1 ?_
          refine Ev_goto (tgt := 25) (dt_X11_isKindAndPace.at 12 rfl) (by decide) ?_
          exact Ev_zret (dt_X11_isKindAndPace.at 14 rfl) rfl (by decide) (oRet h)
def s_Town_addPerson (σ : Sg) (a1 : Int32) (a2 : Int32) : Option (Int32 × Sg) :=
  if (gI σ 19 6) < 9 then
    if inB (gI σ 19 6) 9 = true then
      lt (pI σ 20 (Int32.toNatClampNeg (gI σ 19 6)) a1 : Sg) fun s3 =>
      if inB (gI s3 19 6) 9 = true then
        lt (pI s3 21 (Int32.toNatClampNeg (gI s3 19 6)) a2 : Sg) fun s5 =>
        if inB (gI s5 19 6) 9 = true then
          lt (pI s5 22 (Int32.toNatClampNeg (gI s5 19 6)) 0 : Sg) fun s7 =>
          lt (pI s7 19 6 ((gI s7 19 6) + 1) : Sg) fun s8 =>
          some (((gI s8 19 6) - 1), s8)
        else none
      else none
    else none
  else
    some ((-1), σ)
set_option maxRecDepth 100000 in
set_option maxHeartbeats 4000000 in
theorem w_Town_addPerson (σ : Sg) (a1 : Int32) (a2 : Int32) (q : (Int32 × Sg)) (h : s_Town_addPerson σ a1 a2 = some q) : Cal M_X9_addPerson 0 [.ref 19, .int a1, .int a2] σ (some (.int q.1)) q.2 := by
  refine Cal.of (M := M_X9_addPerson) (by decide +kernel) (Nat.le_of_ble_eq_true rfl) ?_
  show Ev _ _ _ _ 0 [(0, .ref 19), (1, .int a1), (2, .int a2)] [] σ
  unfold s_Town_addPerson at h
  refine Ev_aload_n 0 (dt_X9_addPerson.at 0 rfl) rfl ?_
  refine Ev_get (i := 6) (v := .int (gI σ 19 6)) (dt_X9_addPerson.at 1 rfl) ff_X9_31 sk_19 rfl rfl ?_
  refine Ev_bipush (dt_X9_addPerson.at 2 rfl) kb_9 ?_
  refine Ev_icmp_lt (tgt := 11) (dt_X9_addPerson.at 3 rfl) (by decide) (fun c1 => ?_) (fun c1 => ?_)
  · replace h := oPos h c1
    refine Ev_aload_n 0 (dt_X9_addPerson.at 6 rfl) rfl ?_
    refine Ev_get (i := 0) (v := .ref 20) (dt_X9_addPerson.at 7 rfl) ff_X9_9 sk_19 rfl rfl ?_
    refine Ev_aload_n 0 (dt_X9_addPerson.at 8 rfl) rfl ?_
    refine Ev_get (i := 6) (v := .int (gI σ 19 6)) (dt_X9_addPerson.at 9 rfl) ff_X9_31 sk_19 rfl rfl ?_
    refine Ev_iload_n 1 (dt_X9_addPerson.at 10 rfl) rfl ?_
    obtain ⟨g2, h⟩ := oGuard h
    refine Ev_iastore 20 (dt_X9_addPerson.at 11 rfl) sk_20 g2 ?_
    refine Ev_nmS (fun s3 es3 => ?_)
    replace h := oLt h es3
    refine Ev_aload_n 0 (dt_X9_addPerson.at 12 rfl) rfl ?_
    refine Ev_get (i := 1) (v := .ref 21) (dt_X9_addPerson.at 13 rfl) ff_X9_15 sk_19 rfl rfl ?_
    refine Ev_aload_n 0 (dt_X9_addPerson.at 14 rfl) rfl ?_
    refine Ev_get (i := 6) (v := .int (gI s3 19 6)) (dt_X9_addPerson.at 15 rfl) ff_X9_31 sk_19 rfl rfl ?_
    refine Ev_iload_n 2 (dt_X9_addPerson.at 16 rfl) rfl ?_
    obtain ⟨g4, h⟩ := oGuard h
    refine Ev_iastore 21 (dt_X9_addPerson.at 17 rfl) sk_21 g4 ?_
    refine Ev_nmS (fun s5 es5 => ?_)
    replace h := oLt h es5
    refine Ev_aload_n 0 (dt_X9_addPerson.at 18 rfl) rfl ?_
    refine Ev_get (i := 2) (v := .ref 22) (dt_X9_addPerson.at 19 rfl) ff_X9_18 sk_19 rfl rfl ?_
    refine Ev_aload_n 0 (dt_X9_addPerson.at 20 rfl) rfl ?_
    refine Ev_get (i := 6) (v := .int (gI s5 19 6)) (dt_X9_addPerson.at 21 rfl) ff_X9_31 sk_19 rfl rfl ?_
    refine Ev_iconst (dt_X9_addPerson.at 22 rfl) ki_0 ?_
    obtain ⟨g6, h⟩ := oGuard h
    refine Ev_iastore 22 (dt_X9_addPerson.at 23 rfl) sk_22 g6 ?_
    refine Ev_nmS (fun s7 es7 => ?_)
    replace h := oLt h es7
    refine Ev_aload_n 0 (dt_X9_addPerson.at 24 rfl) rfl ?_
    refine Ev_dup (dt_X9_addPerson.at 25 rfl) rfl ?_
    refine Ev_get (i := 6) (v := .int (gI s7 19 6)) (dt_X9_addPerson.at 26 rfl) ff_X9_31 sk_19 rfl rfl ?_
    refine Ev_iconst (dt_X9_addPerson.at 27 rfl) ki_1 ?_
    refine Ev_iadd (dt_X9_addPerson.at 28 rfl) ?_
    refine Ev_putI (dt_X9_addPerson.at 29 rfl) ff_X9_31 fw_9_6 sk_19 rfl ?_
    refine Ev_nmS (fun s8 es8 => ?_)
    replace h := oLt h es8
    refine Ev_aload_n 0 (dt_X9_addPerson.at 30 rfl) rfl ?_
    refine Ev_get (i := 6) (v := .int (gI s8 19 6)) (dt_X9_addPerson.at 31 rfl) ff_X9_31 sk_19 rfl rfl ?_
    refine Ev_iconst (dt_X9_addPerson.at 32 rfl) ki_1 ?_
    refine Ev_isub (dt_X9_addPerson.at 33 rfl) ?_
    exact Ev_iret (dt_X9_addPerson.at 34 rfl) rfl h
  · replace h := oNeg h c1
    refine Ev_iconst (dt_X9_addPerson.at 4 rfl) ki_m1 ?_
    exact Ev_iret (dt_X9_addPerson.at 5 rfl) rfl h
def s_x_refusedFull (σ : Sg)  : Option (Int32 × Sg) :=
  lt (pI σ 0 14 ((gI σ 0 14) + 1) : Sg) fun s1 =>
  some ((-4), s1)
set_option maxRecDepth 100000 in
set_option maxHeartbeats 4000000 in
theorem w_x_refusedFull (σ : Sg)  (q : (Int32 × Sg)) (h : s_x_refusedFull σ  = some q) : Cal M_X11_refusedFull 0 [.ref 0] σ (some (.int q.1)) q.2 := by
  refine Cal.of (M := M_X11_refusedFull) (by decide +kernel) (Nat.le_of_ble_eq_true rfl) ?_
  show Ev _ _ _ _ 0 [(0, .ref 0)] [] σ
  unfold s_x_refusedFull at h
  refine Ev_aload_n 0 (dt_X11_refusedFull.at 0 rfl) rfl ?_
  refine Ev_dup (dt_X11_refusedFull.at 1 rfl) rfl ?_
  refine Ev_get (i := 14) (v := .int (gI σ 0 14)) (dt_X11_refusedFull.at 2 rfl) ff_X11_238 sk_0 rfl rfl ?_
  refine Ev_iconst (dt_X11_refusedFull.at 3 rfl) ki_1 ?_
  refine Ev_iadd (dt_X11_refusedFull.at 4 rfl) ?_
  refine Ev_putI (dt_X11_refusedFull.at 5 rfl) ff_X11_238 fw_11_14 sk_0 rfl ?_
  refine Ev_nmS (fun s1 es1 => ?_)
  replace h := oLt h es1
  refine Ev_bipush (dt_X11_refusedFull.at 6 rfl) kb_m4 ?_
  exact Ev_iret (dt_X11_refusedFull.at 7 rfl) rfl h
def s_x_person (σ : Sg) (a1 : Int32) (a2 : Int32) : Option (Int32 × Sg) :=
  (s_x_isKindAndPace a1 a2).bind fun q1 =>
  if q1 = 0 then
    (s_x_refusedBad σ (-2)).bind fun q6 =>
    some (q6.1, q6.2)
  else
    if (gI σ 19 6) < 9 then
      (s_Town_addPerson σ a1 a2).bind fun q4 =>
      some (q4.1, q4.2)
    else
      (s_x_refusedFull σ ).bind fun q5 =>
      some (q5.1, q5.2)
set_option maxRecDepth 100000 in
set_option maxHeartbeats 4000000 in
theorem w_x_person (σ : Sg) (a1 : Int32) (a2 : Int32) (q : (Int32 × Sg)) (h : s_x_person σ a1 a2 = some q) : Cal M_X11_person 1 [.ref 0, .int a1, .int a2] σ (some (.int q.1)) q.2 := by
  refine Cal.of (M := M_X11_person) (by decide +kernel) (Nat.le_of_ble_eq_true rfl) ?_
  show Ev _ _ _ _ 0 [(0, .ref 0), (1, .int a1), (2, .int a2)] [] σ
  unfold s_x_person at h
  refine Ev_iload_n 1 (dt_X11_person.at 0 rfl) rfl ?_
  refine Ev_iload_n 2 (dt_X11_person.at 1 rfl) rfl ?_
  obtain ⟨q1, hq1, h⟩ := oBind h
  refine Ev_callS (st := []) (st' := [.int q1]) [.int a1, .int a2] (dt_X11_person.at 2 rfl) cf_X11_86 (w_x_isKindAndPace σ a1 a2 q1 hq1) (by decide) rfl rfl (Nat.le_of_ble_eq_true rfl) rfl ?_
  refine Ev_if_ne (tgt := 15) (dt_X11_person.at 3 rfl) (by decide) (fun c2 => ?_) (fun c2 => ?_)
  · replace h := oNeg h c2
    refine Ev_aload_n 0 (dt_X11_person.at 8 rfl) rfl ?_
    refine Ev_get (i := 0) (v := .ref 25) (dt_X11_person.at 9 rfl) ff_X11_50 sk_0 rfl rfl ?_
    refine Ev_get (i := 0) (v := .ref 19) (dt_X11_person.at 10 rfl) ff_X11_72 sk_25 rfl rfl ?_
    refine Ev_get (i := 6) (v := .int (gI σ 19 6)) (dt_X11_person.at 11 rfl) ff_X11_90 sk_19 rfl rfl ?_
    refine Ev_bipush (dt_X11_person.at 12 rfl) kb_9 ?_
    refine Ev_icmp_lt (tgt := 35) (dt_X11_person.at 13 rfl) (by decide) (fun c3 => ?_) (fun c3 => ?_)
    · replace h := oPos h c3
      refine Ev_aload_n 0 (dt_X11_person.at 17 rfl) rfl ?_
      refine Ev_get (i := 0) (v := .ref 25) (dt_X11_person.at 18 rfl) ff_X11_50 sk_0 rfl rfl ?_
      refine Ev_get (i := 0) (v := .ref 19) (dt_X11_person.at 19 rfl) ff_X11_72 sk_25 rfl rfl ?_
      refine Ev_iload_n 1 (dt_X11_person.at 20 rfl) rfl ?_
      refine Ev_iload_n 2 (dt_X11_person.at 21 rfl) rfl ?_
      obtain ⟨q4, hq4, h⟩ := oBind h
      refine Ev_callV (st := []) (st' := [.int q4.1]) [.int a1, .int a2] (dt_X11_person.at 22 rfl) cf_X11_97 (w_Town_addPerson σ a1 a2 q4 hq4) (by decide) sk_19 rfl rfl rfl (Nat.le_of_ble_eq_true rfl) rfl ?_
      exact Ev_iret (dt_X11_person.at 23 rfl) rfl h
    · replace h := oNeg h c3
      refine Ev_aload_n 0 (dt_X11_person.at 14 rfl) rfl ?_
      obtain ⟨q5, hq5, h⟩ := oBind h
      refine Ev_callV (st := []) (st' := [.int q5.1]) [] (dt_X11_person.at 15 rfl) cf_X11_93 (w_x_refusedFull σ  q5 hq5) (by decide) sk_0 rfl rfl rfl (Nat.le_of_ble_eq_true rfl) rfl ?_
      exact Ev_iret (dt_X11_person.at 16 rfl) rfl h
  · replace h := oPos h c2
    refine Ev_aload_n 0 (dt_X11_person.at 4 rfl) rfl ?_
    refine Ev_bipush (dt_X11_person.at 5 rfl) kb_m2 ?_
    obtain ⟨q6, hq6, h⟩ := oBind h
    refine Ev_callV (st := []) (st' := [.int q6.1]) [.int (-2)] (dt_X11_person.at 6 rfl) cf_X11_68 (w_x_refusedBad σ (-2) q6 hq6) (by decide) sk_0 rfl rfl rfl (Nat.le_of_ble_eq_true rfl) rfl ?_
    exact Ev_iret (dt_X11_person.at 7 rfl) rfl h
def s_Town_hasPerson (σ : Sg) (a1 : Int32) : Option Int32 :=
  if a1 < 0 then
    some 0
  else
    if (gI σ 19 6) ≤ a1 then
      some 0
    else
      some 1
set_option maxRecDepth 100000 in
set_option maxHeartbeats 4000000 in
theorem w_Town_hasPerson (σ : Sg) (a1 : Int32) (q : Int32) (h : s_Town_hasPerson σ a1 = some q) : Cal M_X9_hasPerson 0 [.ref 19, .int a1] σ (some (.int q)) σ := by
  refine Cal.of (M := M_X9_hasPerson) (by decide +kernel) (Nat.le_of_ble_eq_true rfl) ?_
  show Ev _ _ _ _ 0 [(0, .ref 19), (1, .int a1)] [] σ
  unfold s_Town_hasPerson at h
  refine Ev_iload_n 1 (dt_X9_hasPerson.at 0 rfl) rfl ?_
  refine Ev_if_lt (tgt := 16) (dt_X9_hasPerson.at 1 rfl) (by decide) (fun c1 => ?_) (fun c1 => ?_)
  · replace h := oPos h c1
    refine Ev_iconst (dt_X9_hasPerson.at 8 rfl) ki_0 ?_
    exact Ev_zret (dt_X9_hasPerson.at 9 rfl) rfl (by decide) (oRet h)
  · replace h := oNeg h c1
    refine Ev_iload_n 1 (dt_X9_hasPerson.at 2 rfl) rfl ?_
    refine Ev_aload_n 0 (dt_X9_hasPerson.at 3 rfl) rfl ?_
    refine Ev_get (i := 6) (v := .int (gI σ 19 6)) (dt_X9_hasPerson.at 4 rfl) ff_X9_31 sk_19 rfl rfl ?_
    refine Ev_icmp_ge (tgt := 16) (dt_X9_hasPerson.at 5 rfl) (by decide) (fun c2 => ?_) (fun c2 => ?_)
    · replace h := oPos h c2
      refine Ev_iconst (dt_X9_hasPerson.at 8 rfl) ki_0 ?_
      exact Ev_zret (dt_X9_hasPerson.at 9 rfl) rfl (by decide) (oRet h)
    · replace h := oNeg h c2
      refine Ev_iconst (dt_X9_hasPerson.at 6 rfl) ki_1 ?_
      refine Ev_goto (tgt := 17) (dt_X9_hasPerson.at 7 rfl) (by decide) ?_
      exact Ev_zret (dt_X9_hasPerson.at 9 rfl) rfl (by decide) (oRet h)
def s_Town_hasPlace (σ : Sg) (a1 : Int32) : Option Int32 :=
  if a1 < 0 then
    some 0
  else
    if (gI σ 19 5) ≤ a1 then
      some 0
    else
      some 1
set_option maxRecDepth 100000 in
set_option maxHeartbeats 4000000 in
theorem w_Town_hasPlace (σ : Sg) (a1 : Int32) (q : Int32) (h : s_Town_hasPlace σ a1 = some q) : Cal M_X9_hasPlace 0 [.ref 19, .int a1] σ (some (.int q)) σ := by
  refine Cal.of (M := M_X9_hasPlace) (by decide +kernel) (Nat.le_of_ble_eq_true rfl) ?_
  show Ev _ _ _ _ 0 [(0, .ref 19), (1, .int a1)] [] σ
  unfold s_Town_hasPlace at h
  refine Ev_iload_n 1 (dt_X9_hasPlace.at 0 rfl) rfl ?_
  refine Ev_if_lt (tgt := 16) (dt_X9_hasPlace.at 1 rfl) (by decide) (fun c1 => ?_) (fun c1 => ?_)
  · replace h := oPos h c1
    refine Ev_iconst (dt_X9_hasPlace.at 8 rfl) ki_0 ?_
    exact Ev_zret (dt_X9_hasPlace.at 9 rfl) rfl (by decide) (oRet h)
  · replace h := oNeg h c1
    refine Ev_iload_n 1 (dt_X9_hasPlace.at 2 rfl) rfl ?_
    refine Ev_aload_n 0 (dt_X9_hasPlace.at 3 rfl) rfl ?_
    refine Ev_get (i := 5) (v := .int (gI σ 19 5)) (dt_X9_hasPlace.at 4 rfl) ff_X9_27 sk_19 rfl rfl ?_
    refine Ev_icmp_ge (tgt := 16) (dt_X9_hasPlace.at 5 rfl) (by decide) (fun c2 => ?_) (fun c2 => ?_)
    · replace h := oPos h c2
      refine Ev_iconst (dt_X9_hasPlace.at 8 rfl) ki_0 ?_
      exact Ev_zret (dt_X9_hasPlace.at 9 rfl) rfl (by decide) (oRet h)
    · replace h := oNeg h c2
      refine Ev_iconst (dt_X9_hasPlace.at 6 rfl) ki_1 ?_
      refine Ev_goto (tgt := 17) (dt_X9_hasPlace.at 7 rfl) (by decide) ?_
      exact Ev_zret (dt_X9_hasPlace.at 9 rfl) rfl (by decide) (oRet h)
def s_x_isHour (a0 : Int32) : Option Int32 :=
  if a0 < 0 then
    some 0
  else
    if 10 ≤ a0 then
      some 0
    else
      some 1
set_option maxRecDepth 100000 in
set_option maxHeartbeats 4000000 in
theorem w_x_isHour (σ : Sg) (a0 : Int32) (q : Int32) (h : s_x_isHour a0 = some q) : Cal M_X11_isHour 0 [.int a0] σ (some (.int q)) σ := by
  refine Cal.of (M := M_X11_isHour) (by decide +kernel) (Nat.le_of_ble_eq_true rfl) ?_
  show Ev _ _ _ _ 0 [(0, .int a0)] [] σ
  unfold s_x_isHour at h
  refine Ev_iload_n 0 (dt_X11_isHour.at 0 rfl) rfl ?_
  refine Ev_if_lt (tgt := 14) (dt_X11_isHour.at 1 rfl) (by decide) (fun c1 => ?_) (fun c1 => ?_)
  · replace h := oPos h c1
    refine Ev_iconst (dt_X11_isHour.at 7 rfl) ki_0 ?_
    exact Ev_zret (dt_X11_isHour.at 8 rfl) rfl (by decide) (oRet h)
  · replace h := oNeg h c1
    refine Ev_iload_n 0 (dt_X11_isHour.at 2 rfl) rfl ?_
    refine Ev_bipush (dt_X11_isHour.at 3 rfl) kb_10 ?_
    refine Ev_icmp_ge (tgt := 14) (dt_X11_isHour.at 4 rfl) (by decide) (fun c2 => ?_) (fun c2 => ?_)
    · replace h := oPos h c2
      refine Ev_iconst (dt_X11_isHour.at 7 rfl) ki_0 ?_
      exact Ev_zret (dt_X11_isHour.at 8 rfl) rfl (by decide) (oRet h)
    · replace h := oNeg h c2
      refine Ev_iconst (dt_X11_isHour.at 5 rfl) ki_1 ?_
      refine Ev_goto (tgt := 15) (dt_X11_isHour.at 6 rfl) (by decide) ?_
      exact Ev_zret (dt_X11_isHour.at 8 rfl) rfl (by decide) (oRet h)
def s_Town_addErrand (σ : Sg) (a1 : Int32) (a2 : Int32) (a3 : Int32) : Option (Int32 × Sg) :=
  (s_Town_hasPerson σ a1).bind fun q1 =>
  if q1 = 0 then
    some ((-1), σ)
  else
    if inB a1 9 = true then
      if (gI σ 22 (Int32.toNatClampNeg a1)) < 4 then
        if inB a1 9 = true then
          lt ((gI σ 22 (Int32.toNatClampNeg a1)) : Int32) fun x6 =>
          if inB ((a1 * 4) + x6) 36 = true then
            lt (pI σ 23 (Int32.toNatClampNeg ((a1 * 4) + x6)) a2 : Sg) fun s8 =>
            if inB ((a1 * 4) + x6) 36 = true then
              lt (pI s8 24 (Int32.toNatClampNeg ((a1 * 4) + x6)) a3 : Sg) fun s10 =>
              if inB a1 9 = true then
                if inB a1 9 = true then
                  lt (pI s10 22 (Int32.toNatClampNeg a1) ((gI s10 22 (Int32.toNatClampNeg a1)) + 1) : Sg) fun s13 =>
                  some (x6, s13)
                else none
              else none
            else none
          else none
        else none
      else
        some ((-1), σ)
    else none
set_option maxRecDepth 100000 in
set_option maxHeartbeats 4000000 in
theorem w_Town_addErrand (σ : Sg) (a1 : Int32) (a2 : Int32) (a3 : Int32) (q : (Int32 × Sg)) (h : s_Town_addErrand σ a1 a2 a3 = some q) : Cal M_X9_addErrand 1 [.ref 19, .int a1, .int a2, .int a3] σ (some (.int q.1)) q.2 := by
  refine Cal.of (M := M_X9_addErrand) (by decide +kernel) (Nat.le_of_ble_eq_true rfl) ?_
  show Ev _ _ _ _ 0 [(0, .ref 19), (1, .int a1), (2, .int a2), (3, .int a3)] [] σ
  unfold s_Town_addErrand at h
  refine Ev_aload_n 0 (dt_X9_addErrand.at 0 rfl) rfl ?_
  refine Ev_iload_n 1 (dt_X9_addErrand.at 1 rfl) rfl ?_
  obtain ⟨q1, hq1, h⟩ := oBind h
  refine Ev_callV (st := []) (st' := [.int q1]) [.int a1] (dt_X9_addErrand.at 2 rfl) cf_X9_47 (w_Town_hasPerson σ a1 q1 hq1) (by decide) sk_19 rfl rfl rfl (Nat.le_of_ble_eq_true rfl) rfl ?_
  refine Ev_if_eq (tgt := 18) (dt_X9_addErrand.at 3 rfl) (by decide) (fun c2 => ?_) (fun c2 => ?_)
  · replace h := oPos h c2
    refine Ev_iconst (dt_X9_addErrand.at 10 rfl) ki_m1 ?_
    exact Ev_iret (dt_X9_addErrand.at 11 rfl) rfl h
  · replace h := oNeg h c2
    refine Ev_aload_n 0 (dt_X9_addErrand.at 4 rfl) rfl ?_
    refine Ev_get (i := 2) (v := .ref 22) (dt_X9_addErrand.at 5 rfl) ff_X9_18 sk_19 rfl rfl ?_
    refine Ev_iload_n 1 (dt_X9_addErrand.at 6 rfl) rfl ?_
    obtain ⟨g3, h⟩ := oGuard h
    refine Ev_iaload 22 (dt_X9_addErrand.at 7 rfl) sk_22 g3 ?_
    refine Ev_iconst (dt_X9_addErrand.at 8 rfl) ki_4 ?_
    refine Ev_icmp_lt (tgt := 20) (dt_X9_addErrand.at 9 rfl) (by decide) (fun c4 => ?_) (fun c4 => ?_)
    · replace h := oPos h c4
      refine Ev_aload_n 0 (dt_X9_addErrand.at 12 rfl) rfl ?_
      refine Ev_get (i := 2) (v := .ref 22) (dt_X9_addErrand.at 13 rfl) ff_X9_18 sk_19 rfl rfl ?_
      refine Ev_iload_n 1 (dt_X9_addErrand.at 14 rfl) rfl ?_
      obtain ⟨g5, h⟩ := oGuard h
      refine Ev_iaload 22 (dt_X9_addErrand.at 15 rfl) sk_22 g5 ?_
      refine Ev_nmI (fun x6 ex6 => ?_)
      replace h := oLt h ex6
      refine Ev_istore (dt_X9_addErrand.at 16 rfl) (by decide) (ls' := [(4, .int x6), (0, .ref 19), (1, .int a1), (2, .int a2), (3, .int a3)]) rfl ?_
      refine Ev_aload_n 1 (dt_X9_addErrand.at 17 rfl) rfl ?_
      refine Ev_get (i := 3) (v := .ref 23) (dt_X9_addErrand.at 18 rfl) ff_X9_21 sk_19 rfl rfl ?_
      refine Ev_iload_n 2 (dt_X9_addErrand.at 19 rfl) rfl ?_
      refine Ev_iconst (dt_X9_addErrand.at 20 rfl) ki_4 ?_
      refine Ev_imul (dt_X9_addErrand.at 21 rfl) ?_
      refine Ev_iload 0 (dt_X9_addErrand.at 22 rfl) rfl ?_
      refine Ev_iadd (dt_X9_addErrand.at 23 rfl) ?_
      refine Ev_iload_n 3 (dt_X9_addErrand.at 24 rfl) rfl ?_
      obtain ⟨g7, h⟩ := oGuard h
      refine Ev_iastore 23 (dt_X9_addErrand.at 25 rfl) sk_23 g7 ?_
      refine Ev_nmS (fun s8 es8 => ?_)
      replace h := oLt h es8
      refine Ev_aload_n 1 (dt_X9_addErrand.at 26 rfl) rfl ?_
      refine Ev_get (i := 4) (v := .ref 24) (dt_X9_addErrand.at 27 rfl) ff_X9_24 sk_19 rfl rfl ?_
      refine Ev_iload_n 2 (dt_X9_addErrand.at 28 rfl) rfl ?_
      refine Ev_iconst (dt_X9_addErrand.at 29 rfl) ki_4 ?_
      refine Ev_imul (dt_X9_addErrand.at 30 rfl) ?_
      refine Ev_iload 0 (dt_X9_addErrand.at 31 rfl) rfl ?_
      refine Ev_iadd (dt_X9_addErrand.at 32 rfl) ?_
      refine Ev_iload_n 4 (dt_X9_addErrand.at 33 rfl) rfl ?_
      obtain ⟨g9, h⟩ := oGuard h
      refine Ev_iastore 24 (dt_X9_addErrand.at 34 rfl) sk_24 g9 ?_
      refine Ev_nmS (fun s10 es10 => ?_)
      replace h := oLt h es10
      refine Ev_aload_n 1 (dt_X9_addErrand.at 35 rfl) rfl ?_
      refine Ev_get (i := 2) (v := .ref 22) (dt_X9_addErrand.at 36 rfl) ff_X9_18 sk_19 rfl rfl ?_
      refine Ev_iload_n 2 (dt_X9_addErrand.at 37 rfl) rfl ?_
      refine Ev_dup2 (dt_X9_addErrand.at 38 rfl) rfl rfl ?_
      obtain ⟨g11, h⟩ := oGuard h
      refine Ev_iaload 22 (dt_X9_addErrand.at 39 rfl) sk_22 g11 ?_
      refine Ev_iconst (dt_X9_addErrand.at 40 rfl) ki_1 ?_
      refine Ev_iadd (dt_X9_addErrand.at 41 rfl) ?_
      obtain ⟨g12, h⟩ := oGuard h
      refine Ev_iastore 22 (dt_X9_addErrand.at 42 rfl) sk_22 g12 ?_
      refine Ev_nmS (fun s13 es13 => ?_)
      replace h := oLt h es13
      refine Ev_iload 0 (dt_X9_addErrand.at 43 rfl) rfl ?_
      exact Ev_iret (dt_X9_addErrand.at 44 rfl) rfl h
    · replace h := oNeg h c4
      refine Ev_iconst (dt_X9_addErrand.at 10 rfl) ki_m1 ?_
      exact Ev_iret (dt_X9_addErrand.at 11 rfl) rfl h
def s_x_errand (σ : Sg) (a1 : Int32) (a2 : Int32) (a3 : Int32) : Option (Int32 × Sg) :=
  (s_Town_hasPerson σ a1).bind fun q1 =>
  if q1 = 0 then
    (s_x_refusedBad σ (-2)).bind fun q3 =>
    some (q3.1, q3.2)
  else
    (s_Town_hasPlace σ a2).bind fun q4 =>
    if q4 = 0 then
      (s_x_refusedBad σ (-2)).bind fun q6 =>
      some (q6.1, q6.2)
    else
      (s_x_isHour a3).bind fun q7 =>
      if q7 = 0 then
        (s_x_refusedBad σ (-2)).bind fun q13 =>
        some (q13.1, q13.2)
      else
        if inB a1 9 = true then
          if (gI σ 22 (Int32.toNatClampNeg a1)) < 4 then
            (s_Town_addErrand σ a1 a2 a3).bind fun q11 =>
            some (q11.1, q11.2)
          else
            (s_x_refusedFull σ ).bind fun q12 =>
            some (q12.1, q12.2)
        else none
set_option maxRecDepth 100000 in
set_option maxHeartbeats 4000000 in
theorem w_x_errand (σ : Sg) (a1 : Int32) (a2 : Int32) (a3 : Int32) (q : (Int32 × Sg)) (h : s_x_errand σ a1 a2 a3 = some q) : Cal M_X11_errand 2 [.ref 0, .int a1, .int a2, .int a3] σ (some (.int q.1)) q.2 := by
  refine Cal.of (M := M_X11_errand) (by decide +kernel) (Nat.le_of_ble_eq_true rfl) ?_
  show Ev _ _ _ _ 0 [(0, .ref 0), (1, .int a1), (2, .int a2), (3, .int a3)] [] σ
  unfold s_x_errand at h
  refine Ev_aload_n 0 (dt_X11_errand.at 0 rfl) rfl ?_
  refine Ev_get (i := 0) (v := .ref 25) (dt_X11_errand.at 1 rfl) ff_X11_50 sk_0 rfl rfl ?_
  refine Ev_get (i := 0) (v := .ref 19) (dt_X11_errand.at 2 rfl) ff_X11_72 sk_25 rfl rfl ?_
  refine Ev_astore (dt_X11_errand.at 3 rfl) (by decide) (ls' := [(4, .ref 19), (0, .ref 0), (1, .int a1), (2, .int a2), (3, .int a3)]) rfl ?_
  refine Ev_aload 0 (dt_X11_errand.at 4 rfl) rfl ?_
  refine Ev_iload_n 2 (dt_X11_errand.at 5 rfl) rfl ?_
  obtain ⟨q1, hq1, h⟩ := oBind h
  refine Ev_callV (st := []) (st' := [.int q1]) [.int a1] (dt_X11_errand.at 6 rfl) cf_X11_101 (w_Town_hasPerson σ a1 q1 hq1) (by decide) sk_19 rfl rfl rfl (Nat.le_of_ble_eq_true rfl) rfl ?_
  refine Ev_if_eq (tgt := 34) (dt_X11_errand.at 7 rfl) (by decide) (fun c2 => ?_) (fun c2 => ?_)
  · replace h := oPos h c2
    refine Ev_aload_n 1 (dt_X11_errand.at 15 rfl) rfl ?_
    refine Ev_bipush (dt_X11_errand.at 16 rfl) kb_m2 ?_
    obtain ⟨q3, hq3, h⟩ := oBind h
    refine Ev_callV (st := []) (st' := [.int q3.1]) [.int (-2)] (dt_X11_errand.at 17 rfl) cf_X11_68 (w_x_refusedBad σ (-2) q3 hq3) (by decide) sk_0 rfl rfl rfl (Nat.le_of_ble_eq_true rfl) rfl ?_
    exact Ev_iret (dt_X11_errand.at 18 rfl) rfl h
  · replace h := oNeg h c2
    refine Ev_aload 0 (dt_X11_errand.at 8 rfl) rfl ?_
    refine Ev_iload_n 3 (dt_X11_errand.at 9 rfl) rfl ?_
    obtain ⟨q4, hq4, h⟩ := oBind h
    refine Ev_callV (st := []) (st' := [.int q4]) [.int a2] (dt_X11_errand.at 10 rfl) cf_X11_105 (w_Town_hasPlace σ a2 q4 hq4) (by decide) sk_19 rfl rfl rfl (Nat.le_of_ble_eq_true rfl) rfl ?_
    refine Ev_if_eq (tgt := 34) (dt_X11_errand.at 11 rfl) (by decide) (fun c5 => ?_) (fun c5 => ?_)
    · replace h := oPos h c5
      refine Ev_aload_n 1 (dt_X11_errand.at 15 rfl) rfl ?_
      refine Ev_bipush (dt_X11_errand.at 16 rfl) kb_m2 ?_
      obtain ⟨q6, hq6, h⟩ := oBind h
      refine Ev_callV (st := []) (st' := [.int q6.1]) [.int (-2)] (dt_X11_errand.at 17 rfl) cf_X11_68 (w_x_refusedBad σ (-2) q6 hq6) (by decide) sk_0 rfl rfl rfl (Nat.le_of_ble_eq_true rfl) rfl ?_
      exact Ev_iret (dt_X11_errand.at 18 rfl) rfl h
    · replace h := oNeg h c5
      refine Ev_iload_n 4 (dt_X11_errand.at 12 rfl) rfl ?_
      obtain ⟨q7, hq7, h⟩ := oBind h
      refine Ev_callS (st := []) (st' := [.int q7]) [.int a3] (dt_X11_errand.at 13 rfl) cf_X11_108 (w_x_isHour σ a3 q7 hq7) (by decide) rfl rfl (Nat.le_of_ble_eq_true rfl) rfl ?_
      refine Ev_if_ne (tgt := 41) (dt_X11_errand.at 14 rfl) (by decide) (fun c8 => ?_) (fun c8 => ?_)
      · replace h := oNeg h c8
        refine Ev_aload 0 (dt_X11_errand.at 19 rfl) rfl ?_
        refine Ev_get (i := 2) (v := .ref 22) (dt_X11_errand.at 20 rfl) ff_X11_111 sk_19 rfl rfl ?_
        refine Ev_iload_n 2 (dt_X11_errand.at 21 rfl) rfl ?_
        obtain ⟨g9, h⟩ := oGuard h
        refine Ev_iaload 22 (dt_X11_errand.at 22 rfl) sk_22 g9 ?_
        refine Ev_iconst (dt_X11_errand.at 23 rfl) ki_4 ?_
        refine Ev_icmp_lt (tgt := 57) (dt_X11_errand.at 24 rfl) (by decide) (fun c10 => ?_) (fun c10 => ?_)
        · replace h := oPos h c10
          refine Ev_aload 0 (dt_X11_errand.at 28 rfl) rfl ?_
          refine Ev_iload_n 2 (dt_X11_errand.at 29 rfl) rfl ?_
          refine Ev_iload_n 3 (dt_X11_errand.at 30 rfl) rfl ?_
          refine Ev_iload_n 4 (dt_X11_errand.at 31 rfl) rfl ?_
          obtain ⟨q11, hq11, h⟩ := oBind h
          refine Ev_callV (st := []) (st' := [.int q11.1]) [.int a1, .int a2, .int a3] (dt_X11_errand.at 32 rfl) cf_X11_114 (w_Town_addErrand σ a1 a2 a3 q11 hq11) (by decide) sk_19 rfl rfl rfl (Nat.le_of_ble_eq_true rfl) rfl ?_
          exact Ev_iret (dt_X11_errand.at 33 rfl) rfl h
        · replace h := oNeg h c10
          refine Ev_aload_n 1 (dt_X11_errand.at 25 rfl) rfl ?_
          obtain ⟨q12, hq12, h⟩ := oBind h
          refine Ev_callV (st := []) (st' := [.int q12.1]) [] (dt_X11_errand.at 26 rfl) cf_X11_93 (w_x_refusedFull σ  q12 hq12) (by decide) sk_0 rfl rfl rfl (Nat.le_of_ble_eq_true rfl) rfl ?_
          exact Ev_iret (dt_X11_errand.at 27 rfl) rfl h
      · replace h := oPos h c8
        refine Ev_aload_n 1 (dt_X11_errand.at 15 rfl) rfl ?_
        refine Ev_bipush (dt_X11_errand.at 16 rfl) kb_m2 ?_
        obtain ⟨q13, hq13, h⟩ := oBind h
        refine Ev_callV (st := []) (st' := [.int q13.1]) [.int (-2)] (dt_X11_errand.at 17 rfl) cf_X11_68 (w_x_refusedBad σ (-2) q13 hq13) (by decide) sk_0 rfl rfl rfl (Nat.le_of_ble_eq_true rfl) rfl ?_
        exact Ev_iret (dt_X11_errand.at 18 rfl) rfl h
