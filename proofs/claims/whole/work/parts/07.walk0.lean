def s_x_refusedBad (σ : Sg) (a1 : Int32) : Option (Int32 × Sg) :=
  lt (pI σ 0 12 ((gI σ 0 12) + 1) : Sg) fun s1 =>
  some (a1, s1)
set_option maxRecDepth 100000 in
set_option maxHeartbeats 4000000 in
theorem w_x_refusedBad (σ : Sg) (a1 : Int32) (q : (Int32 × Sg)) (h : s_x_refusedBad σ a1 = some q) : Cal M_X11_refusedBad 0 [.ref 0, .int a1] σ (some (.int q.1)) q.2 := by
  refine Cal.of (M := M_X11_refusedBad) (by decide +kernel) (Nat.le_of_ble_eq_true rfl) ?_
  show Ev _ _ _ _ 0 [(0, .ref 0), (1, .int a1)] [] σ
  unfold s_x_refusedBad at h
  refine Ev_aload_n 0 (dt_X11_refusedBad.at 0 rfl) rfl ?_
  refine Ev_dup (dt_X11_refusedBad.at 1 rfl) rfl ?_
  refine Ev_get (i := 12) (v := .int (gI σ 0 12)) (dt_X11_refusedBad.at 2 rfl) ff_X11_232 sk_0 rfl rfl ?_
  refine Ev_iconst (dt_X11_refusedBad.at 3 rfl) ki_1 ?_
  refine Ev_iadd (dt_X11_refusedBad.at 4 rfl) ?_
  refine Ev_putI (dt_X11_refusedBad.at 5 rfl) ff_X11_232 fw_11_12 sk_0 rfl ?_
  refine Ev_nmS (fun s1 es1 => ?_)
  replace h := oLt h es1
  refine Ev_iload_n 1 (dt_X11_refusedBad.at 6 rfl) rfl ?_
  exact Ev_iret (dt_X11_refusedBad.at 7 rfl) rfl h
def s_Town_startOver (σ : Sg) (a1 : Int32) : Option Sg :=
  lt (pI σ 19 5 a1 : Sg) fun s1 =>
  lt (pI s1 19 6 0 : Sg) fun s2 =>
  some s2
set_option maxRecDepth 100000 in
set_option maxHeartbeats 4000000 in
theorem w_Town_startOver (σ : Sg) (a1 : Int32) (q : Sg) (h : s_Town_startOver σ a1 = some q) : Cal M_X9_startOver 0 [.ref 19, .int a1] σ none q := by
  refine Cal.of (M := M_X9_startOver) (by decide +kernel) (Nat.le_of_ble_eq_true rfl) ?_
  show Ev _ _ _ _ 0 [(0, .ref 19), (1, .int a1)] [] σ
  unfold s_Town_startOver at h
  refine Ev_aload_n 0 (dt_X9_startOver.at 0 rfl) rfl ?_
  refine Ev_iload_n 1 (dt_X9_startOver.at 1 rfl) rfl ?_
  refine Ev_putI (dt_X9_startOver.at 2 rfl) ff_X9_27 fw_9_5 sk_19 rfl ?_
  refine Ev_nmS (fun s1 es1 => ?_)
  replace h := oLt h es1
  refine Ev_aload_n 0 (dt_X9_startOver.at 3 rfl) rfl ?_
  refine Ev_iconst (dt_X9_startOver.at 4 rfl) ki_0 ?_
  refine Ev_putI (dt_X9_startOver.at 5 rfl) ff_X9_31 fw_9_6 sk_19 rfl ?_
  refine Ev_nmS (fun s2 es2 => ?_)
  replace h := oLt h es2
  exact Ev_vret (dt_X9_startOver.at 6 rfl) rfl h
def s_Scene_forgetWeeksAndSights (σ : Sg)  : Option Sg :=
  lt (pI σ 25 6 0 : Sg) fun s1 =>
  lt (pI s1 25 7 0 : Sg) fun s2 =>
  some s2
set_option maxRecDepth 100000 in
set_option maxHeartbeats 4000000 in
theorem w_Scene_forgetWeeksAndSights (σ : Sg)  (q : Sg) (h : s_Scene_forgetWeeksAndSights σ  = some q) : Cal M_X6_forgetWeeksAndSights 0 [.ref 25] σ none q := by
  refine Cal.of (M := M_X6_forgetWeeksAndSights) (by decide +kernel) (Nat.le_of_ble_eq_true rfl) ?_
  show Ev _ _ _ _ 0 [(0, .ref 25)] [] σ
  unfold s_Scene_forgetWeeksAndSights at h
  refine Ev_aload_n 0 (dt_X6_forgetWeeksAndSights.at 0 rfl) rfl ?_
  refine Ev_iconst (dt_X6_forgetWeeksAndSights.at 1 rfl) ki_0 ?_
  refine Ev_putI (dt_X6_forgetWeeksAndSights.at 2 rfl) ff_X6_31 fw_6_6 sk_25 rfl ?_
  refine Ev_nmS (fun s1 es1 => ?_)
  replace h := oLt h es1
  refine Ev_aload_n 0 (dt_X6_forgetWeeksAndSights.at 3 rfl) rfl ?_
  refine Ev_iconst (dt_X6_forgetWeeksAndSights.at 4 rfl) ki_0 ?_
  refine Ev_putI (dt_X6_forgetWeeksAndSights.at 5 rfl) ff_X6_35 fw_6_7 sk_25 rfl ?_
  refine Ev_nmS (fun s2 es2 => ?_)
  replace h := oLt h es2
  exact Ev_vret (dt_X6_forgetWeeksAndSights.at 6 rfl) rfl h
def s_x_places (σ : Sg) (a1 : Int32) : Option (Int32 × Sg) :=
  if a1 < 1 then
    (s_x_refusedBad σ (-2)).bind fun q2 =>
    some (q2.1, q2.2)
  else
    if a1 ≤ 6 then
      lt ((gI σ 19 5) : Int32) fun x4 =>
      (s_Town_startOver σ a1).bind fun q5 =>
      (s_Scene_forgetWeeksAndSights q5 ).bind fun q6 =>
      some (x4, q6)
    else
      (s_x_refusedBad σ (-2)).bind fun q7 =>
      some (q7.1, q7.2)
set_option maxRecDepth 100000 in
set_option maxHeartbeats 4000000 in
theorem w_x_places (σ : Sg) (a1 : Int32) (q : (Int32 × Sg)) (h : s_x_places σ a1 = some q) : Cal M_X11_places 1 [.ref 0, .int a1] σ (some (.int q.1)) q.2 := by
  refine Cal.of (M := M_X11_places) (by decide +kernel) (Nat.le_of_ble_eq_true rfl) ?_
  show Ev _ _ _ _ 0 [(0, .ref 0), (1, .int a1)] [] σ
  unfold s_x_places at h
  refine Ev_iload_n 1 (dt_X11_places.at 0 rfl) rfl ?_
  refine Ev_iconst (dt_X11_places.at 1 rfl) ki_1 ?_
  refine Ev_icmp_lt (tgt := 11) (dt_X11_places.at 2 rfl) (by decide) (fun c1 => ?_) (fun c1 => ?_)
  · replace h := oPos h c1
    refine Ev_aload_n 0 (dt_X11_places.at 6 rfl) rfl ?_
    refine Ev_bipush (dt_X11_places.at 7 rfl) kb_m2 ?_
    obtain ⟨q2, hq2, h⟩ := oBind h
    refine Ev_callV (st := []) (st' := [.int q2.1]) [.int (-2)] (dt_X11_places.at 8 rfl) cf_X11_68 (w_x_refusedBad σ (-2) q2 hq2) (by decide) sk_0 rfl rfl rfl (Nat.le_of_ble_eq_true rfl) rfl ?_
    exact Ev_iret (dt_X11_places.at 9 rfl) rfl h
  · replace h := oNeg h c1
    refine Ev_iload_n 1 (dt_X11_places.at 3 rfl) rfl ?_
    refine Ev_bipush (dt_X11_places.at 4 rfl) kb_6 ?_
    refine Ev_icmp_le (tgt := 18) (dt_X11_places.at 5 rfl) (by decide) (fun c3 => ?_) (fun c3 => ?_)
    · replace h := oPos h c3
      refine Ev_aload_n 0 (dt_X11_places.at 10 rfl) rfl ?_
      refine Ev_get (i := 0) (v := .ref 25) (dt_X11_places.at 11 rfl) ff_X11_50 sk_0 rfl rfl ?_
      refine Ev_get (i := 0) (v := .ref 19) (dt_X11_places.at 12 rfl) ff_X11_72 sk_25 rfl rfl ?_
      refine Ev_get (i := 5) (v := .int (gI σ 19 5)) (dt_X11_places.at 13 rfl) ff_X11_76 sk_19 rfl rfl ?_
      refine Ev_nmI (fun x4 ex4 => ?_)
      replace h := oLt h ex4
      refine Ev_istore_n (dt_X11_places.at 14 rfl) (by decide) (ls' := [(2, .int x4), (0, .ref 0), (1, .int a1)]) rfl ?_
      refine Ev_aload_n 1 (dt_X11_places.at 15 rfl) rfl ?_
      refine Ev_get (i := 0) (v := .ref 25) (dt_X11_places.at 16 rfl) ff_X11_50 sk_0 rfl rfl ?_
      refine Ev_get (i := 0) (v := .ref 19) (dt_X11_places.at 17 rfl) ff_X11_72 sk_25 rfl rfl ?_
      refine Ev_iload_n 2 (dt_X11_places.at 18 rfl) rfl ?_
      obtain ⟨q5, hq5, h⟩ := oBind h
      refine Ev_callV (st := []) (st' := []) [.int a1] (dt_X11_places.at 19 rfl) cf_X11_79 (w_Town_startOver σ a1 q5 hq5) (by decide) sk_19 rfl rfl rfl (Nat.le_of_ble_eq_true rfl) rfl ?_
      refine Ev_aload_n 1 (dt_X11_places.at 20 rfl) rfl ?_
      refine Ev_get (i := 0) (v := .ref 25) (dt_X11_places.at 21 rfl) ff_X11_50 sk_0 rfl rfl ?_
      obtain ⟨q6, hq6, h⟩ := oBind h
      refine Ev_callV (st := []) (st' := []) [] (dt_X11_places.at 22 rfl) cf_X11_83 (w_Scene_forgetWeeksAndSights q5  q6 hq6) (by decide) sk_25 rfl rfl rfl (Nat.le_of_ble_eq_true rfl) rfl ?_
      refine Ev_iload_n 0 (dt_X11_places.at 23 rfl) rfl ?_
      exact Ev_iret (dt_X11_places.at 24 rfl) rfl h
    · replace h := oNeg h c3
      refine Ev_aload_n 0 (dt_X11_places.at 6 rfl) rfl ?_
      refine Ev_bipush (dt_X11_places.at 7 rfl) kb_m2 ?_
      obtain ⟨q7, hq7, h⟩ := oBind h
      refine Ev_callV (st := []) (st' := [.int q7.1]) [.int (-2)] (dt_X11_places.at 8 rfl) cf_X11_68 (w_x_refusedBad σ (-2) q7 hq7) (by decide) sk_0 rfl rfl rfl (Nat.le_of_ble_eq_true rfl) rfl ?_
      exact Ev_iret (dt_X11_places.at 9 rfl) rfl h
def s_x_isKindAndPace (a0 : Int32) (a1 : Int32) : Option Int32 :=
  if a0 < 0 then
    some 0
  else
    if 5 ≤ a0 then
      some 0
    else
      if a1 < 1 then
        some 0
      else
        if 9 < a1 then
          some 0
        else
          some 1
set_option maxRecDepth 100000 in
set_option maxHeartbeats 4000000 in
theorem w_x_isKindAndPace (σ : Sg) (a0 : Int32) (a1 : Int32) (q : Int32) (h : s_x_isKindAndPace a0 a1 = some q) : Cal M_X11_isKindAndPace 0 [.int a0, .int a1] σ (some (.int q)) σ := by
  refine Cal.of (M := M_X11_isKindAndPace) (by decide +kernel) (Nat.le_of_ble_eq_true rfl) ?_
  show Ev _ _ _ _ 0 [(0, .int a0), (1, .int a1)] [] σ
  unfold s_x_isKindAndPace at h
  refine Ev_iload_n 0 (dt_X11_isKindAndPace.at 0 rfl) rfl ?_
  refine Ev_if_lt (tgt := 24) (dt_X11_isKindAndPace.at 1 rfl) (by decide) (fun c1 => ?_) (fun c1 => ?_)
  · replace h := oPos h c1
    refine Ev_iconst (dt_X11_isKindAndPace.at 13 rfl) ki_0 ?_
    exact Ev_zret (dt_X11_isKindAndPace.at 14 rfl) rfl (by decide) (oRet h)
  · replace h := oNeg h c1
    refine Ev_iload_n 0 (dt_X11_isKindAndPace.at 2 rfl) rfl ?_
    refine Ev_iconst (dt_X11_isKindAndPace.at 3 rfl) ki_5 ?_
    refine Ev_icmp_ge (tgt := 24) (dt_X11_isKindAndPace.at 4 rfl) (by decide) (fun c2 => ?_) (fun c2 => ?_)
    · replace h := oPos h c2
      refine Ev_iconst (dt_X11_isKindAndPace.at 13 rfl) ki_0 ?_
      exact Ev_zret (dt_X11_isKindAndPace.at 14 rfl) rfl (by decide) (oRet h)
    · replace h := oNeg h c2
      refine Ev_iload_n 1 (dt_X11_isKindAndPace.at 5 rfl) rfl ?_
      refine Ev_iconst (dt_X11_isKindAndPace.at 6 rfl) ki_1 ?_
      refine Ev_icmp_lt (tgt := 24) (dt_X11_isKindAndPace.at 7 rfl) (by decide) (fun c3 => ?_) (fun c3 => ?_)
      · replace h := oPos h c3
        refine Ev_iconst (dt_X11_isKindAndPace.at 13 rfl) ki_0 ?_
        exact Ev_zret (dt_X11_isKindAndPace.at 14 rfl) rfl (by decide) (oRet h)
      · replace h := oNeg h c3
        refine Ev_iload_n 1 (dt_X11_isKindAndPace.at 8 rfl) rfl ?_
        refine Ev_bipush (dt_X11_isKindAndPace.at 9 rfl) kb_9 ?_
        refine Ev_icmp_gt (tgt := 24) (dt_X11_isKindAndPace.at 10 rfl) (by decide) (fun c4 => ?_) (fun c4 => ?_)
        · replace h := oPos h c4
          refine Ev_iconst (dt_X11_isKindAndPace.at 13 rfl) ki_0 ?_
          exact Ev_zret (dt_X11_isKindAndPace.at 14 rfl) rfl (by decide) (oRet h)
        · replace h := oNeg h c4
          refine Ev_iconst (dt_X11_isKindAndPace.at 11 rfl) ki_1 ?_
          refine Ev_goto (tgt := 25) (dt_X11_isKindAndPace.at 12 rfl) (by decide) ?_
          exact Ev_zret (dt_X11_isKindAndPace.at 14 rfl) rfl (by decide) (oRet h)
def s_Town_addPerson (σ : Sg) (a1 : Int32) (a2 : Int32) : Option (Int32 × Sg) :=
  if (gI σ 19 6) < 9 then
    if inB (gI σ 19 6) 9 = true then
      lt (pI σ 20 (Int32.toNatClampNeg (gI σ 19 6)) a1 : Sg) fun s3 =>
      if inB (gI s3 19 6) 9 = true then
        lt (pI s3 21 (Int32.toNatClampNeg (gI s3 19 6)) a2 : Sg) fun s5 =>
        if inB (gI s5 19 6) 9 = true then
          lt (pI s5 22 (Int32.toNatClampNeg (gI s5 19 6)) 0 : Sg) fun s7 =>
          lt (pI s7 19 6 ((gI s7 19 6) + 1) : Sg) fun s8 =>
          some (((gI s8 19 6) - 1), s8)
        else none
      else none
    else none
  else
    some ((-1), σ)
set_option maxRecDepth 100000 in
set_option maxHeartbeats 4000000 in
theorem w_Town_addPerson (σ : Sg) (a1 : Int32) (a2 : Int32) (q : (Int32 × Sg)) (h : s_Town_addPerson σ a1 a2 = some q) : Cal M_X9_addPerson 0 [.ref 19, .int a1, .int a2] σ (some (.int q.1)) q.2 := by
  refine Cal.of (M := M_X9_addPerson) (by decide +kernel) (Nat.le_of_ble_eq_true rfl) ?_
  show Ev _ _ _ _ 0 [(0, .ref 19), (1, .int a1), (2, .int a2)] [] σ
  unfold s_Town_addPerson at h
  refine Ev_aload_n 0 (dt_X9_addPerson.at 0 rfl) rfl ?_
  refine Ev_get (i := 6) (v := .int (gI σ 19 6)) (dt_X9_addPerson.at 1 rfl) ff_X9_31 sk_19 rfl rfl ?_
  refine Ev_bipush (dt_X9_addPerson.at 2 rfl) kb_9 ?_
  refine Ev_icmp_lt (tgt := 11) (dt_X9_addPerson.at 3 rfl) (by decide) (fun c1 => ?_) (fun c1 => ?_)
  · replace h := oPos h c1
    refine Ev_aload_n 0 (dt_X9_addPerson.at 6 rfl) rfl ?_
    refine Ev_get (i := 0) (v := .ref 20) (dt_X9_addPerson.at 7 rfl) ff_X9_9 sk_19 rfl rfl ?_
    refine Ev_aload_n 0 (dt_X9_addPerson.at 8 rfl) rfl ?_
    refine Ev_get (i := 6) (v := .int (gI σ 19 6)) (dt_X9_addPerson.at 9 rfl) ff_X9_31 sk_19 rfl rfl ?_
    refine Ev_iload_n 1 (dt_X9_addPerson.at 10 rfl) rfl ?_
    obtain ⟨g2, h⟩ := oGuard h
    refine Ev_iastore 20 (dt_X9_addPerson.at 11 rfl) sk_20 g2 ?_
    refine Ev_nmS (fun s3 es3 => ?_)
    replace h := oLt h es3
    refine Ev_aload_n 0 (dt_X9_addPerson.at 12 rfl) rfl ?_
    refine Ev_get (i := 1) (v := .ref 21) (dt_X9_addPerson.at 13 rfl) ff_X9_15 sk_19 rfl rfl ?_
    refine Ev_aload_n 0 (dt_X9_addPerson.at 14 rfl) rfl ?_
    refine Ev_get (i := 6) (v := .int (gI s3 19 6)) (dt_X9_addPerson.at 15 rfl) ff_X9_31 sk_19 rfl rfl ?_
    refine Ev_iload_n 2 (dt_X9_addPerson.at 16 rfl) rfl ?_
    obtain ⟨g4, h⟩ := oGuard h
    refine Ev_iastore 21 (dt_X9_addPerson.at 17 rfl) sk_21 g4 ?_
    refine Ev_nmS (fun s5 es5 => ?_)
    replace h := oLt h es5
    refine Ev_aload_n 0 (dt_X9_addPerson.at 18 rfl) rfl ?_
    refine Ev_get (i := 2) (v := .ref 22) (dt_X9_addPerson.at 19 rfl) ff_X9_18 sk_19 rfl rfl ?_
    refine Ev_aload_n 0 (dt_X9_addPerson.at 20 rfl) rfl ?_
    refine Ev_get (i := 6) (v := .int (gI s5 19 6)) (dt_X9_addPerson.at 21 rfl) ff_X9_31 sk_19 rfl rfl ?_
    refine Ev_iconst (dt_X9_addPerson.at 22 rfl) ki_0 ?_
    obtain ⟨g6, h⟩ := oGuard h
    refine Ev_iastore 22 (dt_X9_addPerson.at 23 rfl) sk_22 g6 ?_
    refine Ev_nmS (fun s7 es7 => ?_)
    replace h := oLt h es7
    refine Ev_aload_n 0 (dt_X9_addPerson.at 24 rfl) rfl ?_
    refine Ev_dup (dt_X9_addPerson.at 25 rfl) rfl ?_
    refine Ev_get (i := 6) (v := .int (gI s7 19 6)) (dt_X9_addPerson.at 26 rfl) ff_X9_31 sk_19 rfl rfl ?_
    refine Ev_iconst (dt_X9_addPerson.at 27 rfl) ki_1 ?_
    refine Ev_iadd (dt_X9_addPerson.at 28 rfl) ?_
    refine Ev_putI (dt_X9_addPerson.at 29 rfl) ff_X9_31 fw_9_6 sk_19 rfl ?_
    refine Ev_nmS (fun s8 es8 => ?_)
    replace h := oLt h es8
    refine Ev_aload_n 0 (dt_X9_addPerson.at 30 rfl) rfl ?_
    refine Ev_get (i := 6) (v := .int (gI s8 19 6)) (dt_X9_addPerson.at 31 rfl) ff_X9_31 sk_19 rfl rfl ?_
    refine Ev_iconst (dt_X9_addPerson.at 32 rfl) ki_1 ?_
    refine Ev_isub (dt_X9_addPerson.at 33 rfl) ?_
    exact Ev_iret (dt_X9_addPerson.at 34 rfl) rfl h
  · replace h := oNeg h c1
    refine Ev_iconst (dt_X9_addPerson.at 4 rfl) ki_m1 ?_
    exact Ev_iret (dt_X9_addPerson.at 5 rfl) rfl h
def s_x_refusedFull (σ : Sg)  : Option (Int32 × Sg) :=
  lt (pI σ 0 14 ((gI σ 0 14) + 1) : Sg) fun s1 =>
  some ((-4), s1)
set_option maxRecDepth 100000 in
set_option maxHeartbeats 4000000 in
theorem w_x_refusedFull (σ : Sg)  (q : (Int32 × Sg)) (h : s_x_refusedFull σ  = some q) : Cal M_X11_refusedFull 0 [.ref 0] σ (some (.int q.1)) q.2 := by
  refine Cal.of (M := M_X11_refusedFull) (by decide +kernel) (Nat.le_of_ble_eq_true rfl) ?_
  show Ev _ _ _ _ 0 [(0, .ref 0)] [] σ
  unfold s_x_refusedFull at h
  refine Ev_aload_n 0 (dt_X11_refusedFull.at 0 rfl) rfl ?_
  refine Ev_dup (dt_X11_refusedFull.at 1 rfl) rfl ?_
  refine Ev_get (i := 14) (v := .int (gI σ 0 14)) (dt_X11_refusedFull.at 2 rfl) ff_X11_238 sk_0 rfl rfl ?_
  refine Ev_iconst (dt_X11_refusedFull.at 3 rfl) ki_1 ?_
  refine Ev_iadd (dt_X11_refusedFull.at 4 rfl) ?_
  refine Ev_putI (dt_X11_refusedFull.at 5 rfl) ff_X11_238 fw_11_14 sk_0 rfl ?_
  refine Ev_nmS (fun s1 es1 => ?_)
  replace h := oLt h es1
  refine Ev_bipush (dt_X11_refusedFull.at 6 rfl) kb_m4 ?_
  exact Ev_iret (dt_X11_refusedFull.at 7 rfl) rfl h
def s_x_person (σ : Sg) (a1 : Int32) (a2 : Int32) : Option (Int32 × Sg) :=
  (s_x_isKindAndPace a1 a2).bind fun q1 =>
  if q1 = 0 then
    (s_x_refusedBad σ (-2)).bind fun q6 =>
    some (q6.1, q6.2)
  else
    if (gI σ 19 6) < 9 then
      (s_Town_addPerson σ a1 a2).bind fun q4 =>
      some (q4.1, q4.2)
    else
      (s_x_refusedFull σ ).bind fun q5 =>
      some (q5.1, q5.2)
set_option maxRecDepth 100000 in
set_option maxHeartbeats 4000000 in
theorem w_x_person (σ : Sg) (a1 : Int32) (a2 : Int32) (q : (Int32 × Sg)) (h : s_x_person σ a1 a2 = some q) : Cal M_X11_person 1 [.ref 0, .int a1, .int a2] σ (some (.int q.1)) q.2 := by
  refine Cal.of (M := M_X11_person) (by decide +kernel) (Nat.le_of_ble_eq_true rfl) ?_
  show Ev _ _ _ _ 0 [(0, .ref 0), (1, .int a1), (2, .int a2)] [] σ
  unfold s_x_person at h
  refine Ev_iload_n 1 (dt_X11_person.at 0 rfl) rfl ?_
  refine Ev_iload_n 2 (dt_X11_person.at 1 rfl) rfl ?_
  obtain ⟨q1, hq1, h⟩ := oBind h
  refine Ev_callS (st := []) (st' := [.int q1]) [.int a1, .int a2] (dt_X11_person.at 2 rfl) cf_X11_86 (w_x_isKindAndPace σ a1 a2 q1 hq1) (by decide) rfl rfl (Nat.le_of_ble_eq_true rfl) rfl ?_
  refine Ev_if_ne (tgt := 15) (dt_X11_person.at 3 rfl) (by decide) (fun c2 => ?_) (fun c2 => ?_)
  · replace h := oNeg h c2
    refine Ev_aload_n 0 (dt_X11_person.at 8 rfl) rfl ?_
    refine Ev_get (i := 0) (v := .ref 25) (dt_X11_person.at 9 rfl) ff_X11_50 sk_0 rfl rfl ?_
    refine Ev_get (i := 0) (v := .ref 19) (dt_X11_person.at 10 rfl) ff_X11_72 sk_25 rfl rfl ?_
    refine Ev_get (i := 6) (v := .int (gI σ 19 6)) (dt_X11_person.at 11 rfl) ff_X11_90 sk_19 rfl rfl ?_
    refine Ev_bipush (dt_X11_person.at 12 rfl) kb_9 ?_
    refine Ev_icmp_lt (tgt := 35) (dt_X11_person.at 13 rfl) (by decide) (fun c3 => ?_) (fun c3 => ?_)
    · replace h := oPos h c3
      refine Ev_aload_n 0 (dt_X11_person.at 17 rfl) rfl ?_
      refine Ev_get (i := 0) (v := .ref 25) (dt_X11_person.at 18 rfl) ff_X11_50 sk_0 rfl rfl ?_
      refine Ev_get (i := 0) (v := .ref 19) (dt_X11_person.at 19 rfl) ff_X11_72 sk_25 rfl rfl ?_
      refine Ev_iload_n 1 (dt_X11_person.at 20 rfl) rfl ?_
      refine Ev_iload_n 2 (dt_X11_person.at 21 rfl) rfl ?_
      obtain ⟨q4, hq4, h⟩ := oBind h
      refine Ev_callV (st := []) (st' := [.int q4.1]) [.int a1, .int a2] (dt_X11_person.at 22 rfl) cf_X11_97 (w_Town_addPerson σ a1 a2 q4 hq4) (by decide) sk_19 rfl rfl rfl (Nat.le_of_ble_eq_true rfl) rfl ?_
      exact Ev_iret (dt_X11_person.at 23 rfl) rfl h
    · replace h := oNeg h c3
      refine Ev_aload_n 0 (dt_X11_person.at 14 rfl) rfl ?_
      obtain ⟨q5, hq5, h⟩ := oBind h
      refine Ev_callV (st := []) (st' := [.int q5.1]) [] (dt_X11_person.at 15 rfl) cf_X11_93 (w_x_refusedFull σ  q5 hq5) (by decide) sk_0 rfl rfl rfl (Nat.le_of_ble_eq_true rfl) rfl ?_
      exact Ev_iret (dt_X11_person.at 16 rfl) rfl h
  · replace h := oPos h c2
    refine Ev_aload_n 0 (dt_X11_person.at 4 rfl) rfl ?_
    refine Ev_bipush (dt_X11_person.at 5 rfl) kb_m2 ?_
    obtain ⟨q6, hq6, h⟩ := oBind h
    refine Ev_callV (st := []) (st' := [.int q6.1]) [.int (-2)] (dt_X11_person.at 6 rfl) cf_X11_68 (w_x_refusedBad σ (-2) q6 hq6) (by decide) sk_0 rfl rfl rfl (Nat.le_of_ble_eq_true rfl) rfl ?_
    exact Ev_iret (dt_X11_person.at 7 rfl) rfl h
def s_Town_hasPerson (σ : Sg) (a1 : Int32) : Option Int32 :=
  if a1 < 0 then
    some 0
  else
    if (gI σ 19 6) ≤ a1 then
      some 0
    else
      some 1
set_option maxRecDepth 100000 in
set_option maxHeartbeats 4000000 in
theorem w_Town_hasPerson (σ : Sg) (a1 : Int32) (q : Int32) (h : s_Town_hasPerson σ a1 = some q) : Cal M_X9_hasPerson 0 [.ref 19, .int a1] σ (some (.int q)) σ := by
  refine Cal.of (M := M_X9_hasPerson) (by decide +kernel) (Nat.le_of_ble_eq_true rfl) ?_
  show Ev _ _ _ _ 0 [(0, .ref 19), (1, .int a1)] [] σ
  unfold s_Town_hasPerson at h
  refine Ev_iload_n 1 (dt_X9_hasPerson.at 0 rfl) rfl ?_
  refine Ev_if_lt (tgt := 16) (dt_X9_hasPerson.at 1 rfl) (by decide) (fun c1 => ?_) (fun c1 => ?_)
  · replace h := oPos h c1
    refine Ev_iconst (dt_X9_hasPerson.at 8 rfl) ki_0 ?_
    exact Ev_zret (dt_X9_hasPerson.at 9 rfl) rfl (by decide) (oRet h)
  · replace h := oNeg h c1
    refine Ev_iload_n 1 (dt_X9_hasPerson.at 2 rfl) rfl ?_
    refine Ev_aload_n 0 (dt_X9_hasPerson.at 3 rfl) rfl ?_
    refine Ev_get (i := 6) (v := .int (gI σ 19 6)) (dt_X9_hasPerson.at 4 rfl) ff_X9_31 sk_19 rfl rfl ?_
    refine Ev_icmp_ge (tgt := 16) (dt_X9_hasPerson.at 5 rfl) (by decide) (fun c2 => ?_) (fun c2 => ?_)
    · replace h := oPos h c2
      refine Ev_iconst (dt_X9_hasPerson.at 8 rfl) ki_0 ?_
      exact Ev_zret (dt_X9_hasPerson.at 9 rfl) rfl (by decide) (oRet h)
    · replace h := oNeg h c2
      refine Ev_iconst (dt_X9_hasPerson.at 6 rfl) ki_1 ?_
      refine Ev_goto (tgt := 17) (dt_X9_hasPerson.at 7 rfl) (by decide) ?_
      exact Ev_zret (dt_X9_hasPerson.at 9 rfl) rfl (by decide) (oRet h)
def s_Town_hasPlace (σ : Sg) (a1 : Int32) : Option Int32 :=
  if a1 < 0 then
    some 0
  else
    if (gI σ 19 5) ≤ a1 then
      some 0
    else
      some 1
set_option maxRecDepth 100000 in
set_option maxHeartbeats 4000000 in
theorem w_Town_hasPlace (σ : Sg) (a1 : Int32) (q : Int32) (h : s_Town_hasPlace σ a1 = some q) : Cal M_X9_hasPlace 0 [.ref 19, .int a1] σ (some (.int q)) σ := by
  refine Cal.of (M := M_X9_hasPlace) (by decide +kernel) (Nat.le_of_ble_eq_true rfl) ?_
  show Ev _ _ _ _ 0 [(0, .ref 19), (1, .int a1)] [] σ
  unfold s_Town_hasPlace at h
  refine Ev_iload_n 1 (dt_X9_hasPlace.at 0 rfl) rfl ?_
  refine Ev_if_lt (tgt := 16) (dt_X9_hasPlace.at 1 rfl) (by decide) (fun c1 => ?_) (fun c1 => ?_)
  · replace h := oPos h c1
    refine Ev_iconst (dt_X9_hasPlace.at 8 rfl) ki_0 ?_
    exact Ev_zret (dt_X9_hasPlace.at 9 rfl) rfl (by decide) (oRet h)
  · replace h := oNeg h c1
    refine Ev_iload_n 1 (dt_X9_hasPlace.at 2 rfl) rfl ?_
    refine Ev_aload_n 0 (dt_X9_hasPlace.at 3 rfl) rfl ?_
    refine Ev_get (i := 5) (v := .int (gI σ 19 5)) (dt_X9_hasPlace.at 4 rfl) ff_X9_27 sk_19 rfl rfl ?_
    refine Ev_icmp_ge (tgt := 16) (dt_X9_hasPlace.at 5 rfl) (by decide) (fun c2 => ?_) (fun c2 => ?_)
    · replace h := oPos h c2
      refine Ev_iconst (dt_X9_hasPlace.at 8 rfl) ki_0 ?_
      exact Ev_zret (dt_X9_hasPlace.at 9 rfl) rfl (by decide) (oRet h)
    · replace h := oNeg h c2
      refine Ev_iconst (dt_X9_hasPlace.at 6 rfl) ki_1 ?_
      refine Ev_goto (tgt := 17) (dt_X9_hasPlace.at 7 rfl) (by decide) ?_
      exact Ev_zret (dt_X9_hasPlace.at 9 rfl) rfl (by decide) (oRet h)
def s_x_isHour (a0 : Int32) : Option Int32 :=
  if a0 < 0 then
    some 0
  else
    if 10 ≤ a0 then
      some 0
    else
      some 1
set_option maxRecDepth 100000 in
set_option maxHeartbeats 4000000 in
theorem w_x_isHour (σ : Sg) (a0 : Int32) (q : Int32) (h : s_x_isHour a0 = some q) : Cal M_X11_isHour 0 [.int a0] σ (some (.int q)) σ := by
  refine Cal.of (M := M_X11_isHour) (by decide +kernel) (Nat.le_of_ble_eq_true rfl) ?_
  show Ev _ _ _ _ 0 [(0, .int a0)] [] σ
  unfold s_x_isHour at h
  refine Ev_iload_n 0 (dt_X11_isHour.at 0 rfl) rfl ?_
  refine Ev_if_lt (tgt := 14) (dt_X11_isHour.at 1 rfl) (by decide) (fun c1 => ?_) (fun c1 => ?_)
  · replace h := oPos h c1
    refine Ev_iconst (dt_X11_isHour.at 7 rfl) ki_0 ?_
    exact Ev_zret (dt_X11_isHour.at 8 rfl) rfl (by decide) (oRet h)
  · replace h := oNeg h c1
    refine Ev_iload_n 0 (dt_X11_isHour.at 2 rfl) rfl ?_
    refine Ev_bipush (dt_X11_isHour.at 3 rfl) kb_10 ?_
    refine Ev_icmp_ge (tgt := 14) (dt_X11_isHour.at 4 rfl) (by decide) (fun c2 => ?_) (fun c2 => ?_)
    · replace h := oPos h c2
      refine Ev_iconst (dt_X11_isHour.at 7 rfl) ki_0 ?_
      exact Ev_zret (dt_X11_isHour.at 8 rfl) rfl (by decide) (oRet h)
    · replace h := oNeg h c2
      refine Ev_iconst (dt_X11_isHour.at 5 rfl) ki_1 ?_
      refine Ev_goto (tgt := 15) (dt_X11_isHour.at 6 rfl) (by decide) ?_
      exact Ev_zret (dt_X11_isHour.at 8 rfl) rfl (by decide) (oRet h)
def s_Town_addErrand (σ : Sg) (a1 : Int32) (a2 : Int32) (a3 : Int32) : Option (Int32 × Sg) :=
  (s_Town_hasPerson σ a1).bind fun q1 =>
  if q1 = 0 then
    some ((-1), σ)
  else
    if inB a1 9 = true then
      if (gI σ 22 (Int32.toNatClampNeg a1)) < 4 then
        if inB a1 9 = true then
          lt ((gI σ 22 (Int32.toNatClampNeg a1)) : Int32) fun x6 =>
          if inB ((a1 * 4) + x6) 36 = true then
            lt (pI σ 23 (Int32.toNatClampNeg ((a1 * 4) + x6)) a2 : Sg) fun s8 =>
            if inB ((a1 * 4) + x6) 36 = true then
              lt (pI s8 24 (Int32.toNatClampNeg ((a1 * 4) + x6)) a3 : Sg) fun s10 =>
              if inB a1 9 = true then
                if inB a1 9 = true then
                  lt (pI s10 22 (Int32.toNatClampNeg a1) ((gI s10 22 (Int32.toNatClampNeg a1)) + 1) : Sg) fun s13 =>
                  some (x6, s13)
                else none
              else none
            else none
          else none
        else none
      else
        some ((-1), σ)
    else none
set_option maxRecDepth 100000 in
set_option maxHeartbeats 4000000 in
theorem w_Town_addErrand (σ : Sg) (a1 : Int32) (a2 : Int32) (a3 : Int32) (q : (Int32 × Sg)) (h : s_Town_addErrand σ a1 a2 a3 = some q) : Cal M_X9_addErrand 1 [.ref 19, .int a1, .int a2, .int a3] σ (some (.int q.1)) q.2 := by
  refine Cal.of (M := M_X9_addErrand) (by decide +kernel) (Nat.le_of_ble_eq_true rfl) ?_
  show Ev _ _ _ _ 0 [(0, .ref 19), (1, .int a1), (2, .int a2), (3, .int a3)] [] σ
  unfold s_Town_addErrand at h
  refine Ev_aload_n 0 (dt_X9_addErrand.at 0 rfl) rfl ?_
  refine Ev_iload_n 1 (dt_X9_addErrand.at 1 rfl) rfl ?_
  obtain ⟨q1, hq1, h⟩ := oBind h
  refine Ev_callV (st := []) (st' := [.int q1]) [.int a1] (dt_X9_addErrand.at 2 rfl) cf_X9_47 (w_Town_hasPerson σ a1 q1 hq1) (by decide) sk_19 rfl rfl rfl (Nat.le_of_ble_eq_true rfl) rfl ?_
  refine Ev_if_eq (tgt := 18) (dt_X9_addErrand.at 3 rfl) (by decide) (fun c2 => ?_) (fun c2 => ?_)
  · replace h := oPos h c2
    refine Ev_iconst (dt_X9_addErrand.at 10 rfl) ki_m1 ?_
    exact Ev_iret (dt_X9_addErrand.at 11 rfl) rfl h
  · replace h := oNeg h c2
    refine Ev_aload_n 0 (dt_X9_addErrand.at 4 rfl) rfl ?_
    refine Ev_get (i := 2) (v := .ref 22) (dt_X9_addErrand.at 5 rfl) ff_X9_18 sk_19 rfl rfl ?_
    refine Ev_iload_n 1 (dt_X9_addErrand.at 6 rfl) rfl ?_
    obtain ⟨g3, h⟩ := oGuard h
    refine Ev_iaload 22 (dt_X9_addErrand.at 7 rfl) sk_22 g3 ?_
    refine Ev_iconst (dt_X9_addErrand.at 8 rfl) ki_4 ?_
    refine Ev_icmp_lt (tgt := 20) (dt_X9_addErrand.at 9 rfl) (by decide) (fun c4 => ?_) (fun c4 => ?_)
    · replace h := oPos h c4
      refine Ev_aload_n 0 (dt_X9_addErrand.at 12 rfl) rfl ?_
      refine Ev_get (i := 2) (v := .ref 22) (dt_X9_addErrand.at 13 rfl) ff_X9_18 sk_19 rfl rfl ?_
      refine Ev_iload_n 1 (dt_X9_addErrand.at 14 rfl) rfl ?_
      obtain ⟨g5, h⟩ := oGuard h
      refine Ev_iaload 22 (dt_X9_addErrand.at 15 rfl) sk_22 g5 ?_
      refine Ev_nmI (fun x6 ex6 => ?_)
      replace h := oLt h ex6
      refine Ev_istore (dt_X9_addErrand.at 16 rfl) (by decide) (ls' := [(4, .int x6), (0, .ref 19), (1, .int a1), (2, .int a2), (3, .int a3)]) rfl ?_
      refine Ev_aload_n 1 (dt_X9_addErrand.at 17 rfl) rfl ?_
      refine Ev_get (i := 3) (v := .ref 23) (dt_X9_addErrand.at 18 rfl) ff_X9_21 sk_19 rfl rfl ?_
      refine Ev_iload_n 2 (dt_X9_addErrand.at 19 rfl) rfl ?_
      refine Ev_iconst (dt_X9_addErrand.at 20 rfl) ki_4 ?_
      refine Ev_imul (dt_X9_addErrand.at 21 rfl) ?_
      refine Ev_iload 0 (dt_X9_addErrand.at 22 rfl) rfl ?_
      refine Ev_iadd (dt_X9_addErrand.at 23 rfl) ?_
      refine Ev_iload_n 3 (dt_X9_addErrand.at 24 rfl) rfl ?_
      obtain ⟨g7, h⟩ := oGuard h
      refine Ev_iastore 23 (dt_X9_addErrand.at 25 rfl) sk_23 g7 ?_
      refine Ev_nmS (fun s8 es8 => ?_)
      replace h := oLt h es8
      refine Ev_aload_n 1 (dt_X9_addErrand.at 26 rfl) rfl ?_
      refine Ev_get (i := 4) (v := .ref 24) (dt_X9_addErrand.at 27 rfl) ff_X9_24 sk_19 rfl rfl ?_
      refine Ev_iload_n 2 (dt_X9_addErrand.at 28 rfl) rfl ?_
      refine Ev_iconst (dt_X9_addErrand.at 29 rfl) ki_4 ?_
      refine Ev_imul (dt_X9_addErrand.at 30 rfl) ?_
      refine Ev_iload 0 (dt_X9_addErrand.at 31 rfl) rfl ?_
      refine Ev_iadd (dt_X9_addErrand.at 32 rfl) ?_
      refine Ev_iload_n 4 (dt_X9_addErrand.at 33 rfl) rfl ?_
      obtain ⟨g9, h⟩ := oGuard h
      refine Ev_iastore 24 (dt_X9_addErrand.at 34 rfl) sk_24 g9 ?_
      refine Ev_nmS (fun s10 es10 => ?_)
      replace h := oLt h es10
      refine Ev_aload_n 1 (dt_X9_addErrand.at 35 rfl) rfl ?_
      refine Ev_get (i := 2) (v := .ref 22) (dt_X9_addErrand.at 36 rfl) ff_X9_18 sk_19 rfl rfl ?_
      refine Ev_iload_n 2 (dt_X9_addErrand.at 37 rfl) rfl ?_
      refine Ev_dup2 (dt_X9_addErrand.at 38 rfl) rfl rfl ?_
      obtain ⟨g11, h⟩ := oGuard h
      refine Ev_iaload 22 (dt_X9_addErrand.at 39 rfl) sk_22 g11 ?_
      refine Ev_iconst (dt_X9_addErrand.at 40 rfl) ki_1 ?_
      refine Ev_iadd (dt_X9_addErrand.at 41 rfl) ?_
      obtain ⟨g12, h⟩ := oGuard h
      refine Ev_iastore 22 (dt_X9_addErrand.at 42 rfl) sk_22 g12 ?_
      refine Ev_nmS (fun s13 es13 => ?_)
      replace h := oLt h es13
      refine Ev_iload 0 (dt_X9_addErrand.at 43 rfl) rfl ?_
      exact Ev_iret (dt_X9_addErrand.at 44 rfl) rfl h
    · replace h := oNeg h c4
      refine Ev_iconst (dt_X9_addErrand.at 10 rfl) ki_m1 ?_
      exact Ev_iret (dt_X9_addErrand.at 11 rfl) rfl h
def s_x_errand (σ : Sg) (a1 : Int32) (a2 : Int32) (a3 : Int32) : Option (Int32 × Sg) :=
  (s_Town_hasPerson σ a1).bind fun q1 =>
  if q1 = 0 then
    (s_x_refusedBad σ (-2)).bind fun q3 =>
    some (q3.1, q3.2)
  else
    (s_Town_hasPlace σ a2).bind fun q4 =>
    if q4 = 0 then
      (s_x_refusedBad σ (-2)).bind fun q6 =>
      some (q6.1, q6.2)
    else
      (s_x_isHour a3).bind fun q7 =>
      if q7 = 0 then
        (s_x_refusedBad σ (-2)).bind fun q13 =>
        some (q13.1, q13.2)
      else
        if inB a1 9 = true then
          if (gI σ 22 (Int32.toNatClampNeg a1)) < 4 then
            (s_Town_addErrand σ a1 a2 a3).bind fun q11 =>
            some (q11.1, q11.2)
          else
            (s_x_refusedFull σ ).bind fun q12 =>
            some (q12.1, q12.2)
        else none
set_option maxRecDepth 100000 in
set_option maxHeartbeats 4000000 in
theorem w_x_errand (σ : Sg) (a1 : Int32) (a2 : Int32) (a3 : Int32) (q : (Int32 × Sg)) (h : s_x_errand σ a1 a2 a3 = some q) : Cal M_X11_errand 2 [.ref 0, .int a1, .int a2, .int a3] σ (some (.int q.1)) q.2 := by
  refine Cal.of (M := M_X11_errand) (by decide +kernel) (Nat.le_of_ble_eq_true rfl) ?_
  show Ev _ _ _ _ 0 [(0, .ref 0), (1, .int a1), (2, .int a2), (3, .int a3)] [] σ
  unfold s_x_errand at h
  refine Ev_aload_n 0 (dt_X11_errand.at 0 rfl) rfl ?_
  refine Ev_get (i := 0) (v := .ref 25) (dt_X11_errand.at 1 rfl) ff_X11_50 sk_0 rfl rfl ?_
  refine Ev_get (i := 0) (v := .ref 19) (dt_X11_errand.at 2 rfl) ff_X11_72 sk_25 rfl rfl ?_
  refine Ev_astore (dt_X11_errand.at 3 rfl) (by decide) (ls' := [(4, .ref 19), (0, .ref 0), (1, .int a1), (2, .int a2), (3, .int a3)]) rfl ?_
  refine Ev_aload 0 (dt_X11_errand.at 4 rfl) rfl ?_
  refine Ev_iload_n 2 (dt_X11_errand.at 5 rfl) rfl ?_
  obtain ⟨q1, hq1, h⟩ := oBind h
  refine Ev_callV (st := []) (st' := [.int q1]) [.int a1] (dt_X11_errand.at 6 rfl) cf_X11_101 (w_Town_hasPerson σ a1 q1 hq1) (by decide) sk_19 rfl rfl rfl (Nat.le_of_ble_eq_true rfl) rfl ?_
  refine Ev_if_eq (tgt := 34) (dt_X11_errand.at 7 rfl) (by decide) (fun c2 => ?_) (fun c2 => ?_)
  · replace h := oPos h c2
    refine Ev_aload_n 1 (dt_X11_errand.at 15 rfl) rfl ?_
    refine Ev_bipush (dt_X11_errand.at 16 rfl) kb_m2 ?_
    obtain ⟨q3, hq3, h⟩ := oBind h
    refine Ev_callV (st := []) (st' := [.int q3.1]) [.int (-2)] (dt_X11_errand.at 17 rfl) cf_X11_68 (w_x_refusedBad σ (-2) q3 hq3) (by decide) sk_0 rfl rfl rfl (Nat.le_of_ble_eq_true rfl) rfl ?_
    exact Ev_iret (dt_X11_errand.at 18 rfl) rfl h
  · replace h := oNeg h c2
    refine Ev_aload 0 (dt_X11_errand.at 8 rfl) rfl ?_
    refine Ev_iload_n 3 (dt_X11_errand.at 9 rfl) rfl ?_
    obtain ⟨q4, hq4, h⟩ := oBind h
    refine Ev_callV (st := []) (st' := [.int q4]) [.int a2] (dt_X11_errand.at 10 rfl) cf_X11_105 (w_Town_hasPlace σ a2 q4 hq4) (by decide) sk_19 rfl rfl rfl (Nat.le_of_ble_eq_true rfl) rfl ?_
    refine Ev_if_eq (tgt := 34) (dt_X11_errand.at 11 rfl) (by decide) (fun c5 => ?_) (fun c5 => ?_)
    · replace h := oPos h c5
      refine Ev_aload_n 1 (dt_X11_errand.at 15 rfl) rfl ?_
      refine Ev_bipush (dt_X11_errand.at 16 rfl) kb_m2 ?_
      obtain ⟨q6, hq6, h⟩ := oBind h
      refine Ev_callV (st := []) (st' := [.int q6.1]) [.int (-2)] (dt_X11_errand.at 17 rfl) cf_X11_68 (w_x_refusedBad σ (-2) q6 hq6) (by decide) sk_0 rfl rfl rfl (Nat.le_of_ble_eq_true rfl) rfl ?_
      exact Ev_iret (dt_X11_errand.at 18 rfl) rfl h
    · replace h := oNeg h c5
      refine Ev_iload_n 4 (dt_X11_errand.at 12 rfl) rfl ?_
      obtain ⟨q7, hq7, h⟩ := oBind h
      refine Ev_callS (st := []) (st' := [.int q7]) [.int a3] (dt_X11_errand.at 13 rfl) cf_X11_108 (w_x_isHour σ a3 q7 hq7) (by decide) rfl rfl (Nat.le_of_ble_eq_true rfl) rfl ?_
      refine Ev_if_ne (tgt := 41) (dt_X11_errand.at 14 rfl) (by decide) (fun c8 => ?_) (fun c8 => ?_)
      · replace h := oNeg h c8
        refine Ev_aload 0 (dt_X11_errand.at 19 rfl) rfl ?_
        refine Ev_get (i := 2) (v := .ref 22) (dt_X11_errand.at 20 rfl) ff_X11_111 sk_19 rfl rfl ?_
        refine Ev_iload_n 2 (dt_X11_errand.at 21 rfl) rfl ?_
        obtain ⟨g9, h⟩ := oGuard h
        refine Ev_iaload 22 (dt_X11_errand.at 22 rfl) sk_22 g9 ?_
        refine Ev_iconst (dt_X11_errand.at 23 rfl) ki_4 ?_
        refine Ev_icmp_lt (tgt := 57) (dt_X11_errand.at 24 rfl) (by decide) (fun c10 => ?_) (fun c10 => ?_)
        · replace h := oPos h c10
          refine Ev_aload 0 (dt_X11_errand.at 28 rfl) rfl ?_
          refine Ev_iload_n 2 (dt_X11_errand.at 29 rfl) rfl ?_
          refine Ev_iload_n 3 (dt_X11_errand.at 30 rfl) rfl ?_
          refine Ev_iload_n 4 (dt_X11_errand.at 31 rfl) rfl ?_
          obtain ⟨q11, hq11, h⟩ := oBind h
          refine Ev_callV (st := []) (st' := [.int q11.1]) [.int a1, .int a2, .int a3] (dt_X11_errand.at 32 rfl) cf_X11_114 (w_Town_addErrand σ a1 a2 a3 q11 hq11) (by decide) sk_19 rfl rfl rfl (Nat.le_of_ble_eq_true rfl) rfl ?_
          exact Ev_iret (dt_X11_errand.at 33 rfl) rfl h
        · replace h := oNeg h c10
          refine Ev_aload_n 1 (dt_X11_errand.at 25 rfl) rfl ?_
          obtain ⟨q12, hq12, h⟩ := oBind h
          refine Ev_callV (st := []) (st' := [.int q12.1]) [] (dt_X11_errand.at 26 rfl) cf_X11_93 (w_x_refusedFull σ  q12 hq12) (by decide) sk_0 rfl rfl rfl (Nat.le_of_ble_eq_true rfl) rfl ?_
          exact Ev_iret (dt_X11_errand.at 27 rfl) rfl h
      · replace h := oPos h c8
        refine Ev_aload_n 1 (dt_X11_errand.at 15 rfl) rfl ?_
        refine Ev_bipush (dt_X11_errand.at 16 rfl) kb_m2 ?_
        obtain ⟨q13, hq13, h⟩ := oBind h
        refine Ev_callV (st := []) (st' := [.int q13.1]) [.int (-2)] (dt_X11_errand.at 17 rfl) cf_X11_68 (w_x_refusedBad σ (-2) q13 hq13) (by decide) sk_0 rfl rfl rfl (Nat.le_of_ble_eq_true rfl) rfl ?_
        exact Ev_iret (dt_X11_errand.at 18 rfl) rfl h
def s_x_refusedNo (σ : Sg) (a1 : Int32) : Option (Int32 × Sg) :=
  lt (pI σ 0 13 ((gI σ 0 13) + 1) : Sg) fun s1 =>
  some (a1, s1)
set_option maxRecDepth 100000 in
set_option maxHeartbeats 4000000 in
theorem w_x_refusedNo (σ : Sg) (a1 : Int32) (q : (Int32 × Sg)) (h : s_x_refusedNo σ a1 = some q) : Cal M_X11_refusedNo 0 [.ref 0, .int a1] σ (some (.int q.1)) q.2 := by
  refine Cal.of (M := M_X11_refusedNo) (by decide +kernel) (Nat.le_of_ble_eq_true rfl) ?_
  show Ev _ _ _ _ 0 [(0, .ref 0), (1, .int a1)] [] σ
  unfold s_x_refusedNo at h
  refine Ev_aload_n 0 (dt_X11_refusedNo.at 0 rfl) rfl ?_
  refine Ev_dup (dt_X11_refusedNo.at 1 rfl) rfl ?_
  refine Ev_get (i := 13) (v := .int (gI σ 0 13)) (dt_X11_refusedNo.at 2 rfl) ff_X11_235 sk_0 rfl rfl ?_
  refine Ev_iconst (dt_X11_refusedNo.at 3 rfl) ki_1 ?_
  refine Ev_iadd (dt_X11_refusedNo.at 4 rfl) ?_
  refine Ev_putI (dt_X11_refusedNo.at 5 rfl) ff_X11_235 fw_11_13 sk_0 rfl ?_
  refine Ev_nmS (fun s1 es1 => ?_)
  replace h := oLt h es1
  refine Ev_iload_n 1 (dt_X11_refusedNo.at 6 rfl) rfl ?_
  exact Ev_iret (dt_X11_refusedNo.at 7 rfl) rfl h
def s_x_drop (σ : Sg) (a1 : Int32) : Option (Int32 × Sg) :=
  (s_Town_hasPerson σ a1).bind fun q1 =>
  if q1 = 0 then
    (s_x_refusedBad σ (-2)).bind fun q10 =>
    some (q10.1, q10.2)
  else
    if inB a1 9 = true then
      if (gI σ 22 (Int32.toNatClampNeg a1)) = 0 then
        (s_x_refusedNo σ (-3)).bind fun q9 =>
        some (q9.1, q9.2)
      else
        if inB a1 9 = true then
          if inB a1 9 = true then
            lt (pI σ 22 (Int32.toNatClampNeg a1) ((gI σ 22 (Int32.toNatClampNeg a1)) - 1) : Sg) fun s7 =>
            if inB a1 9 = true then
              some ((gI s7 22 (Int32.toNatClampNeg a1)), s7)
            else none
          else none
        else none
    else none
set_option maxRecDepth 100000 in
set_option maxHeartbeats 4000000 in
theorem w_x_drop (σ : Sg) (a1 : Int32) (q : (Int32 × Sg)) (h : s_x_drop σ a1 = some q) : Cal M_X11_drop 1 [.ref 0, .int a1] σ (some (.int q.1)) q.2 := by
  refine Cal.of (M := M_X11_drop) (by decide +kernel) (Nat.le_of_ble_eq_true rfl) ?_
  show Ev _ _ _ _ 0 [(0, .ref 0), (1, .int a1)] [] σ
  unfold s_x_drop at h
  refine Ev_aload_n 0 (dt_X11_drop.at 0 rfl) rfl ?_
  refine Ev_get (i := 0) (v := .ref 25) (dt_X11_drop.at 1 rfl) ff_X11_50 sk_0 rfl rfl ?_
  refine Ev_get (i := 0) (v := .ref 19) (dt_X11_drop.at 2 rfl) ff_X11_72 sk_25 rfl rfl ?_
  refine Ev_astore_n (dt_X11_drop.at 3 rfl) (by decide) (ls' := [(2, .ref 19), (0, .ref 0), (1, .int a1)]) rfl ?_
  refine Ev_aload_n 0 (dt_X11_drop.at 4 rfl) rfl ?_
  refine Ev_iload_n 2 (dt_X11_drop.at 5 rfl) rfl ?_
  obtain ⟨q1, hq1, h⟩ := oBind h
  refine Ev_callV (st := []) (st' := [.int q1]) [.int a1] (dt_X11_drop.at 6 rfl) cf_X11_101 (w_Town_hasPerson σ a1 q1 hq1) (by decide) sk_19 rfl rfl rfl (Nat.le_of_ble_eq_true rfl) rfl ?_
  refine Ev_if_ne (tgt := 23) (dt_X11_drop.at 7 rfl) (by decide) (fun c2 => ?_) (fun c2 => ?_)
  · replace h := oNeg h c2
    refine Ev_aload_n 0 (dt_X11_drop.at 12 rfl) rfl ?_
    refine Ev_get (i := 2) (v := .ref 22) (dt_X11_drop.at 13 rfl) ff_X11_111 sk_19 rfl rfl ?_
    refine Ev_iload_n 2 (dt_X11_drop.at 14 rfl) rfl ?_
    obtain ⟨g3, h⟩ := oGuard h
    refine Ev_iaload 22 (dt_X11_drop.at 15 rfl) sk_22 g3 ?_
    refine Ev_if_ne (tgt := 39) (dt_X11_drop.at 16 rfl) (by decide) (fun c4 => ?_) (fun c4 => ?_)
    · replace h := oNeg h c4
      refine Ev_aload_n 0 (dt_X11_drop.at 21 rfl) rfl ?_
      refine Ev_get (i := 2) (v := .ref 22) (dt_X11_drop.at 22 rfl) ff_X11_111 sk_19 rfl rfl ?_
      refine Ev_iload_n 2 (dt_X11_drop.at 23 rfl) rfl ?_
      refine Ev_dup2 (dt_X11_drop.at 24 rfl) rfl rfl ?_
      obtain ⟨g5, h⟩ := oGuard h
      refine Ev_iaload 22 (dt_X11_drop.at 25 rfl) sk_22 g5 ?_
      refine Ev_iconst (dt_X11_drop.at 26 rfl) ki_1 ?_
      refine Ev_isub (dt_X11_drop.at 27 rfl) ?_
      obtain ⟨g6, h⟩ := oGuard h
      refine Ev_iastore 22 (dt_X11_drop.at 28 rfl) sk_22 g6 ?_
      refine Ev_nmS (fun s7 es7 => ?_)
      replace h := oLt h es7
      refine Ev_aload_n 0 (dt_X11_drop.at 29 rfl) rfl ?_
      refine Ev_get (i := 2) (v := .ref 22) (dt_X11_drop.at 30 rfl) ff_X11_111 sk_19 rfl rfl ?_
      refine Ev_iload_n 2 (dt_X11_drop.at 31 rfl) rfl ?_
      obtain ⟨g8, h⟩ := oGuard h
      refine Ev_iaload 22 (dt_X11_drop.at 32 rfl) sk_22 g8 ?_
      exact Ev_iret (dt_X11_drop.at 33 rfl) rfl h
    · replace h := oPos h c4
      refine Ev_aload_n 1 (dt_X11_drop.at 17 rfl) rfl ?_
      refine Ev_bipush (dt_X11_drop.at 18 rfl) kb_m3 ?_
      obtain ⟨q9, hq9, h⟩ := oBind h
      refine Ev_callV (st := []) (st' := [.int q9.1]) [.int (-3)] (dt_X11_drop.at 19 rfl) cf_X11_118 (w_x_refusedNo σ (-3) q9 hq9) (by decide) sk_0 rfl rfl rfl (Nat.le_of_ble_eq_true rfl) rfl ?_
      exact Ev_iret (dt_X11_drop.at 20 rfl) rfl h
  · replace h := oPos h c2
    refine Ev_aload_n 1 (dt_X11_drop.at 8 rfl) rfl ?_
    refine Ev_bipush (dt_X11_drop.at 9 rfl) kb_m2 ?_
    obtain ⟨q10, hq10, h⟩ := oBind h
    refine Ev_callV (st := []) (st' := [.int q10.1]) [.int (-2)] (dt_X11_drop.at 10 rfl) cf_X11_68 (w_x_refusedBad σ (-2) q10 hq10) (by decide) sk_0 rfl rfl rfl (Nat.le_of_ble_eq_true rfl) rfl ?_
    exact Ev_iret (dt_X11_drop.at 11 rfl) rfl h
def b_x_type_40 (v1 : Int64) (x : (Sg × Int32)) : Option ((Sg × Int32) ⊕ (Sg × Int32)) :=
  if x.2 < 0 then
    some (.inr (x.1, x.2))
  else
    if inB (gI x.1 0 9) 250 = true then
      lt (pI x.1 3 (Int32.toNatClampNeg (gI x.1 0 9)) ((Int64.toInt32 ((Int64.toUInt64 v1 >>> (Int64.toUInt64 (Int32.toInt64 (8 * x.2)) &&& Int64.toUInt64 63)).toInt64)) &&& 255) : Sg) fun s8 =>
      lt (pI s8 0 9 ((gI s8 0 9) + 1) : Sg) fun s9 =>
      lt (x.2 + (-1) : Int32) fun x10 =>
      some (.inl (s9, x10))
    else none
def s_x_type (σ : Sg) (a1 : Int64) (a3 : Int32) : Option (Int32 × Sg) :=
  if a3 < 1 then
    (s_x_refusedBad σ (-2)).bind fun q2 =>
    some (q2.1, q2.2)
  else
    if a3 ≤ 8 then
      if ((gI σ 0 9) + a3) ≤ 250 then
        lt ((a3 - 1) : Int32) fun x5 =>
        (lp (b_x_type_40 a1) 100000 (σ, x5)).bind fun o11 =>
        some ((gI o11.1 0 9), o11.1)
      else
        (s_x_refusedFull σ ).bind fun q12 =>
        some (q12.1, q12.2)
    else
      (s_x_refusedBad σ (-2)).bind fun q13 =>
      some (q13.1, q13.2)
set_option maxRecDepth 100000 in
set_option maxHeartbeats 4000000 in
theorem wb_x_type_40 (v1 : Int64) (x : (Sg × Int32)) (r : Option Value) (τ : Sg) (o : ((Sg × Int32) ⊕ (Sg × Int32))) (h : (b_x_type_40 v1 x) = some o) (hc : ∀ y : (Sg × Int32), o = .inl y → Ev M_X11_type 1 r τ 40 [(0, .ref 0), (1, .long v1), (4, .int y.2)] [] y.1) (he : ∀ y : (Sg × Int32), o = .inr y → Ev M_X11_type 1 r τ 82 [(0, .ref 0)] [] y.1) : Ev M_X11_type 1 r τ 40 [(0, .ref 0), (1, .long v1), (4, .int x.2)] [] x.1 := by
  unfold b_x_type_40 at h
  refine Ev_iload 2 (dt_X11_type.at 23 rfl) rfl ?_
  refine Ev_if_lt (tgt := 82) (dt_X11_type.at 24 rfl) (by decide) (fun c6 => ?_) (fun c6 => ?_)
  · replace h := oPos h c6
    refine Ev_sub [0] (ls' := [(0, .ref 0)]) rfl ?_
    exact he _ (Option.some.inj h).symm
  · replace h := oNeg h c6
    refine Ev_aload_n 0 (dt_X11_type.at 25 rfl) rfl ?_
    refine Ev_get (i := 3) (v := .ref 3) (dt_X11_type.at 26 rfl) ff_X11_19 sk_0 rfl rfl ?_
    refine Ev_aload_n 0 (dt_X11_type.at 27 rfl) rfl ?_
    refine Ev_get (i := 9) (v := .int (gI x.1 0 9)) (dt_X11_type.at 28 rfl) ff_X11_121 sk_0 rfl rfl ?_
    refine Ev_lload_n 1 (dt_X11_type.at 29 rfl) rfl ?_
    refine Ev_bipush (dt_X11_type.at 30 rfl) kb_8 ?_
    refine Ev_iload 2 (dt_X11_type.at 31 rfl) rfl ?_
    refine Ev_imul (dt_X11_type.at 32 rfl) ?_
    refine Ev_lushr (dt_X11_type.at 33 rfl) ?_
    refine Ev_l2i (dt_X11_type.at 34 rfl) ?_
    refine Ev_sipush (dt_X11_type.at 35 rfl) ks_255 ?_
    refine Ev_iand (dt_X11_type.at 36 rfl) ?_
    obtain ⟨g7, h⟩ := oGuard h
    refine Ev_iastore 3 (dt_X11_type.at 37 rfl) sk_3 g7 ?_
    refine Ev_nmS (fun s8 es8 => ?_)
    replace h := oLt h es8
    refine Ev_aload_n 0 (dt_X11_type.at 38 rfl) rfl ?_
    refine Ev_dup (dt_X11_type.at 39 rfl) rfl ?_
    refine Ev_get (i := 9) (v := .int (gI s8 0 9)) (dt_X11_type.at 40 rfl) ff_X11_121 sk_0 rfl rfl ?_
    refine Ev_iconst (dt_X11_type.at 41 rfl) ki_1 ?_
    refine Ev_iadd (dt_X11_type.at 42 rfl) ?_
    refine Ev_putI (dt_X11_type.at 43 rfl) ff_X11_121 fw_11_9 sk_0 rfl ?_
    refine Ev_nmS (fun s9 es9 => ?_)
    replace h := oLt h es9
    obtain ⟨x10, ex10⟩ : ∃ z : Int32, z = x.2 + (-1) := ⟨_, rfl⟩
    replace h := oLt h ex10
    refine Ev_iinc (v := x10) 2 (dt_X11_type.at 44 rfl) rfl (ex10.trans (by rw [ki_m1])) (by decide) (ls' := [(4, .int x10), (0, .ref 0), (1, .long v1)]) rfl ?_
    refine Ev_goto (tgt := 40) (dt_X11_type.at 45 rfl) (by decide) ?_
    refine Ev_sub [1, 2, 0] (ls' := [(0, .ref 0), (1, .long v1), (4, .int x10)]) rfl ?_
    exact hc _ (Option.some.inj h).symm
set_option maxRecDepth 100000 in
set_option maxHeartbeats 4000000 in
theorem wl_x_type_40 (v1 : Int64) (r : Option Value) (τ : Sg) (n : Nat) (x : (Sg × Int32)) (z : (Sg × Int32)) (h : lp (b_x_type_40 v1) n x = some z) (he : ∀ y : (Sg × Int32), z = y → Ev M_X11_type 1 r τ 82 [(0, .ref 0)] [] y.1) : Ev M_X11_type 1 r τ 40 [(0, .ref 0), (1, .long v1), (4, .int x.2)] [] x.1 := by
  refine lp_ind (E := fun x : (Sg × Int32) => Ev M_X11_type 1 r τ 40 [(0, .ref 0), (1, .long v1), (4, .int x.2)] [] x.1) (fun x => ⟨fun y hb hy => ?_, fun hb => ?_⟩) n x h
  · exact wb_x_type_40 v1 x r τ _ hb (fun y' e => by cases e; exact hy) (fun y' e => by cases e)
  · exact wb_x_type_40 v1 x r τ _ hb (fun y' e => by cases e) (fun y' e => he y' (Sum.inr.inj e))
set_option maxRecDepth 100000 in
set_option maxHeartbeats 4000000 in
theorem w_x_type (σ : Sg) (a1 : Int64) (a3 : Int32) (q : (Int32 × Sg)) (h : s_x_type σ a1 a3 = some q) : Cal M_X11_type 1 [.ref 0, .long a1, .int a3] σ (some (.int q.1)) q.2 := by
  refine Cal.of (M := M_X11_type) (by decide +kernel) (Nat.le_of_ble_eq_true rfl) ?_
  show Ev _ _ _ _ 0 [(0, .ref 0), (1, .long a1), (3, .int a3)] [] σ
  unfold s_x_type at h
  refine Ev_iload_n 2 (dt_X11_type.at 0 rfl) rfl ?_
  refine Ev_iconst (dt_X11_type.at 1 rfl) ki_1 ?_
  refine Ev_icmp_lt (tgt := 11) (dt_X11_type.at 2 rfl) (by decide) (fun c1 => ?_) (fun c1 => ?_)
  · replace h := oPos h c1
    refine Ev_aload_n 0 (dt_X11_type.at 6 rfl) rfl ?_
    refine Ev_bipush (dt_X11_type.at 7 rfl) kb_m2 ?_
    obtain ⟨q2, hq2, h⟩ := oBind h
    refine Ev_callV (st := []) (st' := [.int q2.1]) [.int (-2)] (dt_X11_type.at 8 rfl) cf_X11_68 (w_x_refusedBad σ (-2) q2 hq2) (by decide) sk_0 rfl rfl rfl (Nat.le_of_ble_eq_true rfl) rfl ?_
    exact Ev_iret (dt_X11_type.at 9 rfl) rfl h
  · replace h := oNeg h c1
    refine Ev_iload_n 2 (dt_X11_type.at 3 rfl) rfl ?_
    refine Ev_bipush (dt_X11_type.at 4 rfl) kb_8 ?_
    refine Ev_icmp_le (tgt := 18) (dt_X11_type.at 5 rfl) (by decide) (fun c3 => ?_) (fun c3 => ?_)
    · replace h := oPos h c3
      refine Ev_aload_n 0 (dt_X11_type.at 10 rfl) rfl ?_
      refine Ev_get (i := 9) (v := .int (gI σ 0 9)) (dt_X11_type.at 11 rfl) ff_X11_121 sk_0 rfl rfl ?_
      refine Ev_iload_n 2 (dt_X11_type.at 12 rfl) rfl ?_
      refine Ev_iadd (dt_X11_type.at 13 rfl) ?_
      refine Ev_sipush (dt_X11_type.at 14 rfl) ks_250 ?_
      refine Ev_icmp_le (tgt := 35) (dt_X11_type.at 15 rfl) (by decide) (fun c4 => ?_) (fun c4 => ?_)
      · replace h := oPos h c4
        refine Ev_iload_n 2 (dt_X11_type.at 19 rfl) rfl ?_
        refine Ev_iconst (dt_X11_type.at 20 rfl) ki_1 ?_
        refine Ev_isub (dt_X11_type.at 21 rfl) ?_
        refine Ev_nmI (fun x5 ex5 => ?_)
        replace h := oLt h ex5
        refine Ev_istore (dt_X11_type.at 22 rfl) (by decide) (ls' := [(4, .int x5), (0, .ref 0), (1, .long a1), (3, .int a3)]) rfl ?_
        refine Ev_sub [1, 2, 0] (ls' := [(0, .ref 0), (1, .long a1), (4, .int x5)]) rfl ?_
        obtain ⟨o11, ho11, h⟩ := oBind h
        refine wl_x_type_40 a1 _ _ _ _ o11 ho11 (fun y ey => ?_)
        subst ey
        refine Ev_aload_n 0 (dt_X11_type.at 46 rfl) rfl ?_
        refine Ev_get (i := 9) (v := .int (gI o11.1 0 9)) (dt_X11_type.at 47 rfl) ff_X11_121 sk_0 rfl rfl ?_
        exact Ev_iret (dt_X11_type.at 48 rfl) rfl h
      · replace h := oNeg h c4
        refine Ev_aload_n 0 (dt_X11_type.at 16 rfl) rfl ?_
        obtain ⟨q12, hq12, h⟩ := oBind h
        refine Ev_callV (st := []) (st' := [.int q12.1]) [] (dt_X11_type.at 17 rfl) cf_X11_93 (w_x_refusedFull σ  q12 hq12) (by decide) sk_0 rfl rfl rfl (Nat.le_of_ble_eq_true rfl) rfl ?_
        exact Ev_iret (dt_X11_type.at 18 rfl) rfl h
    · replace h := oNeg h c3
      refine Ev_aload_n 0 (dt_X11_type.at 6 rfl) rfl ?_
      refine Ev_bipush (dt_X11_type.at 7 rfl) kb_m2 ?_
      obtain ⟨q13, hq13, h⟩ := oBind h
      refine Ev_callV (st := []) (st' := [.int q13.1]) [.int (-2)] (dt_X11_type.at 8 rfl) cf_X11_68 (w_x_refusedBad σ (-2) q13 hq13) (by decide) sk_0 rfl rfl rfl (Nat.le_of_ble_eq_true rfl) rfl ?_
      exact Ev_iret (dt_X11_type.at 9 rfl) rfl h
def s_x_clear (σ : Sg)  : Option (Int32 × Sg) :=
  lt ((gI σ 0 9) : Int32) fun x1 =>
  lt (pI σ 0 9 0 : Sg) fun s2 =>
  some (x1, s2)
set_option maxRecDepth 100000 in
set_option maxHeartbeats 4000000 in
theorem w_x_clear (σ : Sg)  (q : (Int32 × Sg)) (h : s_x_clear σ  = some q) : Cal M_X11_clear 0 [.ref 0] σ (some (.int q.1)) q.2 := by
  refine Cal.of (M := M_X11_clear) (by decide +kernel) (Nat.le_of_ble_eq_true rfl) ?_
  show Ev _ _ _ _ 0 [(0, .ref 0)] [] σ
  unfold s_x_clear at h
  refine Ev_aload_n 0 (dt_X11_clear.at 0 rfl) rfl ?_
  refine Ev_get (i := 9) (v := .int (gI σ 0 9)) (dt_X11_clear.at 1 rfl) ff_X11_121 sk_0 rfl rfl ?_
  refine Ev_nmI (fun x1 ex1 => ?_)
  replace h := oLt h ex1
  refine Ev_istore_n (dt_X11_clear.at 2 rfl) (by decide) (ls' := [(1, .int x1), (0, .ref 0)]) rfl ?_
  refine Ev_aload_n 1 (dt_X11_clear.at 3 rfl) rfl ?_
  refine Ev_iconst (dt_X11_clear.at 4 rfl) ki_0 ?_
  refine Ev_putI (dt_X11_clear.at 5 rfl) ff_X11_121 fw_11_9 sk_0 rfl ?_
  refine Ev_nmS (fun s2 es2 => ?_)
  replace h := oLt h es2
  refine Ev_iload_n 0 (dt_X11_clear.at 6 rfl) rfl ?_
  exact Ev_iret (dt_X11_clear.at 7 rfl) rfl h
def s_Town_isGroup (σ : Sg) (a1 : Int32) : Option Int32 :=
  if a1 < 0 then
    some 0
  else
    if (1 <<< ((gI σ 19 6) &&& 31)) ≤ a1 then
      some 0
    else
      some 1
set_option maxRecDepth 100000 in
set_option maxHeartbeats 4000000 in
theorem w_Town_isGroup (σ : Sg) (a1 : Int32) (q : Int32) (h : s_Town_isGroup σ a1 = some q) : Cal M_X9_isGroup 0 [.ref 19, .int a1] σ (some (.int q)) σ := by
  refine Cal.of (M := M_X9_isGroup) (by decide +kernel) (Nat.le_of_ble_eq_true rfl) ?_
  show Ev _ _ _ _ 0 [(0, .ref 19), (1, .int a1)] [] σ
  unfold s_Town_isGroup at h
  refine Ev_iload_n 1 (dt_X9_isGroup.at 0 rfl) rfl ?_
  refine Ev_if_lt (tgt := 18) (dt_X9_isGroup.at 1 rfl) (by decide) (fun c1 => ?_) (fun c1 => ?_)
  · replace h := oPos h c1
    refine Ev_iconst (dt_X9_isGroup.at 10 rfl) ki_0 ?_
    exact Ev_zret (dt_X9_isGroup.at 11 rfl) rfl (by decide) (oRet h)
  · replace h := oNeg h c1
    refine Ev_iload_n 1 (dt_X9_isGroup.at 2 rfl) rfl ?_
    refine Ev_iconst (dt_X9_isGroup.at 3 rfl) ki_1 ?_
    refine Ev_aload_n 0 (dt_X9_isGroup.at 4 rfl) rfl ?_
    refine Ev_get (i := 6) (v := .int (gI σ 19 6)) (dt_X9_isGroup.at 5 rfl) ff_X9_31 sk_19 rfl rfl ?_
    refine Ev_ishl (dt_X9_isGroup.at 6 rfl) ?_
    refine Ev_icmp_ge (tgt := 18) (dt_X9_isGroup.at 7 rfl) (by decide) (fun c2 => ?_) (fun c2 => ?_)
    · replace h := oPos h c2
      refine Ev_iconst (dt_X9_isGroup.at 10 rfl) ki_0 ?_
      exact Ev_zret (dt_X9_isGroup.at 11 rfl) rfl (by decide) (oRet h)
    · replace h := oNeg h c2
      refine Ev_iconst (dt_X9_isGroup.at 8 rfl) ki_1 ?_
      refine Ev_goto (tgt := 19) (dt_X9_isGroup.at 9 rfl) (by decide) ?_
      exact Ev_zret (dt_X9_isGroup.at 11 rfl) rfl (by decide) (oRet h)
def s_Integer_bitCount (a0 : Int32) : Option Int32 :=
  lt ((a0 - (((a0.toUInt32 >>> (Int32.toUInt32 1 &&& Int32.toUInt32 31)).toInt32) &&& 1431655765)) : Int32) fun x1 =>
  lt (((x1 &&& 858993459) + (((x1.toUInt32 >>> (Int32.toUInt32 2 &&& Int32.toUInt32 31)).toInt32) &&& 858993459)) : Int32) fun x2 =>
  lt (((x2 + ((x2.toUInt32 >>> (Int32.toUInt32 4 &&& Int32.toUInt32 31)).toInt32)) &&& 252645135) : Int32) fun x3 =>
  lt ((x3 + ((x3.toUInt32 >>> (Int32.toUInt32 8 &&& Int32.toUInt32 31)).toInt32)) : Int32) fun x4 =>
  lt ((x4 + ((x4.toUInt32 >>> (Int32.toUInt32 16 &&& Int32.toUInt32 31)).toInt32)) : Int32) fun x5 =>
  some (x5 &&& 63)
set_option maxRecDepth 100000 in
set_option maxHeartbeats 4000000 in
theorem w_Integer_bitCount (σ : Sg) (a0 : Int32) (q : Int32) (h : s_Integer_bitCount a0 = some q) : Cal M_J6_bitCount 0 [.int a0] σ (some (.int q)) σ := by
  refine Cal.of (M := M_J6_bitCount) (by decide +kernel) (Nat.le_of_ble_eq_true rfl) ?_
  show Ev _ _ _ _ 0 [(0, .int a0)] [] σ
  unfold s_Integer_bitCount at h
  refine Ev_iload_n 0 (dt_J6_bitCount.at 0 rfl) rfl ?_
  refine Ev_iload_n 0 (dt_J6_bitCount.at 1 rfl) rfl ?_
  refine Ev_iconst (dt_J6_bitCount.at 2 rfl) ki_1 ?_
  refine Ev_iushr (dt_J6_bitCount.at 3 rfl) ?_
  refine Ev_ldc_w (dt_J6_bitCount.at 4 rfl) ci_J6_265 ?_
  refine Ev_iand (dt_J6_bitCount.at 5 rfl) ?_
  refine Ev_isub (dt_J6_bitCount.at 6 rfl) ?_
  refine Ev_nmI (fun x1 ex1 => ?_)
  replace h := oLt h ex1
  refine Ev_istore_n (dt_J6_bitCount.at 7 rfl) (by decide) (ls' := [(0, .int x1)]) rfl ?_
  refine Ev_iload_n 0 (dt_J6_bitCount.at 8 rfl) rfl ?_
  refine Ev_ldc_w (dt_J6_bitCount.at 9 rfl) ci_J6_266 ?_
  refine Ev_iand (dt_J6_bitCount.at 10 rfl) ?_
  refine Ev_iload_n 0 (dt_J6_bitCount.at 11 rfl) rfl ?_
  refine Ev_iconst (dt_J6_bitCount.at 12 rfl) ki_2 ?_
  refine Ev_iushr (dt_J6_bitCount.at 13 rfl) ?_
  refine Ev_ldc_w (dt_J6_bitCount.at 14 rfl) ci_J6_266 ?_
  refine Ev_iand (dt_J6_bitCount.at 15 rfl) ?_
  refine Ev_iadd (dt_J6_bitCount.at 16 rfl) ?_
  refine Ev_nmI (fun x2 ex2 => ?_)
  replace h := oLt h ex2
  refine Ev_istore_n (dt_J6_bitCount.at 17 rfl) (by decide) (ls' := [(0, .int x2)]) rfl ?_
  refine Ev_iload_n 0 (dt_J6_bitCount.at 18 rfl) rfl ?_
  refine Ev_iload_n 0 (dt_J6_bitCount.at 19 rfl) rfl ?_
  refine Ev_iconst (dt_J6_bitCount.at 20 rfl) ki_4 ?_
  refine Ev_iushr (dt_J6_bitCount.at 21 rfl) ?_
  refine Ev_iadd (dt_J6_bitCount.at 22 rfl) ?_
  refine Ev_ldc_w (dt_J6_bitCount.at 23 rfl) ci_J6_267 ?_
  refine Ev_iand (dt_J6_bitCount.at 24 rfl) ?_
  refine Ev_nmI (fun x3 ex3 => ?_)
  replace h := oLt h ex3
  refine Ev_istore_n (dt_J6_bitCount.at 25 rfl) (by decide) (ls' := [(0, .int x3)]) rfl ?_
  refine Ev_iload_n 0 (dt_J6_bitCount.at 26 rfl) rfl ?_
  refine Ev_iload_n 0 (dt_J6_bitCount.at 27 rfl) rfl ?_
  refine Ev_bipush (dt_J6_bitCount.at 28 rfl) kb_8 ?_
  refine Ev_iushr (dt_J6_bitCount.at 29 rfl) ?_
  refine Ev_iadd (dt_J6_bitCount.at 30 rfl) ?_
  refine Ev_nmI (fun x4 ex4 => ?_)
  replace h := oLt h ex4
  refine Ev_istore_n (dt_J6_bitCount.at 31 rfl) (by decide) (ls' := [(0, .int x4)]) rfl ?_
  refine Ev_iload_n 0 (dt_J6_bitCount.at 32 rfl) rfl ?_
  refine Ev_iload_n 0 (dt_J6_bitCount.at 33 rfl) rfl ?_
  refine Ev_bipush (dt_J6_bitCount.at 34 rfl) kb_16 ?_
  refine Ev_iushr (dt_J6_bitCount.at 35 rfl) ?_
  refine Ev_iadd (dt_J6_bitCount.at 36 rfl) ?_
  refine Ev_nmI (fun x5 ex5 => ?_)
  replace h := oLt h ex5
  refine Ev_istore_n (dt_J6_bitCount.at 37 rfl) (by decide) (ls' := [(0, .int x5)]) rfl ?_
  refine Ev_iload_n 0 (dt_J6_bitCount.at 38 rfl) rfl ?_
  refine Ev_bipush (dt_J6_bitCount.at 39 rfl) kb_63 ?_
  refine Ev_iand (dt_J6_bitCount.at 40 rfl) ?_
  exact Ev_iret (dt_J6_bitCount.at 41 rfl) rfl (oRet h)
def s_Town_isThree (σ : Sg) (a1 : Int32) : Option Int32 :=
  (s_Town_isGroup σ a1).bind fun q1 =>
  if q1 = 0 then
    some 0
  else
    (s_Integer_bitCount a1).bind fun q3 =>
    if q3 = 3 then
      some 1
    else
      some 0
set_option maxRecDepth 100000 in
set_option maxHeartbeats 4000000 in
theorem w_Town_isThree (σ : Sg) (a1 : Int32) (q : Int32) (h : s_Town_isThree σ a1 = some q) : Cal M_X9_isThree 1 [.ref 19, .int a1] σ (some (.int q)) σ := by
  refine Cal.of (M := M_X9_isThree) (by decide +kernel) (Nat.le_of_ble_eq_true rfl) ?_
  show Ev _ _ _ _ 0 [(0, .ref 19), (1, .int a1)] [] σ
  unfold s_Town_isThree at h
  refine Ev_aload_n 0 (dt_X9_isThree.at 0 rfl) rfl ?_
  refine Ev_iload_n 1 (dt_X9_isThree.at 1 rfl) rfl ?_
  obtain ⟨q1, hq1, h⟩ := oBind h
  refine Ev_callV (st := []) (st' := [.int q1]) [.int a1] (dt_X9_isThree.at 2 rfl) cf_X9_34 (w_Town_isGroup σ a1 q1 hq1) (by decide) sk_19 rfl rfl rfl (Nat.le_of_ble_eq_true rfl) rfl ?_
  refine Ev_if_eq (tgt := 20) (dt_X9_isThree.at 3 rfl) (by decide) (fun c2 => ?_) (fun c2 => ?_)
  · replace h := oPos h c2
    refine Ev_iconst (dt_X9_isThree.at 10 rfl) ki_0 ?_
    exact Ev_zret (dt_X9_isThree.at 11 rfl) rfl (by decide) (oRet h)
  · replace h := oNeg h c2
    refine Ev_iload_n 1 (dt_X9_isThree.at 4 rfl) rfl ?_
    obtain ⟨q3, hq3, h⟩ := oBind h
    refine Ev_callS (st := []) (st' := [.int q3]) [.int a1] (dt_X9_isThree.at 5 rfl) cf_X9_38 (w_Integer_bitCount σ a1 q3 hq3) (by decide) rfl rfl (Nat.le_of_ble_eq_true rfl) rfl ?_
    refine Ev_iconst (dt_X9_isThree.at 6 rfl) ki_3 ?_
    refine Ev_icmp_ne (tgt := 20) (dt_X9_isThree.at 7 rfl) (by decide) (fun c4 => ?_) (fun c4 => ?_)
    · replace h := oNeg h c4
      refine Ev_iconst (dt_X9_isThree.at 10 rfl) ki_0 ?_
      exact Ev_zret (dt_X9_isThree.at 11 rfl) rfl (by decide) (oRet h)
    · replace h := oPos h c4
      refine Ev_iconst (dt_X9_isThree.at 8 rfl) ki_1 ?_
      refine Ev_goto (tgt := 21) (dt_X9_isThree.at 9 rfl) (by decide) ?_
      exact Ev_zret (dt_X9_isThree.at 11 rfl) rfl (by decide) (oRet h)
def s_x_isIn (a0 : Int32) (a1 : Int32) : Option Int32 :=
  if ((a0 >>> (a1 &&& 31)) &&& 1) = 1 then
    some 1
  else
    some 0
set_option maxRecDepth 100000 in
set_option maxHeartbeats 4000000 in
theorem w_x_isIn (σ : Sg) (a0 : Int32) (a1 : Int32) (q : Int32) (h : s_x_isIn a0 a1 = some q) : Cal M_X11_isIn 0 [.int a0, .int a1] σ (some (.int q)) σ := by
  refine Cal.of (M := M_X11_isIn) (by decide +kernel) (Nat.le_of_ble_eq_true rfl) ?_
  show Ev _ _ _ _ 0 [(0, .int a0), (1, .int a1)] [] σ
  unfold s_x_isIn at h
  refine Ev_iload_n 0 (dt_X11_isIn.at 0 rfl) rfl ?_
  refine Ev_iload_n 1 (dt_X11_isIn.at 1 rfl) rfl ?_
  refine Ev_ishr (dt_X11_isIn.at 2 rfl) ?_
  refine Ev_iconst (dt_X11_isIn.at 3 rfl) ki_1 ?_
  refine Ev_iand (dt_X11_isIn.at 4 rfl) ?_
  refine Ev_iconst (dt_X11_isIn.at 5 rfl) ki_1 ?_
  refine Ev_icmp_ne (tgt := 13) (dt_X11_isIn.at 6 rfl) (by decide) (fun c1 => ?_) (fun c1 => ?_)
  · replace h := oNeg h c1
    refine Ev_iconst (dt_X11_isIn.at 9 rfl) ki_0 ?_
    exact Ev_zret (dt_X11_isIn.at 10 rfl) rfl (by decide) (oRet h)
  · replace h := oPos h c1
    refine Ev_iconst (dt_X11_isIn.at 7 rfl) ki_1 ?_
    refine Ev_goto (tgt := 14) (dt_X11_isIn.at 8 rfl) (by decide) ?_
    exact Ev_zret (dt_X11_isIn.at 10 rfl) rfl (by decide) (oRet h)
def b_Day_begin_14 (v1 : Int32) (x : (Sg × Int32 × Int32)) : Option ((Sg × Int32 × Int32) ⊕ (Sg × Int32 × Int32)) :=
  if (gI x.1 19 6) ≤ x.2.2 then
    some (.inr (x.1, x.2.1, x.2.2))
  else
    if 3 ≤ x.2.1 then
      some (.inr (x.1, x.2.1, x.2.2))
    else
      (s_x_isIn v1 x.2.2).bind fun q5 =>
      if q5 = 0 then
        lt (x.2.2 + 1 : Int32) fun x7 =>
        some (.inl (x.1, x.2.1, x7))
      else
        if inB x.2.1 3 = true then
          lt (pI x.1 33 (Int32.toNatClampNeg x.2.1) x.2.2 : Sg) fun s9 =>
          lt (x.2.1 + 1 : Int32) fun x10 =>
          lt (x.2.2 + 1 : Int32) fun x11 =>
          some (.inl (s9, x10, x11))
        else none
def b_Day_begin_56  (x : (Sg × Int32)) : Option ((Sg × Int32) ⊕ (Sg × Int32)) :=
  if 36 ≤ x.2 then
    some (.inr (x.1, x.2))
  else
    if inB x.2 36 = true then
      lt (pI x.1 36 (Int32.toNatClampNeg x.2) (0 &&& 1) : Sg) fun s15 =>
      lt (x.2 + 1 : Int32) fun x16 =>
      some (.inl (s15, x16))
    else none
def j_Day_begin_54  (σ : Sg) : Option Sg :=
  (lp (b_Day_begin_56 ) 100000 (σ, 0)).bind fun o17 =>
  some o17.1
def s_Day_begin (σ : Sg) (a1 : Int32) : Option Sg :=
  lt (pI σ 31 8 0 : Sg) fun s1 =>
  lt (pI s1 31 9 0 : Sg) fun s2 =>
  (lp (b_Day_begin_14 a1) 100000 (s2, 0, 0)).bind fun o12 =>
  j_Day_begin_54  o12.1
set_option maxRecDepth 100000 in
set_option maxHeartbeats 4000000 in
theorem wb_Day_begin_14 (v1 : Int32) (x : (Sg × Int32 × Int32)) (r : Option Value) (τ : Sg) (o : ((Sg × Int32 × Int32) ⊕ (Sg × Int32 × Int32))) (h : (b_Day_begin_14 v1 x) = some o) (hc : ∀ y : (Sg × Int32 × Int32), o = .inl y → Ev M_X0_begin 1 r τ 14 [(0, .ref 31), (1, .int v1), (2, .int y.2.1), (3, .int y.2.2)] [] y.1) (he : ∀ y : (Sg × Int32 × Int32), o = .inr y → Ev M_X0_begin 1 r τ 54 [(0, .ref 31)] [] y.1) : Ev M_X0_begin 1 r τ 14 [(0, .ref 31), (1, .int v1), (2, .int x.2.1), (3, .int x.2.2)] [] x.1 := by
  unfold b_Day_begin_14 at h
  refine Ev_iload_n 3 (dt_X0_begin.at 10 rfl) rfl ?_
  refine Ev_aload_n 0 (dt_X0_begin.at 11 rfl) rfl ?_
  refine Ev_get (i := 0) (v := .ref 19) (dt_X0_begin.at 12 rfl) ff_X0_34 sk_31 rfl rfl ?_
  refine Ev_get (i := 6) (v := .int (gI x.1 19 6)) (dt_X0_begin.at 13 rfl) ff_X0_84 sk_19 rfl rfl ?_
  refine Ev_icmp_ge (tgt := 54) (dt_X0_begin.at 14 rfl) (by decide) (fun c3 => ?_) (fun c3 => ?_)
  · replace h := oPos h c3
    refine Ev_sub [0] (ls' := [(0, .ref 31)]) rfl ?_
    exact he _ (Option.some.inj h).symm
  · replace h := oNeg h c3
    refine Ev_iload_n 2 (dt_X0_begin.at 15 rfl) rfl ?_
    refine Ev_iconst (dt_X0_begin.at 16 rfl) ki_3 ?_
    refine Ev_icmp_ge (tgt := 54) (dt_X0_begin.at 17 rfl) (by decide) (fun c4 => ?_) (fun c4 => ?_)
    · replace h := oPos h c4
      refine Ev_sub [0] (ls' := [(0, .ref 31)]) rfl ?_
      exact he _ (Option.some.inj h).symm
    · replace h := oNeg h c4
      refine Ev_iload_n 1 (dt_X0_begin.at 18 rfl) rfl ?_
      refine Ev_iload_n 3 (dt_X0_begin.at 19 rfl) rfl ?_
      obtain ⟨q5, hq5, h⟩ := oBind h
      refine Ev_callS (st := []) (st' := [.int q5]) [.int v1, .int x.2.2] (dt_X0_begin.at 20 rfl) cf_X0_87 (w_x_isIn x.1 v1 x.2.2 q5 hq5) (by decide) rfl rfl (Nat.le_of_ble_eq_true rfl) rfl ?_
      refine Ev_if_eq (tgt := 48) (dt_X0_begin.at 21 rfl) (by decide) (fun c6 => ?_) (fun c6 => ?_)
      · replace h := oPos h c6
        obtain ⟨x7, ex7⟩ : ∃ z : Int32, z = x.2.2 + 1 := ⟨_, rfl⟩
        replace h := oLt h ex7
        refine Ev_iinc (v := x7) 3 (dt_X0_begin.at 28 rfl) rfl (ex7.trans (by rw [ki_1])) (by decide) (ls' := [(3, .int x7), (0, .ref 31), (1, .int v1), (2, .int x.2.1)]) rfl ?_
        refine Ev_goto (tgt := 14) (dt_X0_begin.at 29 rfl) (by decide) ?_
        refine Ev_sub [1, 2, 3, 0] (ls' := [(0, .ref 31), (1, .int v1), (2, .int x.2.1), (3, .int x7)]) rfl ?_
        exact hc _ (Option.some.inj h).symm
      · replace h := oNeg h c6
        refine Ev_aload_n 0 (dt_X0_begin.at 22 rfl) rfl ?_
        refine Ev_get (i := 2) (v := .ref 33) (dt_X0_begin.at 23 rfl) ff_X0_17 sk_31 rfl rfl ?_
        refine Ev_iload_n 2 (dt_X0_begin.at 24 rfl) rfl ?_
        refine Ev_iload_n 3 (dt_X0_begin.at 25 rfl) rfl ?_
        obtain ⟨g8, h⟩ := oGuard h
        refine Ev_iastore 33 (dt_X0_begin.at 26 rfl) sk_33 g8 ?_
        refine Ev_nmS (fun s9 es9 => ?_)
        replace h := oLt h es9
        obtain ⟨x10, ex10⟩ : ∃ z : Int32, z = x.2.1 + 1 := ⟨_, rfl⟩
        replace h := oLt h ex10
        refine Ev_iinc (v := x10) 2 (dt_X0_begin.at 27 rfl) rfl (ex10.trans (by rw [ki_1])) (by decide) (ls' := [(2, .int x10), (0, .ref 31), (1, .int v1), (3, .int x.2.2)]) rfl ?_
        obtain ⟨x11, ex11⟩ : ∃ z : Int32, z = x.2.2 + 1 := ⟨_, rfl⟩
        replace h := oLt h ex11
        refine Ev_iinc (v := x11) 3 (dt_X0_begin.at 28 rfl) rfl (ex11.trans (by rw [ki_1])) (by decide) (ls' := [(3, .int x11), (2, .int x10), (0, .ref 31), (1, .int v1)]) rfl ?_
        refine Ev_goto (tgt := 14) (dt_X0_begin.at 29 rfl) (by decide) ?_
        refine Ev_sub [2, 3, 1, 0] (ls' := [(0, .ref 31), (1, .int v1), (2, .int x10), (3, .int x11)]) rfl ?_
        exact hc _ (Option.some.inj h).symm
set_option maxRecDepth 100000 in
set_option maxHeartbeats 4000000 in
theorem wl_Day_begin_14 (v1 : Int32) (r : Option Value) (τ : Sg) (n : Nat) (x : (Sg × Int32 × Int32)) (z : (Sg × Int32 × Int32)) (h : lp (b_Day_begin_14 v1) n x = some z) (he : ∀ y : (Sg × Int32 × Int32), z = y → Ev M_X0_begin 1 r τ 54 [(0, .ref 31)] [] y.1) : Ev M_X0_begin 1 r τ 14 [(0, .ref 31), (1, .int v1), (2, .int x.2.1), (3, .int x.2.2)] [] x.1 := by
  refine lp_ind (E := fun x : (Sg × Int32 × Int32) => Ev M_X0_begin 1 r τ 14 [(0, .ref 31), (1, .int v1), (2, .int x.2.1), (3, .int x.2.2)] [] x.1) (fun x => ⟨fun y hb hy => ?_, fun hb => ?_⟩) n x h
  · exact wb_Day_begin_14 v1 x r τ _ hb (fun y' e => by cases e; exact hy) (fun y' e => by cases e)
  · exact wb_Day_begin_14 v1 x r τ _ hb (fun y' e => by cases e) (fun y' e => he y' (Sum.inr.inj e))
set_option maxRecDepth 100000 in
set_option maxHeartbeats 4000000 in
theorem wb_Day_begin_56  (x : (Sg × Int32)) (r : Option Value) (τ : Sg) (o : ((Sg × Int32) ⊕ (Sg × Int32))) (h : (b_Day_begin_56  x) = some o) (hc : ∀ y : (Sg × Int32), o = .inl y → Ev M_X0_begin 1 r τ 56 [(0, .ref 31), (3, .int y.2)] [] y.1) (he : ∀ y : (Sg × Int32), o = .inr y → Ev M_X0_begin 1 r τ 75 [] [] y.1) : Ev M_X0_begin 1 r τ 56 [(0, .ref 31), (3, .int x.2)] [] x.1 := by
  unfold b_Day_begin_56 at h
  refine Ev_iload_n 1 (dt_X0_begin.at 32 rfl) rfl ?_
  refine Ev_bipush (dt_X0_begin.at 33 rfl) kb_36 ?_
  refine Ev_icmp_ge (tgt := 75) (dt_X0_begin.at 34 rfl) (by decide) (fun c13 => ?_) (fun c13 => ?_)
  · replace h := oPos h c13
    refine Ev_sub [] (ls' := []) rfl ?_
    exact he _ (Option.some.inj h).symm
  · replace h := oNeg h c13
    refine Ev_aload_n 0 (dt_X0_begin.at 35 rfl) rfl ?_
    refine Ev_get (i := 5) (v := .ref 36) (dt_X0_begin.at 36 rfl) ff_X0_28 sk_31 rfl rfl ?_
    refine Ev_iload_n 1 (dt_X0_begin.at 37 rfl) rfl ?_
    refine Ev_iconst (dt_X0_begin.at 38 rfl) ki_0 ?_
    obtain ⟨g14, h⟩ := oGuard h
    refine Ev_bastore 36 (dt_X0_begin.at 39 rfl) sk_36 g14 ?_
    refine Ev_nmS (fun s15 es15 => ?_)
    replace h := oLt h es15
    obtain ⟨x16, ex16⟩ : ∃ z : Int32, z = x.2 + 1 := ⟨_, rfl⟩
    replace h := oLt h ex16
    refine Ev_iinc (v := x16) 1 (dt_X0_begin.at 40 rfl) rfl (ex16.trans (by rw [ki_1])) (by decide) (ls' := [(3, .int x16), (0, .ref 31)]) rfl ?_
    refine Ev_goto (tgt := 56) (dt_X0_begin.at 41 rfl) (by decide) ?_
    refine Ev_sub [1, 0] (ls' := [(0, .ref 31), (3, .int x16)]) rfl ?_
    exact hc _ (Option.some.inj h).symm
set_option maxRecDepth 100000 in
set_option maxHeartbeats 4000000 in
theorem wl_Day_begin_56  (r : Option Value) (τ : Sg) (n : Nat) (x : (Sg × Int32)) (z : (Sg × Int32)) (h : lp (b_Day_begin_56 ) n x = some z) (he : ∀ y : (Sg × Int32), z = y → Ev M_X0_begin 1 r τ 75 [] [] y.1) : Ev M_X0_begin 1 r τ 56 [(0, .ref 31), (3, .int x.2)] [] x.1 := by
  refine lp_ind (E := fun x : (Sg × Int32) => Ev M_X0_begin 1 r τ 56 [(0, .ref 31), (3, .int x.2)] [] x.1) (fun x => ⟨fun y hb hy => ?_, fun hb => ?_⟩) n x h
  · exact wb_Day_begin_56  x r τ _ hb (fun y' e => by cases e; exact hy) (fun y' e => by cases e)
  · exact wb_Day_begin_56  x r τ _ hb (fun y' e => by cases e) (fun y' e => he y' (Sum.inr.inj e))
set_option maxRecDepth 100000 in
set_option maxHeartbeats 4000000 in
theorem wj_Day_begin_54  (σ : Sg) (q : Sg) (h : (j_Day_begin_54  σ) = some q) : Ev M_X0_begin 1 none q 54 [(0, .ref 31)] [] σ := by
  unfold j_Day_begin_54 at h
  refine Ev_iconst (dt_X0_begin.at 30 rfl) ki_0 ?_
  refine Ev_istore_n (dt_X0_begin.at 31 rfl) (by decide) (ls' := [(3, .int 0), (0, .ref 31)]) rfl ?_
  refine Ev_sub [1, 0] (ls' := [(0, .ref 31), (3, .int 0)]) rfl ?_
  obtain ⟨o17, ho17, h⟩ := oBind h
  refine wl_Day_begin_56  _ _ _ _ o17 ho17 (fun y ey => ?_)
  subst ey
  exact Ev_vret (dt_X0_begin.at 42 rfl) rfl h
set_option maxRecDepth 100000 in
set_option maxHeartbeats 4000000 in
theorem w_Day_begin (σ : Sg) (a1 : Int32) (q : Sg) (h : s_Day_begin σ a1 = some q) : Cal M_X0_begin 1 [.ref 31, .int a1] σ none q := by
  refine Cal.of (M := M_X0_begin) (by decide +kernel) (Nat.le_of_ble_eq_true rfl) ?_
  show Ev _ _ _ _ 0 [(0, .ref 31), (1, .int a1)] [] σ
  unfold s_Day_begin at h
  refine Ev_aload_n 0 (dt_X0_begin.at 0 rfl) rfl ?_
  refine Ev_iconst (dt_X0_begin.at 1 rfl) ki_0 ?_
  refine Ev_putI (dt_X0_begin.at 2 rfl) ff_X0_78 fw_0_8 sk_31 rfl ?_
  refine Ev_nmS (fun s1 es1 => ?_)
  replace h := oLt h es1
  refine Ev_aload_n 0 (dt_X0_begin.at 3 rfl) rfl ?_
  refine Ev_iconst (dt_X0_begin.at 4 rfl) ki_0 ?_
  refine Ev_putI (dt_X0_begin.at 5 rfl) ff_X0_81 fw_0_9 sk_31 rfl ?_
  refine Ev_nmS (fun s2 es2 => ?_)
  replace h := oLt h es2
  refine Ev_iconst (dt_X0_begin.at 6 rfl) ki_0 ?_
  refine Ev_istore_n (dt_X0_begin.at 7 rfl) (by decide) (ls' := [(2, .int 0), (0, .ref 31), (1, .int a1)]) rfl ?_
  refine Ev_iconst (dt_X0_begin.at 8 rfl) ki_0 ?_
  refine Ev_istore_n (dt_X0_begin.at 9 rfl) (by decide) (ls' := [(3, .int 0), (2, .int 0), (0, .ref 31), (1, .int a1)]) rfl ?_
  refine Ev_sub [2, 3, 1, 0] (ls' := [(0, .ref 31), (1, .int a1), (2, .int 0), (3, .int 0)]) rfl ?_
  obtain ⟨o12, ho12, h⟩ := oBind h
  refine wl_Day_begin_14 a1 _ _ _ _ o12 ho12 (fun y ey => ?_)
  subst ey
  refine Ev_sub [0] (ls' := [(0, .ref 31)]) rfl ?_
  exact wj_Day_begin_54  o12.1 q h
def b_Town_isQuick_2 (σ : Sg) (v1 : Int32) (x : Int32) : Option (Int32 ⊕ (Int32 ⊕ Int32)) :=
  if (gI σ 19 6) ≤ x then
    some (.inr (.inl x))
  else
    (s_x_isIn v1 x).bind fun q2 =>
    if q2 = 0 then
      lt (x + 1 : Int32) fun x4 =>
      some (.inl x4)
    else
      if inB x 9 = true then
        if 5 ≤ (gI σ 21 (Int32.toNatClampNeg x)) then
          lt (x + 1 : Int32) fun x7 =>
          some (.inl x7)
        else
          some (.inr (.inr 0))
      else none
def s_Town_isQuick (σ : Sg) (a1 : Int32) : Option Int32 :=
  (lp (b_Town_isQuick_2 σ a1) 100000 0).bind fun o8 =>
  oElim o8 (fun y9 =>
    some 1) (fun q10 => some q10)
set_option maxRecDepth 100000 in
set_option maxHeartbeats 4000000 in
theorem wb_Town_isQuick_2 (σ : Sg) (v1 : Int32) (x : Int32) (r : Option Value) (τ : Sg) (o : (Int32 ⊕ (Int32 ⊕ Int32))) (h : (b_Town_isQuick_2 σ v1 x) = some o) (hc : ∀ y : Int32, o = .inl y → Ev M_X9_isQuick 1 r τ 2 [(0, .ref 19), (1, .int v1), (2, .int y)] [] σ) (he : ∀ y : Int32, o = .inr (.inl y) → Ev M_X9_isQuick 1 r τ 36 [] [] σ) (hr : ∀ q : Int32, o = .inr (.inr q) → r = (some (.int q)) ∧ τ = σ) : Ev M_X9_isQuick 1 r τ 2 [(0, .ref 19), (1, .int v1), (2, .int x)] [] σ := by
  unfold b_Town_isQuick_2 at h
  refine Ev_iload_n 2 (dt_X9_isQuick.at 2 rfl) rfl ?_
  refine Ev_aload_n 0 (dt_X9_isQuick.at 3 rfl) rfl ?_
  refine Ev_get (i := 6) (v := .int (gI σ 19 6)) (dt_X9_isQuick.at 4 rfl) ff_X9_31 sk_19 rfl rfl ?_
  refine Ev_icmp_ge (tgt := 36) (dt_X9_isQuick.at 5 rfl) (by decide) (fun c1 => ?_) (fun c1 => ?_)
  · replace h := oPos h c1
    refine Ev_sub [] (ls' := []) rfl ?_
    exact he _ (Option.some.inj h).symm
  · replace h := oNeg h c1
    refine Ev_iload_n 1 (dt_X9_isQuick.at 6 rfl) rfl ?_
    refine Ev_iload_n 2 (dt_X9_isQuick.at 7 rfl) rfl ?_
    obtain ⟨q2, hq2, h⟩ := oBind h
    refine Ev_callS (st := []) (st' := [.int q2]) [.int v1, .int x] (dt_X9_isQuick.at 8 rfl) cf_X9_50 (w_x_isIn σ v1 x q2 hq2) (by decide) rfl rfl (Nat.le_of_ble_eq_true rfl) rfl ?_
    refine Ev_if_eq (tgt := 30) (dt_X9_isQuick.at 9 rfl) (by decide) (fun c3 => ?_) (fun c3 => ?_)
    · replace h := oPos h c3
      obtain ⟨x4, ex4⟩ : ∃ z : Int32, z = x + 1 := ⟨_, rfl⟩
      replace h := oLt h ex4
      refine Ev_iinc (v := x4) 2 (dt_X9_isQuick.at 18 rfl) rfl (ex4.trans (by rw [ki_1])) (by decide) (ls' := [(2, .int x4), (0, .ref 19), (1, .int v1)]) rfl ?_
      refine Ev_goto (tgt := 2) (dt_X9_isQuick.at 19 rfl) (by decide) ?_
      refine Ev_sub [1, 2, 0] (ls' := [(0, .ref 19), (1, .int v1), (2, .int x4)]) rfl ?_
      exact hc _ (Option.some.inj h).symm
    · replace h := oNeg h c3
      refine Ev_aload_n 0 (dt_X9_isQuick.at 10 rfl) rfl ?_
      refine Ev_get (i := 1) (v := .ref 21) (dt_X9_isQuick.at 11 rfl) ff_X9_15 sk_19 rfl rfl ?_
      refine Ev_iload_n 2 (dt_X9_isQuick.at 12 rfl) rfl ?_
      obtain ⟨g5, h⟩ := oGuard h
      refine Ev_iaload 21 (dt_X9_isQuick.at 13 rfl) sk_21 g5 ?_
      refine Ev_iconst (dt_X9_isQuick.at 14 rfl) ki_5 ?_
      refine Ev_icmp_ge (tgt := 30) (dt_X9_isQuick.at 15 rfl) (by decide) (fun c6 => ?_) (fun c6 => ?_)
      · replace h := oPos h c6
        obtain ⟨x7, ex7⟩ : ∃ z : Int32, z = x + 1 := ⟨_, rfl⟩
        replace h := oLt h ex7
        refine Ev_iinc (v := x7) 2 (dt_X9_isQuick.at 18 rfl) rfl (ex7.trans (by rw [ki_1])) (by decide) (ls' := [(2, .int x7), (0, .ref 19), (1, .int v1)]) rfl ?_
        refine Ev_goto (tgt := 2) (dt_X9_isQuick.at 19 rfl) (by decide) ?_
        refine Ev_sub [1, 2, 0] (ls' := [(0, .ref 19), (1, .int v1), (2, .int x7)]) rfl ?_
        exact hc _ (Option.some.inj h).symm
      · replace h := oNeg h c6
        refine Ev_iconst (dt_X9_isQuick.at 16 rfl) ki_0 ?_
        have hz := hr _ (Option.some.inj h).symm
        rw [hz.1, hz.2]
        exact Ev_zret (dt_X9_isQuick.at 17 rfl) rfl (by decide) rfl
set_option maxRecDepth 100000 in
set_option maxHeartbeats 4000000 in
theorem wl_Town_isQuick_2 (σ : Sg) (v1 : Int32) (r : Option Value) (τ : Sg) (n : Nat) (x : Int32) (z : (Int32 ⊕ Int32)) (h : lp (b_Town_isQuick_2 σ v1) n x = some z) (he : ∀ y : Int32, z = .inl y → Ev M_X9_isQuick 1 r τ 36 [] [] σ) (hr : ∀ q : Int32, z = .inr q → r = (some (.int q)) ∧ τ = σ) : Ev M_X9_isQuick 1 r τ 2 [(0, .ref 19), (1, .int v1), (2, .int x)] [] σ := by
  refine lp_ind (E := fun x : Int32 => Ev M_X9_isQuick 1 r τ 2 [(0, .ref 19), (1, .int v1), (2, .int x)] [] σ) (fun x => ⟨fun y hb hy => ?_, fun hb => ?_⟩) n x h
  · exact wb_Town_isQuick_2 σ v1 x r τ _ hb (fun y' e => by cases e; exact hy) (fun y' e => by cases e) (fun y' e => by cases e)
  · exact wb_Town_isQuick_2 σ v1 x r τ _ hb (fun y' e => by cases e) (fun y' e => he y' (Sum.inr.inj e)) (fun y' e => hr y' (Sum.inr.inj e))
set_option maxRecDepth 100000 in
set_option maxHeartbeats 4000000 in
theorem w_Town_isQuick (σ : Sg) (a1 : Int32) (q : Int32) (h : s_Town_isQuick σ a1 = some q) : Cal M_X9_isQuick 1 [.ref 19, .int a1] σ (some (.int q)) σ := by
  refine Cal.of (M := M_X9_isQuick) (by decide +kernel) (Nat.le_of_ble_eq_true rfl) ?_
  show Ev _ _ _ _ 0 [(0, .ref 19), (1, .int a1)] [] σ
  unfold s_Town_isQuick at h
  refine Ev_iconst (dt_X9_isQuick.at 0 rfl) ki_0 ?_
  refine Ev_istore_n (dt_X9_isQuick.at 1 rfl) (by decide) (ls' := [(2, .int 0), (0, .ref 19), (1, .int a1)]) rfl ?_
  refine Ev_sub [1, 2, 0] (ls' := [(0, .ref 19), (1, .int a1), (2, .int 0)]) rfl ?_
  obtain ⟨o8, ho8, h⟩ := oBind h
  refine wl_Town_isQuick_2 σ a1 _ _ _ _ o8 ho8 (fun y9 ey => ?_) (fun q10 eq => ?_)
  · rw [ey] at h
    replace h := oElimL h
    refine Ev_iconst (dt_X9_isQuick.at 20 rfl) ki_1 ?_
    exact Ev_zret (dt_X9_isQuick.at 21 rfl) rfl (by decide) (oRet h)
  · rw [eq] at h
    replace h := oElimR h
    cases h; exact ⟨rfl, rfl⟩
def s_Day_isOpen (σ : Sg) (a1 : Int32) : Option Int32 :=
  if inB a1 36 = true then
    if (gI σ 36 (Int32.toNatClampNeg a1)) = 0 then
      if inB a1 36 = true then
        if (gI σ 24 (Int32.toNatClampNeg a1)) < (gI σ 31 7) then
          some 0
        else
          some 1
      else none
    else
      some 0
  else none
set_option maxRecDepth 100000 in
set_option maxHeartbeats 4000000 in
theorem w_Day_isOpen (σ : Sg) (a1 : Int32) (q : Int32) (h : s_Day_isOpen σ a1 = some q) : Cal M_X0_isOpen 0 [.ref 31, .int a1] σ (some (.int q)) σ := by
  refine Cal.of (M := M_X0_isOpen) (by decide +kernel) (Nat.le_of_ble_eq_true rfl) ?_
  show Ev _ _ _ _ 0 [(0, .ref 31), (1, .int a1)] [] σ
  unfold s_Day_isOpen at h
  refine Ev_aload_n 0 (dt_X0_isOpen.at 0 rfl) rfl ?_
  refine Ev_get (i := 5) (v := .ref 36) (dt_X0_isOpen.at 1 rfl) ff_X0_28 sk_31 rfl rfl ?_
  refine Ev_iload_n 1 (dt_X0_isOpen.at 2 rfl) rfl ?_
  obtain ⟨g1, h⟩ := oGuard h
  refine Ev_baload 36 (dt_X0_isOpen.at 3 rfl) sk_36 g1 ?_
  refine Ev_if_ne (tgt := 29) (dt_X0_isOpen.at 4 rfl) (by decide) (fun c2 => ?_) (fun c2 => ?_)
  · replace h := oNeg h c2
    refine Ev_iconst (dt_X0_isOpen.at 15 rfl) ki_0 ?_
    exact Ev_zret (dt_X0_isOpen.at 16 rfl) rfl (by decide) (oRet h)
  · replace h := oPos h c2
    refine Ev_aload_n 0 (dt_X0_isOpen.at 5 rfl) rfl ?_
    refine Ev_get (i := 0) (v := .ref 19) (dt_X0_isOpen.at 6 rfl) ff_X0_34 sk_31 rfl rfl ?_
    refine Ev_get (i := 4) (v := .ref 24) (dt_X0_isOpen.at 7 rfl) ff_X0_91 sk_19 rfl rfl ?_
    refine Ev_iload_n 1 (dt_X0_isOpen.at 8 rfl) rfl ?_
    obtain ⟨g3, h⟩ := oGuard h
    refine Ev_iaload 24 (dt_X0_isOpen.at 9 rfl) sk_24 g3 ?_
    refine Ev_aload_n 0 (dt_X0_isOpen.at 10 rfl) rfl ?_
    refine Ev_get (i := 7) (v := .int (gI σ 31 7)) (dt_X0_isOpen.at 11 rfl) ff_X0_61 sk_31 rfl rfl ?_
    refine Ev_icmp_lt (tgt := 29) (dt_X0_isOpen.at 12 rfl) (by decide) (fun c4 => ?_) (fun c4 => ?_)
    · replace h := oPos h c4
      refine Ev_iconst (dt_X0_isOpen.at 15 rfl) ki_0 ?_
      exact Ev_zret (dt_X0_isOpen.at 16 rfl) rfl (by decide) (oRet h)
    · replace h := oNeg h c4
      refine Ev_iconst (dt_X0_isOpen.at 13 rfl) ki_1 ?_
      refine Ev_goto (tgt := 30) (dt_X0_isOpen.at 14 rfl) (by decide) ?_
      exact Ev_zret (dt_X0_isOpen.at 16 rfl) rfl (by decide) (oRet h)
def b_Day_lookAround_35 (v1 : Int32) (v2 : Int32) (x : (Sg × Int32)) : Option ((Sg × Int32) ⊕ (Sg × Int32)) :=
  if inB v1 3 = true then
    if inB (gI x.1 33 (Int32.toNatClampNeg v1)) 9 = true then
      if (v2 + (gI x.1 22 (Int32.toNatClampNeg (gI x.1 33 (Int32.toNatClampNeg v1))))) ≤ x.2 then
        some (.inr (x.1, x.2))
      else
        if inB v1 3 = true then
          if (gI x.1 35 (Int32.toNatClampNeg v1)) = 0 then
            (s_Day_isOpen x.1 x.2).bind fun q13 =>
            if q13 = 0 then
              lt (x.2 + 1 : Int32) fun x15 =>
              some (.inl (x.1, x15))
            else
              if inB x.2 36 = true then
                if inB v1 3 = true then
                  lt (pI x.1 34 (Int32.toNatClampNeg v1) (gI x.1 23 (Int32.toNatClampNeg x.2)) : Sg) fun s18 =>
                  if inB v1 3 = true then
                    lt (pI s18 35 (Int32.toNatClampNeg v1) (1 &&& 1) : Sg) fun s20 =>
                    lt (x.2 + 1 : Int32) fun x21 =>
                    some (.inl (s20, x21))
                  else none
                else none
              else none
          else
            some (.inr (x.1, x.2))
        else none
    else none
  else none
def b_Day_lookAround_2  (x : (Sg × Int32)) : Option ((Sg × Int32) ⊕ (Sg × Int32)) :=
  if 3 ≤ x.2 then
    some (.inr (x.1, x.2))
  else
    if inB x.2 3 = true then
      lt (((gI x.1 33 (Int32.toNatClampNeg x.2)) * 4) : Int32) fun x3 =>
      if inB x.2 3 = true then
        lt (pI x.1 34 (Int32.toNatClampNeg x.2) (gI x.1 31 8) : Sg) fun s5 =>
        if inB x.2 3 = true then
          lt (pI s5 35 (Int32.toNatClampNeg x.2) (0 &&& 1) : Sg) fun s7 =>
          (lp (b_Day_lookAround_35 x.2 x3) 100000 (s7, x3)).bind fun o22 =>
          lt (x.2 + 1 : Int32) fun x23 =>
          some (.inl (o22.1, x23))
        else none
      else none
    else none
def s_Day_lookAround (σ : Sg)  : Option Sg :=
  (lp (b_Day_lookAround_2 ) 100000 (σ, 0)).bind fun o24 =>
  some o24.1
set_option maxRecDepth 100000 in
set_option maxHeartbeats 4000000 in
theorem wb_Day_lookAround_35 (v1 : Int32) (v2 : Int32) (x : (Sg × Int32)) (r : Option Value) (τ : Sg) (o : ((Sg × Int32) ⊕ (Sg × Int32))) (h : (b_Day_lookAround_35 v1 v2 x) = some o) (hc : ∀ y : (Sg × Int32), o = .inl y → Ev M_X0_lookAround 1 r τ 35 [(0, .ref 31), (1, .int v1), (2, .int v2), (3, .int y.2)] [] y.1) (he : ∀ y : (Sg × Int32), o = .inr y → Ev M_X0_lookAround 1 r τ 100 [(0, .ref 31), (1, .int v1)] [] y.1) : Ev M_X0_lookAround 1 r τ 35 [(0, .ref 31), (1, .int v1), (2, .int v2), (3, .int x.2)] [] x.1 := by
  unfold b_Day_lookAround_35 at h
  refine Ev_iload_n 3 (dt_X0_lookAround.at 25 rfl) rfl ?_
  refine Ev_iload_n 2 (dt_X0_lookAround.at 26 rfl) rfl ?_
  refine Ev_aload_n 0 (dt_X0_lookAround.at 27 rfl) rfl ?_
  refine Ev_get (i := 0) (v := .ref 19) (dt_X0_lookAround.at 28 rfl) ff_X0_34 sk_31 rfl rfl ?_
  refine Ev_get (i := 2) (v := .ref 22) (dt_X0_lookAround.at 29 rfl) ff_X0_93 sk_19 rfl rfl ?_
  refine Ev_aload_n 0 (dt_X0_lookAround.at 30 rfl) rfl ?_
  refine Ev_get (i := 2) (v := .ref 33) (dt_X0_lookAround.at 31 rfl) ff_X0_17 sk_31 rfl rfl ?_
  refine Ev_iload_n 1 (dt_X0_lookAround.at 32 rfl) rfl ?_
  obtain ⟨g8, h⟩ := oGuard h
  refine Ev_iaload 33 (dt_X0_lookAround.at 33 rfl) sk_33 g8 ?_
  obtain ⟨g9, h⟩ := oGuard h
  refine Ev_iaload 22 (dt_X0_lookAround.at 34 rfl) sk_22 g9 ?_
  refine Ev_iadd (dt_X0_lookAround.at 35 rfl) ?_
  refine Ev_icmp_ge (tgt := 100) (dt_X0_lookAround.at 36 rfl) (by decide) (fun c10 => ?_) (fun c10 => ?_)
  · replace h := oPos h c10
    refine Ev_sub [0, 1] (ls' := [(0, .ref 31), (1, .int v1)]) rfl ?_
    exact he _ (Option.some.inj h).symm
  · replace h := oNeg h c10
    refine Ev_aload_n 0 (dt_X0_lookAround.at 37 rfl) rfl ?_
    refine Ev_get (i := 4) (v := .ref 35) (dt_X0_lookAround.at 38 rfl) ff_X0_24 sk_31 rfl rfl ?_
    refine Ev_iload_n 1 (dt_X0_lookAround.at 39 rfl) rfl ?_
    obtain ⟨g11, h⟩ := oGuard h
    refine Ev_baload 35 (dt_X0_lookAround.at 40 rfl) sk_35 g11 ?_
    refine Ev_if_ne (tgt := 100) (dt_X0_lookAround.at 41 rfl) (by decide) (fun c12 => ?_) (fun c12 => ?_)
    · replace h := oNeg h c12
      refine Ev_sub [0, 1] (ls' := [(0, .ref 31), (1, .int v1)]) rfl ?_
      exact he _ (Option.some.inj h).symm
    · replace h := oPos h c12
      refine Ev_aload_n 0 (dt_X0_lookAround.at 42 rfl) rfl ?_
      refine Ev_iload_n 3 (dt_X0_lookAround.at 43 rfl) rfl ?_
      obtain ⟨q13, hq13, h⟩ := oBind h
      refine Ev_callV (st := []) (st' := [.int q13]) [.int x.2] (dt_X0_lookAround.at 44 rfl) cf_X0_96 (w_Day_isOpen x.1 x.2 q13 hq13) (by decide) sk_31 rfl rfl rfl (Nat.le_of_ble_eq_true rfl) rfl ?_
      refine Ev_if_eq (tgt := 94) (dt_X0_lookAround.at 45 rfl) (by decide) (fun c14 => ?_) (fun c14 => ?_)
      · replace h := oPos h c14
        obtain ⟨x15, ex15⟩ : ∃ z : Int32, z = x.2 + 1 := ⟨_, rfl⟩
        replace h := oLt h ex15
        refine Ev_iinc (v := x15) 3 (dt_X0_lookAround.at 60 rfl) rfl (ex15.trans (by rw [ki_1])) (by decide) (ls' := [(3, .int x15), (0, .ref 31), (1, .int v1), (2, .int v2)]) rfl ?_
        refine Ev_goto (tgt := 35) (dt_X0_lookAround.at 61 rfl) (by decide) ?_
        refine Ev_sub [1, 2, 3, 0] (ls' := [(0, .ref 31), (1, .int v1), (2, .int v2), (3, .int x15)]) rfl ?_
        exact hc _ (Option.some.inj h).symm
      · replace h := oNeg h c14
        refine Ev_aload_n 0 (dt_X0_lookAround.at 46 rfl) rfl ?_
        refine Ev_get (i := 3) (v := .ref 34) (dt_X0_lookAround.at 47 rfl) ff_X0_21 sk_31 rfl rfl ?_
        refine Ev_iload_n 1 (dt_X0_lookAround.at 48 rfl) rfl ?_
        refine Ev_aload_n 0 (dt_X0_lookAround.at 49 rfl) rfl ?_
        refine Ev_get (i := 0) (v := .ref 19) (dt_X0_lookAround.at 50 rfl) ff_X0_34 sk_31 rfl rfl ?_
        refine Ev_get (i := 3) (v := .ref 23) (dt_X0_lookAround.at 51 rfl) ff_X0_99 sk_19 rfl rfl ?_
        refine Ev_iload_n 3 (dt_X0_lookAround.at 52 rfl) rfl ?_
        obtain ⟨g16, h⟩ := oGuard h
        refine Ev_iaload 23 (dt_X0_lookAround.at 53 rfl) sk_23 g16 ?_
        obtain ⟨g17, h⟩ := oGuard h
        refine Ev_iastore 34 (dt_X0_lookAround.at 54 rfl) sk_34 g17 ?_
        refine Ev_nmS (fun s18 es18 => ?_)
        replace h := oLt h es18
        refine Ev_aload_n 0 (dt_X0_lookAround.at 55 rfl) rfl ?_
        refine Ev_get (i := 4) (v := .ref 35) (dt_X0_lookAround.at 56 rfl) ff_X0_24 sk_31 rfl rfl ?_
        refine Ev_iload_n 1 (dt_X0_lookAround.at 57 rfl) rfl ?_
        refine Ev_iconst (dt_X0_lookAround.at 58 rfl) ki_1 ?_
        obtain ⟨g19, h⟩ := oGuard h
        refine Ev_bastore 35 (dt_X0_lookAround.at 59 rfl) sk_35 g19 ?_
        refine Ev_nmS (fun s20 es20 => ?_)
        replace h := oLt h es20
        obtain ⟨x21, ex21⟩ : ∃ z : Int32, z = x.2 + 1 := ⟨_, rfl⟩
        replace h := oLt h ex21
        refine Ev_iinc (v := x21) 3 (dt_X0_lookAround.at 60 rfl) rfl (ex21.trans (by rw [ki_1])) (by decide) (ls' := [(3, .int x21), (0, .ref 31), (1, .int v1), (2, .int v2)]) rfl ?_
        refine Ev_goto (tgt := 35) (dt_X0_lookAround.at 61 rfl) (by decide) ?_
        refine Ev_sub [1, 2, 3, 0] (ls' := [(0, .ref 31), (1, .int v1), (2, .int v2), (3, .int x21)]) rfl ?_
        exact hc _ (Option.some.inj h).symm
set_option maxRecDepth 100000 in
set_option maxHeartbeats 4000000 in
theorem wl_Day_lookAround_35 (v1 : Int32) (v2 : Int32) (r : Option Value) (τ : Sg) (n : Nat) (x : (Sg × Int32)) (z : (Sg × Int32)) (h : lp (b_Day_lookAround_35 v1 v2) n x = some z) (he : ∀ y : (Sg × Int32), z = y → Ev M_X0_lookAround 1 r τ 100 [(0, .ref 31), (1, .int v1)] [] y.1) : Ev M_X0_lookAround 1 r τ 35 [(0, .ref 31), (1, .int v1), (2, .int v2), (3, .int x.2)] [] x.1 := by
  refine lp_ind (E := fun x : (Sg × Int32) => Ev M_X0_lookAround 1 r τ 35 [(0, .ref 31), (1, .int v1), (2, .int v2), (3, .int x.2)] [] x.1) (fun x => ⟨fun y hb hy => ?_, fun hb => ?_⟩) n x h
  · exact wb_Day_lookAround_35 v1 v2 x r τ _ hb (fun y' e => by cases e; exact hy) (fun y' e => by cases e)
  · exact wb_Day_lookAround_35 v1 v2 x r τ _ hb (fun y' e => by cases e) (fun y' e => he y' (Sum.inr.inj e))
set_option maxRecDepth 100000 in
set_option maxHeartbeats 4000000 in
theorem wb_Day_lookAround_2  (x : (Sg × Int32)) (r : Option Value) (τ : Sg) (o : ((Sg × Int32) ⊕ (Sg × Int32))) (h : (b_Day_lookAround_2  x) = some o) (hc : ∀ y : (Sg × Int32), o = .inl y → Ev M_X0_lookAround 1 r τ 2 [(0, .ref 31), (1, .int y.2)] [] y.1) (he : ∀ y : (Sg × Int32), o = .inr y → Ev M_X0_lookAround 1 r τ 106 [] [] y.1) : Ev M_X0_lookAround 1 r τ 2 [(0, .ref 31), (1, .int x.2)] [] x.1 := by
  unfold b_Day_lookAround_2 at h
  refine Ev_iload_n 1 (dt_X0_lookAround.at 2 rfl) rfl ?_
  refine Ev_iconst (dt_X0_lookAround.at 3 rfl) ki_3 ?_
  refine Ev_icmp_ge (tgt := 106) (dt_X0_lookAround.at 4 rfl) (by decide) (fun c1 => ?_) (fun c1 => ?_)
  · replace h := oPos h c1
    refine Ev_sub [] (ls' := []) rfl ?_
    exact he _ (Option.some.inj h).symm
  · replace h := oNeg h c1
    refine Ev_aload_n 0 (dt_X0_lookAround.at 5 rfl) rfl ?_
    refine Ev_get (i := 2) (v := .ref 33) (dt_X0_lookAround.at 6 rfl) ff_X0_17 sk_31 rfl rfl ?_
    refine Ev_iload_n 1 (dt_X0_lookAround.at 7 rfl) rfl ?_
    obtain ⟨g2, h⟩ := oGuard h
    refine Ev_iaload 33 (dt_X0_lookAround.at 8 rfl) sk_33 g2 ?_
    refine Ev_iconst (dt_X0_lookAround.at 9 rfl) ki_4 ?_
    refine Ev_imul (dt_X0_lookAround.at 10 rfl) ?_
    refine Ev_nmI (fun x3 ex3 => ?_)
    replace h := oLt h ex3
    refine Ev_istore_n (dt_X0_lookAround.at 11 rfl) (by decide) (ls' := [(2, .int x3), (0, .ref 31), (1, .int x.2)]) rfl ?_
    refine Ev_aload_n 1 (dt_X0_lookAround.at 12 rfl) rfl ?_
    refine Ev_get (i := 3) (v := .ref 34) (dt_X0_lookAround.at 13 rfl) ff_X0_21 sk_31 rfl rfl ?_
    refine Ev_iload_n 2 (dt_X0_lookAround.at 14 rfl) rfl ?_
    refine Ev_aload_n 1 (dt_X0_lookAround.at 15 rfl) rfl ?_
    refine Ev_get (i := 8) (v := .int (gI x.1 31 8)) (dt_X0_lookAround.at 16 rfl) ff_X0_78 sk_31 rfl rfl ?_
    obtain ⟨g4, h⟩ := oGuard h
    refine Ev_iastore 34 (dt_X0_lookAround.at 17 rfl) sk_34 g4 ?_
    refine Ev_nmS (fun s5 es5 => ?_)
    replace h := oLt h es5
    refine Ev_aload_n 1 (dt_X0_lookAround.at 18 rfl) rfl ?_
    refine Ev_get (i := 4) (v := .ref 35) (dt_X0_lookAround.at 19 rfl) ff_X0_24 sk_31 rfl rfl ?_
    refine Ev_iload_n 2 (dt_X0_lookAround.at 20 rfl) rfl ?_
    refine Ev_iconst (dt_X0_lookAround.at 21 rfl) ki_0 ?_
    obtain ⟨g6, h⟩ := oGuard h
    refine Ev_bastore 35 (dt_X0_lookAround.at 22 rfl) sk_35 g6 ?_
    refine Ev_nmS (fun s7 es7 => ?_)
    replace h := oLt h es7
    refine Ev_iload_n 0 (dt_X0_lookAround.at 23 rfl) rfl ?_
    refine Ev_istore_n (dt_X0_lookAround.at 24 rfl) (by decide) (ls' := [(3, .int x3), (2, .int x3), (0, .ref 31), (1, .int x.2)]) rfl ?_
    refine Ev_sub [2, 3, 1, 0] (ls' := [(0, .ref 31), (1, .int x.2), (2, .int x3), (3, .int x3)]) rfl ?_
    obtain ⟨o22, ho22, h⟩ := oBind h
    refine wl_Day_lookAround_35 x.2 x3 _ _ _ _ o22 ho22 (fun y ey => ?_)
    subst ey
    obtain ⟨x23, ex23⟩ : ∃ z : Int32, z = x.2 + 1 := ⟨_, rfl⟩
    replace h := oLt h ex23
    refine Ev_iinc (v := x23) 1 (dt_X0_lookAround.at 62 rfl) rfl (ex23.trans (by rw [ki_1])) (by decide) (ls' := [(1, .int x23), (0, .ref 31)]) rfl ?_
    refine Ev_goto (tgt := 2) (dt_X0_lookAround.at 63 rfl) (by decide) ?_
    refine Ev_sub [1, 0] (ls' := [(0, .ref 31), (1, .int x23)]) rfl ?_
    exact hc _ (Option.some.inj h).symm
set_option maxRecDepth 100000 in
set_option maxHeartbeats 4000000 in
theorem wl_Day_lookAround_2  (r : Option Value) (τ : Sg) (n : Nat) (x : (Sg × Int32)) (z : (Sg × Int32)) (h : lp (b_Day_lookAround_2 ) n x = some z) (he : ∀ y : (Sg × Int32), z = y → Ev M_X0_lookAround 1 r τ 106 [] [] y.1) : Ev M_X0_lookAround 1 r τ 2 [(0, .ref 31), (1, .int x.2)] [] x.1 := by
  refine lp_ind (E := fun x : (Sg × Int32) => Ev M_X0_lookAround 1 r τ 2 [(0, .ref 31), (1, .int x.2)] [] x.1) (fun x => ⟨fun y hb hy => ?_, fun hb => ?_⟩) n x h
  · exact wb_Day_lookAround_2  x r τ _ hb (fun y' e => by cases e; exact hy) (fun y' e => by cases e)
  · exact wb_Day_lookAround_2  x r τ _ hb (fun y' e => by cases e) (fun y' e => he y' (Sum.inr.inj e))
set_option maxRecDepth 100000 in
set_option maxHeartbeats 4000000 in
theorem w_Day_lookAround (σ : Sg)  (q : Sg) (h : s_Day_lookAround σ  = some q) : Cal M_X0_lookAround 1 [.ref 31] σ none q := by
  refine Cal.of (M := M_X0_lookAround) (by decide +kernel) (Nat.le_of_ble_eq_true rfl) ?_
  show Ev _ _ _ _ 0 [(0, .ref 31)] [] σ
  unfold s_Day_lookAround at h
  refine Ev_iconst (dt_X0_lookAround.at 0 rfl) ki_0 ?_
  refine Ev_istore_n (dt_X0_lookAround.at 1 rfl) (by decide) (ls' := [(1, .int 0), (0, .ref 31)]) rfl ?_
  refine Ev_sub [1, 0] (ls' := [(0, .ref 31), (1, .int 0)]) rfl ?_
  obtain ⟨o24, ho24, h⟩ := oBind h
  refine wl_Day_lookAround_2  _ _ _ _ o24 ho24 (fun y ey => ?_)
  subst ey
  exact Ev_vret (dt_X0_lookAround.at 64 rfl) rfl h
def s_Person_vote (σ : Sg) (a2 : Int32) : Option Int32 :=
  if inB a2 3 = true then
    some (gI σ 34 (Int32.toNatClampNeg a2))
  else none
set_option maxRecDepth 100000 in
set_option maxHeartbeats 4000000 in
theorem w_Person_vote (σ : Sg) (a2 : Int32) (q : Int32) (h : s_Person_vote σ a2 = some q) : Cal M_X5_vote 0 [.ref 38, .ref 31, .int a2] σ (some (.int q)) σ := by
  refine Cal.of (M := M_X5_vote) (by decide +kernel) (Nat.le_of_ble_eq_true rfl) ?_
  show Ev _ _ _ _ 0 [(0, .ref 38), (1, .ref 31), (2, .int a2)] [] σ
  unfold s_Person_vote at h
  refine Ev_aload_n 1 (dt_X5_vote.at 0 rfl) rfl ?_
  refine Ev_get (i := 3) (v := .ref 34) (dt_X5_vote.at 1 rfl) ff_X5_7 sk_31 rfl rfl ?_
  refine Ev_iload_n 2 (dt_X5_vote.at 2 rfl) rfl ?_
  obtain ⟨g1, h⟩ := oGuard h
  refine Ev_iaload 34 (dt_X5_vote.at 3 rfl) sk_34 g1 ?_
  exact Ev_iret (dt_X5_vote.at 4 rfl) rfl (oRet h)
def b_Day_mostPressing_21 (σ : Sg) (v1 : Int32) (v2 : Int32) (x : (Int32 × Int32 × Int32)) : Option ((Int32 × Int32 × Int32) ⊕ (Int32 × Int32 × Int32)) :=
  if inB v1 3 = true then
    if inB (gI σ 33 (Int32.toNatClampNeg v1)) 9 = true then
      if (v2 + (gI σ 22 (Int32.toNatClampNeg (gI σ 33 (Int32.toNatClampNeg v1))))) ≤ x.2.2 then
        some (.inr (x.1, x.2.1, x.2.2))
      else
        (s_Day_isOpen σ x.2.2).bind fun q7 =>
        if q7 = 0 then
          lt (x.2.2 + 1 : Int32) fun x9 =>
          some (.inl (x.1, x.2.1, x9))
        else
          if inB x.2.2 36 = true then
            if x.2.1 ≤ (gI σ 24 (Int32.toNatClampNeg x.2.2)) then
              lt (x.2.2 + 1 : Int32) fun x12 =>
              some (.inl (x.1, x.2.1, x12))
            else
              if inB x.2.2 36 = true then
                lt ((gI σ 24 (Int32.toNatClampNeg x.2.2)) : Int32) fun x14 =>
                if inB x.2.2 36 = true then
                  lt ((gI σ 23 (Int32.toNatClampNeg x.2.2)) : Int32) fun x16 =>
                  lt (x.2.2 + 1 : Int32) fun x17 =>
                  some (.inl (x16, x14, x17))
                else none
              else none
          else none
    else none
  else none
def s_Day_mostPressing (σ : Sg) (a1 : Int32) : Option Int32 :=
  if inB a1 3 = true then
    lt (((gI σ 33 (Int32.toNatClampNeg a1)) * 4) : Int32) fun x2 =>
    lt ((gI σ 31 8) : Int32) fun x3 =>
    (lp (b_Day_mostPressing_21 σ a1 x2) 100000 (x3, 10, x2)).bind fun o18 =>
    some o18.1
  else none
set_option maxRecDepth 100000 in
set_option maxHeartbeats 4000000 in
theorem wb_Day_mostPressing_21 (σ : Sg) (v1 : Int32) (v2 : Int32) (x : (Int32 × Int32 × Int32)) (r : Option Value) (τ : Sg) (o : ((Int32 × Int32 × Int32) ⊕ (Int32 × Int32 × Int32))) (h : (b_Day_mostPressing_21 σ v1 v2 x) = some o) (hc : ∀ y : (Int32 × Int32 × Int32), o = .inl y → Ev M_X0_mostPressing 1 r τ 21 [(0, .ref 31), (1, .int v1), (2, .int v2), (3, .int y.1), (4, .int y.2.1), (5, .int y.2.2)] [] σ) (he : ∀ y : (Int32 × Int32 × Int32), o = .inr y → Ev M_X0_mostPressing 1 r τ 95 [(3, .int y.1)] [] σ) : Ev M_X0_mostPressing 1 r τ 21 [(0, .ref 31), (1, .int v1), (2, .int v2), (3, .int x.1), (4, .int x.2.1), (5, .int x.2.2)] [] σ := by
  unfold b_Day_mostPressing_21 at h
  refine Ev_iload 5 (dt_X0_mostPressing.at 14 rfl) rfl ?_
  refine Ev_iload_n 2 (dt_X0_mostPressing.at 15 rfl) rfl ?_
  refine Ev_aload_n 0 (dt_X0_mostPressing.at 16 rfl) rfl ?_
  refine Ev_get (i := 0) (v := .ref 19) (dt_X0_mostPressing.at 17 rfl) ff_X0_34 sk_31 rfl rfl ?_
  refine Ev_get (i := 2) (v := .ref 22) (dt_X0_mostPressing.at 18 rfl) ff_X0_93 sk_19 rfl rfl ?_
  refine Ev_aload_n 0 (dt_X0_mostPressing.at 19 rfl) rfl ?_
  refine Ev_get (i := 2) (v := .ref 33) (dt_X0_mostPressing.at 20 rfl) ff_X0_17 sk_31 rfl rfl ?_
  refine Ev_iload_n 1 (dt_X0_mostPressing.at 21 rfl) rfl ?_
  obtain ⟨g4, h⟩ := oGuard h
  refine Ev_iaload 33 (dt_X0_mostPressing.at 22 rfl) sk_33 g4 ?_
  obtain ⟨g5, h⟩ := oGuard h
  refine Ev_iaload 22 (dt_X0_mostPressing.at 23 rfl) sk_22 g5 ?_
  refine Ev_iadd (dt_X0_mostPressing.at 24 rfl) ?_
  refine Ev_icmp_ge (tgt := 95) (dt_X0_mostPressing.at 25 rfl) (by decide) (fun c6 => ?_) (fun c6 => ?_)
  · replace h := oPos h c6
    refine Ev_sub [3] (ls' := [(3, .int x.1)]) rfl ?_
    exact he _ (Option.some.inj h).symm
  · replace h := oNeg h c6
    refine Ev_aload_n 0 (dt_X0_mostPressing.at 26 rfl) rfl ?_
    refine Ev_iload 5 (dt_X0_mostPressing.at 27 rfl) rfl ?_
    obtain ⟨q7, hq7, h⟩ := oBind h
    refine Ev_callV (st := []) (st' := [.int q7]) [.int x.2.2] (dt_X0_mostPressing.at 28 rfl) cf_X0_96 (w_Day_isOpen σ x.2.2 q7 hq7) (by decide) sk_31 rfl rfl rfl (Nat.le_of_ble_eq_true rfl) rfl ?_
    refine Ev_if_eq (tgt := 89) (dt_X0_mostPressing.at 29 rfl) (by decide) (fun c8 => ?_) (fun c8 => ?_)
    · replace h := oPos h c8
      obtain ⟨x9, ex9⟩ : ∃ z : Int32, z = x.2.2 + 1 := ⟨_, rfl⟩
      replace h := oLt h ex9
      refine Ev_iinc (v := x9) 5 (dt_X0_mostPressing.at 49 rfl) rfl (ex9.trans (by rw [ki_1])) (by decide) (ls' := [(5, .int x9), (0, .ref 31), (1, .int v1), (2, .int v2), (3, .int x.1), (4, .int x.2.1)]) rfl ?_
      refine Ev_goto (tgt := 21) (dt_X0_mostPressing.at 50 rfl) (by decide) ?_
      refine Ev_sub [1, 2, 3, 4, 5, 0] (ls' := [(0, .ref 31), (1, .int v1), (2, .int v2), (3, .int x.1), (4, .int x.2.1), (5, .int x9)]) rfl ?_
      exact hc _ (Option.some.inj h).symm
    · replace h := oNeg h c8
      refine Ev_aload_n 0 (dt_X0_mostPressing.at 30 rfl) rfl ?_
      refine Ev_get (i := 0) (v := .ref 19) (dt_X0_mostPressing.at 31 rfl) ff_X0_34 sk_31 rfl rfl ?_
      refine Ev_get (i := 4) (v := .ref 24) (dt_X0_mostPressing.at 32 rfl) ff_X0_91 sk_19 rfl rfl ?_
      refine Ev_iload 5 (dt_X0_mostPressing.at 33 rfl) rfl ?_
      obtain ⟨g10, h⟩ := oGuard h
      refine Ev_iaload 24 (dt_X0_mostPressing.at 34 rfl) sk_24 g10 ?_
      refine Ev_iload 4 (dt_X0_mostPressing.at 35 rfl) rfl ?_
      refine Ev_icmp_ge (tgt := 89) (dt_X0_mostPressing.at 36 rfl) (by decide) (fun c11 => ?_) (fun c11 => ?_)
      · replace h := oPos h c11
        obtain ⟨x12, ex12⟩ : ∃ z : Int32, z = x.2.2 + 1 := ⟨_, rfl⟩
        replace h := oLt h ex12
        refine Ev_iinc (v := x12) 5 (dt_X0_mostPressing.at 49 rfl) rfl (ex12.trans (by rw [ki_1])) (by decide) (ls' := [(5, .int x12), (0, .ref 31), (1, .int v1), (2, .int v2), (3, .int x.1), (4, .int x.2.1)]) rfl ?_
        refine Ev_goto (tgt := 21) (dt_X0_mostPressing.at 50 rfl) (by decide) ?_
        refine Ev_sub [1, 2, 3, 4, 5, 0] (ls' := [(0, .ref 31), (1, .int v1), (2, .int v2), (3, .int x.1), (4, .int x.2.1), (5, .int x12)]) rfl ?_
        exact hc _ (Option.some.inj h).symm
      · replace h := oNeg h c11
        refine Ev_aload_n 0 (dt_X0_mostPressing.at 37 rfl) rfl ?_
        refine Ev_get (i := 0) (v := .ref 19) (dt_X0_mostPressing.at 38 rfl) ff_X0_34 sk_31 rfl rfl ?_
        refine Ev_get (i := 4) (v := .ref 24) (dt_X0_mostPressing.at 39 rfl) ff_X0_91 sk_19 rfl rfl ?_
        refine Ev_iload 5 (dt_X0_mostPressing.at 40 rfl) rfl ?_
        obtain ⟨g13, h⟩ := oGuard h
        refine Ev_iaload 24 (dt_X0_mostPressing.at 41 rfl) sk_24 g13 ?_
        refine Ev_nmI (fun x14 ex14 => ?_)
        replace h := oLt h ex14
        refine Ev_istore (dt_X0_mostPressing.at 42 rfl) (by decide) (ls' := [(4, .int x14), (0, .ref 31), (1, .int v1), (2, .int v2), (3, .int x.1), (5, .int x.2.2)]) rfl ?_
        refine Ev_aload_n 1 (dt_X0_mostPressing.at 43 rfl) rfl ?_
        refine Ev_get (i := 0) (v := .ref 19) (dt_X0_mostPressing.at 44 rfl) ff_X0_34 sk_31 rfl rfl ?_
        refine Ev_get (i := 3) (v := .ref 23) (dt_X0_mostPressing.at 45 rfl) ff_X0_99 sk_19 rfl rfl ?_
        refine Ev_iload 5 (dt_X0_mostPressing.at 46 rfl) rfl ?_
        obtain ⟨g15, h⟩ := oGuard h
        refine Ev_iaload 23 (dt_X0_mostPressing.at 47 rfl) sk_23 g15 ?_
        refine Ev_nmI (fun x16 ex16 => ?_)
        replace h := oLt h ex16
        refine Ev_istore_n (dt_X0_mostPressing.at 48 rfl) (by decide) (ls' := [(3, .int x16), (4, .int x14), (0, .ref 31), (1, .int v1), (2, .int v2), (5, .int x.2.2)]) rfl ?_
        obtain ⟨x17, ex17⟩ : ∃ z : Int32, z = x.2.2 + 1 := ⟨_, rfl⟩
        replace h := oLt h ex17
        refine Ev_iinc (v := x17) 5 (dt_X0_mostPressing.at 49 rfl) rfl (ex17.trans (by rw [ki_1])) (by decide) (ls' := [(5, .int x17), (3, .int x16), (4, .int x14), (0, .ref 31), (1, .int v1), (2, .int v2)]) rfl ?_
        refine Ev_goto (tgt := 21) (dt_X0_mostPressing.at 50 rfl) (by decide) ?_
        refine Ev_sub [3, 4, 5, 1, 2, 0] (ls' := [(0, .ref 31), (1, .int v1), (2, .int v2), (3, .int x16), (4, .int x14), (5, .int x17)]) rfl ?_
        exact hc _ (Option.some.inj h).symm
set_option maxRecDepth 100000 in
set_option maxHeartbeats 4000000 in
theorem wl_Day_mostPressing_21 (σ : Sg) (v1 : Int32) (v2 : Int32) (r : Option Value) (τ : Sg) (n : Nat) (x : (Int32 × Int32 × Int32)) (z : (Int32 × Int32 × Int32)) (h : lp (b_Day_mostPressing_21 σ v1 v2) n x = some z) (he : ∀ y : (Int32 × Int32 × Int32), z = y → Ev M_X0_mostPressing 1 r τ 95 [(3, .int y.1)] [] σ) : Ev M_X0_mostPressing 1 r τ 21 [(0, .ref 31), (1, .int v1), (2, .int v2), (3, .int x.1), (4, .int x.2.1), (5, .int x.2.2)] [] σ := by
  refine lp_ind (E := fun x : (Int32 × Int32 × Int32) => Ev M_X0_mostPressing 1 r τ 21 [(0, .ref 31), (1, .int v1), (2, .int v2), (3, .int x.1), (4, .int x.2.1), (5, .int x.2.2)] [] σ) (fun x => ⟨fun y hb hy => ?_, fun hb => ?_⟩) n x h
  · exact wb_Day_mostPressing_21 σ v1 v2 x r τ _ hb (fun y' e => by cases e; exact hy) (fun y' e => by cases e)
  · exact wb_Day_mostPressing_21 σ v1 v2 x r τ _ hb (fun y' e => by cases e) (fun y' e => he y' (Sum.inr.inj e))
set_option maxRecDepth 100000 in
set_option maxHeartbeats 4000000 in
theorem w_Day_mostPressing (σ : Sg) (a1 : Int32) (q : Int32) (h : s_Day_mostPressing σ a1 = some q) : Cal M_X0_mostPressing 1 [.ref 31, .int a1] σ (some (.int q)) σ := by
  refine Cal.of (M := M_X0_mostPressing) (by decide +kernel) (Nat.le_of_ble_eq_true rfl) ?_
  show Ev _ _ _ _ 0 [(0, .ref 31), (1, .int a1)] [] σ
  unfold s_Day_mostPressing at h
  refine Ev_aload_n 0 (dt_X0_mostPressing.at 0 rfl) rfl ?_
  refine Ev_get (i := 2) (v := .ref 33) (dt_X0_mostPressing.at 1 rfl) ff_X0_17 sk_31 rfl rfl ?_
  refine Ev_iload_n 1 (dt_X0_mostPressing.at 2 rfl) rfl ?_
  obtain ⟨g1, h⟩ := oGuard h
  refine Ev_iaload 33 (dt_X0_mostPressing.at 3 rfl) sk_33 g1 ?_
  refine Ev_iconst (dt_X0_mostPressing.at 4 rfl) ki_4 ?_
  refine Ev_imul (dt_X0_mostPressing.at 5 rfl) ?_
  refine Ev_nmI (fun x2 ex2 => ?_)
  replace h := oLt h ex2
  refine Ev_istore_n (dt_X0_mostPressing.at 6 rfl) (by decide) (ls' := [(2, .int x2), (0, .ref 31), (1, .int a1)]) rfl ?_
  refine Ev_aload_n 1 (dt_X0_mostPressing.at 7 rfl) rfl ?_
  refine Ev_get (i := 8) (v := .int (gI σ 31 8)) (dt_X0_mostPressing.at 8 rfl) ff_X0_78 sk_31 rfl rfl ?_
  refine Ev_nmI (fun x3 ex3 => ?_)
  replace h := oLt h ex3
  refine Ev_istore_n (dt_X0_mostPressing.at 9 rfl) (by decide) (ls' := [(3, .int x3), (2, .int x2), (0, .ref 31), (1, .int a1)]) rfl ?_
  refine Ev_bipush (dt_X0_mostPressing.at 10 rfl) kb_10 ?_
  refine Ev_istore (dt_X0_mostPressing.at 11 rfl) (by decide) (ls' := [(4, .int 10), (3, .int x3), (2, .int x2), (0, .ref 31), (1, .int a1)]) rfl ?_
  refine Ev_iload_n 2 (dt_X0_mostPressing.at 12 rfl) rfl ?_
  refine Ev_istore (dt_X0_mostPressing.at 13 rfl) (by decide) (ls' := [(5, .int x2), (4, .int 10), (3, .int x3), (2, .int x2), (0, .ref 31), (1, .int a1)]) rfl ?_
  refine Ev_sub [4, 5, 3, 2, 1, 0] (ls' := [(0, .ref 31), (1, .int a1), (2, .int x2), (3, .int x3), (4, .int 10), (5, .int x2)]) rfl ?_
  obtain ⟨o18, ho18, h⟩ := oBind h
  refine wl_Day_mostPressing_21 σ a1 x2 _ _ _ _ o18 ho18 (fun y ey => ?_)
  subst ey
  refine Ev_iload_n 0 (dt_X0_mostPressing.at 51 rfl) rfl ?_
  exact Ev_iret (dt_X0_mostPressing.at 52 rfl) rfl (oRet h)
def s_Hasty_vote (σ : Sg) (a2 : Int32) : Option Int32 :=
  (s_Day_mostPressing σ a2).bind fun q1 =>
  some q1
set_option maxRecDepth 100000 in
set_option maxHeartbeats 4000000 in
theorem w_Hasty_vote (σ : Sg) (a2 : Int32) (q : Int32) (h : s_Hasty_vote σ a2 = some q) : Cal M_X2_vote 2 [.ref 39, .ref 31, .int a2] σ (some (.int q)) σ := by
  refine Cal.of (M := M_X2_vote) (by decide +kernel) (Nat.le_of_ble_eq_true rfl) ?_
  show Ev _ _ _ _ 0 [(0, .ref 39), (1, .ref 31), (2, .int a2)] [] σ
  unfold s_Hasty_vote at h
  refine Ev_aload_n 1 (dt_X2_vote.at 0 rfl) rfl ?_
  refine Ev_iload_n 2 (dt_X2_vote.at 1 rfl) rfl ?_
  obtain ⟨q1, hq1, h⟩ := oBind h
  refine Ev_callV (st := []) (st' := [.int q1]) [.int a2] (dt_X2_vote.at 2 rfl) cf_X2_7 (w_Day_mostPressing σ a2 q1 hq1) (by decide) sk_31 rfl rfl rfl (Nat.le_of_ble_eq_true rfl) rfl ?_
  exact Ev_iret (dt_X2_vote.at 3 rfl) rfl (oRet h)
def s_Day_firstUndone (σ : Sg) (a1 : Int32) : Option Int32 :=
  if inB a1 3 = true then
    lt (((gI σ 33 (Int32.toNatClampNeg a1)) * 4) : Int32) fun x2 =>
    if inB a1 3 = true then
      if inB (gI σ 33 (Int32.toNatClampNeg a1)) 9 = true then
        if (gI σ 22 (Int32.toNatClampNeg (gI σ 33 (Int32.toNatClampNeg a1)))) = 0 then
          some (-1)
        else
          if inB x2 36 = true then
            if (gI σ 36 (Int32.toNatClampNeg x2)) = 0 then
              if inB x2 36 = true then
                some (gI σ 23 (Int32.toNatClampNeg x2))
              else none
            else
              some (-1)
          else none
      else none
    else none
  else none
set_option maxRecDepth 100000 in
set_option maxHeartbeats 4000000 in
theorem w_Day_firstUndone (σ : Sg) (a1 : Int32) (q : Int32) (h : s_Day_firstUndone σ a1 = some q) : Cal M_X0_firstUndone 0 [.ref 31, .int a1] σ (some (.int q)) σ := by
  refine Cal.of (M := M_X0_firstUndone) (by decide +kernel) (Nat.le_of_ble_eq_true rfl) ?_
  show Ev _ _ _ _ 0 [(0, .ref 31), (1, .int a1)] [] σ
  unfold s_Day_firstUndone at h
  refine Ev_aload_n 0 (dt_X0_firstUndone.at 0 rfl) rfl ?_
  refine Ev_get (i := 2) (v := .ref 33) (dt_X0_firstUndone.at 1 rfl) ff_X0_17 sk_31 rfl rfl ?_
  refine Ev_iload_n 1 (dt_X0_firstUndone.at 2 rfl) rfl ?_
  obtain ⟨g1, h⟩ := oGuard h
  refine Ev_iaload 33 (dt_X0_firstUndone.at 3 rfl) sk_33 g1 ?_
  refine Ev_iconst (dt_X0_firstUndone.at 4 rfl) ki_4 ?_
  refine Ev_imul (dt_X0_firstUndone.at 5 rfl) ?_
  refine Ev_nmI (fun x2 ex2 => ?_)
  replace h := oLt h ex2
  refine Ev_istore_n (dt_X0_firstUndone.at 6 rfl) (by decide) (ls' := [(2, .int x2), (0, .ref 31), (1, .int a1)]) rfl ?_
  refine Ev_aload_n 1 (dt_X0_firstUndone.at 7 rfl) rfl ?_
  refine Ev_get (i := 0) (v := .ref 19) (dt_X0_firstUndone.at 8 rfl) ff_X0_34 sk_31 rfl rfl ?_
  refine Ev_get (i := 2) (v := .ref 22) (dt_X0_firstUndone.at 9 rfl) ff_X0_93 sk_19 rfl rfl ?_
  refine Ev_aload_n 1 (dt_X0_firstUndone.at 10 rfl) rfl ?_
  refine Ev_get (i := 2) (v := .ref 33) (dt_X0_firstUndone.at 11 rfl) ff_X0_17 sk_31 rfl rfl ?_
  refine Ev_iload_n 2 (dt_X0_firstUndone.at 12 rfl) rfl ?_
  obtain ⟨g3, h⟩ := oGuard h
  refine Ev_iaload 33 (dt_X0_firstUndone.at 13 rfl) sk_33 g3 ?_
  obtain ⟨g4, h⟩ := oGuard h
  refine Ev_iaload 22 (dt_X0_firstUndone.at 14 rfl) sk_22 g4 ?_
  refine Ev_if_eq (tgt := 35) (dt_X0_firstUndone.at 15 rfl) (by decide) (fun c5 => ?_) (fun c5 => ?_)
  · replace h := oPos h c5
    refine Ev_iconst (dt_X0_firstUndone.at 21 rfl) ki_m1 ?_
    refine Ev_goto (tgt := 48) (dt_X0_firstUndone.at 22 rfl) (by decide) ?_
    exact Ev_iret (dt_X0_firstUndone.at 28 rfl) rfl (oRet h)
  · replace h := oNeg h c5
    refine Ev_aload_n 1 (dt_X0_firstUndone.at 16 rfl) rfl ?_
    refine Ev_get (i := 5) (v := .ref 36) (dt_X0_firstUndone.at 17 rfl) ff_X0_28 sk_31 rfl rfl ?_
    refine Ev_iload_n 0 (dt_X0_firstUndone.at 18 rfl) rfl ?_
    obtain ⟨g6, h⟩ := oGuard h
    refine Ev_baload 36 (dt_X0_firstUndone.at 19 rfl) sk_36 g6 ?_
    refine Ev_if_eq (tgt := 39) (dt_X0_firstUndone.at 20 rfl) (by decide) (fun c7 => ?_) (fun c7 => ?_)
    · replace h := oPos h c7
      refine Ev_aload_n 1 (dt_X0_firstUndone.at 23 rfl) rfl ?_
      refine Ev_get (i := 0) (v := .ref 19) (dt_X0_firstUndone.at 24 rfl) ff_X0_34 sk_31 rfl rfl ?_
      refine Ev_get (i := 3) (v := .ref 23) (dt_X0_firstUndone.at 25 rfl) ff_X0_99 sk_19 rfl rfl ?_
      refine Ev_iload_n 0 (dt_X0_firstUndone.at 26 rfl) rfl ?_
      obtain ⟨g8, h⟩ := oGuard h
      refine Ev_iaload 23 (dt_X0_firstUndone.at 27 rfl) sk_23 g8 ?_
      exact Ev_iret (dt_X0_firstUndone.at 28 rfl) rfl (oRet h)
    · replace h := oNeg h c7
      refine Ev_iconst (dt_X0_firstUndone.at 21 rfl) ki_m1 ?_
      refine Ev_goto (tgt := 48) (dt_X0_firstUndone.at 22 rfl) (by decide) ?_
      exact Ev_iret (dt_X0_firstUndone.at 28 rfl) rfl (oRet h)
def s_Stubborn_vote (σ : Sg) (a2 : Int32) : Option Int32 :=
  (s_Day_firstUndone σ a2).bind fun q1 =>
  if q1 = (-1) then
    if inB a2 3 = true then
      some (gI σ 34 (Int32.toNatClampNeg a2))
    else none
  else
    some q1
set_option maxRecDepth 100000 in
set_option maxHeartbeats 4000000 in
theorem w_Stubborn_vote (σ : Sg) (a2 : Int32) (q : Int32) (h : s_Stubborn_vote σ a2 = some q) : Cal M_X8_vote 1 [.ref 40, .ref 31, .int a2] σ (some (.int q)) σ := by
  refine Cal.of (M := M_X8_vote) (by decide +kernel) (Nat.le_of_ble_eq_true rfl) ?_
  show Ev _ _ _ _ 0 [(0, .ref 40), (1, .ref 31), (2, .int a2)] [] σ
  unfold s_Stubborn_vote at h
  refine Ev_aload_n 1 (dt_X8_vote.at 0 rfl) rfl ?_
  refine Ev_iload_n 2 (dt_X8_vote.at 1 rfl) rfl ?_
  obtain ⟨q1, hq1, h⟩ := oBind h
  refine Ev_callV (st := []) (st' := [.int q1]) [.int a2] (dt_X8_vote.at 2 rfl) cf_X8_9 (w_Day_firstUndone σ a2 q1 hq1) (by decide) sk_31 rfl rfl rfl (Nat.le_of_ble_eq_true rfl) rfl ?_
  refine Ev_istore_n (dt_X8_vote.at 3 rfl) (by decide) (ls' := [(3, .int q1), (0, .ref 40), (1, .ref 31), (2, .int a2)]) rfl ?_
  refine Ev_iload_n 0 (dt_X8_vote.at 4 rfl) rfl ?_
  refine Ev_iconst (dt_X8_vote.at 5 rfl) ki_m1 ?_
  refine Ev_icmp_ne (tgt := 20) (dt_X8_vote.at 6 rfl) (by decide) (fun c2 => ?_) (fun c2 => ?_)
  · replace h := oNeg h c2
    refine Ev_iload_n 0 (dt_X8_vote.at 12 rfl) rfl ?_
    exact Ev_iret (dt_X8_vote.at 13 rfl) rfl (oRet h)
  · replace h := oPos h c2
    refine Ev_aload_n 2 (dt_X8_vote.at 7 rfl) rfl ?_
    refine Ev_get (i := 3) (v := .ref 34) (dt_X8_vote.at 8 rfl) ff_X8_15 sk_31 rfl rfl ?_
    refine Ev_iload_n 3 (dt_X8_vote.at 9 rfl) rfl ?_
    obtain ⟨g3, h⟩ := oGuard h
    refine Ev_iaload 34 (dt_X8_vote.at 10 rfl) sk_34 g3 ?_
    refine Ev_goto (tgt := 21) (dt_X8_vote.at 11 rfl) (by decide) ?_
    exact Ev_iret (dt_X8_vote.at 13 rfl) rfl (oRet h)
def s_Kind_kindly (σ : Sg) (a2 : Int32) : Option Int32 :=
  if inB a2 3 = true then
    if (gI σ 35 (Int32.toNatClampNeg a2)) = 0 then
      if a2 = 0 then
        some (gI σ 34 (Int32.toNatClampNeg 1))
      else
        some (gI σ 34 (Int32.toNatClampNeg 0))
    else
      if inB a2 3 = true then
        some (gI σ 34 (Int32.toNatClampNeg a2))
      else none
  else none
set_option maxRecDepth 100000 in
set_option maxHeartbeats 4000000 in
theorem w_Kind_kindly (σ : Sg) (a2 : Int32) (q : Int32) (h : s_Kind_kindly σ a2 = some q) : Cal M_X4_kindly 0 [.ref 41, .ref 31, .int a2] σ (some (.int q)) σ := by
  refine Cal.of (M := M_X4_kindly) (by decide +kernel) (Nat.le_of_ble_eq_true rfl) ?_
  show Ev _ _ _ _ 0 [(0, .ref 41), (1, .ref 31), (2, .int a2)] [] σ
  unfold s_Kind_kindly at h
  refine Ev_aload_n 1 (dt_X4_kindly.at 0 rfl) rfl ?_
  refine Ev_get (i := 4) (v := .ref 35) (dt_X4_kindly.at 1 rfl) ff_X4_13 sk_31 rfl rfl ?_
  refine Ev_iload_n 2 (dt_X4_kindly.at 2 rfl) rfl ?_
  obtain ⟨g1, h⟩ := oGuard h
  refine Ev_baload 35 (dt_X4_kindly.at 3 rfl) sk_35 g1 ?_
  refine Ev_if_eq (tgt := 16) (dt_X4_kindly.at 4 rfl) (by decide) (fun c2 => ?_) (fun c2 => ?_)
  · replace h := oPos h c2
    refine Ev_aload_n 1 (dt_X4_kindly.at 10 rfl) rfl ?_
    refine Ev_get (i := 3) (v := .ref 34) (dt_X4_kindly.at 11 rfl) ff_X4_19 sk_31 rfl rfl ?_
    refine Ev_iload_n 2 (dt_X4_kindly.at 12 rfl) rfl ?_
    refine Ev_if_ne (tgt := 28) (dt_X4_kindly.at 13 rfl) (by decide) (fun c3 => ?_) (fun c3 => ?_)
    · replace h := oNeg h c3
      refine Ev_iconst (dt_X4_kindly.at 16 rfl) ki_0 ?_
      refine Ev_iaload 34 (dt_X4_kindly.at 17 rfl) sk_34 ib_0_3 ?_
      exact Ev_iret (dt_X4_kindly.at 18 rfl) rfl (oRet h)
    · replace h := oPos h c3
      refine Ev_iconst (dt_X4_kindly.at 14 rfl) ki_1 ?_
      refine Ev_goto (tgt := 29) (dt_X4_kindly.at 15 rfl) (by decide) ?_
      refine Ev_iaload 34 (dt_X4_kindly.at 17 rfl) sk_34 ib_1_3 ?_
      exact Ev_iret (dt_X4_kindly.at 18 rfl) rfl (oRet h)
  · replace h := oNeg h c2
    refine Ev_aload_n 1 (dt_X4_kindly.at 5 rfl) rfl ?_
    refine Ev_get (i := 3) (v := .ref 34) (dt_X4_kindly.at 6 rfl) ff_X4_19 sk_31 rfl rfl ?_
    refine Ev_iload_n 2 (dt_X4_kindly.at 7 rfl) rfl ?_
    obtain ⟨g4, h⟩ := oGuard h
    refine Ev_iaload 34 (dt_X4_kindly.at 8 rfl) sk_34 g4 ?_
    exact Ev_iret (dt_X4_kindly.at 9 rfl) rfl (oRet h)
def s_Kind_vote (σ : Sg) (a2 : Int32) : Option Int32 :=
  (s_Kind_kindly σ a2).bind fun q1 =>
  some q1
set_option maxRecDepth 100000 in
set_option maxHeartbeats 4000000 in
theorem w_Kind_vote (σ : Sg) (a2 : Int32) (q : Int32) (h : s_Kind_vote σ a2 = some q) : Cal M_X4_vote 1 [.ref 41, .ref 31, .int a2] σ (some (.int q)) σ := by
  refine Cal.of (M := M_X4_vote) (by decide +kernel) (Nat.le_of_ble_eq_true rfl) ?_
  show Ev _ _ _ _ 0 [(0, .ref 41), (1, .ref 31), (2, .int a2)] [] σ
  unfold s_Kind_vote at h
  refine Ev_aload_n 0 (dt_X4_vote.at 0 rfl) rfl ?_
  refine Ev_aload_n 1 (dt_X4_vote.at 1 rfl) rfl ?_
  refine Ev_iload_n 2 (dt_X4_vote.at 2 rfl) rfl ?_
  obtain ⟨q1, hq1, h⟩ := oBind h
  refine Ev_callV (st := []) (st' := [.int q1]) [.ref 31, .int a2] (dt_X4_vote.at 3 rfl) cf_X4_7 (w_Kind_kindly σ a2 q1 hq1) (by decide) sk_41 rfl rfl rfl (Nat.le_of_ble_eq_true rfl) rfl ?_
  exact Ev_iret (dt_X4_vote.at 4 rfl) rfl (oRet h)
def s_Kind_kindly_42_31 (σ : Sg) (a2 : Int32) : Option Int32 :=
  if inB a2 3 = true then
    if (gI σ 35 (Int32.toNatClampNeg a2)) = 0 then
      if a2 = 0 then
        some (gI σ 34 (Int32.toNatClampNeg 1))
      else
        some (gI σ 34 (Int32.toNatClampNeg 0))
    else
      if inB a2 3 = true then
        some (gI σ 34 (Int32.toNatClampNeg a2))
      else none
  else none
set_option maxRecDepth 100000 in
set_option maxHeartbeats 4000000 in
theorem w_Kind_kindly_42_31 (σ : Sg) (a2 : Int32) (q : Int32) (h : s_Kind_kindly_42_31 σ a2 = some q) : Cal M_X4_kindly 0 [.ref 42, .ref 31, .int a2] σ (some (.int q)) σ := by
  refine Cal.of (M := M_X4_kindly) (by decide +kernel) (Nat.le_of_ble_eq_true rfl) ?_
  show Ev _ _ _ _ 0 [(0, .ref 42), (1, .ref 31), (2, .int a2)] [] σ
  unfold s_Kind_kindly_42_31 at h
  refine Ev_aload_n 1 (dt_X4_kindly.at 0 rfl) rfl ?_
  refine Ev_get (i := 4) (v := .ref 35) (dt_X4_kindly.at 1 rfl) ff_X4_13 sk_31 rfl rfl ?_
  refine Ev_iload_n 2 (dt_X4_kindly.at 2 rfl) rfl ?_
  obtain ⟨g1, h⟩ := oGuard h
  refine Ev_baload 35 (dt_X4_kindly.at 3 rfl) sk_35 g1 ?_
  refine Ev_if_eq (tgt := 16) (dt_X4_kindly.at 4 rfl) (by decide) (fun c2 => ?_) (fun c2 => ?_)
  · replace h := oPos h c2
    refine Ev_aload_n 1 (dt_X4_kindly.at 10 rfl) rfl ?_
    refine Ev_get (i := 3) (v := .ref 34) (dt_X4_kindly.at 11 rfl) ff_X4_19 sk_31 rfl rfl ?_
    refine Ev_iload_n 2 (dt_X4_kindly.at 12 rfl) rfl ?_
    refine Ev_if_ne (tgt := 28) (dt_X4_kindly.at 13 rfl) (by decide) (fun c3 => ?_) (fun c3 => ?_)
    · replace h := oNeg h c3
      refine Ev_iconst (dt_X4_kindly.at 16 rfl) ki_0 ?_
      refine Ev_iaload 34 (dt_X4_kindly.at 17 rfl) sk_34 ib_0_3 ?_
      exact Ev_iret (dt_X4_kindly.at 18 rfl) rfl (oRet h)
    · replace h := oPos h c3
      refine Ev_iconst (dt_X4_kindly.at 14 rfl) ki_1 ?_
      refine Ev_goto (tgt := 29) (dt_X4_kindly.at 15 rfl) (by decide) ?_
      refine Ev_iaload 34 (dt_X4_kindly.at 17 rfl) sk_34 ib_1_3 ?_
      exact Ev_iret (dt_X4_kindly.at 18 rfl) rfl (oRet h)
  · replace h := oNeg h c2
    refine Ev_aload_n 1 (dt_X4_kindly.at 5 rfl) rfl ?_
    refine Ev_get (i := 3) (v := .ref 34) (dt_X4_kindly.at 6 rfl) ff_X4_19 sk_31 rfl rfl ?_
    refine Ev_iload_n 2 (dt_X4_kindly.at 7 rfl) rfl ?_
    obtain ⟨g4, h⟩ := oGuard h
    refine Ev_iaload 34 (dt_X4_kindly.at 8 rfl) sk_34 g4 ?_
    exact Ev_iret (dt_X4_kindly.at 9 rfl) rfl (oRet h)
def s_Idle_vote (σ : Sg) (a2 : Int32) : Option Int32 :=
  if ((gI σ 31 7) - (gI σ 31 7) / 2 * 2) = 0 then
    some (gI σ 31 8)
  else
    (s_Kind_kindly_42_31 σ a2).bind fun q2 =>
    some q2
set_option maxRecDepth 100000 in
set_option maxHeartbeats 4000000 in
theorem w_Idle_vote (σ : Sg) (a2 : Int32) (q : Int32) (h : s_Idle_vote σ a2 = some q) : Cal M_X3_vote 1 [.ref 42, .ref 31, .int a2] σ (some (.int q)) σ := by
  refine Cal.of (M := M_X3_vote) (by decide +kernel) (Nat.le_of_ble_eq_true rfl) ?_
  show Ev _ _ _ _ 0 [(0, .ref 42), (1, .ref 31), (2, .int a2)] [] σ
  unfold s_Idle_vote at h
  refine Ev_aload_n 1 (dt_X3_vote.at 0 rfl) rfl ?_
  refine Ev_get (i := 7) (v := .int (gI σ 31 7)) (dt_X3_vote.at 1 rfl) ff_X3_7 sk_31 rfl rfl ?_
  refine Ev_iconst (dt_X3_vote.at 2 rfl) ki_2 ?_
  refine Ev_irem (dt_X3_vote.at 3 rfl) (by decide) ?_
  refine Ev_if_ne (tgt := 16) (dt_X3_vote.at 4 rfl) (by decide) (fun c1 => ?_) (fun c1 => ?_)
  · replace h := oNeg h c1
    refine Ev_aload_n 0 (dt_X3_vote.at 8 rfl) rfl ?_
    refine Ev_aload_n 1 (dt_X3_vote.at 9 rfl) rfl ?_
    refine Ev_iload_n 2 (dt_X3_vote.at 10 rfl) rfl ?_
    obtain ⟨q2, hq2, h⟩ := oBind h
    refine Ev_callU (st := []) (st' := [.int q2]) [.ref 31, .int a2] (dt_X3_vote.at 11 rfl) cu_X3_16_X3 (w_Kind_kindly_42_31 σ a2 q2 hq2) (by decide) sk_42 rfl rfl rfl (Nat.le_of_ble_eq_true rfl) rfl ?_
    exact Ev_iret (dt_X3_vote.at 12 rfl) rfl (oRet h)
  · replace h := oPos h c1
    refine Ev_aload_n 1 (dt_X3_vote.at 5 rfl) rfl ?_
    refine Ev_get (i := 8) (v := .int (gI σ 31 8)) (dt_X3_vote.at 6 rfl) ff_X3_13 sk_31 rfl rfl ?_
    refine Ev_goto (tgt := 22) (dt_X3_vote.at 7 rfl) (by decide) ?_
    exact Ev_iret (dt_X3_vote.at 12 rfl) rfl (oRet h)
def s_vote (σ : Sg) (j i : Int32) : Option Int32 :=
  if j = 0 then s_Person_vote σ i
  else if j = 1 then s_Hasty_vote σ i
  else if j = 2 then s_Stubborn_vote σ i
  else if j = 3 then s_Kind_vote σ i
  else if j = 4 then s_Idle_vote σ i
  else none
set_option maxRecDepth 100000 in
set_option maxHeartbeats 4000000 in
theorem Ev_vote {d : Nat} {r : Option Value} {τ σ : Sg} {pc pc' : Nat} {ls : List (Nat × Value)} {st : List Value} {i j q : Int32} (hd : Dc M_X0_chosen.2.1 pc (.invokevirtual 105) 3 pc') (h : s_vote σ j i = some q) (hlt : 2 < d) (hroom : (st.map fun v => v.category).sum ≤ 8) (kk : Ev M_X0_chosen d r τ pc' ls (.int q :: st) σ) : Ev M_X0_chosen d r τ pc ls (.int i :: .ref 31 :: .ref (38 + j.toNatClampNeg) :: st) σ := by
  unfold s_vote at h
  by_cases c0 : j = 0
  · replace h := oPos h c0
    rw [c0]
    show Ev _ _ _ _ pc ls (.int i :: .ref 31 :: .ref 38 :: st) σ
    exact Ev_callV (st := st) (st' := .int q :: st) [.ref 31, .int i] hd cf_X0_105 (w_Person_vote σ i q h) (Nat.lt_of_le_of_lt (by decide) hlt) sk_38 rfl rfl rfl hroom rfl kk
  replace h := oNeg h c0
  by_cases c1 : j = 1
  · replace h := oPos h c1
    rw [c1]
    show Ev _ _ _ _ pc ls (.int i :: .ref 31 :: .ref 39 :: st) σ
    exact Ev_callO (st := st) (st' := .int q :: st) [.ref 31, .int i] hd co_X0_105_X2 (w_Hasty_vote σ i q h) (Nat.lt_of_le_of_lt (by decide) hlt) sk_39 rfl rfl rfl hroom rfl kk
  replace h := oNeg h c1
  by_cases c2 : j = 2
  · replace h := oPos h c2
    rw [c2]
    show Ev _ _ _ _ pc ls (.int i :: .ref 31 :: .ref 40 :: st) σ
    exact Ev_callO (st := st) (st' := .int q :: st) [.ref 31, .int i] hd co_X0_105_X8 (w_Stubborn_vote σ i q h) (Nat.lt_of_le_of_lt (by decide) hlt) sk_40 rfl rfl rfl hroom rfl kk
  replace h := oNeg h c2
  by_cases c3 : j = 3
  · replace h := oPos h c3
    rw [c3]
    show Ev _ _ _ _ pc ls (.int i :: .ref 31 :: .ref 41 :: st) σ
    exact Ev_callO (st := st) (st' := .int q :: st) [.ref 31, .int i] hd co_X0_105_X4 (w_Kind_vote σ i q h) (Nat.lt_of_le_of_lt (by decide) hlt) sk_41 rfl rfl rfl hroom rfl kk
  replace h := oNeg h c3
  obtain ⟨c4, h⟩ := oGuard h
  rw [c4]
  show Ev _ _ _ _ pc ls (.int i :: .ref 31 :: .ref 42 :: st) σ
  exact Ev_callO (st := st) (st' := .int q :: st) [.ref 31, .int i] hd co_X0_105_X3 (w_Idle_vote σ i q h) (Nat.lt_of_le_of_lt (by decide) hlt) sk_42 rfl rfl rfl hroom rfl kk
def s_Day_chosen (σ : Sg)  : Option Int32 :=
  if inB (gI σ 33 (Int32.toNatClampNeg 0)) 9 = true then
    if inB (gI σ 20 (Int32.toNatClampNeg (gI σ 33 (Int32.toNatClampNeg 0)))) 5 = true then
      (s_vote σ (gI σ 20 (Int32.toNatClampNeg (gI σ 33 (Int32.toNatClampNeg 0)))) 0).bind fun q3 =>
      if inB (gI σ 33 (Int32.toNatClampNeg 1)) 9 = true then
        if inB (gI σ 20 (Int32.toNatClampNeg (gI σ 33 (Int32.toNatClampNeg 1)))) 5 = true then
          (s_vote σ (gI σ 20 (Int32.toNatClampNeg (gI σ 33 (Int32.toNatClampNeg 1)))) 1).bind fun q6 =>
          if inB (gI σ 33 (Int32.toNatClampNeg 2)) 9 = true then
            if inB (gI σ 20 (Int32.toNatClampNeg (gI σ 33 (Int32.toNatClampNeg 2)))) 5 = true then
              (s_vote σ (gI σ 20 (Int32.toNatClampNeg (gI σ 33 (Int32.toNatClampNeg 2)))) 2).bind fun q9 =>
              if q6 = q9 then
                some q6
              else
                some q3
            else none
          else none
        else none
      else none
    else none
  else none
set_option maxRecDepth 100000 in
set_option maxHeartbeats 4000000 in
theorem w_Day_chosen (σ : Sg)  (q : Int32) (h : s_Day_chosen σ  = some q) : Cal M_X0_chosen 3 [.ref 31] σ (some (.int q)) σ := by
  refine Cal.of (M := M_X0_chosen) (by decide +kernel) (Nat.le_of_ble_eq_true rfl) ?_
  show Ev _ _ _ _ 0 [(0, .ref 31)] [] σ
  unfold s_Day_chosen at h
  refine Ev_aload_n 0 (dt_X0_chosen.at 0 rfl) rfl ?_
  refine Ev_get (i := 1) (v := .ref 32) (dt_X0_chosen.at 1 rfl) ff_X0_11 sk_31 rfl rfl ?_
  refine Ev_aload_n 0 (dt_X0_chosen.at 2 rfl) rfl ?_
  refine Ev_get (i := 0) (v := .ref 19) (dt_X0_chosen.at 3 rfl) ff_X0_34 sk_31 rfl rfl ?_
  refine Ev_get (i := 0) (v := .ref 20) (dt_X0_chosen.at 4 rfl) ff_X0_102 sk_19 rfl rfl ?_
  refine Ev_aload_n 0 (dt_X0_chosen.at 5 rfl) rfl ?_
  refine Ev_get (i := 2) (v := .ref 33) (dt_X0_chosen.at 6 rfl) ff_X0_17 sk_31 rfl rfl ?_
  refine Ev_iconst (dt_X0_chosen.at 7 rfl) ki_0 ?_
  refine Ev_iaload 33 (dt_X0_chosen.at 8 rfl) sk_33 ib_0_3 ?_
  obtain ⟨g1, h⟩ := oGuard h
  refine Ev_iaload 20 (dt_X0_chosen.at 9 rfl) sk_20 g1 ?_
  obtain ⟨g2, h⟩ := oGuard h
  refine Ev_aaload (c1 := 38 + (gI σ 20 (Int32.toNatClampNeg (gI σ 33 (Int32.toNatClampNeg 0)))).toNatClampNeg) 32 (dt_X0_chosen.at 10 rfl) sk_32 (Or.inr rfl) g2 (vt_at g2) ?_
  refine Ev_aload_n 0 (dt_X0_chosen.at 11 rfl) rfl ?_
  refine Ev_iconst (dt_X0_chosen.at 12 rfl) ki_0 ?_
  obtain ⟨q3, hq3, h⟩ := oBind h
  refine Ev_vote (st := []) (dt_X0_chosen.at 13 rfl) hq3 (by decide) (Nat.le_of_ble_eq_true rfl) ?_
  refine Ev_istore_n (dt_X0_chosen.at 14 rfl) (by decide) (ls' := [(1, .int q3), (0, .ref 31)]) rfl ?_
  refine Ev_aload_n 1 (dt_X0_chosen.at 15 rfl) rfl ?_
  refine Ev_get (i := 1) (v := .ref 32) (dt_X0_chosen.at 16 rfl) ff_X0_11 sk_31 rfl rfl ?_
  refine Ev_aload_n 1 (dt_X0_chosen.at 17 rfl) rfl ?_
  refine Ev_get (i := 0) (v := .ref 19) (dt_X0_chosen.at 18 rfl) ff_X0_34 sk_31 rfl rfl ?_
  refine Ev_get (i := 0) (v := .ref 20) (dt_X0_chosen.at 19 rfl) ff_X0_102 sk_19 rfl rfl ?_
  refine Ev_aload_n 1 (dt_X0_chosen.at 20 rfl) rfl ?_
  refine Ev_get (i := 2) (v := .ref 33) (dt_X0_chosen.at 21 rfl) ff_X0_17 sk_31 rfl rfl ?_
  refine Ev_iconst (dt_X0_chosen.at 22 rfl) ki_1 ?_
  refine Ev_iaload 33 (dt_X0_chosen.at 23 rfl) sk_33 ib_1_3 ?_
  obtain ⟨g4, h⟩ := oGuard h
  refine Ev_iaload 20 (dt_X0_chosen.at 24 rfl) sk_20 g4 ?_
  obtain ⟨g5, h⟩ := oGuard h
  refine Ev_aaload (c1 := 38 + (gI σ 20 (Int32.toNatClampNeg (gI σ 33 (Int32.toNatClampNeg 1)))).toNatClampNeg) 32 (dt_X0_chosen.at 25 rfl) sk_32 (Or.inr rfl) g5 (vt_at g5) ?_
  refine Ev_aload_n 1 (dt_X0_chosen.at 26 rfl) rfl ?_
  refine Ev_iconst (dt_X0_chosen.at 27 rfl) ki_1 ?_
  obtain ⟨q6, hq6, h⟩ := oBind h
  refine Ev_vote (st := []) (dt_X0_chosen.at 28 rfl) hq6 (by decide) (Nat.le_of_ble_eq_true rfl) ?_
  refine Ev_istore_n (dt_X0_chosen.at 29 rfl) (by decide) (ls' := [(2, .int q6), (1, .int q3), (0, .ref 31)]) rfl ?_
  refine Ev_aload_n 2 (dt_X0_chosen.at 30 rfl) rfl ?_
  refine Ev_get (i := 1) (v := .ref 32) (dt_X0_chosen.at 31 rfl) ff_X0_11 sk_31 rfl rfl ?_
  refine Ev_aload_n 2 (dt_X0_chosen.at 32 rfl) rfl ?_
  refine Ev_get (i := 0) (v := .ref 19) (dt_X0_chosen.at 33 rfl) ff_X0_34 sk_31 rfl rfl ?_
  refine Ev_get (i := 0) (v := .ref 20) (dt_X0_chosen.at 34 rfl) ff_X0_102 sk_19 rfl rfl ?_
  refine Ev_aload_n 2 (dt_X0_chosen.at 35 rfl) rfl ?_
  refine Ev_get (i := 2) (v := .ref 33) (dt_X0_chosen.at 36 rfl) ff_X0_17 sk_31 rfl rfl ?_
  refine Ev_iconst (dt_X0_chosen.at 37 rfl) ki_2 ?_
  refine Ev_iaload 33 (dt_X0_chosen.at 38 rfl) sk_33 ib_2_3 ?_
  obtain ⟨g7, h⟩ := oGuard h
  refine Ev_iaload 20 (dt_X0_chosen.at 39 rfl) sk_20 g7 ?_
  obtain ⟨g8, h⟩ := oGuard h
  refine Ev_aaload (c1 := 38 + (gI σ 20 (Int32.toNatClampNeg (gI σ 33 (Int32.toNatClampNeg 2)))).toNatClampNeg) 32 (dt_X0_chosen.at 40 rfl) sk_32 (Or.inr rfl) g8 (vt_at g8) ?_
  refine Ev_aload_n 2 (dt_X0_chosen.at 41 rfl) rfl ?_
  refine Ev_iconst (dt_X0_chosen.at 42 rfl) ki_2 ?_
  obtain ⟨q9, hq9, h⟩ := oBind h
  refine Ev_vote (st := []) (dt_X0_chosen.at 43 rfl) hq9 (by decide) (Nat.le_of_ble_eq_true rfl) ?_
  refine Ev_istore_n (dt_X0_chosen.at 44 rfl) (by decide) (ls' := [(3, .int q9), (2, .int q6), (1, .int q3), (0, .ref 31)]) rfl ?_
  refine Ev_iload_n 1 (dt_X0_chosen.at 45 rfl) rfl ?_
  refine Ev_iload_n 0 (dt_X0_chosen.at 46 rfl) rfl ?_
  refine Ev_icmp_ne (tgt := 84) (dt_X0_chosen.at 47 rfl) (by decide) (fun c10 => ?_) (fun c10 => ?_)
  · replace h := oNeg h c10
    refine Ev_iload_n 2 (dt_X0_chosen.at 50 rfl) rfl ?_
    exact Ev_iret (dt_X0_chosen.at 51 rfl) rfl (oRet h)
  · replace h := oPos h c10
    refine Ev_iload_n 1 (dt_X0_chosen.at 48 rfl) rfl ?_
    refine Ev_goto (tgt := 85) (dt_X0_chosen.at 49 rfl) (by decide) ?_
    exact Ev_iret (dt_X0_chosen.at 51 rfl) rfl (oRet h)
def s_Math_floorMod (a0 : Int32) (a1 : Int32) : Option Int32 :=
  if ¬ a1 = 0 then
    lt ((a0 - a0 / a1 * a1) : Int32) fun x2 =>
    if 0 ≤ (a0 ^^^ a1) then
      some x2
    else
      if x2 = 0 then
        some x2
      else
        some (x2 + a1)
  else none
set_option maxRecDepth 100000 in
set_option maxHeartbeats 4000000 in
theorem w_Math_floorMod (σ : Sg) (a0 : Int32) (a1 : Int32) (q : Int32) (h : s_Math_floorMod a0 a1 = some q) : Cal M_J9_floorMod 0 [.int a0, .int a1] σ (some (.int q)) σ := by
  refine Cal.of (M := M_J9_floorMod) (by decide +kernel) (Nat.le_of_ble_eq_true rfl) ?_
  show Ev _ _ _ _ 0 [(0, .int a0), (1, .int a1)] [] σ
  unfold s_Math_floorMod at h
  refine Ev_iload_n 0 (dt_J9_floorMod.at 0 rfl) rfl ?_
  refine Ev_iload_n 1 (dt_J9_floorMod.at 1 rfl) rfl ?_
  obtain ⟨g1, h⟩ := oGuard h
  refine Ev_irem (dt_J9_floorMod.at 2 rfl) g1 ?_
  refine Ev_nmI (fun x2 ex2 => ?_)
  replace h := oLt h ex2
  refine Ev_istore_n (dt_J9_floorMod.at 3 rfl) (by decide) (ls' := [(2, .int x2), (0, .int a0), (1, .int a1)]) rfl ?_
  refine Ev_iload_n 1 (dt_J9_floorMod.at 4 rfl) rfl ?_
  refine Ev_iload_n 2 (dt_J9_floorMod.at 5 rfl) rfl ?_
  refine Ev_ixor (dt_J9_floorMod.at 6 rfl) ?_
  refine Ev_if_ge (tgt := 18) (dt_J9_floorMod.at 7 rfl) (by decide) (fun c3 => ?_) (fun c3 => ?_)
  · replace h := oPos h c3
    refine Ev_iload_n 0 (dt_J9_floorMod.at 14 rfl) rfl ?_
    exact Ev_iret (dt_J9_floorMod.at 15 rfl) rfl (oRet h)
  · replace h := oNeg h c3
    refine Ev_iload_n 0 (dt_J9_floorMod.at 8 rfl) rfl ?_
    refine Ev_if_eq (tgt := 18) (dt_J9_floorMod.at 9 rfl) (by decide) (fun c4 => ?_) (fun c4 => ?_)
    · replace h := oPos h c4
      refine Ev_iload_n 0 (dt_J9_floorMod.at 14 rfl) rfl ?_
      exact Ev_iret (dt_J9_floorMod.at 15 rfl) rfl (oRet h)
    · replace h := oNeg h c4
      refine Ev_iload_n 0 (dt_J9_floorMod.at 10 rfl) rfl ?_
      refine Ev_iload_n 2 (dt_J9_floorMod.at 11 rfl) rfl ?_
      refine Ev_iadd (dt_J9_floorMod.at 12 rfl) ?_
      exact Ev_iret (dt_J9_floorMod.at 13 rfl) rfl (oRet h)
def s_Town_onRing (σ : Sg) (a1 : Int32) : Option Int32 :=
  if 1 ≤ (gI σ 19 5) then
    (s_Math_floorMod a1 (gI σ 19 5)).bind fun q2 =>
    some q2
  else
    some 0
set_option maxRecDepth 100000 in
set_option maxHeartbeats 4000000 in
theorem w_Town_onRing (σ : Sg) (a1 : Int32) (q : Int32) (h : s_Town_onRing σ a1 = some q) : Cal M_X9_onRing 1 [.ref 19, .int a1] σ (some (.int q)) σ := by
  refine Cal.of (M := M_X9_onRing) (by decide +kernel) (Nat.le_of_ble_eq_true rfl) ?_
  show Ev _ _ _ _ 0 [(0, .ref 19), (1, .int a1)] [] σ
  unfold s_Town_onRing at h
  refine Ev_aload_n 0 (dt_X9_onRing.at 0 rfl) rfl ?_
  refine Ev_get (i := 5) (v := .int (gI σ 19 5)) (dt_X9_onRing.at 1 rfl) ff_X9_27 sk_19 rfl rfl ?_
  refine Ev_iconst (dt_X9_onRing.at 2 rfl) ki_1 ?_
  refine Ev_icmp_ge (tgt := 12) (dt_X9_onRing.at 3 rfl) (by decide) (fun c1 => ?_) (fun c1 => ?_)
  · replace h := oPos h c1
    refine Ev_iload_n 1 (dt_X9_onRing.at 6 rfl) rfl ?_
    refine Ev_aload_n 0 (dt_X9_onRing.at 7 rfl) rfl ?_
    refine Ev_get (i := 5) (v := .int (gI σ 19 5)) (dt_X9_onRing.at 8 rfl) ff_X9_27 sk_19 rfl rfl ?_
    obtain ⟨q2, hq2, h⟩ := oBind h
    refine Ev_callS (st := []) (st' := [.int q2]) [.int a1, .int (gI σ 19 5)] (dt_X9_onRing.at 9 rfl) cf_X9_54 (w_Math_floorMod σ a1 (gI σ 19 5) q2 hq2) (by decide) rfl rfl (Nat.le_of_ble_eq_true rfl) rfl ?_
    exact Ev_iret (dt_X9_onRing.at 10 rfl) rfl (oRet h)
  · replace h := oNeg h c1
    refine Ev_iconst (dt_X9_onRing.at 4 rfl) ki_0 ?_
    refine Ev_goto (tgt := 20) (dt_X9_onRing.at 5 rfl) (by decide) ?_
    exact Ev_iret (dt_X9_onRing.at 10 rfl) rfl (oRet h)
def s_Day_stepTowards (σ : Sg) (a1 : Int32) : Option Sg :=
  (s_Town_onRing σ (a1 - (gI σ 31 8))).bind fun q1 =>
  if q1 = 0 then
    some σ
  else
    if (gI σ 19 5) < (2 * q1) then
      (s_Town_onRing σ ((gI σ 31 8) - 1)).bind fun q4 =>
      lt (pI σ 31 8 q4 : Sg) fun s5 =>
      some s5
    else
      (s_Town_onRing σ ((gI σ 31 8) + 1)).bind fun q6 =>
      lt (pI σ 31 8 q6 : Sg) fun s7 =>
      some s7
set_option maxRecDepth 100000 in
set_option maxHeartbeats 4000000 in
theorem w_Day_stepTowards (σ : Sg) (a1 : Int32) (q : Sg) (h : s_Day_stepTowards σ a1 = some q) : Cal M_X0_stepTowards 2 [.ref 31, .int a1] σ none q := by
  refine Cal.of (M := M_X0_stepTowards) (by decide +kernel) (Nat.le_of_ble_eq_true rfl) ?_
  show Ev _ _ _ _ 0 [(0, .ref 31), (1, .int a1)] [] σ
  unfold s_Day_stepTowards at h
  refine Ev_aload_n 0 (dt_X0_stepTowards.at 0 rfl) rfl ?_
  refine Ev_get (i := 0) (v := .ref 19) (dt_X0_stepTowards.at 1 rfl) ff_X0_34 sk_31 rfl rfl ?_
  refine Ev_iload_n 1 (dt_X0_stepTowards.at 2 rfl) rfl ?_
  refine Ev_aload_n 0 (dt_X0_stepTowards.at 3 rfl) rfl ?_
  refine Ev_get (i := 8) (v := .int (gI σ 31 8)) (dt_X0_stepTowards.at 4 rfl) ff_X0_78 sk_31 rfl rfl ?_
  refine Ev_isub (dt_X0_stepTowards.at 5 rfl) ?_
  obtain ⟨q1, hq1, h⟩ := oBind h
  refine Ev_callV (st := []) (st' := [.int q1]) [.int (a1 - (gI σ 31 8))] (dt_X0_stepTowards.at 6 rfl) cf_X0_109 (w_Town_onRing σ (a1 - (gI σ 31 8)) q1 hq1) (by decide) sk_19 rfl rfl rfl (Nat.le_of_ble_eq_true rfl) rfl ?_
  refine Ev_istore_n (dt_X0_stepTowards.at 7 rfl) (by decide) (ls' := [(2, .int q1), (0, .ref 31), (1, .int a1)]) rfl ?_
  refine Ev_iload_n 0 (dt_X0_stepTowards.at 8 rfl) rfl ?_
  refine Ev_if_ne (tgt := 19) (dt_X0_stepTowards.at 9 rfl) (by decide) (fun c2 => ?_) (fun c2 => ?_)
  · replace h := oNeg h c2
    refine Ev_aload_n 1 (dt_X0_stepTowards.at 11 rfl) rfl ?_
    refine Ev_aload_n 1 (dt_X0_stepTowards.at 12 rfl) rfl ?_
    refine Ev_get (i := 0) (v := .ref 19) (dt_X0_stepTowards.at 13 rfl) ff_X0_34 sk_31 rfl rfl ?_
    refine Ev_iconst (dt_X0_stepTowards.at 14 rfl) ki_2 ?_
    refine Ev_iload_n 0 (dt_X0_stepTowards.at 15 rfl) rfl ?_
    refine Ev_imul (dt_X0_stepTowards.at 16 rfl) ?_
    refine Ev_aload_n 1 (dt_X0_stepTowards.at 17 rfl) rfl ?_
    refine Ev_get (i := 0) (v := .ref 19) (dt_X0_stepTowards.at 18 rfl) ff_X0_34 sk_31 rfl rfl ?_
    refine Ev_get (i := 5) (v := .int (gI σ 19 5)) (dt_X0_stepTowards.at 19 rfl) ff_X0_113 sk_19 rfl rfl ?_
    refine Ev_icmp_gt (tgt := 46) (dt_X0_stepTowards.at 20 rfl) (by decide) (fun c3 => ?_) (fun c3 => ?_)
    · replace h := oPos h c3
      refine Ev_aload_n 1 (dt_X0_stepTowards.at 26 rfl) rfl ?_
      refine Ev_get (i := 8) (v := .int (gI σ 31 8)) (dt_X0_stepTowards.at 27 rfl) ff_X0_78 sk_31 rfl rfl ?_
      refine Ev_iconst (dt_X0_stepTowards.at 28 rfl) ki_1 ?_
      refine Ev_isub (dt_X0_stepTowards.at 29 rfl) ?_
      obtain ⟨q4, hq4, h⟩ := oBind h
      refine Ev_callV (st := [.ref 31]) (st' := [.int q4, .ref 31]) [.int ((gI σ 31 8) - 1)] (dt_X0_stepTowards.at 30 rfl) cf_X0_109 (w_Town_onRing σ ((gI σ 31 8) - 1) q4 hq4) (by decide) sk_19 rfl rfl rfl (Nat.le_of_ble_eq_true rfl) rfl ?_
      refine Ev_putI (dt_X0_stepTowards.at 31 rfl) ff_X0_78 fw_0_8 sk_31 rfl ?_
      refine Ev_nmS (fun s5 es5 => ?_)
      replace h := oLt h es5
      exact Ev_vret (dt_X0_stepTowards.at 32 rfl) rfl h
    · replace h := oNeg h c3
      refine Ev_aload_n 1 (dt_X0_stepTowards.at 21 rfl) rfl ?_
      refine Ev_get (i := 8) (v := .int (gI σ 31 8)) (dt_X0_stepTowards.at 22 rfl) ff_X0_78 sk_31 rfl rfl ?_
      refine Ev_iconst (dt_X0_stepTowards.at 23 rfl) ki_1 ?_
      refine Ev_iadd (dt_X0_stepTowards.at 24 rfl) ?_
      refine Ev_goto (tgt := 52) (dt_X0_stepTowards.at 25 rfl) (by decide) ?_
      obtain ⟨q6, hq6, h⟩ := oBind h
      refine Ev_callV (st := [.ref 31]) (st' := [.int q6, .ref 31]) [.int ((gI σ 31 8) + 1)] (dt_X0_stepTowards.at 30 rfl) cf_X0_109 (w_Town_onRing σ ((gI σ 31 8) + 1) q6 hq6) (by decide) sk_19 rfl rfl rfl (Nat.le_of_ble_eq_true rfl) rfl ?_
      refine Ev_putI (dt_X0_stepTowards.at 31 rfl) ff_X0_78 fw_0_8 sk_31 rfl ?_
      refine Ev_nmS (fun s7 es7 => ?_)
      replace h := oLt h es7
      exact Ev_vret (dt_X0_stepTowards.at 32 rfl) rfl h
  · replace h := oPos h c2
    exact Ev_vret (dt_X0_stepTowards.at 10 rfl) rfl h
def b_Day_doErrands_30 (v2 : Int32) (v3 : Int32) (v4 : Int32) (v5 : Int32) (x : (Sg × Int32)) : Option ((Sg × Int32) ⊕ (Sg × Int32)) :=
  if inB v4 9 = true then
    if (v5 + (gI x.1 22 (Int32.toNatClampNeg v4))) ≤ x.2 then
      some (.inr (x.1, x.2))
    else
      if inB x.2 36 = true then
        if (gI x.1 23 (Int32.toNatClampNeg x.2)) = (gI x.1 31 8) then
          (s_Day_isOpen x.1 x.2).bind fun q10 =>
          if q10 = 0 then
            lt (x.2 + 1 : Int32) fun x12 =>
            some (.inl (x.1, x12))
          else
            if inB x.2 36 = true then
              lt (pI x.1 36 (Int32.toNatClampNeg x.2) (1 &&& 1) : Sg) fun s14 =>
              lt (pI s14 31 9 ((gI s14 31 9) + 1) : Sg) fun s15 =>
              lt (x.2 + 1 : Int32) fun x16 =>
              some (.inl (s15, x16))
            else none
        else
          lt (x.2 + 1 : Int32) fun x9 =>
          some (.inl (x.1, x9))
      else none
  else none
def b_Day_doErrands_10 (v2 : Int32) (x : (Sg × Int32)) : Option ((Sg × Int32) ⊕ (Sg × Int32)) :=
  if v2 ≤ x.2 then
    some (.inr (x.1, x.2))
  else
    if inB x.2 3 = true then
      lt ((gI x.1 33 (Int32.toNatClampNeg x.2)) : Int32) fun x3 =>
      lt ((x3 * 4) : Int32) fun x4 =>
      (lp (b_Day_doErrands_30 v2 x.2 x3 x4) 100000 (x.1, x4)).bind fun o17 =>
      lt (x.2 + 1 : Int32) fun x18 =>
      some (.inl (o17.1, x18))
    else none
def s_Day_doErrands (σ : Sg)  : Option Sg :=
  (lp (b_Day_doErrands_10 3) 100000 (σ, 0)).bind fun o19 =>
  some o19.1
set_option maxRecDepth 100000 in
set_option maxHeartbeats 4000000 in
theorem wb_Day_doErrands_30 (v2 : Int32) (v3 : Int32) (v4 : Int32) (v5 : Int32) (x : (Sg × Int32)) (r : Option Value) (τ : Sg) (o : ((Sg × Int32) ⊕ (Sg × Int32))) (h : (b_Day_doErrands_30 v2 v3 v4 v5 x) = some o) (hc : ∀ y : (Sg × Int32), o = .inl y → Ev M_X0_doErrands 1 r τ 30 [(0, .ref 31), (1, .ref 33), (2, .int v2), (3, .int v3), (4, .int v4), (5, .int v5), (6, .int y.2)] [] y.1) (he : ∀ y : (Sg × Int32), o = .inr y → Ev M_X0_doErrands 1 r τ 98 [(0, .ref 31), (1, .ref 33), (2, .int v2), (3, .int v3)] [] y.1) : Ev M_X0_doErrands 1 r τ 30 [(0, .ref 31), (1, .ref 33), (2, .int v2), (3, .int v3), (4, .int v4), (5, .int v5), (6, .int x.2)] [] x.1 := by
  unfold b_Day_doErrands_30 at h
  refine Ev_iload 6 (dt_X0_doErrands.at 21 rfl) rfl ?_
  refine Ev_iload 5 (dt_X0_doErrands.at 22 rfl) rfl ?_
  refine Ev_aload_n 0 (dt_X0_doErrands.at 23 rfl) rfl ?_
  refine Ev_get (i := 0) (v := .ref 19) (dt_X0_doErrands.at 24 rfl) ff_X0_34 sk_31 rfl rfl ?_
  refine Ev_get (i := 2) (v := .ref 22) (dt_X0_doErrands.at 25 rfl) ff_X0_93 sk_19 rfl rfl ?_
  refine Ev_iload 4 (dt_X0_doErrands.at 26 rfl) rfl ?_
  obtain ⟨g5, h⟩ := oGuard h
  refine Ev_iaload 22 (dt_X0_doErrands.at 27 rfl) sk_22 g5 ?_
  refine Ev_iadd (dt_X0_doErrands.at 28 rfl) ?_
  refine Ev_icmp_ge (tgt := 98) (dt_X0_doErrands.at 29 rfl) (by decide) (fun c6 => ?_) (fun c6 => ?_)
  · replace h := oPos h c6
    refine Ev_sub [0, 1, 2, 3] (ls' := [(0, .ref 31), (1, .ref 33), (2, .int v2), (3, .int v3)]) rfl ?_
    exact he _ (Option.some.inj h).symm
  · replace h := oNeg h c6
    refine Ev_aload_n 0 (dt_X0_doErrands.at 30 rfl) rfl ?_
    refine Ev_get (i := 0) (v := .ref 19) (dt_X0_doErrands.at 31 rfl) ff_X0_34 sk_31 rfl rfl ?_
    refine Ev_get (i := 3) (v := .ref 23) (dt_X0_doErrands.at 32 rfl) ff_X0_99 sk_19 rfl rfl ?_
    refine Ev_iload 6 (dt_X0_doErrands.at 33 rfl) rfl ?_
    obtain ⟨g7, h⟩ := oGuard h
    refine Ev_iaload 23 (dt_X0_doErrands.at 34 rfl) sk_23 g7 ?_
    refine Ev_aload_n 0 (dt_X0_doErrands.at 35 rfl) rfl ?_
    refine Ev_get (i := 8) (v := .int (gI x.1 31 8)) (dt_X0_doErrands.at 36 rfl) ff_X0_78 sk_31 rfl rfl ?_
    refine Ev_icmp_ne (tgt := 92) (dt_X0_doErrands.at 37 rfl) (by decide) (fun c8 => ?_) (fun c8 => ?_)
    · replace h := oNeg h c8
      obtain ⟨x9, ex9⟩ : ∃ z : Int32, z = x.2 + 1 := ⟨_, rfl⟩
      replace h := oLt h ex9
      refine Ev_iinc (v := x9) 6 (dt_X0_doErrands.at 53 rfl) rfl (ex9.trans (by rw [ki_1])) (by decide) (ls' := [(6, .int x9), (0, .ref 31), (1, .ref 33), (2, .int v2), (3, .int v3), (4, .int v4), (5, .int v5)]) rfl ?_
      refine Ev_goto (tgt := 30) (dt_X0_doErrands.at 54 rfl) (by decide) ?_
      refine Ev_sub [1, 2, 3, 4, 5, 6, 0] (ls' := [(0, .ref 31), (1, .ref 33), (2, .int v2), (3, .int v3), (4, .int v4), (5, .int v5), (6, .int x9)]) rfl ?_
      exact hc _ (Option.some.inj h).symm
    · replace h := oPos h c8
      refine Ev_aload_n 0 (dt_X0_doErrands.at 38 rfl) rfl ?_
      refine Ev_iload 6 (dt_X0_doErrands.at 39 rfl) rfl ?_
      obtain ⟨q10, hq10, h⟩ := oBind h
      refine Ev_callV (st := []) (st' := [.int q10]) [.int x.2] (dt_X0_doErrands.at 40 rfl) cf_X0_96 (w_Day_isOpen x.1 x.2 q10 hq10) (by decide) sk_31 rfl rfl rfl (Nat.le_of_ble_eq_true rfl) rfl ?_
      refine Ev_if_eq (tgt := 92) (dt_X0_doErrands.at 41 rfl) (by decide) (fun c11 => ?_) (fun c11 => ?_)
      · replace h := oPos h c11
        obtain ⟨x12, ex12⟩ : ∃ z : Int32, z = x.2 + 1 := ⟨_, rfl⟩
        replace h := oLt h ex12
        refine Ev_iinc (v := x12) 6 (dt_X0_doErrands.at 53 rfl) rfl (ex12.trans (by rw [ki_1])) (by decide) (ls' := [(6, .int x12), (0, .ref 31), (1, .ref 33), (2, .int v2), (3, .int v3), (4, .int v4), (5, .int v5)]) rfl ?_
        refine Ev_goto (tgt := 30) (dt_X0_doErrands.at 54 rfl) (by decide) ?_
        refine Ev_sub [1, 2, 3, 4, 5, 6, 0] (ls' := [(0, .ref 31), (1, .ref 33), (2, .int v2), (3, .int v3), (4, .int v4), (5, .int v5), (6, .int x12)]) rfl ?_
        exact hc _ (Option.some.inj h).symm
      · replace h := oNeg h c11
        refine Ev_aload_n 0 (dt_X0_doErrands.at 42 rfl) rfl ?_
        refine Ev_get (i := 5) (v := .ref 36) (dt_X0_doErrands.at 43 rfl) ff_X0_28 sk_31 rfl rfl ?_
        refine Ev_iload 6 (dt_X0_doErrands.at 44 rfl) rfl ?_
        refine Ev_iconst (dt_X0_doErrands.at 45 rfl) ki_1 ?_
        obtain ⟨g13, h⟩ := oGuard h
        refine Ev_bastore 36 (dt_X0_doErrands.at 46 rfl) sk_36 g13 ?_
        refine Ev_nmS (fun s14 es14 => ?_)
        replace h := oLt h es14
        refine Ev_aload_n 0 (dt_X0_doErrands.at 47 rfl) rfl ?_
        refine Ev_dup (dt_X0_doErrands.at 48 rfl) rfl ?_
        refine Ev_get (i := 9) (v := .int (gI s14 31 9)) (dt_X0_doErrands.at 49 rfl) ff_X0_81 sk_31 rfl rfl ?_
        refine Ev_iconst (dt_X0_doErrands.at 50 rfl) ki_1 ?_
        refine Ev_iadd (dt_X0_doErrands.at 51 rfl) ?_
        refine Ev_putI (dt_X0_doErrands.at 52 rfl) ff_X0_81 fw_0_9 sk_31 rfl ?_
        refine Ev_nmS (fun s15 es15 => ?_)
        replace h := oLt h es15
        obtain ⟨x16, ex16⟩ : ∃ z : Int32, z = x.2 + 1 := ⟨_, rfl⟩
        replace h := oLt h ex16
        refine Ev_iinc (v := x16) 6 (dt_X0_doErrands.at 53 rfl) rfl (ex16.trans (by rw [ki_1])) (by decide) (ls' := [(6, .int x16), (0, .ref 31), (1, .ref 33), (2, .int v2), (3, .int v3), (4, .int v4), (5, .int v5)]) rfl ?_
        refine Ev_goto (tgt := 30) (dt_X0_doErrands.at 54 rfl) (by decide) ?_
        refine Ev_sub [1, 2, 3, 4, 5, 6, 0] (ls' := [(0, .ref 31), (1, .ref 33), (2, .int v2), (3, .int v3), (4, .int v4), (5, .int v5), (6, .int x16)]) rfl ?_
        exact hc _ (Option.some.inj h).symm
set_option maxRecDepth 100000 in
set_option maxHeartbeats 4000000 in
theorem wl_Day_doErrands_30 (v2 : Int32) (v3 : Int32) (v4 : Int32) (v5 : Int32) (r : Option Value) (τ : Sg) (n : Nat) (x : (Sg × Int32)) (z : (Sg × Int32)) (h : lp (b_Day_doErrands_30 v2 v3 v4 v5) n x = some z) (he : ∀ y : (Sg × Int32), z = y → Ev M_X0_doErrands 1 r τ 98 [(0, .ref 31), (1, .ref 33), (2, .int v2), (3, .int v3)] [] y.1) : Ev M_X0_doErrands 1 r τ 30 [(0, .ref 31), (1, .ref 33), (2, .int v2), (3, .int v3), (4, .int v4), (5, .int v5), (6, .int x.2)] [] x.1 := by
  refine lp_ind (E := fun x : (Sg × Int32) => Ev M_X0_doErrands 1 r τ 30 [(0, .ref 31), (1, .ref 33), (2, .int v2), (3, .int v3), (4, .int v4), (5, .int v5), (6, .int x.2)] [] x.1) (fun x => ⟨fun y hb hy => ?_, fun hb => ?_⟩) n x h
  · exact wb_Day_doErrands_30 v2 v3 v4 v5 x r τ _ hb (fun y' e => by cases e; exact hy) (fun y' e => by cases e)
  · exact wb_Day_doErrands_30 v2 v3 v4 v5 x r τ _ hb (fun y' e => by cases e) (fun y' e => he y' (Sum.inr.inj e))
set_option maxRecDepth 100000 in
set_option maxHeartbeats 4000000 in
theorem wb_Day_doErrands_10 (v2 : Int32) (x : (Sg × Int32)) (r : Option Value) (τ : Sg) (o : ((Sg × Int32) ⊕ (Sg × Int32))) (h : (b_Day_doErrands_10 v2 x) = some o) (hc : ∀ y : (Sg × Int32), o = .inl y → Ev M_X0_doErrands 1 r τ 10 [(0, .ref 31), (1, .ref 33), (2, .int v2), (3, .int y.2)] [] y.1) (he : ∀ y : (Sg × Int32), o = .inr y → Ev M_X0_doErrands 1 r τ 104 [] [] y.1) : Ev M_X0_doErrands 1 r τ 10 [(0, .ref 31), (1, .ref 33), (2, .int v2), (3, .int x.2)] [] x.1 := by
  unfold b_Day_doErrands_10 at h
  refine Ev_iload_n 3 (dt_X0_doErrands.at 8 rfl) rfl ?_
  refine Ev_iload_n 2 (dt_X0_doErrands.at 9 rfl) rfl ?_
  refine Ev_icmp_ge (tgt := 104) (dt_X0_doErrands.at 10 rfl) (by decide) (fun c1 => ?_) (fun c1 => ?_)
  · replace h := oPos h c1
    refine Ev_sub [] (ls' := []) rfl ?_
    exact he _ (Option.some.inj h).symm
  · replace h := oNeg h c1
    refine Ev_aload_n 1 (dt_X0_doErrands.at 11 rfl) rfl ?_
    refine Ev_iload_n 3 (dt_X0_doErrands.at 12 rfl) rfl ?_
    obtain ⟨g2, h⟩ := oGuard h
    refine Ev_iaload 33 (dt_X0_doErrands.at 13 rfl) sk_33 g2 ?_
    refine Ev_nmI (fun x3 ex3 => ?_)
    replace h := oLt h ex3
    refine Ev_istore (dt_X0_doErrands.at 14 rfl) (by decide) (ls' := [(4, .int x3), (0, .ref 31), (1, .ref 33), (2, .int v2), (3, .int x.2)]) rfl ?_
    refine Ev_iload 0 (dt_X0_doErrands.at 15 rfl) rfl ?_
    refine Ev_iconst (dt_X0_doErrands.at 16 rfl) ki_4 ?_
    refine Ev_imul (dt_X0_doErrands.at 17 rfl) ?_
    refine Ev_nmI (fun x4 ex4 => ?_)
    replace h := oLt h ex4
    refine Ev_istore (dt_X0_doErrands.at 18 rfl) (by decide) (ls' := [(5, .int x4), (4, .int x3), (0, .ref 31), (1, .ref 33), (2, .int v2), (3, .int x.2)]) rfl ?_
    refine Ev_iload 0 (dt_X0_doErrands.at 19 rfl) rfl ?_
    refine Ev_istore (dt_X0_doErrands.at 20 rfl) (by decide) (ls' := [(6, .int x4), (5, .int x4), (4, .int x3), (0, .ref 31), (1, .ref 33), (2, .int v2), (3, .int x.2)]) rfl ?_
    refine Ev_sub [3, 4, 5, 6, 2, 1, 0] (ls' := [(0, .ref 31), (1, .ref 33), (2, .int v2), (3, .int x.2), (4, .int x3), (5, .int x4), (6, .int x4)]) rfl ?_
    obtain ⟨o17, ho17, h⟩ := oBind h
    refine wl_Day_doErrands_30 v2 x.2 x3 x4 _ _ _ _ o17 ho17 (fun y ey => ?_)
    subst ey
    obtain ⟨x18, ex18⟩ : ∃ z : Int32, z = x.2 + 1 := ⟨_, rfl⟩
    replace h := oLt h ex18
    refine Ev_iinc (v := x18) 3 (dt_X0_doErrands.at 55 rfl) rfl (ex18.trans (by rw [ki_1])) (by decide) (ls' := [(3, .int x18), (0, .ref 31), (1, .ref 33), (2, .int v2)]) rfl ?_
    refine Ev_goto (tgt := 10) (dt_X0_doErrands.at 56 rfl) (by decide) ?_
    refine Ev_sub [1, 2, 3, 0] (ls' := [(0, .ref 31), (1, .ref 33), (2, .int v2), (3, .int x18)]) rfl ?_
    exact hc _ (Option.some.inj h).symm
set_option maxRecDepth 100000 in
set_option maxHeartbeats 4000000 in
theorem wl_Day_doErrands_10 (v2 : Int32) (r : Option Value) (τ : Sg) (n : Nat) (x : (Sg × Int32)) (z : (Sg × Int32)) (h : lp (b_Day_doErrands_10 v2) n x = some z) (he : ∀ y : (Sg × Int32), z = y → Ev M_X0_doErrands 1 r τ 104 [] [] y.1) : Ev M_X0_doErrands 1 r τ 10 [(0, .ref 31), (1, .ref 33), (2, .int v2), (3, .int x.2)] [] x.1 := by
  refine lp_ind (E := fun x : (Sg × Int32) => Ev M_X0_doErrands 1 r τ 10 [(0, .ref 31), (1, .ref 33), (2, .int v2), (3, .int x.2)] [] x.1) (fun x => ⟨fun y hb hy => ?_, fun hb => ?_⟩) n x h
  · exact wb_Day_doErrands_10 v2 x r τ _ hb (fun y' e => by cases e; exact hy) (fun y' e => by cases e)
  · exact wb_Day_doErrands_10 v2 x r τ _ hb (fun y' e => by cases e) (fun y' e => he y' (Sum.inr.inj e))
set_option maxRecDepth 100000 in
set_option maxHeartbeats 4000000 in
theorem w_Day_doErrands (σ : Sg)  (q : Sg) (h : s_Day_doErrands σ  = some q) : Cal M_X0_doErrands 1 [.ref 31] σ none q := by
  refine Cal.of (M := M_X0_doErrands) (by decide +kernel) (Nat.le_of_ble_eq_true rfl) ?_
  show Ev _ _ _ _ 0 [(0, .ref 31)] [] σ
  unfold s_Day_doErrands at h
  refine Ev_aload_n 0 (dt_X0_doErrands.at 0 rfl) rfl ?_
  refine Ev_get (i := 2) (v := .ref 33) (dt_X0_doErrands.at 1 rfl) ff_X0_17 sk_31 rfl rfl ?_
  refine Ev_astore_n (dt_X0_doErrands.at 2 rfl) (by decide) (ls' := [(1, .ref 33), (0, .ref 31)]) rfl ?_
  refine Ev_aload_n 0 (dt_X0_doErrands.at 3 rfl) rfl ?_
  refine Ev_alen 33 (dt_X0_doErrands.at 4 rfl) sk_33 (Or.inl rfl) kn_3 ?_
  refine Ev_istore_n (dt_X0_doErrands.at 5 rfl) (by decide) (ls' := [(2, .int 3), (1, .ref 33), (0, .ref 31)]) rfl ?_
  refine Ev_iconst (dt_X0_doErrands.at 6 rfl) ki_0 ?_
  refine Ev_istore_n (dt_X0_doErrands.at 7 rfl) (by decide) (ls' := [(3, .int 0), (2, .int 3), (1, .ref 33), (0, .ref 31)]) rfl ?_
  refine Ev_sub [3, 2, 1, 0] (ls' := [(0, .ref 31), (1, .ref 33), (2, .int 3), (3, .int 0)]) rfl ?_
  obtain ⟨o19, ho19, h⟩ := oBind h
  refine wl_Day_doErrands_10 3 _ _ _ _ o19 ho19 (fun y ey => ?_)
  subst ey
  exact Ev_vret (dt_X0_doErrands.at 57 rfl) rfl h
def j_Day_pass_53i16 (v2 : Int32) (σ : Sg) (v2 : Int32) (v3 : Int32) : Option ((Sg × Int32) ⊕ (Sg × Int32)) :=
  (s_Day_doErrands σ ).bind fun q9 =>
  if inB v3 10 = true then
    lt (pI q9 37 (Int32.toNatClampNeg v3) (gI q9 31 8) : Sg) fun s11 =>
    lt (v3 + 1 : Int32) fun x12 =>
    some (.inl (s11, x12))
  else none
def b_Day_pass_16 (v2 : Int32) (x : (Sg × Int32)) : Option ((Sg × Int32) ⊕ (Sg × Int32)) :=
  if 10 ≤ x.2 then
    some (.inr (x.1, x.2))
  else
    lt (pI x.1 31 7 x.2 : Sg) fun s4 =>
    (s_Day_lookAround s4 ).bind fun q5 =>
    (s_Day_chosen q5 ).bind fun q6 =>
    (s_Day_stepTowards q5 q6).bind fun q7 =>
    if v2 = 0 then
      j_Day_pass_53i16 v2 q7 v2 x.2
    else
      (s_Day_stepTowards q7 q6).bind fun q13 =>
      j_Day_pass_53i16 v2 q13 v2 x.2
def s_Day_pass (σ : Sg) (a1 : Int32) : Option Sg :=
  (s_Day_begin σ a1).bind fun q1 =>
  (s_Town_isQuick q1 a1).bind fun q2 =>
  (lp (b_Day_pass_16 q2) 100000 (q1, 0)).bind fun o14 =>
  some o14.1
set_option maxRecDepth 100000 in
set_option maxHeartbeats 4000000 in
theorem wj_Day_pass_53i16 (v2 : Int32) (σ : Sg) (v2 : Int32) (v3 : Int32) (r : Option Value) (τ : Sg) (o : ((Sg × Int32) ⊕ (Sg × Int32))) (h : (j_Day_pass_53i16 v2 σ v2 v3) = some o) (hc : ∀ y : (Sg × Int32), o = .inl y → Ev M_X0_pass 4 r τ 16 [(0, .ref 31), (2, .int v2), (3, .int y.2)] [] y.1) (he : ∀ y : (Sg × Int32), o = .inr y → Ev M_X0_pass 4 r τ 73 [] [] y.1) : Ev M_X0_pass 4 r τ 53 [(0, .ref 31), (2, .int v2), (3, .int v3)] [] σ := by
  unfold j_Day_pass_53i16 at h
  refine Ev_aload_n 0 (dt_X0_pass.at 29 rfl) rfl ?_
  obtain ⟨q9, hq9, h⟩ := oBind h
  refine Ev_callV (st := []) (st' := []) [] (dt_X0_pass.at 30 rfl) cf_X0_75 (w_Day_doErrands σ  q9 hq9) (by decide) sk_31 rfl rfl rfl (Nat.le_of_ble_eq_true rfl) rfl ?_
  refine Ev_aload_n 0 (dt_X0_pass.at 31 rfl) rfl ?_
  refine Ev_get (i := 6) (v := .ref 37) (dt_X0_pass.at 32 rfl) ff_X0_31 sk_31 rfl rfl ?_
  refine Ev_iload_n 2 (dt_X0_pass.at 33 rfl) rfl ?_
  refine Ev_aload_n 0 (dt_X0_pass.at 34 rfl) rfl ?_
  refine Ev_get (i := 8) (v := .int (gI q9 31 8)) (dt_X0_pass.at 35 rfl) ff_X0_78 sk_31 rfl rfl ?_
  obtain ⟨g10, h⟩ := oGuard h
  refine Ev_iastore 37 (dt_X0_pass.at 36 rfl) sk_37 g10 ?_
  refine Ev_nmS (fun s11 es11 => ?_)
  replace h := oLt h es11
  obtain ⟨x12, ex12⟩ : ∃ z : Int32, z = v3 + 1 := ⟨_, rfl⟩
  replace h := oLt h ex12
  refine Ev_iinc (v := x12) 2 (dt_X0_pass.at 37 rfl) rfl (ex12.trans (by rw [ki_1])) (by decide) (ls' := [(3, .int x12), (0, .ref 31), (2, .int v2)]) rfl ?_
  refine Ev_goto (tgt := 16) (dt_X0_pass.at 38 rfl) (by decide) ?_
  refine Ev_sub [1, 2, 0] (ls' := [(0, .ref 31), (2, .int v2), (3, .int x12)]) rfl ?_
  exact hc _ (Option.some.inj h).symm
set_option maxRecDepth 100000 in
set_option maxHeartbeats 4000000 in
theorem wb_Day_pass_16 (v2 : Int32) (x : (Sg × Int32)) (r : Option Value) (τ : Sg) (o : ((Sg × Int32) ⊕ (Sg × Int32))) (h : (b_Day_pass_16 v2 x) = some o) (hc : ∀ y : (Sg × Int32), o = .inl y → Ev M_X0_pass 4 r τ 16 [(0, .ref 31), (2, .int v2), (3, .int y.2)] [] y.1) (he : ∀ y : (Sg × Int32), o = .inr y → Ev M_X0_pass 4 r τ 73 [] [] y.1) : Ev M_X0_pass 4 r τ 16 [(0, .ref 31), (2, .int v2), (3, .int x.2)] [] x.1 := by
  unfold b_Day_pass_16 at h
  refine Ev_iload_n 2 (dt_X0_pass.at 10 rfl) rfl ?_
  refine Ev_bipush (dt_X0_pass.at 11 rfl) kb_10 ?_
  refine Ev_icmp_ge (tgt := 73) (dt_X0_pass.at 12 rfl) (by decide) (fun c3 => ?_) (fun c3 => ?_)
  · replace h := oPos h c3
    refine Ev_sub [] (ls' := []) rfl ?_
    exact he _ (Option.some.inj h).symm
  · replace h := oNeg h c3
    refine Ev_aload_n 0 (dt_X0_pass.at 13 rfl) rfl ?_
    refine Ev_iload_n 2 (dt_X0_pass.at 14 rfl) rfl ?_
    refine Ev_putI (dt_X0_pass.at 15 rfl) ff_X0_61 fw_0_7 sk_31 rfl ?_
    refine Ev_nmS (fun s4 es4 => ?_)
    replace h := oLt h es4
    refine Ev_aload_n 0 (dt_X0_pass.at 16 rfl) rfl ?_
    obtain ⟨q5, hq5, h⟩ := oBind h
    refine Ev_callV (st := []) (st' := []) [] (dt_X0_pass.at 17 rfl) cf_X0_65 (w_Day_lookAround s4  q5 hq5) (by decide) sk_31 rfl rfl rfl (Nat.le_of_ble_eq_true rfl) rfl ?_
    refine Ev_aload_n 0 (dt_X0_pass.at 18 rfl) rfl ?_
    obtain ⟨q6, hq6, h⟩ := oBind h
    refine Ev_callV (st := []) (st' := [.int q6]) [] (dt_X0_pass.at 19 rfl) cf_X0_68 (w_Day_chosen q5  q6 hq6) (by decide) sk_31 rfl rfl rfl (Nat.le_of_ble_eq_true rfl) rfl ?_
    refine Ev_istore (dt_X0_pass.at 20 rfl) (by decide) (ls' := [(4, .int q6), (0, .ref 31), (2, .int v2), (3, .int x.2)]) rfl ?_
    refine Ev_aload_n 1 (dt_X0_pass.at 21 rfl) rfl ?_
    refine Ev_iload 0 (dt_X0_pass.at 22 rfl) rfl ?_
    obtain ⟨q7, hq7, h⟩ := oBind h
    refine Ev_callV (st := []) (st' := []) [.int q6] (dt_X0_pass.at 23 rfl) cf_X0_72 (w_Day_stepTowards q5 q6 q7 hq7) (by decide) sk_31 rfl rfl rfl (Nat.le_of_ble_eq_true rfl) rfl ?_
    refine Ev_iload_n 2 (dt_X0_pass.at 24 rfl) rfl ?_
    refine Ev_if_eq (tgt := 53) (dt_X0_pass.at 25 rfl) (by decide) (fun c8 => ?_) (fun c8 => ?_)
    · replace h := oPos h c8
      refine Ev_sub [1, 2, 3] (ls' := [(0, .ref 31), (2, .int v2), (3, .int x.2)]) rfl ?_
      exact wj_Day_pass_53i16 v2 q7 v2 x.2 _ _ _ h hc he
    · replace h := oNeg h c8
      refine Ev_aload_n 1 (dt_X0_pass.at 26 rfl) rfl ?_
      refine Ev_iload 0 (dt_X0_pass.at 27 rfl) rfl ?_
      obtain ⟨q13, hq13, h⟩ := oBind h
      refine Ev_callV (st := []) (st' := []) [.int q6] (dt_X0_pass.at 28 rfl) cf_X0_72 (w_Day_stepTowards q7 q6 q13 hq13) (by decide) sk_31 rfl rfl rfl (Nat.le_of_ble_eq_true rfl) rfl ?_
      refine Ev_sub [1, 2, 3] (ls' := [(0, .ref 31), (2, .int v2), (3, .int x.2)]) rfl ?_
      exact wj_Day_pass_53i16 v2 q13 v2 x.2 _ _ _ h hc he
set_option maxRecDepth 100000 in
set_option maxHeartbeats 4000000 in
theorem wl_Day_pass_16 (v2 : Int32) (r : Option Value) (τ : Sg) (n : Nat) (x : (Sg × Int32)) (z : (Sg × Int32)) (h : lp (b_Day_pass_16 v2) n x = some z) (he : ∀ y : (Sg × Int32), z = y → Ev M_X0_pass 4 r τ 73 [] [] y.1) : Ev M_X0_pass 4 r τ 16 [(0, .ref 31), (2, .int v2), (3, .int x.2)] [] x.1 := by
  refine lp_ind (E := fun x : (Sg × Int32) => Ev M_X0_pass 4 r τ 16 [(0, .ref 31), (2, .int v2), (3, .int x.2)] [] x.1) (fun x => ⟨fun y hb hy => ?_, fun hb => ?_⟩) n x h
  · exact wb_Day_pass_16 v2 x r τ _ hb (fun y' e => by cases e; exact hy) (fun y' e => by cases e)
  · exact wb_Day_pass_16 v2 x r τ _ hb (fun y' e => by cases e) (fun y' e => he y' (Sum.inr.inj e))
set_option maxRecDepth 100000 in
set_option maxHeartbeats 4000000 in
theorem w_Day_pass (σ : Sg) (a1 : Int32) (q : Sg) (h : s_Day_pass σ a1 = some q) : Cal M_X0_pass 4 [.ref 31, .int a1] σ none q := by
  refine Cal.of (M := M_X0_pass) (by decide +kernel) (Nat.le_of_ble_eq_true rfl) ?_
  show Ev _ _ _ _ 0 [(0, .ref 31), (1, .int a1)] [] σ
  unfold s_Day_pass at h
  refine Ev_aload_n 0 (dt_X0_pass.at 0 rfl) rfl ?_
  refine Ev_iload_n 1 (dt_X0_pass.at 1 rfl) rfl ?_
  obtain ⟨q1, hq1, h⟩ := oBind h
  refine Ev_callV (st := []) (st' := []) [.int a1] (dt_X0_pass.at 2 rfl) cf_X0_51 (w_Day_begin σ a1 q1 hq1) (by decide) sk_31 rfl rfl rfl (Nat.le_of_ble_eq_true rfl) rfl ?_
  refine Ev_aload_n 0 (dt_X0_pass.at 3 rfl) rfl ?_
  refine Ev_get (i := 0) (v := .ref 19) (dt_X0_pass.at 4 rfl) ff_X0_34 sk_31 rfl rfl ?_
  refine Ev_iload_n 1 (dt_X0_pass.at 5 rfl) rfl ?_
  obtain ⟨q2, hq2, h⟩ := oBind h
  refine Ev_callV (st := []) (st' := [.int q2]) [.int a1] (dt_X0_pass.at 6 rfl) cf_X0_55 (w_Town_isQuick q1 a1 q2 hq2) (by decide) sk_19 rfl rfl rfl (Nat.le_of_ble_eq_true rfl) rfl ?_
  refine Ev_istore_n (dt_X0_pass.at 7 rfl) (by decide) (ls' := [(2, .int q2), (0, .ref 31), (1, .int a1)]) rfl ?_
  refine Ev_iconst (dt_X0_pass.at 8 rfl) ki_0 ?_
  refine Ev_istore_n (dt_X0_pass.at 9 rfl) (by decide) (ls' := [(3, .int 0), (2, .int q2), (0, .ref 31), (1, .int a1)]) rfl ?_
  refine Ev_sub [2, 1, 0] (ls' := [(0, .ref 31), (2, .int q2), (3, .int 0)]) rfl ?_
  obtain ⟨o14, ho14, h⟩ := oBind h
  refine wl_Day_pass_16 q2 _ _ _ _ o14 ho14 (fun y ey => ?_)
  subst ey
  exact Ev_vret (dt_X0_pass.at 39 rfl) rfl h
