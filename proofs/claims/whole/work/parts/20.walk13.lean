def s_x_rope (σ : Sg) (a1 : Int32) (a2 : Int32) (a3 : Int32) : Option (Int32 × Sg) :=
  (s_x_isStrength a1).bind fun q1 =>
  if q1 = 0 then
    (s_x_refusedBad σ (-2)).bind fun q3 =>
    some (q3.1, q3.2)
  else
    (s_x_isStrength a2).bind fun q4 =>
    if q4 = 0 then
      (s_x_refusedBad σ (-2)).bind fun q6 =>
      some (q6.1, q6.2)
    else
      if a3 < 0 then
        (s_x_refusedBad σ (-2)).bind fun q8 =>
        some (q8.1, q8.2)
      else
        if a3 ≤ 2 then
          (s_x_ropeEnd a1 a2 a3).bind fun q10 =>
          some (q10, σ)
        else
          (s_x_refusedBad σ (-2)).bind fun q11 =>
          some (q11.1, q11.2)
set_option maxRecDepth 100000 in
set_option maxHeartbeats 4000000 in
theorem w_x_rope (σ : Sg) (a1 : Int32) (a2 : Int32) (a3 : Int32) (q : (Int32 × Sg)) (h : s_x_rope σ a1 a2 a3 = some q) : Cal M_X11_rope 2 [.ref 0, .int a1, .int a2, .int a3] σ (some (.int q.1)) q.2 := by
  refine Cal.of (M := M_X11_rope) (by decide +kernel) (Nat.le_of_ble_eq_true rfl) ?_
  show Ev _ _ _ _ 0 [(0, .ref 0), (1, .int a1), (2, .int a2), (3, .int a3)] [] σ
  unfold s_x_rope at h
  refine Ev_iload_n 1 (dt_X11_rope.at 0 rfl) rfl ?_
  obtain ⟨q1, hq1, h⟩ := oBind h
  refine Ev_callS (st := []) (st' := [.int q1]) [.int a1] (dt_X11_rope.at 1 rfl) cf_X11_205 (w_x_isStrength σ a1 q1 hq1) (by decide) rfl rfl (Nat.le_of_ble_eq_true rfl) rfl ?_
  refine Ev_if_eq (tgt := 23) (dt_X11_rope.at 2 rfl) (by decide) (fun c2 => ?_) (fun c2 => ?_)
  · replace h := oPos h c2
    refine Ev_aload_n 0 (dt_X11_rope.at 11 rfl) rfl ?_
    refine Ev_bipush (dt_X11_rope.at 12 rfl) kb_m2 ?_
    obtain ⟨q3, hq3, h⟩ := oBind h
    refine Ev_callV (st := []) (st' := [.int q3.1]) [.int (-2)] (dt_X11_rope.at 13 rfl) cf_X11_68 (w_x_refusedBad σ (-2) q3 hq3) (by decide) sk_0 rfl rfl rfl (Nat.le_of_ble_eq_true rfl) rfl ?_
    exact Ev_iret (dt_X11_rope.at 14 rfl) rfl h
  · replace h := oNeg h c2
    refine Ev_iload_n 2 (dt_X11_rope.at 3 rfl) rfl ?_
    obtain ⟨q4, hq4, h⟩ := oBind h
    refine Ev_callS (st := []) (st' := [.int q4]) [.int a2] (dt_X11_rope.at 4 rfl) cf_X11_205 (w_x_isStrength σ a2 q4 hq4) (by decide) rfl rfl (Nat.le_of_ble_eq_true rfl) rfl ?_
    refine Ev_if_eq (tgt := 23) (dt_X11_rope.at 5 rfl) (by decide) (fun c5 => ?_) (fun c5 => ?_)
    · replace h := oPos h c5
      refine Ev_aload_n 0 (dt_X11_rope.at 11 rfl) rfl ?_
      refine Ev_bipush (dt_X11_rope.at 12 rfl) kb_m2 ?_
      obtain ⟨q6, hq6, h⟩ := oBind h
      refine Ev_callV (st := []) (st' := [.int q6.1]) [.int (-2)] (dt_X11_rope.at 13 rfl) cf_X11_68 (w_x_refusedBad σ (-2) q6 hq6) (by decide) sk_0 rfl rfl rfl (Nat.le_of_ble_eq_true rfl) rfl ?_
      exact Ev_iret (dt_X11_rope.at 14 rfl) rfl h
    · replace h := oNeg h c5
      refine Ev_iload_n 3 (dt_X11_rope.at 6 rfl) rfl ?_
      refine Ev_if_lt (tgt := 23) (dt_X11_rope.at 7 rfl) (by decide) (fun c7 => ?_) (fun c7 => ?_)
      · replace h := oPos h c7
        refine Ev_aload_n 0 (dt_X11_rope.at 11 rfl) rfl ?_
        refine Ev_bipush (dt_X11_rope.at 12 rfl) kb_m2 ?_
        obtain ⟨q8, hq8, h⟩ := oBind h
        refine Ev_callV (st := []) (st' := [.int q8.1]) [.int (-2)] (dt_X11_rope.at 13 rfl) cf_X11_68 (w_x_refusedBad σ (-2) q8 hq8) (by decide) sk_0 rfl rfl rfl (Nat.le_of_ble_eq_true rfl) rfl ?_
        exact Ev_iret (dt_X11_rope.at 14 rfl) rfl h
      · replace h := oNeg h c7
        refine Ev_iload_n 3 (dt_X11_rope.at 8 rfl) rfl ?_
        refine Ev_iconst (dt_X11_rope.at 9 rfl) ki_2 ?_
        refine Ev_icmp_le (tgt := 30) (dt_X11_rope.at 10 rfl) (by decide) (fun c9 => ?_) (fun c9 => ?_)
        · replace h := oPos h c9
          refine Ev_iload_n 1 (dt_X11_rope.at 15 rfl) rfl ?_
          refine Ev_iload_n 2 (dt_X11_rope.at 16 rfl) rfl ?_
          refine Ev_iload_n 3 (dt_X11_rope.at 17 rfl) rfl ?_
          obtain ⟨q10, hq10, h⟩ := oBind h
          refine Ev_callS (st := []) (st' := [.int q10]) [.int a1, .int a2, .int a3] (dt_X11_rope.at 18 rfl) cf_X11_208 (w_x_ropeEnd σ a1 a2 a3 q10 hq10) (by decide) rfl rfl (Nat.le_of_ble_eq_true rfl) rfl ?_
          exact Ev_iret (dt_X11_rope.at 19 rfl) rfl h
        · replace h := oNeg h c9
          refine Ev_aload_n 0 (dt_X11_rope.at 11 rfl) rfl ?_
          refine Ev_bipush (dt_X11_rope.at 12 rfl) kb_m2 ?_
          obtain ⟨q11, hq11, h⟩ := oBind h
          refine Ev_callV (st := []) (st' := [.int q11.1]) [.int (-2)] (dt_X11_rope.at 13 rfl) cf_X11_68 (w_x_refusedBad σ (-2) q11 hq11) (by decide) sk_0 rfl rfl rfl (Nat.le_of_ble_eq_true rfl) rfl ?_
          exact Ev_iret (dt_X11_rope.at 14 rfl) rfl h
def s_Scene_addSight (σ : Sg) (a1 : Int32) (a2 : Int32) (a3 : Int32) : Option (Int32 × Sg) :=
  if (gI σ 25 7) < 5 then
    if inB (gI σ 25 7) 5 = true then
      lt (pI σ 28 (Int32.toNatClampNeg (gI σ 25 7)) a1 : Sg) fun s3 =>
      if inB (gI s3 25 7) 5 = true then
        lt (pI s3 29 (Int32.toNatClampNeg (gI s3 25 7)) a2 : Sg) fun s5 =>
        if inB (gI s5 25 7) 5 = true then
          lt (pI s5 30 (Int32.toNatClampNeg (gI s5 25 7)) a3 : Sg) fun s7 =>
          lt (pI s7 25 7 ((gI s7 25 7) + 1) : Sg) fun s8 =>
          some (((gI s8 25 7) - 1), s8)
        else none
      else none
    else none
  else
    some ((-1), σ)
set_option maxRecDepth 100000 in
set_option maxHeartbeats 4000000 in
theorem w_Scene_addSight (σ : Sg) (a1 : Int32) (a2 : Int32) (a3 : Int32) (q : (Int32 × Sg)) (h : s_Scene_addSight σ a1 a2 a3 = some q) : Cal M_X6_addSight 0 [.ref 25, .int a1, .int a2, .int a3] σ (some (.int q.1)) q.2 := by
  refine Cal.of (M := M_X6_addSight) (by decide +kernel) (Nat.le_of_ble_eq_true rfl) ?_
  show Ev _ _ _ _ 0 [(0, .ref 25), (1, .int a1), (2, .int a2), (3, .int a3)] [] σ
  unfold s_Scene_addSight at h
  refine Ev_aload_n 0 (dt_X6_addSight.at 0 rfl) rfl ?_
  refine Ev_get (i := 7) (v := .int (gI σ 25 7)) (dt_X6_addSight.at 1 rfl) ff_X6_35 sk_25 rfl rfl ?_
  refine Ev_iconst (dt_X6_addSight.at 2 rfl) ki_5 ?_
  refine Ev_icmp_lt (tgt := 10) (dt_X6_addSight.at 3 rfl) (by decide) (fun c1 => ?_) (fun c1 => ?_)
  · replace h := oPos h c1
    refine Ev_aload_n 0 (dt_X6_addSight.at 6 rfl) rfl ?_
    refine Ev_get (i := 3) (v := .ref 28) (dt_X6_addSight.at 7 rfl) ff_X6_18 sk_25 rfl rfl ?_
    refine Ev_aload_n 0 (dt_X6_addSight.at 8 rfl) rfl ?_
    refine Ev_get (i := 7) (v := .int (gI σ 25 7)) (dt_X6_addSight.at 9 rfl) ff_X6_35 sk_25 rfl rfl ?_
    refine Ev_iload_n 1 (dt_X6_addSight.at 10 rfl) rfl ?_
    obtain ⟨g2, h⟩ := oGuard h
    refine Ev_iastore 28 (dt_X6_addSight.at 11 rfl) sk_28 g2 ?_
    refine Ev_nmS (fun s3 es3 => ?_)
    replace h := oLt h es3
    refine Ev_aload_n 0 (dt_X6_addSight.at 12 rfl) rfl ?_
    refine Ev_get (i := 4) (v := .ref 29) (dt_X6_addSight.at 13 rfl) ff_X6_21 sk_25 rfl rfl ?_
    refine Ev_aload_n 0 (dt_X6_addSight.at 14 rfl) rfl ?_
    refine Ev_get (i := 7) (v := .int (gI s3 25 7)) (dt_X6_addSight.at 15 rfl) ff_X6_35 sk_25 rfl rfl ?_
    refine Ev_iload_n 2 (dt_X6_addSight.at 16 rfl) rfl ?_
    obtain ⟨g4, h⟩ := oGuard h
    refine Ev_iastore 29 (dt_X6_addSight.at 17 rfl) sk_29 g4 ?_
    refine Ev_nmS (fun s5 es5 => ?_)
    replace h := oLt h es5
    refine Ev_aload_n 0 (dt_X6_addSight.at 18 rfl) rfl ?_
    refine Ev_get (i := 5) (v := .ref 30) (dt_X6_addSight.at 19 rfl) ff_X6_24 sk_25 rfl rfl ?_
    refine Ev_aload_n 0 (dt_X6_addSight.at 20 rfl) rfl ?_
    refine Ev_get (i := 7) (v := .int (gI s5 25 7)) (dt_X6_addSight.at 21 rfl) ff_X6_35 sk_25 rfl rfl ?_
    refine Ev_iload_n 3 (dt_X6_addSight.at 22 rfl) rfl ?_
    obtain ⟨g6, h⟩ := oGuard h
    refine Ev_iastore 30 (dt_X6_addSight.at 23 rfl) sk_30 g6 ?_
    refine Ev_nmS (fun s7 es7 => ?_)
    replace h := oLt h es7
    refine Ev_aload_n 0 (dt_X6_addSight.at 24 rfl) rfl ?_
    refine Ev_dup (dt_X6_addSight.at 25 rfl) rfl ?_
    refine Ev_get (i := 7) (v := .int (gI s7 25 7)) (dt_X6_addSight.at 26 rfl) ff_X6_35 sk_25 rfl rfl ?_
    refine Ev_iconst (dt_X6_addSight.at 27 rfl) ki_1 ?_
    refine Ev_iadd (dt_X6_addSight.at 28 rfl) ?_
    refine Ev_putI (dt_X6_addSight.at 29 rfl) ff_X6_35 fw_6_7 sk_25 rfl ?_
    refine Ev_nmS (fun s8 es8 => ?_)
    replace h := oLt h es8
    refine Ev_aload_n 0 (dt_X6_addSight.at 30 rfl) rfl ?_
    refine Ev_get (i := 7) (v := .int (gI s8 25 7)) (dt_X6_addSight.at 31 rfl) ff_X6_35 sk_25 rfl rfl ?_
    refine Ev_iconst (dt_X6_addSight.at 32 rfl) ki_1 ?_
    refine Ev_isub (dt_X6_addSight.at 33 rfl) ?_
    exact Ev_iret (dt_X6_addSight.at 34 rfl) rfl h
  · replace h := oNeg h c1
    refine Ev_iconst (dt_X6_addSight.at 4 rfl) ki_m1 ?_
    exact Ev_iret (dt_X6_addSight.at 5 rfl) rfl h
def s_x_sight (σ : Sg) (a1 : Int32) (a2 : Int32) (a3 : Int32) : Option (Int32 × Sg) :=
  (s_Town_hasPerson σ a1).bind fun q1 =>
  if q1 = 0 then
    (s_x_refusedBad σ (-2)).bind fun q3 =>
    some (q3.1, q3.2)
  else
    (s_Town_hasPlace σ a2).bind fun q4 =>
    if q4 = 0 then
      (s_x_refusedBad σ (-2)).bind fun q6 =>
      some (q6.1, q6.2)
    else
      (s_x_isHour a3).bind fun q7 =>
      if q7 = 0 then
        (s_x_refusedBad σ (-2)).bind fun q12 =>
        some (q12.1, q12.2)
      else
        if (gI σ 25 7) < 5 then
          (s_Scene_addSight σ a1 a2 a3).bind fun q10 =>
          some (q10.1, q10.2)
        else
          (s_x_refusedFull σ ).bind fun q11 =>
          some (q11.1, q11.2)
set_option maxRecDepth 100000 in
set_option maxHeartbeats 4000000 in
theorem w_x_sight (σ : Sg) (a1 : Int32) (a2 : Int32) (a3 : Int32) (q : (Int32 × Sg)) (h : s_x_sight σ a1 a2 a3 = some q) : Cal M_X11_sight 1 [.ref 0, .int a1, .int a2, .int a3] σ (some (.int q.1)) q.2 := by
  refine Cal.of (M := M_X11_sight) (by decide +kernel) (Nat.le_of_ble_eq_true rfl) ?_
  show Ev _ _ _ _ 0 [(0, .ref 0), (1, .int a1), (2, .int a2), (3, .int a3)] [] σ
  unfold s_x_sight at h
  refine Ev_aload_n 0 (dt_X11_sight.at 0 rfl) rfl ?_
  refine Ev_get (i := 0) (v := .ref 25) (dt_X11_sight.at 1 rfl) ff_X11_50 sk_0 rfl rfl ?_
  refine Ev_get (i := 0) (v := .ref 19) (dt_X11_sight.at 2 rfl) ff_X11_72 sk_25 rfl rfl ?_
  refine Ev_astore (dt_X11_sight.at 3 rfl) (by decide) (ls' := [(4, .ref 19), (0, .ref 0), (1, .int a1), (2, .int a2), (3, .int a3)]) rfl ?_
  refine Ev_aload 0 (dt_X11_sight.at 4 rfl) rfl ?_
  refine Ev_iload_n 2 (dt_X11_sight.at 5 rfl) rfl ?_
  obtain ⟨q1, hq1, h⟩ := oBind h
  refine Ev_callV (st := []) (st' := [.int q1]) [.int a1] (dt_X11_sight.at 6 rfl) cf_X11_101 (w_Town_hasPerson σ a1 q1 hq1) (by decide) sk_19 rfl rfl rfl (Nat.le_of_ble_eq_true rfl) rfl ?_
  refine Ev_if_eq (tgt := 34) (dt_X11_sight.at 7 rfl) (by decide) (fun c2 => ?_) (fun c2 => ?_)
  · replace h := oPos h c2
    refine Ev_aload_n 1 (dt_X11_sight.at 15 rfl) rfl ?_
    refine Ev_bipush (dt_X11_sight.at 16 rfl) kb_m2 ?_
    obtain ⟨q3, hq3, h⟩ := oBind h
    refine Ev_callV (st := []) (st' := [.int q3.1]) [.int (-2)] (dt_X11_sight.at 17 rfl) cf_X11_68 (w_x_refusedBad σ (-2) q3 hq3) (by decide) sk_0 rfl rfl rfl (Nat.le_of_ble_eq_true rfl) rfl ?_
    exact Ev_iret (dt_X11_sight.at 18 rfl) rfl h
  · replace h := oNeg h c2
    refine Ev_aload 0 (dt_X11_sight.at 8 rfl) rfl ?_
    refine Ev_iload_n 3 (dt_X11_sight.at 9 rfl) rfl ?_
    obtain ⟨q4, hq4, h⟩ := oBind h
    refine Ev_callV (st := []) (st' := [.int q4]) [.int a2] (dt_X11_sight.at 10 rfl) cf_X11_105 (w_Town_hasPlace σ a2 q4 hq4) (by decide) sk_19 rfl rfl rfl (Nat.le_of_ble_eq_true rfl) rfl ?_
    refine Ev_if_eq (tgt := 34) (dt_X11_sight.at 11 rfl) (by decide) (fun c5 => ?_) (fun c5 => ?_)
    · replace h := oPos h c5
      refine Ev_aload_n 1 (dt_X11_sight.at 15 rfl) rfl ?_
      refine Ev_bipush (dt_X11_sight.at 16 rfl) kb_m2 ?_
      obtain ⟨q6, hq6, h⟩ := oBind h
      refine Ev_callV (st := []) (st' := [.int q6.1]) [.int (-2)] (dt_X11_sight.at 17 rfl) cf_X11_68 (w_x_refusedBad σ (-2) q6 hq6) (by decide) sk_0 rfl rfl rfl (Nat.le_of_ble_eq_true rfl) rfl ?_
      exact Ev_iret (dt_X11_sight.at 18 rfl) rfl h
    · replace h := oNeg h c5
      refine Ev_iload_n 4 (dt_X11_sight.at 12 rfl) rfl ?_
      obtain ⟨q7, hq7, h⟩ := oBind h
      refine Ev_callS (st := []) (st' := [.int q7]) [.int a3] (dt_X11_sight.at 13 rfl) cf_X11_108 (w_x_isHour σ a3 q7 hq7) (by decide) rfl rfl (Nat.le_of_ble_eq_true rfl) rfl ?_
      refine Ev_if_ne (tgt := 41) (dt_X11_sight.at 14 rfl) (by decide) (fun c8 => ?_) (fun c8 => ?_)
      · replace h := oNeg h c8
        refine Ev_aload_n 1 (dt_X11_sight.at 19 rfl) rfl ?_
        refine Ev_get (i := 0) (v := .ref 25) (dt_X11_sight.at 20 rfl) ff_X11_50 sk_0 rfl rfl ?_
        refine Ev_get (i := 7) (v := .int (gI σ 25 7)) (dt_X11_sight.at 21 rfl) ff_X11_211 sk_25 rfl rfl ?_
        refine Ev_iconst (dt_X11_sight.at 22 rfl) ki_5 ?_
        refine Ev_icmp_lt (tgt := 57) (dt_X11_sight.at 23 rfl) (by decide) (fun c9 => ?_) (fun c9 => ?_)
        · replace h := oPos h c9
          refine Ev_aload_n 1 (dt_X11_sight.at 27 rfl) rfl ?_
          refine Ev_get (i := 0) (v := .ref 25) (dt_X11_sight.at 28 rfl) ff_X11_50 sk_0 rfl rfl ?_
          refine Ev_iload_n 2 (dt_X11_sight.at 29 rfl) rfl ?_
          refine Ev_iload_n 3 (dt_X11_sight.at 30 rfl) rfl ?_
          refine Ev_iload_n 4 (dt_X11_sight.at 31 rfl) rfl ?_
          obtain ⟨q10, hq10, h⟩ := oBind h
          refine Ev_callV (st := []) (st' := [.int q10.1]) [.int a1, .int a2, .int a3] (dt_X11_sight.at 32 rfl) cf_X11_214 (w_Scene_addSight σ a1 a2 a3 q10 hq10) (by decide) sk_25 rfl rfl rfl (Nat.le_of_ble_eq_true rfl) rfl ?_
          exact Ev_iret (dt_X11_sight.at 33 rfl) rfl h
        · replace h := oNeg h c9
          refine Ev_aload_n 1 (dt_X11_sight.at 24 rfl) rfl ?_
          obtain ⟨q11, hq11, h⟩ := oBind h
          refine Ev_callV (st := []) (st' := [.int q11.1]) [] (dt_X11_sight.at 25 rfl) cf_X11_93 (w_x_refusedFull σ  q11 hq11) (by decide) sk_0 rfl rfl rfl (Nat.le_of_ble_eq_true rfl) rfl ?_
          exact Ev_iret (dt_X11_sight.at 26 rfl) rfl h
      · replace h := oPos h c8
        refine Ev_aload_n 1 (dt_X11_sight.at 15 rfl) rfl ?_
        refine Ev_bipush (dt_X11_sight.at 16 rfl) kb_m2 ?_
        obtain ⟨q12, hq12, h⟩ := oBind h
        refine Ev_callV (st := []) (st' := [.int q12.1]) [.int (-2)] (dt_X11_sight.at 17 rfl) cf_X11_68 (w_x_refusedBad σ (-2) q12 hq12) (by decide) sk_0 rfl rfl rfl (Nat.le_of_ble_eq_true rfl) rfl ?_
        exact Ev_iret (dt_X11_sight.at 18 rfl) rfl h
def s_x_blind (σ : Sg)  : Option (Int32 × Sg) :=
  lt ((gI σ 25 7) : Int32) fun x1 =>
  lt (pI σ 25 7 0 : Sg) fun s2 =>
  some (x1, s2)
set_option maxRecDepth 100000 in
set_option maxHeartbeats 4000000 in
theorem w_x_blind (σ : Sg)  (q : (Int32 × Sg)) (h : s_x_blind σ  = some q) : Cal M_X11_blind 0 [.ref 0] σ (some (.int q.1)) q.2 := by
  refine Cal.of (M := M_X11_blind) (by decide +kernel) (Nat.le_of_ble_eq_true rfl) ?_
  show Ev _ _ _ _ 0 [(0, .ref 0)] [] σ
  unfold s_x_blind at h
  refine Ev_aload_n 0 (dt_X11_blind.at 0 rfl) rfl ?_
  refine Ev_get (i := 0) (v := .ref 25) (dt_X11_blind.at 1 rfl) ff_X11_50 sk_0 rfl rfl ?_
  refine Ev_get (i := 7) (v := .int (gI σ 25 7)) (dt_X11_blind.at 2 rfl) ff_X11_211 sk_25 rfl rfl ?_
  refine Ev_nmI (fun x1 ex1 => ?_)
  replace h := oLt h ex1
  refine Ev_istore_n (dt_X11_blind.at 3 rfl) (by decide) (ls' := [(1, .int x1), (0, .ref 0)]) rfl ?_
  refine Ev_aload_n 1 (dt_X11_blind.at 4 rfl) rfl ?_
  refine Ev_get (i := 0) (v := .ref 25) (dt_X11_blind.at 5 rfl) ff_X11_50 sk_0 rfl rfl ?_
  refine Ev_iconst (dt_X11_blind.at 6 rfl) ki_0 ?_
  refine Ev_putI (dt_X11_blind.at 7 rfl) ff_X11_211 fw_6_7 sk_25 rfl ?_
  refine Ev_nmS (fun s2 es2 => ?_)
  replace h := oLt h es2
  refine Ev_iload_n 0 (dt_X11_blind.at 8 rfl) rfl ?_
  exact Ev_iret (dt_X11_blind.at 9 rfl) rfl h
def b_x_mayHaveBeen_10 (σ : Sg) (v2 : Int32) (x : Int32) : Option (Int32 ⊕ (Int32 ⊕ (Int32 × Sg))) :=
  if (gI σ 25 7) ≤ x then
    some (.inr (.inl x))
  else
    if inB x 5 = true then
      lt ((gI σ 30 (Int32.toNatClampNeg x)) : Int32) fun x4 =>
      if inB x 5 = true then
        if (gI σ 28 (Int32.toNatClampNeg x)) = v2 then
          if inB x4 10 = true then
            if inB x 5 = true then
              if (gI σ 37 (Int32.toNatClampNeg x4)) = (gI σ 29 (Int32.toNatClampNeg x)) then
                lt (x + 1 : Int32) fun x11 =>
                some (.inl x11)
              else
                some (.inr (.inr (0, σ)))
            else none
          else none
        else
          lt (x + 1 : Int32) fun x7 =>
          some (.inl x7)
      else none
    else none
def s_x_mayHaveBeen (σ : Sg) (a1 : Int32) (a2 : Int32) : Option (Int32 × Sg) :=
  (s_Day_pass σ a1).bind fun q1 =>
  (lp (b_x_mayHaveBeen_10 q1 a2) 100000 0).bind fun o12 =>
  oElim o12 (fun y13 =>
    some (1, q1)) (fun q14 => some q14)
set_option maxRecDepth 100000 in
set_option maxHeartbeats 4000000 in
theorem wb_x_mayHaveBeen_10 (σ : Sg) (v2 : Int32) (x : Int32) (r : Option Value) (τ : Sg) (o : (Int32 ⊕ (Int32 ⊕ (Int32 × Sg)))) (h : (b_x_mayHaveBeen_10 σ v2 x) = some o) (hc : ∀ y : Int32, o = .inl y → Ev M_X11_mayHaveBeen 5 r τ 10 [(0, .ref 0), (2, .int v2), (3, .int y)] [] σ) (he : ∀ y : Int32, o = .inr (.inl y) → Ev M_X11_mayHaveBeen 5 r τ 75 [] [] σ) (hr : ∀ q : (Int32 × Sg), o = .inr (.inr q) → r = (some (.int q.1)) ∧ τ = q.2) : Ev M_X11_mayHaveBeen 5 r τ 10 [(0, .ref 0), (2, .int v2), (3, .int x)] [] σ := by
  unfold b_x_mayHaveBeen_10 at h
  refine Ev_iload_n 2 (dt_X11_mayHaveBeen.at 6 rfl) rfl ?_
  refine Ev_aload_n 0 (dt_X11_mayHaveBeen.at 7 rfl) rfl ?_
  refine Ev_get (i := 0) (v := .ref 25) (dt_X11_mayHaveBeen.at 8 rfl) ff_X11_50 sk_0 rfl rfl ?_
  refine Ev_get (i := 7) (v := .int (gI σ 25 7)) (dt_X11_mayHaveBeen.at 9 rfl) ff_X11_211 sk_25 rfl rfl ?_
  refine Ev_icmp_ge (tgt := 75) (dt_X11_mayHaveBeen.at 10 rfl) (by decide) (fun c2 => ?_) (fun c2 => ?_)
  · replace h := oPos h c2
    refine Ev_sub [] (ls' := []) rfl ?_
    exact he x (Option.some.inj h).symm
  · replace h := oNeg h c2
    refine Ev_aload_n 0 (dt_X11_mayHaveBeen.at 11 rfl) rfl ?_
    refine Ev_get (i := 0) (v := .ref 25) (dt_X11_mayHaveBeen.at 12 rfl) ff_X11_50 sk_0 rfl rfl ?_
    refine Ev_get (i := 5) (v := .ref 30) (dt_X11_mayHaveBeen.at 13 rfl) ff_X11_279 sk_25 rfl rfl ?_
    refine Ev_iload_n 2 (dt_X11_mayHaveBeen.at 14 rfl) rfl ?_
    obtain ⟨g3, h⟩ := oGuard h
    refine Ev_iaload 30 (dt_X11_mayHaveBeen.at 15 rfl) sk_30 g3 ?_
    refine Ev_nmI (fun x4 ex4 => ?_)
    replace h := oLt h ex4
    refine Ev_istore (dt_X11_mayHaveBeen.at 16 rfl) (by decide) (ls' := [(4, .int x4), (0, .ref 0), (2, .int v2), (3, .int x)]) rfl ?_
    refine Ev_aload_n 1 (dt_X11_mayHaveBeen.at 17 rfl) rfl ?_
    refine Ev_get (i := 0) (v := .ref 25) (dt_X11_mayHaveBeen.at 18 rfl) ff_X11_50 sk_0 rfl rfl ?_
    refine Ev_get (i := 3) (v := .ref 28) (dt_X11_mayHaveBeen.at 19 rfl) ff_X11_282 sk_25 rfl rfl ?_
    refine Ev_iload_n 3 (dt_X11_mayHaveBeen.at 20 rfl) rfl ?_
    obtain ⟨g5, h⟩ := oGuard h
    refine Ev_iaload 28 (dt_X11_mayHaveBeen.at 21 rfl) sk_28 g5 ?_
    refine Ev_iload_n 2 (dt_X11_mayHaveBeen.at 22 rfl) rfl ?_
    refine Ev_icmp_ne (tgt := 69) (dt_X11_mayHaveBeen.at 23 rfl) (by decide) (fun c6 => ?_) (fun c6 => ?_)
    · replace h := oNeg h c6
      obtain ⟨x7, ex7⟩ : ∃ z : Int32, z = x + 1 := ⟨_, rfl⟩
      replace h := oLt h ex7
      refine Ev_iinc (v := x7) 3 (dt_X11_mayHaveBeen.at 37 rfl) rfl (ex7.trans (congrArg (fun z => x + z) ki_1.symm)) (by decide) (ls' := [(3, .int x7), (4, .int x4), (0, .ref 0), (2, .int v2)]) rfl ?_
      refine Ev_goto (tgt := 10) (dt_X11_mayHaveBeen.at 38 rfl) (by decide) ?_
      refine Ev_sub [2, 3, 0] (ls' := [(0, .ref 0), (2, .int v2), (3, .int x7)]) rfl ?_
      exact hc x7 (Option.some.inj h).symm
    · replace h := oPos h c6
      refine Ev_aload_n 1 (dt_X11_mayHaveBeen.at 24 rfl) rfl ?_
      refine Ev_get (i := 5) (v := .ref 31) (dt_X11_mayHaveBeen.at 25 rfl) ff_X11_57 sk_0 rfl rfl ?_
      refine Ev_get (i := 6) (v := .ref 37) (dt_X11_mayHaveBeen.at 26 rfl) ff_X11_141 sk_31 rfl rfl ?_
      refine Ev_iload 0 (dt_X11_mayHaveBeen.at 27 rfl) rfl ?_
      obtain ⟨g8, h⟩ := oGuard h
      refine Ev_iaload 37 (dt_X11_mayHaveBeen.at 28 rfl) sk_37 g8 ?_
      refine Ev_aload_n 1 (dt_X11_mayHaveBeen.at 29 rfl) rfl ?_
      refine Ev_get (i := 0) (v := .ref 25) (dt_X11_mayHaveBeen.at 30 rfl) ff_X11_50 sk_0 rfl rfl ?_
      refine Ev_get (i := 4) (v := .ref 29) (dt_X11_mayHaveBeen.at 31 rfl) ff_X11_285 sk_25 rfl rfl ?_
      refine Ev_iload_n 3 (dt_X11_mayHaveBeen.at 32 rfl) rfl ?_
      obtain ⟨g9, h⟩ := oGuard h
      refine Ev_iaload 29 (dt_X11_mayHaveBeen.at 33 rfl) sk_29 g9 ?_
      refine Ev_icmp_eq (tgt := 69) (dt_X11_mayHaveBeen.at 34 rfl) (by decide) (fun c10 => ?_) (fun c10 => ?_)
      · replace h := oPos h c10
        obtain ⟨x11, ex11⟩ : ∃ z : Int32, z = x + 1 := ⟨_, rfl⟩
        replace h := oLt h ex11
        refine Ev_iinc (v := x11) 3 (dt_X11_mayHaveBeen.at 37 rfl) rfl (ex11.trans (congrArg (fun z => x + z) ki_1.symm)) (by decide) (ls' := [(3, .int x11), (4, .int x4), (0, .ref 0), (2, .int v2)]) rfl ?_
        refine Ev_goto (tgt := 10) (dt_X11_mayHaveBeen.at 38 rfl) (by decide) ?_
        refine Ev_sub [2, 3, 0] (ls' := [(0, .ref 0), (2, .int v2), (3, .int x11)]) rfl ?_
        exact hc x11 (Option.some.inj h).symm
      · replace h := oNeg h c10
        refine Ev_iconst (dt_X11_mayHaveBeen.at 35 rfl) ki_0 ?_
        have hz := hr _ (Option.some.inj h).symm
        rw [hz.1, hz.2]
        exact Ev_zret (dt_X11_mayHaveBeen.at 36 rfl) rfl (by decide) rfl
set_option maxRecDepth 100000 in
set_option maxHeartbeats 4000000 in
theorem wl_x_mayHaveBeen_10 (σ : Sg) (v2 : Int32) (r : Option Value) (τ : Sg) (n : Nat) (x : Int32) (z : (Int32 ⊕ (Int32 × Sg))) (h : lp (b_x_mayHaveBeen_10 σ v2) n x = some z) (he : ∀ y : Int32, z = .inl y → Ev M_X11_mayHaveBeen 5 r τ 75 [] [] σ) (hr : ∀ q : (Int32 × Sg), z = .inr q → r = (some (.int q.1)) ∧ τ = q.2) : Ev M_X11_mayHaveBeen 5 r τ 10 [(0, .ref 0), (2, .int v2), (3, .int x)] [] σ := by
  refine lp_ind (E := fun x : Int32 => Ev M_X11_mayHaveBeen 5 r τ 10 [(0, .ref 0), (2, .int v2), (3, .int x)] [] σ) (fun x => ⟨fun y hb hy => ?_, fun hb => ?_⟩) n x h
  · exact wb_x_mayHaveBeen_10 σ v2 x r τ _ hb (fun y' e => by cases e; exact hy) (fun y' e => by cases e) (fun y' e => by cases e)
  · exact wb_x_mayHaveBeen_10 σ v2 x r τ _ hb (fun y' e => by cases e) (fun y' e => he y' (Sum.inr.inj e)) (fun y' e => hr y' (Sum.inr.inj e))
set_option maxRecDepth 100000 in
set_option maxHeartbeats 4000000 in
theorem w_x_mayHaveBeen (σ : Sg) (a1 : Int32) (a2 : Int32) (q : (Int32 × Sg)) (h : s_x_mayHaveBeen σ a1 a2 = some q) : Cal M_X11_mayHaveBeen 5 [.ref 0, .int a1, .int a2] σ (some (.int q.1)) q.2 := by
  refine Cal.of (M := M_X11_mayHaveBeen) (by decide +kernel) (Nat.le_of_ble_eq_true rfl) ?_
  show Ev _ _ _ _ 0 [(0, .ref 0), (1, .int a1), (2, .int a2)] [] σ
  unfold s_x_mayHaveBeen at h
  refine Ev_aload_n 0 (dt_X11_mayHaveBeen.at 0 rfl) rfl ?_
  refine Ev_get (i := 5) (v := .ref 31) (dt_X11_mayHaveBeen.at 1 rfl) ff_X11_57 sk_0 rfl rfl ?_
  refine Ev_iload_n 1 (dt_X11_mayHaveBeen.at 2 rfl) rfl ?_
  obtain ⟨q1, hq1, h⟩ := oBind h
  refine Ev_callV (st := []) (st' := []) [.int a1] (dt_X11_mayHaveBeen.at 3 rfl) cf_X11_135 (w_Day_pass σ a1 q1 hq1) (by decide) sk_31 rfl rfl rfl (Nat.le_of_ble_eq_true rfl) rfl ?_
  refine Ev_iconst (dt_X11_mayHaveBeen.at 4 rfl) ki_0 ?_
  refine Ev_istore_n (dt_X11_mayHaveBeen.at 5 rfl) (by decide) (ls' := [(3, .int 0), (0, .ref 0), (1, .int a1), (2, .int a2)]) rfl ?_
  refine Ev_sub [1, 3, 0] (ls' := [(0, .ref 0), (2, .int a2), (3, .int 0)]) rfl ?_
  obtain ⟨o12, ho12, h⟩ := oBind h
  refine wl_x_mayHaveBeen_10 q1 a2 _ _ 100000 0 o12 ho12 (fun y13 ey => ?_) (fun q14 eq => ?_)
  · rw [ey] at h
    replace h := oElimL h
    refine Ev_iconst (dt_X11_mayHaveBeen.at 39 rfl) ki_1 ?_
    exact Ev_zret (dt_X11_mayHaveBeen.at 40 rfl) rfl (by decide) h
  · rw [eq] at h
    replace h := oElimR h
    cases h; exact ⟨rfl, rfl⟩
def b_x_which_45 (v1 : Int32) (v2 : Int32) (v5 : Int32) (x : (Sg × Int32 × Int32)) : Option ((Sg × Int32 × Int32) ⊕ ((Sg × Int32 × Int32) ⊕ (Int32 × Sg))) :=
  if v5 ≤ x.2.2 then
    some (.inr (.inl (x.1, x.2.1, x.2.2)))
  else
    if inB x.2.2 84 = true then
      lt ((gI x.1 13 (Int32.toNatClampNeg x.2.2)) : Int32) fun x7 =>
      (s_x_isIn x7 v1).bind fun q8 =>
      if q8 = 0 then
        lt (x.2.2 + 1 : Int32) fun x10 =>
        some (.inl (x.1, x.2.1, x10))
      else
        (s_Town_isThree x.1 x7).bind fun q11 =>
        if q11 = 0 then
          lt (x.2.2 + 1 : Int32) fun x13 =>
          some (.inl (x.1, x.2.1, x13))
        else
          (s_x_mayHaveBeen x.1 x7 v1).bind fun q14 =>
          if q14.1 = 0 then
            lt (x.2.2 + 1 : Int32) fun x16 =>
            some (.inl (q14.2, x.2.1, x16))
          else
            if x.2.1 = v2 then
              some (.inr (.inr (x7, q14.2)))
            else
              lt (x.2.1 + 1 : Int32) fun x18 =>
              lt (x.2.2 + 1 : Int32) fun x19 =>
              some (.inl (q14.2, x18, x19))
    else none
def s_x_which (σ : Sg) (a1 : Int32) (a2 : Int32) : Option (Int32 × Sg) :=
  (s_Town_hasPerson σ a1).bind fun q1 =>
  if q1 = 0 then
    (s_x_refusedBad σ (-10)).bind fun q3 =>
    some (q3.1, q3.2)
  else
    if (-1) ≤ a2 then
      (lp (b_x_which_45 a1 a2 84) 100000 (σ, 0, 0)).bind fun o20 =>
      oElim o20 (fun y21 =>
        if a2 = (-1) then
          some (y21.2.1, y21.1)
        else
          some ((-5), y21.1)) (fun q22 => some q22)
    else
      (s_x_refusedBad σ (-10)).bind fun q24 =>
      some (q24.1, q24.2)
set_option maxRecDepth 100000 in
set_option maxHeartbeats 4000000 in
theorem wb_x_which_45 (v1 : Int32) (v2 : Int32) (v5 : Int32) (x : (Sg × Int32 × Int32)) (r : Option Value) (τ : Sg) (o : ((Sg × Int32 × Int32) ⊕ ((Sg × Int32 × Int32) ⊕ (Int32 × Sg)))) (h : (b_x_which_45 v1 v2 v5 x) = some o) (hc : ∀ y : (Sg × Int32 × Int32), o = .inl y → Ev M_X11_which 6 r τ 45 [(0, .ref 0), (1, .int v1), (2, .int v2), (3, .int y.2.1), (4, .ref 13), (5, .int v5), (6, .int y.2.2)] [] y.1) (he : ∀ y : (Sg × Int32 × Int32), o = .inr (.inl y) → Ev M_X11_which 6 r τ 110 [(2, .int v2), (3, .int y.2.1)] [] y.1) (hr : ∀ q : (Int32 × Sg), o = .inr (.inr q) → r = (some (.int q.1)) ∧ τ = q.2) : Ev M_X11_which 6 r τ 45 [(0, .ref 0), (1, .int v1), (2, .int v2), (3, .int x.2.1), (4, .ref 13), (5, .int v5), (6, .int x.2.2)] [] x.1 := by
  unfold b_x_which_45 at h
  refine Ev_iload 6 (dt_X11_which.at 24 rfl) rfl ?_
  refine Ev_iload 5 (dt_X11_which.at 25 rfl) rfl ?_
  refine Ev_icmp_ge (tgt := 110) (dt_X11_which.at 26 rfl) (by decide) (fun c5 => ?_) (fun c5 => ?_)
  · replace h := oPos h c5
    refine Ev_sub [2, 3] (ls' := [(2, .int v2), (3, .int x.2.1)]) rfl ?_
    exact he (x.1, x.2.1, x.2.2) (Option.some.inj h).symm
  · replace h := oNeg h c5
    refine Ev_aload 4 (dt_X11_which.at 27 rfl) rfl ?_
    refine Ev_iload 6 (dt_X11_which.at 28 rfl) rfl ?_
    obtain ⟨g6, h⟩ := oGuard h
    refine Ev_iaload 13 (dt_X11_which.at 29 rfl) sk_13 g6 ?_
    refine Ev_nmI (fun x7 ex7 => ?_)
    replace h := oLt h ex7
    refine Ev_istore (dt_X11_which.at 30 rfl) (by decide) (ls' := [(7, .int x7), (0, .ref 0), (1, .int v1), (2, .int v2), (3, .int x.2.1), (4, .ref 13), (5, .int v5), (6, .int x.2.2)]) rfl ?_
    refine Ev_iload 0 (dt_X11_which.at 31 rfl) rfl ?_
    refine Ev_iload_n 2 (dt_X11_which.at 32 rfl) rfl ?_
    obtain ⟨q8, hq8, h⟩ := oBind h
    refine Ev_callS (st := []) (st' := [.int q8]) [.int x7, .int v1] (dt_X11_which.at 33 rfl) cf_X11_202 (w_x_isIn x.1 x7 v1 q8 hq8) (by decide) rfl rfl (Nat.le_of_ble_eq_true rfl) rfl ?_
    refine Ev_if_eq (tgt := 104) (dt_X11_which.at 34 rfl) (by decide) (fun c9 => ?_) (fun c9 => ?_)
    · replace h := oPos h c9
      obtain ⟨x10, ex10⟩ : ∃ z : Int32, z = x.2.2 + 1 := ⟨_, rfl⟩
      replace h := oLt h ex10
      refine Ev_iinc (v := x10) 7 (dt_X11_which.at 52 rfl) rfl (ex10.trans (congrArg (fun z => x.2.2 + z) ki_1.symm)) (by decide) (ls' := [(6, .int x10), (7, .int x7), (0, .ref 0), (1, .int v1), (2, .int v2), (3, .int x.2.1), (4, .ref 13), (5, .int v5)]) rfl ?_
      refine Ev_goto (tgt := 45) (dt_X11_which.at 53 rfl) (by decide) ?_
      refine Ev_sub [2, 3, 4, 5, 6, 7, 0] (ls' := [(0, .ref 0), (1, .int v1), (2, .int v2), (3, .int x.2.1), (4, .ref 13), (5, .int v5), (6, .int x10)]) rfl ?_
      exact hc (x.1, x.2.1, x10) (Option.some.inj h).symm
    · replace h := oNeg h c9
      refine Ev_aload_n 1 (dt_X11_which.at 35 rfl) rfl ?_
      refine Ev_get (i := 0) (v := .ref 25) (dt_X11_which.at 36 rfl) ff_X11_50 sk_0 rfl rfl ?_
      refine Ev_get (i := 0) (v := .ref 19) (dt_X11_which.at 37 rfl) ff_X11_72 sk_25 rfl rfl ?_
      refine Ev_iload 0 (dt_X11_which.at 38 rfl) rfl ?_
      obtain ⟨q11, hq11, h⟩ := oBind h
      refine Ev_callV (st := []) (st' := [.int q11]) [.int x7] (dt_X11_which.at 39 rfl) cf_X11_132 (w_Town_isThree x.1 x7 q11 hq11) (by decide) sk_19 rfl rfl rfl (Nat.le_of_ble_eq_true rfl) rfl ?_
      refine Ev_if_eq (tgt := 104) (dt_X11_which.at 40 rfl) (by decide) (fun c12 => ?_) (fun c12 => ?_)
      · replace h := oPos h c12
        obtain ⟨x13, ex13⟩ : ∃ z : Int32, z = x.2.2 + 1 := ⟨_, rfl⟩
        replace h := oLt h ex13
        refine Ev_iinc (v := x13) 7 (dt_X11_which.at 52 rfl) rfl (ex13.trans (congrArg (fun z => x.2.2 + z) ki_1.symm)) (by decide) (ls' := [(6, .int x13), (7, .int x7), (0, .ref 0), (1, .int v1), (2, .int v2), (3, .int x.2.1), (4, .ref 13), (5, .int v5)]) rfl ?_
        refine Ev_goto (tgt := 45) (dt_X11_which.at 53 rfl) (by decide) ?_
        refine Ev_sub [2, 3, 4, 5, 6, 7, 0] (ls' := [(0, .ref 0), (1, .int v1), (2, .int v2), (3, .int x.2.1), (4, .ref 13), (5, .int v5), (6, .int x13)]) rfl ?_
        exact hc (x.1, x.2.1, x13) (Option.some.inj h).symm
      · replace h := oNeg h c12
        refine Ev_aload_n 1 (dt_X11_which.at 41 rfl) rfl ?_
        refine Ev_iload 0 (dt_X11_which.at 42 rfl) rfl ?_
        refine Ev_iload_n 2 (dt_X11_which.at 43 rfl) rfl ?_
        obtain ⟨q14, hq14, h⟩ := oBind h
        refine Ev_callV (st := []) (st' := [.int q14.1]) [.int x7, .int v1] (dt_X11_which.at 44 rfl) cf_X11_220 (w_x_mayHaveBeen x.1 x7 v1 q14 hq14) (by decide) sk_0 rfl rfl rfl (Nat.le_of_ble_eq_true rfl) rfl ?_
        refine Ev_if_eq (tgt := 104) (dt_X11_which.at 45 rfl) (by decide) (fun c15 => ?_) (fun c15 => ?_)
        · replace h := oPos h c15
          obtain ⟨x16, ex16⟩ : ∃ z : Int32, z = x.2.2 + 1 := ⟨_, rfl⟩
          replace h := oLt h ex16
          refine Ev_iinc (v := x16) 7 (dt_X11_which.at 52 rfl) rfl (ex16.trans (congrArg (fun z => x.2.2 + z) ki_1.symm)) (by decide) (ls' := [(6, .int x16), (7, .int x7), (0, .ref 0), (1, .int v1), (2, .int v2), (3, .int x.2.1), (4, .ref 13), (5, .int v5)]) rfl ?_
          refine Ev_goto (tgt := 45) (dt_X11_which.at 53 rfl) (by decide) ?_
          refine Ev_sub [2, 3, 4, 5, 6, 7, 0] (ls' := [(0, .ref 0), (1, .int v1), (2, .int v2), (3, .int x.2.1), (4, .ref 13), (5, .int v5), (6, .int x16)]) rfl ?_
          exact hc (q14.2, x.2.1, x16) (Option.some.inj h).symm
        · replace h := oNeg h c15
          refine Ev_iload_n 4 (dt_X11_which.at 46 rfl) rfl ?_
          refine Ev_iload_n 3 (dt_X11_which.at 47 rfl) rfl ?_
          refine Ev_icmp_ne (tgt := 101) (dt_X11_which.at 48 rfl) (by decide) (fun c17 => ?_) (fun c17 => ?_)
          · replace h := oNeg h c17
            obtain ⟨x18, ex18⟩ : ∃ z : Int32, z = x.2.1 + 1 := ⟨_, rfl⟩
            replace h := oLt h ex18
            refine Ev_iinc (v := x18) 4 (dt_X11_which.at 51 rfl) rfl (ex18.trans (congrArg (fun z => x.2.1 + z) ki_1.symm)) (by decide) (ls' := [(3, .int x18), (7, .int x7), (0, .ref 0), (1, .int v1), (2, .int v2), (4, .ref 13), (5, .int v5), (6, .int x.2.2)]) rfl ?_
            obtain ⟨x19, ex19⟩ : ∃ z : Int32, z = x.2.2 + 1 := ⟨_, rfl⟩
            replace h := oLt h ex19
            refine Ev_iinc (v := x19) 7 (dt_X11_which.at 52 rfl) rfl (ex19.trans (congrArg (fun z => x.2.2 + z) ki_1.symm)) (by decide) (ls' := [(6, .int x19), (3, .int x18), (7, .int x7), (0, .ref 0), (1, .int v1), (2, .int v2), (4, .ref 13), (5, .int v5)]) rfl ?_
            refine Ev_goto (tgt := 45) (dt_X11_which.at 53 rfl) (by decide) ?_
            refine Ev_sub [3, 4, 5, 1, 6, 7, 0] (ls' := [(0, .ref 0), (1, .int v1), (2, .int v2), (3, .int x18), (4, .ref 13), (5, .int v5), (6, .int x19)]) rfl ?_
            exact hc (q14.2, x18, x19) (Option.some.inj h).symm
          · replace h := oPos h c17
            refine Ev_iload 0 (dt_X11_which.at 49 rfl) rfl ?_
            have hz := hr _ (Option.some.inj h).symm
            rw [hz.1, hz.2]
            exact Ev_iret (dt_X11_which.at 50 rfl) rfl rfl
set_option maxRecDepth 100000 in
set_option maxHeartbeats 4000000 in
theorem wl_x_which_45 (v1 : Int32) (v2 : Int32) (v5 : Int32) (r : Option Value) (τ : Sg) (n : Nat) (x : (Sg × Int32 × Int32)) (z : ((Sg × Int32 × Int32) ⊕ (Int32 × Sg))) (h : lp (b_x_which_45 v1 v2 v5) n x = some z) (he : ∀ y : (Sg × Int32 × Int32), z = .inl y → Ev M_X11_which 6 r τ 110 [(2, .int v2), (3, .int y.2.1)] [] y.1) (hr : ∀ q : (Int32 × Sg), z = .inr q → r = (some (.int q.1)) ∧ τ = q.2) : Ev M_X11_which 6 r τ 45 [(0, .ref 0), (1, .int v1), (2, .int v2), (3, .int x.2.1), (4, .ref 13), (5, .int v5), (6, .int x.2.2)] [] x.1 := by
  refine lp_ind (E := fun x : (Sg × Int32 × Int32) => Ev M_X11_which 6 r τ 45 [(0, .ref 0), (1, .int v1), (2, .int v2), (3, .int x.2.1), (4, .ref 13), (5, .int v5), (6, .int x.2.2)] [] x.1) (fun x => ⟨fun y hb hy => ?_, fun hb => ?_⟩) n x h
  · exact wb_x_which_45 v1 v2 v5 x r τ _ hb (fun y' e => by cases e; exact hy) (fun y' e => by cases e) (fun y' e => by cases e)
  · exact wb_x_which_45 v1 v2 v5 x r τ _ hb (fun y' e => by cases e) (fun y' e => he y' (Sum.inr.inj e)) (fun y' e => hr y' (Sum.inr.inj e))
set_option maxRecDepth 100000 in
set_option maxHeartbeats 4000000 in
theorem w_x_which (σ : Sg) (a1 : Int32) (a2 : Int32) (q : (Int32 × Sg)) (h : s_x_which σ a1 a2 = some q) : Cal M_X11_which 6 [.ref 0, .int a1, .int a2] σ (some (.int q.1)) q.2 := by
  refine Cal.of (M := M_X11_which) (by decide +kernel) (Nat.le_of_ble_eq_true rfl) ?_
  show Ev _ _ _ _ 0 [(0, .ref 0), (1, .int a1), (2, .int a2)] [] σ
  unfold s_x_which at h
  refine Ev_aload_n 0 (dt_X11_which.at 0 rfl) rfl ?_
  refine Ev_get (i := 0) (v := .ref 25) (dt_X11_which.at 1 rfl) ff_X11_50 sk_0 rfl rfl ?_
  refine Ev_get (i := 0) (v := .ref 19) (dt_X11_which.at 2 rfl) ff_X11_72 sk_25 rfl rfl ?_
  refine Ev_iload_n 1 (dt_X11_which.at 3 rfl) rfl ?_
  obtain ⟨q1, hq1, h⟩ := oBind h
  refine Ev_callV (st := []) (st' := [.int q1]) [.int a1] (dt_X11_which.at 4 rfl) cf_X11_101 (w_Town_hasPerson σ a1 q1 hq1) (by decide) sk_19 rfl rfl rfl (Nat.le_of_ble_eq_true rfl) rfl ?_
  refine Ev_if_eq (tgt := 19) (dt_X11_which.at 5 rfl) (by decide) (fun c2 => ?_) (fun c2 => ?_)
  · replace h := oPos h c2
    refine Ev_aload_n 0 (dt_X11_which.at 9 rfl) rfl ?_
    refine Ev_bipush (dt_X11_which.at 10 rfl) kb_m10 ?_
    obtain ⟨q3, hq3, h⟩ := oBind h
    refine Ev_callV (st := []) (st' := [.int q3.1]) [.int (-10)] (dt_X11_which.at 11 rfl) cf_X11_68 (w_x_refusedBad σ (-10) q3 hq3) (by decide) sk_0 rfl rfl rfl (Nat.le_of_ble_eq_true rfl) rfl ?_
    exact Ev_iret (dt_X11_which.at 12 rfl) rfl h
  · replace h := oNeg h c2
    refine Ev_iload_n 2 (dt_X11_which.at 6 rfl) rfl ?_
    refine Ev_iconst (dt_X11_which.at 7 rfl) ki_m1 ?_
    refine Ev_icmp_ge (tgt := 26) (dt_X11_which.at 8 rfl) (by decide) (fun c4 => ?_) (fun c4 => ?_)
    · replace h := oPos h c4
      refine Ev_iconst (dt_X11_which.at 13 rfl) ki_0 ?_
      refine Ev_istore_n (dt_X11_which.at 14 rfl) (by decide) (ls' := [(3, .int 0), (0, .ref 0), (1, .int a1), (2, .int a2)]) rfl ?_
      refine Ev_aload_n 1 (dt_X11_which.at 15 rfl) rfl ?_
      refine Ev_get (i := 7) (v := .ref 12) (dt_X11_which.at 16 rfl) ff_X11_33 sk_0 rfl rfl ?_
      refine Ev_get (i := 0) (v := .ref 13) (dt_X11_which.at 17 rfl) ff_X11_217 sk_12 rfl rfl ?_
      refine Ev_astore (dt_X11_which.at 18 rfl) (by decide) (ls' := [(4, .ref 13), (3, .int 0), (0, .ref 0), (1, .int a1), (2, .int a2)]) rfl ?_
      refine Ev_aload 0 (dt_X11_which.at 19 rfl) rfl ?_
      refine Ev_alen 13 (dt_X11_which.at 20 rfl) sk_13 (Or.inl rfl) kn_84 ?_
      refine Ev_istore (dt_X11_which.at 21 rfl) (by decide) (ls' := [(5, .int 84), (4, .ref 13), (3, .int 0), (0, .ref 0), (1, .int a1), (2, .int a2)]) rfl ?_
      refine Ev_iconst (dt_X11_which.at 22 rfl) ki_0 ?_
      refine Ev_istore (dt_X11_which.at 23 rfl) (by decide) (ls' := [(6, .int 0), (5, .int 84), (4, .ref 13), (3, .int 0), (0, .ref 0), (1, .int a1), (2, .int a2)]) rfl ?_
      refine Ev_sub [4, 5, 6, 3, 2, 1, 0] (ls' := [(0, .ref 0), (1, .int a1), (2, .int a2), (3, .int 0), (4, .ref 13), (5, .int 84), (6, .int 0)]) rfl ?_
      obtain ⟨o20, ho20, h⟩ := oBind h
      refine wl_x_which_45 a1 a2 84 _ _ 100000 (σ, 0, 0) o20 ho20 (fun y21 ey => ?_) (fun q22 eq => ?_)
      · rw [ey] at h
        replace h := oElimL h
        refine Ev_iload_n 0 (dt_X11_which.at 54 rfl) rfl ?_
        refine Ev_iconst (dt_X11_which.at 55 rfl) ki_m1 ?_
        refine Ev_icmp_ne (tgt := 119) (dt_X11_which.at 56 rfl) (by decide) (fun c23 => ?_) (fun c23 => ?_)
        · replace h := oNeg h c23
          refine Ev_bipush (dt_X11_which.at 59 rfl) kb_m5 ?_
          exact Ev_iret (dt_X11_which.at 60 rfl) rfl h
        · replace h := oPos h c23
          refine Ev_iload_n 1 (dt_X11_which.at 57 rfl) rfl ?_
          refine Ev_goto (tgt := 121) (dt_X11_which.at 58 rfl) (by decide) ?_
          exact Ev_iret (dt_X11_which.at 60 rfl) rfl h
      · rw [eq] at h
        replace h := oElimR h
        cases h; exact ⟨rfl, rfl⟩
    · replace h := oNeg h c4
      refine Ev_aload_n 0 (dt_X11_which.at 9 rfl) rfl ?_
      refine Ev_bipush (dt_X11_which.at 10 rfl) kb_m10 ?_
      obtain ⟨q24, hq24, h⟩ := oBind h
      refine Ev_callV (st := []) (st' := [.int q24.1]) [.int (-10)] (dt_X11_which.at 11 rfl) cf_X11_68 (w_x_refusedBad σ (-10) q24 hq24) (by decide) sk_0 rfl rfl rfl (Nat.le_of_ble_eq_true rfl) rfl ?_
      exact Ev_iret (dt_X11_which.at 12 rfl) rfl h
