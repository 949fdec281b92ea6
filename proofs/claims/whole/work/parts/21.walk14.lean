def s_x_part (σ : Sg) (a1 : Int32) : Option (Int64 × Sg) :=
  if a1 < 0 then
    (s_x_refusedBad σ (-1000)).bind fun q2 =>
    some ((Int32.toInt64 q2.1), q2.2)
  else
    if a1 ≤ 1 then
      if a1 = 0 then
        some ((Int32.toInt64 (gI σ 0 10)), σ)
      else
        some ((Int32.toInt64 (gI σ 0 11)), σ)
    else
      (s_x_refusedBad σ (-1000)).bind fun q5 =>
      some ((Int32.toInt64 q5.1), q5.2)
set_option maxRecDepth 100000 in
set_option maxHeartbeats 4000000 in
theorem w_x_part (σ : Sg) (a1 : Int32) (q : (Int64 × Sg)) (h : s_x_part σ a1 = some q) : Cal M_X11_part 1 [.ref 0, .int a1] σ (some (.long q.1)) q.2 := by
  refine Cal.of (M := M_X11_part) (by decide +kernel) (Nat.le_of_ble_eq_true rfl) ?_
  show Ev _ _ _ _ 0 [(0, .ref 0), (1, .int a1)] [] σ
  unfold s_x_part at h
  refine Ev_iload_n 1 (dt_X11_part.at 0 rfl) rfl ?_
  refine Ev_if_lt (tgt := 9) (dt_X11_part.at 1 rfl) (by decide) (fun c1 => ?_) (fun c1 => ?_)
  · replace h := oPos h c1
    refine Ev_aload_n 0 (dt_X11_part.at 5 rfl) rfl ?_
    refine Ev_sipush (dt_X11_part.at 6 rfl) ks_m1000 ?_
    obtain ⟨q2, hq2, h⟩ := oBind h
    refine Ev_callV (st := []) (st' := [.int q2.1]) [.int (-1000)] (dt_X11_part.at 7 rfl) cf_X11_68 (w_x_refusedBad σ (-1000) q2 hq2) (by decide) sk_0 rfl rfl rfl (Nat.le_of_ble_eq_true rfl) rfl ?_
    refine Ev_i2l (dt_X11_part.at 8 rfl) ?_
    exact Ev_lret (dt_X11_part.at 9 rfl) rfl h
  · replace h := oNeg h c1
    refine Ev_iload_n 1 (dt_X11_part.at 2 rfl) rfl ?_
    refine Ev_iconst (dt_X11_part.at 3 rfl) ki_1 ?_
    refine Ev_icmp_le (tgt := 18) (dt_X11_part.at 4 rfl) (by decide) (fun c3 => ?_) (fun c3 => ?_)
    · replace h := oPos h c3
      refine Ev_iload_n 1 (dt_X11_part.at 10 rfl) rfl ?_
      refine Ev_if_ne (tgt := 30) (dt_X11_part.at 11 rfl) (by decide) (fun c4 => ?_) (fun c4 => ?_)
      · replace h := oNeg h c4
        refine Ev_aload_n 0 (dt_X11_part.at 16 rfl) rfl ?_
        refine Ev_get (i := 11) (v := .int (gI σ 0 11)) (dt_X11_part.at 17 rfl) ff_X11_40 sk_0 rfl rfl ?_
        refine Ev_i2l (dt_X11_part.at 18 rfl) ?_
        exact Ev_lret (dt_X11_part.at 19 rfl) rfl h
      · replace h := oPos h c4
        refine Ev_aload_n 0 (dt_X11_part.at 12 rfl) rfl ?_
        refine Ev_get (i := 10) (v := .int (gI σ 0 10)) (dt_X11_part.at 13 rfl) ff_X11_223 sk_0 rfl rfl ?_
        refine Ev_i2l (dt_X11_part.at 14 rfl) ?_
        refine Ev_goto (tgt := 35) (dt_X11_part.at 15 rfl) (by decide) ?_
        exact Ev_lret (dt_X11_part.at 19 rfl) rfl h
    · replace h := oNeg h c3
      refine Ev_aload_n 0 (dt_X11_part.at 5 rfl) rfl ?_
      refine Ev_sipush (dt_X11_part.at 6 rfl) ks_m1000 ?_
      obtain ⟨q5, hq5, h⟩ := oBind h
      refine Ev_callV (st := []) (st' := [.int q5.1]) [.int (-1000)] (dt_X11_part.at 7 rfl) cf_X11_68 (w_x_refusedBad σ (-1000) q5 hq5) (by decide) sk_0 rfl rfl rfl (Nat.le_of_ble_eq_true rfl) rfl ?_
      refine Ev_i2l (dt_X11_part.at 8 rfl) ?_
      exact Ev_lret (dt_X11_part.at 9 rfl) rfl h
def s_x_isImage (a0 : Int32) : Option Int32 :=
  if a0 < 0 then
    some 0
  else
    if 2 ≤ a0 then
      some 0
    else
      some 1
set_option maxRecDepth 100000 in
set_option maxHeartbeats 4000000 in
theorem w_x_isImage (σ : Sg) (a0 : Int32) (q : Int32) (h : s_x_isImage a0 = some q) : Cal M_X11_isImage 0 [.int a0] σ (some (.int q)) σ := by
  refine Cal.of (M := M_X11_isImage) (by decide +kernel) (Nat.le_of_ble_eq_true rfl) ?_
  show Ev _ _ _ _ 0 [(0, .int a0)] [] σ
  unfold s_x_isImage at h
  refine Ev_iload_n 0 (dt_X11_isImage.at 0 rfl) rfl ?_
  refine Ev_if_lt (tgt := 13) (dt_X11_isImage.at 1 rfl) (by decide) (fun c1 => ?_) (fun c1 => ?_)
  · replace h := oPos h c1
    refine Ev_iconst (dt_X11_isImage.at 7 rfl) ki_0 ?_
    exact Ev_zret (dt_X11_isImage.at 8 rfl) rfl (by decide) (oRet h)
  · replace h := oNeg h c1
    refine Ev_iload_n 0 (dt_X11_isImage.at 2 rfl) rfl ?_
    refine Ev_iconst (dt_X11_isImage.at 3 rfl) ki_2 ?_
    refine Ev_icmp_ge (tgt := 13) (dt_X11_isImage.at 4 rfl) (by decide) (fun c2 => ?_) (fun c2 => ?_)
    · replace h := oPos h c2
      refine Ev_iconst (dt_X11_isImage.at 7 rfl) ki_0 ?_
      exact Ev_zret (dt_X11_isImage.at 8 rfl) rfl (by decide) (oRet h)
    · replace h := oNeg h c2
      refine Ev_iconst (dt_X11_isImage.at 5 rfl) ki_1 ?_
      refine Ev_goto (tgt := 14) (dt_X11_isImage.at 6 rfl) (by decide) ?_
      exact Ev_zret (dt_X11_isImage.at 8 rfl) rfl (by decide) (oRet h)
def s_Town_become (σ : Sg)  : Option Sg :=
  lt (pI σ 47 5 (gI σ 19 5) : Sg) fun s1 =>
  lt (pI s1 47 6 (gI s1 19 6) : Sg) fun s2 =>
  lt (cpI s2 20 (Int32.toNatClampNeg 0) 48 (Int32.toNatClampNeg 0) (Int32.toNatClampNeg 9) : Sg) fun s3 =>
  lt (cpI s3 21 (Int32.toNatClampNeg 0) 49 (Int32.toNatClampNeg 0) (Int32.toNatClampNeg 9) : Sg) fun s4 =>
  lt (cpI s4 22 (Int32.toNatClampNeg 0) 50 (Int32.toNatClampNeg 0) (Int32.toNatClampNeg 9) : Sg) fun s5 =>
  lt (cpI s5 23 (Int32.toNatClampNeg 0) 51 (Int32.toNatClampNeg 0) (Int32.toNatClampNeg 36) : Sg) fun s6 =>
  lt (cpI s6 24 (Int32.toNatClampNeg 0) 52 (Int32.toNatClampNeg 0) (Int32.toNatClampNeg 36) : Sg) fun s7 =>
  some s7
set_option maxRecDepth 100000 in
set_option maxHeartbeats 4000000 in
theorem w_Town_become (σ : Sg)  (q : Sg) (h : s_Town_become σ  = some q) : Cal M_X9_become 1 [.ref 47, .ref 19] σ none q := by
  refine Cal.of (M := M_X9_become) (by decide +kernel) (Nat.le_of_ble_eq_true rfl) ?_
  show Ev _ _ _ _ 0 [(0, .ref 47), (1, .ref 19)] [] σ
  unfold s_Town_become at h
  refine Ev_aload_n 0 (dt_X9_become.at 0 rfl) rfl ?_
  refine Ev_aload_n 1 (dt_X9_become.at 1 rfl) rfl ?_
  refine Ev_get (i := 5) (v := .int (gI σ 19 5)) (dt_X9_become.at 2 rfl) ff_X9_27 sk_19 rfl rfl ?_
  refine Ev_putI (dt_X9_become.at 3 rfl) ff_X9_27 fw_9_5 sk_47 rfl ?_
  refine Ev_nmS (fun s1 es1 => ?_)
  replace h := oLt h es1
  refine Ev_aload_n 0 (dt_X9_become.at 4 rfl) rfl ?_
  refine Ev_aload_n 1 (dt_X9_become.at 5 rfl) rfl ?_
  refine Ev_get (i := 6) (v := .int (gI s1 19 6)) (dt_X9_become.at 6 rfl) ff_X9_31 sk_19 rfl rfl ?_
  refine Ev_putI (dt_X9_become.at 7 rfl) ff_X9_31 fw_9_6 sk_47 rfl ?_
  refine Ev_nmS (fun s2 es2 => ?_)
  replace h := oLt h es2
  refine Ev_aload_n 1 (dt_X9_become.at 8 rfl) rfl ?_
  refine Ev_get (i := 0) (v := .ref 20) (dt_X9_become.at 9 rfl) ff_X9_9 sk_19 rfl rfl ?_
  refine Ev_iconst (dt_X9_become.at 10 rfl) ki_0 ?_
  refine Ev_aload_n 0 (dt_X9_become.at 11 rfl) rfl ?_
  refine Ev_get (i := 0) (v := .ref 48) (dt_X9_become.at 12 rfl) ff_X9_9 sk_47 rfl rfl ?_
  refine Ev_iconst (dt_X9_become.at 13 rfl) ki_0 ?_
  refine Ev_bipush (dt_X9_become.at 14 rfl) kb_9 ?_
  refine Ev_copy (st := []) (dt_X9_become.at 15 rfl) ac_X9_60 (by decide) sk_20 sk_48 (by decide) (Nat.le_of_ble_eq_true rfl) ?_
  refine Ev_nmS (fun s3 es3 => ?_)
  replace h := oLt h es3
  refine Ev_aload_n 1 (dt_X9_become.at 16 rfl) rfl ?_
  refine Ev_get (i := 1) (v := .ref 21) (dt_X9_become.at 17 rfl) ff_X9_15 sk_19 rfl rfl ?_
  refine Ev_iconst (dt_X9_become.at 18 rfl) ki_0 ?_
  refine Ev_aload_n 0 (dt_X9_become.at 19 rfl) rfl ?_
  refine Ev_get (i := 1) (v := .ref 49) (dt_X9_become.at 20 rfl) ff_X9_15 sk_47 rfl rfl ?_
  refine Ev_iconst (dt_X9_become.at 21 rfl) ki_0 ?_
  refine Ev_bipush (dt_X9_become.at 22 rfl) kb_9 ?_
  refine Ev_copy (st := []) (dt_X9_become.at 23 rfl) ac_X9_60 (by decide) sk_21 sk_49 (by decide) (Nat.le_of_ble_eq_true rfl) ?_
  refine Ev_nmS (fun s4 es4 => ?_)
  replace h := oLt h es4
  refine Ev_aload_n 1 (dt_X9_become.at 24 rfl) rfl ?_
  refine Ev_get (i := 2) (v := .ref 22) (dt_X9_become.at 25 rfl) ff_X9_18 sk_19 rfl rfl ?_
  refine Ev_iconst (dt_X9_become.at 26 rfl) ki_0 ?_
  refine Ev_aload_n 0 (dt_X9_become.at 27 rfl) rfl ?_
  refine Ev_get (i := 2) (v := .ref 50) (dt_X9_become.at 28 rfl) ff_X9_18 sk_47 rfl rfl ?_
  refine Ev_iconst (dt_X9_become.at 29 rfl) ki_0 ?_
  refine Ev_bipush (dt_X9_become.at 30 rfl) kb_9 ?_
  refine Ev_copy (st := []) (dt_X9_become.at 31 rfl) ac_X9_60 (by decide) sk_22 sk_50 (by decide) (Nat.le_of_ble_eq_true rfl) ?_
  refine Ev_nmS (fun s5 es5 => ?_)
  replace h := oLt h es5
  refine Ev_aload_n 1 (dt_X9_become.at 32 rfl) rfl ?_
  refine Ev_get (i := 3) (v := .ref 23) (dt_X9_become.at 33 rfl) ff_X9_21 sk_19 rfl rfl ?_
  refine Ev_iconst (dt_X9_become.at 34 rfl) ki_0 ?_
  refine Ev_aload_n 0 (dt_X9_become.at 35 rfl) rfl ?_
  refine Ev_get (i := 3) (v := .ref 51) (dt_X9_become.at 36 rfl) ff_X9_21 sk_47 rfl rfl ?_
  refine Ev_iconst (dt_X9_become.at 37 rfl) ki_0 ?_
  refine Ev_bipush (dt_X9_become.at 38 rfl) kb_36 ?_
  refine Ev_copy (st := []) (dt_X9_become.at 39 rfl) ac_X9_60 (by decide) sk_23 sk_51 (by decide) (Nat.le_of_ble_eq_true rfl) ?_
  refine Ev_nmS (fun s6 es6 => ?_)
  replace h := oLt h es6
  refine Ev_aload_n 1 (dt_X9_become.at 40 rfl) rfl ?_
  refine Ev_get (i := 4) (v := .ref 24) (dt_X9_become.at 41 rfl) ff_X9_24 sk_19 rfl rfl ?_
  refine Ev_iconst (dt_X9_become.at 42 rfl) ki_0 ?_
  refine Ev_aload_n 0 (dt_X9_become.at 43 rfl) rfl ?_
  refine Ev_get (i := 4) (v := .ref 52) (dt_X9_become.at 44 rfl) ff_X9_24 sk_47 rfl rfl ?_
  refine Ev_iconst (dt_X9_become.at 45 rfl) ki_0 ?_
  refine Ev_bipush (dt_X9_become.at 46 rfl) kb_36 ?_
  refine Ev_copy (st := []) (dt_X9_become.at 47 rfl) ac_X9_60 (by decide) sk_24 sk_52 (by decide) (Nat.le_of_ble_eq_true rfl) ?_
  refine Ev_nmS (fun s7 es7 => ?_)
  replace h := oLt h es7
  exact Ev_vret (dt_X9_become.at 48 rfl) rfl h
def s_Scene_become (σ : Sg)  : Option Sg :=
  (s_Town_become σ ).bind fun q1 =>
  lt (cpI q1 26 (Int32.toNatClampNeg 0) 54 (Int32.toNatClampNeg 0) (Int32.toNatClampNeg 8) : Sg) fun s2 =>
  lt (cpI s2 27 (Int32.toNatClampNeg 0) 55 (Int32.toNatClampNeg 0) (Int32.toNatClampNeg 18) : Sg) fun s3 =>
  lt (cpI s3 28 (Int32.toNatClampNeg 0) 56 (Int32.toNatClampNeg 0) (Int32.toNatClampNeg 5) : Sg) fun s4 =>
  lt (cpI s4 29 (Int32.toNatClampNeg 0) 57 (Int32.toNatClampNeg 0) (Int32.toNatClampNeg 5) : Sg) fun s5 =>
  lt (cpI s5 30 (Int32.toNatClampNeg 0) 58 (Int32.toNatClampNeg 0) (Int32.toNatClampNeg 5) : Sg) fun s6 =>
  lt (pI s6 53 6 (gI s6 25 6) : Sg) fun s7 =>
  lt (pI s7 53 7 (gI s7 25 7) : Sg) fun s8 =>
  some s8
set_option maxRecDepth 100000 in
set_option maxHeartbeats 4000000 in
theorem w_Scene_become (σ : Sg)  (q : Sg) (h : s_Scene_become σ  = some q) : Cal M_X6_become 2 [.ref 53, .ref 25] σ none q := by
  refine Cal.of (M := M_X6_become) (by decide +kernel) (Nat.le_of_ble_eq_true rfl) ?_
  show Ev _ _ _ _ 0 [(0, .ref 53), (1, .ref 25)] [] σ
  unfold s_Scene_become at h
  refine Ev_aload_n 0 (dt_X6_become.at 0 rfl) rfl ?_
  refine Ev_get (i := 0) (v := .ref 47) (dt_X6_become.at 1 rfl) ff_X6_27 sk_53 rfl rfl ?_
  refine Ev_aload_n 1 (dt_X6_become.at 2 rfl) rfl ?_
  refine Ev_get (i := 0) (v := .ref 19) (dt_X6_become.at 3 rfl) ff_X6_27 sk_25 rfl rfl ?_
  obtain ⟨q1, hq1, h⟩ := oBind h
  refine Ev_callV (st := []) (st' := []) [.ref 19] (dt_X6_become.at 4 rfl) cf_X6_38 (w_Town_become σ  q1 hq1) (by decide) sk_47 rfl rfl rfl (Nat.le_of_ble_eq_true rfl) rfl ?_
  refine Ev_aload_n 1 (dt_X6_become.at 5 rfl) rfl ?_
  refine Ev_get (i := 1) (v := .ref 26) (dt_X6_become.at 6 rfl) ff_X6_9 sk_25 rfl rfl ?_
  refine Ev_iconst (dt_X6_become.at 7 rfl) ki_0 ?_
  refine Ev_aload_n 0 (dt_X6_become.at 8 rfl) rfl ?_
  refine Ev_get (i := 1) (v := .ref 54) (dt_X6_become.at 9 rfl) ff_X6_9 sk_53 rfl rfl ?_
  refine Ev_iconst (dt_X6_become.at 10 rfl) ki_0 ?_
  refine Ev_bipush (dt_X6_become.at 11 rfl) kb_8 ?_
  refine Ev_copy (st := []) (dt_X6_become.at 12 rfl) ac_X6_44 (by decide) sk_26 sk_54 (by decide) (Nat.le_of_ble_eq_true rfl) ?_
  refine Ev_nmS (fun s2 es2 => ?_)
  replace h := oLt h es2
  refine Ev_aload_n 1 (dt_X6_become.at 13 rfl) rfl ?_
  refine Ev_get (i := 2) (v := .ref 27) (dt_X6_become.at 14 rfl) ff_X6_15 sk_25 rfl rfl ?_
  refine Ev_iconst (dt_X6_become.at 15 rfl) ki_0 ?_
  refine Ev_aload_n 0 (dt_X6_become.at 16 rfl) rfl ?_
  refine Ev_get (i := 2) (v := .ref 55) (dt_X6_become.at 17 rfl) ff_X6_15 sk_53 rfl rfl ?_
  refine Ev_iconst (dt_X6_become.at 18 rfl) ki_0 ?_
  refine Ev_bipush (dt_X6_become.at 19 rfl) kb_18 ?_
  refine Ev_copy (st := []) (dt_X6_become.at 20 rfl) ac_X6_44 (by decide) sk_27 sk_55 (by decide) (Nat.le_of_ble_eq_true rfl) ?_
  refine Ev_nmS (fun s3 es3 => ?_)
  replace h := oLt h es3
  refine Ev_aload_n 1 (dt_X6_become.at 21 rfl) rfl ?_
  refine Ev_get (i := 3) (v := .ref 28) (dt_X6_become.at 22 rfl) ff_X6_18 sk_25 rfl rfl ?_
  refine Ev_iconst (dt_X6_become.at 23 rfl) ki_0 ?_
  refine Ev_aload_n 0 (dt_X6_become.at 24 rfl) rfl ?_
  refine Ev_get (i := 3) (v := .ref 56) (dt_X6_become.at 25 rfl) ff_X6_18 sk_53 rfl rfl ?_
  refine Ev_iconst (dt_X6_become.at 26 rfl) ki_0 ?_
  refine Ev_iconst (dt_X6_become.at 27 rfl) ki_5 ?_
  refine Ev_copy (st := []) (dt_X6_become.at 28 rfl) ac_X6_44 (by decide) sk_28 sk_56 (by decide) (Nat.le_of_ble_eq_true rfl) ?_
  refine Ev_nmS (fun s4 es4 => ?_)
  replace h := oLt h es4
  refine Ev_aload_n 1 (dt_X6_become.at 29 rfl) rfl ?_
  refine Ev_get (i := 4) (v := .ref 29) (dt_X6_become.at 30 rfl) ff_X6_21 sk_25 rfl rfl ?_
  refine Ev_iconst (dt_X6_become.at 31 rfl) ki_0 ?_
  refine Ev_aload_n 0 (dt_X6_become.at 32 rfl) rfl ?_
  refine Ev_get (i := 4) (v := .ref 57) (dt_X6_become.at 33 rfl) ff_X6_21 sk_53 rfl rfl ?_
  refine Ev_iconst (dt_X6_become.at 34 rfl) ki_0 ?_
  refine Ev_iconst (dt_X6_become.at 35 rfl) ki_5 ?_
  refine Ev_copy (st := []) (dt_X6_become.at 36 rfl) ac_X6_44 (by decide) sk_29 sk_57 (by decide) (Nat.le_of_ble_eq_true rfl) ?_
  refine Ev_nmS (fun s5 es5 => ?_)
  replace h := oLt h es5
  refine Ev_aload_n 1 (dt_X6_become.at 37 rfl) rfl ?_
  refine Ev_get (i := 5) (v := .ref 30) (dt_X6_become.at 38 rfl) ff_X6_24 sk_25 rfl rfl ?_
  refine Ev_iconst (dt_X6_become.at 39 rfl) ki_0 ?_
  refine Ev_aload_n 0 (dt_X6_become.at 40 rfl) rfl ?_
  refine Ev_get (i := 5) (v := .ref 58) (dt_X6_become.at 41 rfl) ff_X6_24 sk_53 rfl rfl ?_
  refine Ev_iconst (dt_X6_become.at 42 rfl) ki_0 ?_
  refine Ev_iconst (dt_X6_become.at 43 rfl) ki_5 ?_
  refine Ev_copy (st := []) (dt_X6_become.at 44 rfl) ac_X6_44 (by decide) sk_30 sk_58 (by decide) (Nat.le_of_ble_eq_true rfl) ?_
  refine Ev_nmS (fun s6 es6 => ?_)
  replace h := oLt h es6
  refine Ev_aload_n 0 (dt_X6_become.at 45 rfl) rfl ?_
  refine Ev_aload_n 1 (dt_X6_become.at 46 rfl) rfl ?_
  refine Ev_get (i := 6) (v := .int (gI s6 25 6)) (dt_X6_become.at 47 rfl) ff_X6_31 sk_25 rfl rfl ?_
  refine Ev_putI (dt_X6_become.at 48 rfl) ff_X6_31 fw_6_6 sk_53 rfl ?_
  refine Ev_nmS (fun s7 es7 => ?_)
  replace h := oLt h es7
  refine Ev_aload_n 0 (dt_X6_become.at 49 rfl) rfl ?_
  refine Ev_aload_n 1 (dt_X6_become.at 50 rfl) rfl ?_
  refine Ev_get (i := 7) (v := .int (gI s7 25 7)) (dt_X6_become.at 51 rfl) ff_X6_35 sk_25 rfl rfl ?_
  refine Ev_putI (dt_X6_become.at 52 rfl) ff_X6_35 fw_6_7 sk_53 rfl ?_
  refine Ev_nmS (fun s8 es8 => ?_)
  replace h := oLt h es8
  exact Ev_vret (dt_X6_become.at 53 rfl) rfl h
def s_Town_become_59_19 (σ : Sg)  : Option Sg :=
  lt (pI σ 59 5 (gI σ 19 5) : Sg) fun s1 =>
  lt (pI s1 59 6 (gI s1 19 6) : Sg) fun s2 =>
  lt (cpI s2 20 (Int32.toNatClampNeg 0) 60 (Int32.toNatClampNeg 0) (Int32.toNatClampNeg 9) : Sg) fun s3 =>
  lt (cpI s3 21 (Int32.toNatClampNeg 0) 61 (Int32.toNatClampNeg 0) (Int32.toNatClampNeg 9) : Sg) fun s4 =>
  lt (cpI s4 22 (Int32.toNatClampNeg 0) 62 (Int32.toNatClampNeg 0) (Int32.toNatClampNeg 9) : Sg) fun s5 =>
  lt (cpI s5 23 (Int32.toNatClampNeg 0) 63 (Int32.toNatClampNeg 0) (Int32.toNatClampNeg 36) : Sg) fun s6 =>
  lt (cpI s6 24 (Int32.toNatClampNeg 0) 64 (Int32.toNatClampNeg 0) (Int32.toNatClampNeg 36) : Sg) fun s7 =>
  some s7
set_option maxRecDepth 100000 in
set_option maxHeartbeats 4000000 in
theorem w_Town_become_59_19 (σ : Sg)  (q : Sg) (h : s_Town_become_59_19 σ  = some q) : Cal M_X9_become 1 [.ref 59, .ref 19] σ none q := by
  refine Cal.of (M := M_X9_become) (by decide +kernel) (Nat.le_of_ble_eq_true rfl) ?_
  show Ev _ _ _ _ 0 [(0, .ref 59), (1, .ref 19)] [] σ
  unfold s_Town_become_59_19 at h
  refine Ev_aload_n 0 (dt_X9_become.at 0 rfl) rfl ?_
  refine Ev_aload_n 1 (dt_X9_become.at 1 rfl) rfl ?_
  refine Ev_get (i := 5) (v := .int (gI σ 19 5)) (dt_X9_become.at 2 rfl) ff_X9_27 sk_19 rfl rfl ?_
  refine Ev_putI (dt_X9_become.at 3 rfl) ff_X9_27 fw_9_5 sk_59 rfl ?_
  refine Ev_nmS (fun s1 es1 => ?_)
  replace h := oLt h es1
  refine Ev_aload_n 0 (dt_X9_become.at 4 rfl) rfl ?_
  refine Ev_aload_n 1 (dt_X9_become.at 5 rfl) rfl ?_
  refine Ev_get (i := 6) (v := .int (gI s1 19 6)) (dt_X9_become.at 6 rfl) ff_X9_31 sk_19 rfl rfl ?_
  refine Ev_putI (dt_X9_become.at 7 rfl) ff_X9_31 fw_9_6 sk_59 rfl ?_
  refine Ev_nmS (fun s2 es2 => ?_)
  replace h := oLt h es2
  refine Ev_aload_n 1 (dt_X9_become.at 8 rfl) rfl ?_
  refine Ev_get (i := 0) (v := .ref 20) (dt_X9_become.at 9 rfl) ff_X9_9 sk_19 rfl rfl ?_
  refine Ev_iconst (dt_X9_become.at 10 rfl) ki_0 ?_
  refine Ev_aload_n 0 (dt_X9_become.at 11 rfl) rfl ?_
  refine Ev_get (i := 0) (v := .ref 60) (dt_X9_become.at 12 rfl) ff_X9_9 sk_59 rfl rfl ?_
  refine Ev_iconst (dt_X9_become.at 13 rfl) ki_0 ?_
  refine Ev_bipush (dt_X9_become.at 14 rfl) kb_9 ?_
  refine Ev_copy (st := []) (dt_X9_become.at 15 rfl) ac_X9_60 (by decide) sk_20 sk_60 (by decide) (Nat.le_of_ble_eq_true rfl) ?_
  refine Ev_nmS (fun s3 es3 => ?_)
  replace h := oLt h es3
  refine Ev_aload_n 1 (dt_X9_become.at 16 rfl) rfl ?_
  refine Ev_get (i := 1) (v := .ref 21) (dt_X9_become.at 17 rfl) ff_X9_15 sk_19 rfl rfl ?_
  refine Ev_iconst (dt_X9_become.at 18 rfl) ki_0 ?_
  refine Ev_aload_n 0 (dt_X9_become.at 19 rfl) rfl ?_
  refine Ev_get (i := 1) (v := .ref 61) (dt_X9_become.at 20 rfl) ff_X9_15 sk_59 rfl rfl ?_
  refine Ev_iconst (dt_X9_become.at 21 rfl) ki_0 ?_
  refine Ev_bipush (dt_X9_become.at 22 rfl) kb_9 ?_
  refine Ev_copy (st := []) (dt_X9_become.at 23 rfl) ac_X9_60 (by decide) sk_21 sk_61 (by decide) (Nat.le_of_ble_eq_true rfl) ?_
  refine Ev_nmS (fun s4 es4 => ?_)
  replace h := oLt h es4
  refine Ev_aload_n 1 (dt_X9_become.at 24 rfl) rfl ?_
  refine Ev_get (i := 2) (v := .ref 22) (dt_X9_become.at 25 rfl) ff_X9_18 sk_19 rfl rfl ?_
  refine Ev_iconst (dt_X9_become.at 26 rfl) ki_0 ?_
  refine Ev_aload_n 0 (dt_X9_become.at 27 rfl) rfl ?_
  refine Ev_get (i := 2) (v := .ref 62) (dt_X9_become.at 28 rfl) ff_X9_18 sk_59 rfl rfl ?_
  refine Ev_iconst (dt_X9_become.at 29 rfl) ki_0 ?_
  refine Ev_bipush (dt_X9_become.at 30 rfl) kb_9 ?_
  refine Ev_copy (st := []) (dt_X9_become.at 31 rfl) ac_X9_60 (by decide) sk_22 sk_62 (by decide) (Nat.le_of_ble_eq_true rfl) ?_
  refine Ev_nmS (fun s5 es5 => ?_)
  replace h := oLt h es5
  refine Ev_aload_n 1 (dt_X9_become.at 32 rfl) rfl ?_
  refine Ev_get (i := 3) (v := .ref 23) (dt_X9_become.at 33 rfl) ff_X9_21 sk_19 rfl rfl ?_
  refine Ev_iconst (dt_X9_become.at 34 rfl) ki_0 ?_
  refine Ev_aload_n 0 (dt_X9_become.at 35 rfl) rfl ?_
  refine Ev_get (i := 3) (v := .ref 63) (dt_X9_become.at 36 rfl) ff_X9_21 sk_59 rfl rfl ?_
  refine Ev_iconst (dt_X9_become.at 37 rfl) ki_0 ?_
  refine Ev_bipush (dt_X9_become.at 38 rfl) kb_36 ?_
  refine Ev_copy (st := []) (dt_X9_become.at 39 rfl) ac_X9_60 (by decide) sk_23 sk_63 (by decide) (Nat.le_of_ble_eq_true rfl) ?_
  refine Ev_nmS (fun s6 es6 => ?_)
  replace h := oLt h es6
  refine Ev_aload_n 1 (dt_X9_become.at 40 rfl) rfl ?_
  refine Ev_get (i := 4) (v := .ref 24) (dt_X9_become.at 41 rfl) ff_X9_24 sk_19 rfl rfl ?_
  refine Ev_iconst (dt_X9_become.at 42 rfl) ki_0 ?_
  refine Ev_aload_n 0 (dt_X9_become.at 43 rfl) rfl ?_
  refine Ev_get (i := 4) (v := .ref 64) (dt_X9_become.at 44 rfl) ff_X9_24 sk_59 rfl rfl ?_
  refine Ev_iconst (dt_X9_become.at 45 rfl) ki_0 ?_
  refine Ev_bipush (dt_X9_become.at 46 rfl) kb_36 ?_
  refine Ev_copy (st := []) (dt_X9_become.at 47 rfl) ac_X9_60 (by decide) sk_24 sk_64 (by decide) (Nat.le_of_ble_eq_true rfl) ?_
  refine Ev_nmS (fun s7 es7 => ?_)
  replace h := oLt h es7
  exact Ev_vret (dt_X9_become.at 48 rfl) rfl h
def s_Scene_become_65_25 (σ : Sg)  : Option Sg :=
  (s_Town_become_59_19 σ ).bind fun q1 =>
  lt (cpI q1 26 (Int32.toNatClampNeg 0) 66 (Int32.toNatClampNeg 0) (Int32.toNatClampNeg 8) : Sg) fun s2 =>
  lt (cpI s2 27 (Int32.toNatClampNeg 0) 67 (Int32.toNatClampNeg 0) (Int32.toNatClampNeg 18) : Sg) fun s3 =>
  lt (cpI s3 28 (Int32.toNatClampNeg 0) 68 (Int32.toNatClampNeg 0) (Int32.toNatClampNeg 5) : Sg) fun s4 =>
  lt (cpI s4 29 (Int32.toNatClampNeg 0) 69 (Int32.toNatClampNeg 0) (Int32.toNatClampNeg 5) : Sg) fun s5 =>
  lt (cpI s5 30 (Int32.toNatClampNeg 0) 70 (Int32.toNatClampNeg 0) (Int32.toNatClampNeg 5) : Sg) fun s6 =>
  lt (pI s6 65 6 (gI s6 25 6) : Sg) fun s7 =>
  lt (pI s7 65 7 (gI s7 25 7) : Sg) fun s8 =>
  some s8
set_option maxRecDepth 100000 in
set_option maxHeartbeats 4000000 in
theorem w_Scene_become_65_25 (σ : Sg)  (q : Sg) (h : s_Scene_become_65_25 σ  = some q) : Cal M_X6_become 2 [.ref 65, .ref 25] σ none q := by
  refine Cal.of (M := M_X6_become) (by decide +kernel) (Nat.le_of_ble_eq_true rfl) ?_
  show Ev _ _ _ _ 0 [(0, .ref 65), (1, .ref 25)] [] σ
  unfold s_Scene_become_65_25 at h
  refine Ev_aload_n 0 (dt_X6_become.at 0 rfl) rfl ?_
  refine Ev_get (i := 0) (v := .ref 59) (dt_X6_become.at 1 rfl) ff_X6_27 sk_65 rfl rfl ?_
  refine Ev_aload_n 1 (dt_X6_become.at 2 rfl) rfl ?_
  refine Ev_get (i := 0) (v := .ref 19) (dt_X6_become.at 3 rfl) ff_X6_27 sk_25 rfl rfl ?_
  obtain ⟨q1, hq1, h⟩ := oBind h
  refine Ev_callV (st := []) (st' := []) [.ref 19] (dt_X6_become.at 4 rfl) cf_X6_38 (w_Town_become_59_19 σ  q1 hq1) (by decide) sk_59 rfl rfl rfl (Nat.le_of_ble_eq_true rfl) rfl ?_
  refine Ev_aload_n 1 (dt_X6_become.at 5 rfl) rfl ?_
  refine Ev_get (i := 1) (v := .ref 26) (dt_X6_become.at 6 rfl) ff_X6_9 sk_25 rfl rfl ?_
  refine Ev_iconst (dt_X6_become.at 7 rfl) ki_0 ?_
  refine Ev_aload_n 0 (dt_X6_become.at 8 rfl) rfl ?_
  refine Ev_get (i := 1) (v := .ref 66) (dt_X6_become.at 9 rfl) ff_X6_9 sk_65 rfl rfl ?_
  refine Ev_iconst (dt_X6_become.at 10 rfl) ki_0 ?_
  refine Ev_bipush (dt_X6_become.at 11 rfl) kb_8 ?_
  refine Ev_copy (st := []) (dt_X6_become.at 12 rfl) ac_X6_44 (by decide) sk_26 sk_66 (by decide) (Nat.le_of_ble_eq_true rfl) ?_
  refine Ev_nmS (fun s2 es2 => ?_)
  replace h := oLt h es2
  refine Ev_aload_n 1 (dt_X6_become.at 13 rfl) rfl ?_
  refine Ev_get (i := 2) (v := .ref 27) (dt_X6_become.at 14 rfl) ff_X6_15 sk_25 rfl rfl ?_
  refine Ev_iconst (dt_X6_become.at 15 rfl) ki_0 ?_
  refine Ev_aload_n 0 (dt_X6_become.at 16 rfl) rfl ?_
  refine Ev_get (i := 2) (v := .ref 67) (dt_X6_become.at 17 rfl) ff_X6_15 sk_65 rfl rfl ?_
  refine Ev_iconst (dt_X6_become.at 18 rfl) ki_0 ?_
  refine Ev_bipush (dt_X6_become.at 19 rfl) kb_18 ?_
  refine Ev_copy (st := []) (dt_X6_become.at 20 rfl) ac_X6_44 (by decide) sk_27 sk_67 (by decide) (Nat.le_of_ble_eq_true rfl) ?_
  refine Ev_nmS (fun s3 es3 => ?_)
  replace h := oLt h es3
  refine Ev_aload_n 1 (dt_X6_become.at 21 rfl) rfl ?_
  refine Ev_get (i := 3) (v := .ref 28) (dt_X6_become.at 22 rfl) ff_X6_18 sk_25 rfl rfl ?_
  refine Ev_iconst (dt_X6_become.at 23 rfl) ki_0 ?_
  refine Ev_aload_n 0 (dt_X6_become.at 24 rfl) rfl ?_
  refine Ev_get (i := 3) (v := .ref 68) (dt_X6_become.at 25 rfl) ff_X6_18 sk_65 rfl rfl ?_
  refine Ev_iconst (dt_X6_become.at 26 rfl) ki_0 ?_
  refine Ev_iconst (dt_X6_become.at 27 rfl) ki_5 ?_
  refine Ev_copy (st := []) (dt_X6_become.at 28 rfl) ac_X6_44 (by decide) sk_28 sk_68 (by decide) (Nat.le_of_ble_eq_true rfl) ?_
  refine Ev_nmS (fun s4 es4 => ?_)
  replace h := oLt h es4
  refine Ev_aload_n 1 (dt_X6_become.at 29 rfl) rfl ?_
  refine Ev_get (i := 4) (v := .ref 29) (dt_X6_become.at 30 rfl) ff_X6_21 sk_25 rfl rfl ?_
  refine Ev_iconst (dt_X6_become.at 31 rfl) ki_0 ?_
  refine Ev_aload_n 0 (dt_X6_become.at 32 rfl) rfl ?_
  refine Ev_get (i := 4) (v := .ref 69) (dt_X6_become.at 33 rfl) ff_X6_21 sk_65 rfl rfl ?_
  refine Ev_iconst (dt_X6_become.at 34 rfl) ki_0 ?_
  refine Ev_iconst (dt_X6_become.at 35 rfl) ki_5 ?_
  refine Ev_copy (st := []) (dt_X6_become.at 36 rfl) ac_X6_44 (by decide) sk_29 sk_69 (by decide) (Nat.le_of_ble_eq_true rfl) ?_
  refine Ev_nmS (fun s5 es5 => ?_)
  replace h := oLt h es5
  refine Ev_aload_n 1 (dt_X6_become.at 37 rfl) rfl ?_
  refine Ev_get (i := 5) (v := .ref 30) (dt_X6_become.at 38 rfl) ff_X6_24 sk_25 rfl rfl ?_
  refine Ev_iconst (dt_X6_become.at 39 rfl) ki_0 ?_
  refine Ev_aload_n 0 (dt_X6_become.at 40 rfl) rfl ?_
  refine Ev_get (i := 5) (v := .ref 70) (dt_X6_become.at 41 rfl) ff_X6_24 sk_65 rfl rfl ?_
  refine Ev_iconst (dt_X6_become.at 42 rfl) ki_0 ?_
  refine Ev_iconst (dt_X6_become.at 43 rfl) ki_5 ?_
  refine Ev_copy (st := []) (dt_X6_become.at 44 rfl) ac_X6_44 (by decide) sk_30 sk_70 (by decide) (Nat.le_of_ble_eq_true rfl) ?_
  refine Ev_nmS (fun s6 es6 => ?_)
  replace h := oLt h es6
  refine Ev_aload_n 0 (dt_X6_become.at 45 rfl) rfl ?_
  refine Ev_aload_n 1 (dt_X6_become.at 46 rfl) rfl ?_
  refine Ev_get (i := 6) (v := .int (gI s6 25 6)) (dt_X6_become.at 47 rfl) ff_X6_31 sk_25 rfl rfl ?_
  refine Ev_putI (dt_X6_become.at 48 rfl) ff_X6_31 fw_6_6 sk_65 rfl ?_
  refine Ev_nmS (fun s7 es7 => ?_)
  replace h := oLt h es7
  refine Ev_aload_n 0 (dt_X6_become.at 49 rfl) rfl ?_
  refine Ev_aload_n 1 (dt_X6_become.at 50 rfl) rfl ?_
  refine Ev_get (i := 7) (v := .int (gI s7 25 7)) (dt_X6_become.at 51 rfl) ff_X6_35 sk_25 rfl rfl ?_
  refine Ev_putI (dt_X6_become.at 52 rfl) ff_X6_35 fw_6_7 sk_65 rfl ?_
  refine Ev_nmS (fun s8 es8 => ?_)
  replace h := oLt h es8
  exact Ev_vret (dt_X6_become.at 53 rfl) rfl h
def s_x_image (σ : Sg) (a1 : Int32) : Option (Int32 × Sg) :=
  (s_x_isImage a1).bind fun q1 =>
  if q1 = 0 then
    (s_x_refusedBad σ (-2)).bind fun q11 =>
    some (q11.1, q11.2)
  else
    if a1 = 0 then
      (s_Scene_become σ ).bind fun q4 =>
      if inB a1 2 = true then
        lt (pI q4 2 (Int32.toNatClampNeg a1) (1 &&& 1) : Sg) fun s6 =>
        some (1, s6)
      else none
    else
      if a1 = 1 then
        (s_Scene_become_65_25 σ ).bind fun q8 =>
        if inB a1 2 = true then
          lt (pI q8 2 (Int32.toNatClampNeg a1) (1 &&& 1) : Sg) fun s10 =>
          some (1, s10)
        else none
      else
        none
set_option maxRecDepth 100000 in
set_option maxHeartbeats 4000000 in
theorem w_x_image (σ : Sg) (a1 : Int32) (q : (Int32 × Sg)) (h : s_x_image σ a1 = some q) : Cal M_X11_image 3 [.ref 0, .int a1] σ (some (.int q.1)) q.2 := by
  refine Cal.of (M := M_X11_image) (by decide +kernel) (Nat.le_of_ble_eq_true rfl) ?_
  show Ev _ _ _ _ 0 [(0, .ref 0), (1, .int a1)] [] σ
  unfold s_x_image at h
  refine Ev_iload_n 1 (dt_X11_image.at 0 rfl) rfl ?_
  obtain ⟨q1, hq1, h⟩ := oBind h
  refine Ev_callS (st := []) (st' := [.int q1]) [.int a1] (dt_X11_image.at 1 rfl) cf_X11_226 (w_x_isImage σ a1 q1 hq1) (by decide) rfl rfl (Nat.le_of_ble_eq_true rfl) rfl ?_
  refine Ev_if_ne (tgt := 14) (dt_X11_image.at 2 rfl) (by decide) (fun c2 => ?_) (fun c2 => ?_)
  · replace h := oNeg h c2
    refine Ev_aload_n 0 (dt_X11_image.at 7 rfl) rfl ?_
    refine Ev_get (i := 1) (v := .ref 1) (dt_X11_image.at 8 rfl) ff_X11_11 sk_0 rfl rfl ?_
    refine Ev_iload_n 1 (dt_X11_image.at 9 rfl) rfl ?_
    by_cases c3 : a1 = 0
    · replace h := oPos h c3
      refine Ev_aaload (c1 := 53) 1 (dt_X11_image.at 10 rfl) sk_1 (Or.inl rfl) (by rw [c3]; decide) (by rw [c3]; decide) ?_
      refine Ev_aload_n 0 (dt_X11_image.at 11 rfl) rfl ?_
      refine Ev_get (i := 0) (v := .ref 25) (dt_X11_image.at 12 rfl) ff_X11_50 sk_0 rfl rfl ?_
      obtain ⟨q4, hq4, h⟩ := oBind h
      refine Ev_callV (st := []) (st' := []) [.ref 25] (dt_X11_image.at 13 rfl) cf_X11_229 (w_Scene_become σ  q4 hq4) (by decide) sk_53 rfl rfl rfl (Nat.le_of_ble_eq_true rfl) rfl ?_
      refine Ev_aload_n 0 (dt_X11_image.at 14 rfl) rfl ?_
      refine Ev_get (i := 2) (v := .ref 2) (dt_X11_image.at 15 rfl) ff_X11_15 sk_0 rfl rfl ?_
      refine Ev_iload_n 1 (dt_X11_image.at 16 rfl) rfl ?_
      refine Ev_iconst (dt_X11_image.at 17 rfl) ki_1 ?_
      obtain ⟨g5, h⟩ := oGuard h
      refine Ev_bastore 2 (dt_X11_image.at 18 rfl) sk_2 g5 ?_
      refine Ev_nmS (fun s6 es6 => ?_)
      replace h := oLt h es6
      refine Ev_iconst (dt_X11_image.at 19 rfl) ki_1 ?_
      exact Ev_iret (dt_X11_image.at 20 rfl) rfl h
    replace h := oNeg h c3
    obtain ⟨c7, h⟩ := oGuard h
    refine Ev_aaload (c1 := 65) 1 (dt_X11_image.at 10 rfl) sk_1 (Or.inl rfl) (by rw [c7]; decide) (by rw [c7]; decide) ?_
    refine Ev_aload_n 0 (dt_X11_image.at 11 rfl) rfl ?_
    refine Ev_get (i := 0) (v := .ref 25) (dt_X11_image.at 12 rfl) ff_X11_50 sk_0 rfl rfl ?_
    obtain ⟨q8, hq8, h⟩ := oBind h
    refine Ev_callV (st := []) (st' := []) [.ref 25] (dt_X11_image.at 13 rfl) cf_X11_229 (w_Scene_become_65_25 σ  q8 hq8) (by decide) sk_65 rfl rfl rfl (Nat.le_of_ble_eq_true rfl) rfl ?_
    refine Ev_aload_n 0 (dt_X11_image.at 14 rfl) rfl ?_
    refine Ev_get (i := 2) (v := .ref 2) (dt_X11_image.at 15 rfl) ff_X11_15 sk_0 rfl rfl ?_
    refine Ev_iload_n 1 (dt_X11_image.at 16 rfl) rfl ?_
    refine Ev_iconst (dt_X11_image.at 17 rfl) ki_1 ?_
    obtain ⟨g9, h⟩ := oGuard h
    refine Ev_bastore 2 (dt_X11_image.at 18 rfl) sk_2 g9 ?_
    refine Ev_nmS (fun s10 es10 => ?_)
    replace h := oLt h es10
    refine Ev_iconst (dt_X11_image.at 19 rfl) ki_1 ?_
    exact Ev_iret (dt_X11_image.at 20 rfl) rfl h
  · replace h := oPos h c2
    refine Ev_aload_n 0 (dt_X11_image.at 3 rfl) rfl ?_
    refine Ev_bipush (dt_X11_image.at 4 rfl) kb_m2 ?_
    obtain ⟨q11, hq11, h⟩ := oBind h
    refine Ev_callV (st := []) (st' := [.int q11.1]) [.int (-2)] (dt_X11_image.at 5 rfl) cf_X11_68 (w_x_refusedBad σ (-2) q11 hq11) (by decide) sk_0 rfl rfl rfl (Nat.le_of_ble_eq_true rfl) rfl ?_
    exact Ev_iret (dt_X11_image.at 6 rfl) rfl h
def s_Town_become_19_47 (σ : Sg)  : Option Sg :=
  lt (pI σ 19 5 (gI σ 47 5) : Sg) fun s1 =>
  lt (pI s1 19 6 (gI s1 47 6) : Sg) fun s2 =>
  lt (cpI s2 48 (Int32.toNatClampNeg 0) 20 (Int32.toNatClampNeg 0) (Int32.toNatClampNeg 9) : Sg) fun s3 =>
  lt (cpI s3 49 (Int32.toNatClampNeg 0) 21 (Int32.toNatClampNeg 0) (Int32.toNatClampNeg 9) : Sg) fun s4 =>
  lt (cpI s4 50 (Int32.toNatClampNeg 0) 22 (Int32.toNatClampNeg 0) (Int32.toNatClampNeg 9) : Sg) fun s5 =>
  lt (cpI s5 51 (Int32.toNatClampNeg 0) 23 (Int32.toNatClampNeg 0) (Int32.toNatClampNeg 36) : Sg) fun s6 =>
  lt (cpI s6 52 (Int32.toNatClampNeg 0) 24 (Int32.toNatClampNeg 0) (Int32.toNatClampNeg 36) : Sg) fun s7 =>
  some s7
set_option maxRecDepth 100000 in
set_option maxHeartbeats 4000000 in
theorem w_Town_become_19_47 (σ : Sg)  (q : Sg) (h : s_Town_become_19_47 σ  = some q) : Cal M_X9_become 1 [.ref 19, .ref 47] σ none q := by
  refine Cal.of (M := M_X9_become) (by decide +kernel) (Nat.le_of_ble_eq_true rfl) ?_
  show Ev _ _ _ _ 0 [(0, .ref 19), (1, .ref 47)] [] σ
  unfold s_Town_become_19_47 at h
  refine Ev_aload_n 0 (dt_X9_become.at 0 rfl) rfl ?_
  refine Ev_aload_n 1 (dt_X9_become.at 1 rfl) rfl ?_
  refine Ev_get (i := 5) (v := .int (gI σ 47 5)) (dt_X9_become.at 2 rfl) ff_X9_27 sk_47 rfl rfl ?_
  refine Ev_putI (dt_X9_become.at 3 rfl) ff_X9_27 fw_9_5 sk_19 rfl ?_
  refine Ev_nmS (fun s1 es1 => ?_)
  replace h := oLt h es1
  refine Ev_aload_n 0 (dt_X9_become.at 4 rfl) rfl ?_
  refine Ev_aload_n 1 (dt_X9_become.at 5 rfl) rfl ?_
  refine Ev_get (i := 6) (v := .int (gI s1 47 6)) (dt_X9_become.at 6 rfl) ff_X9_31 sk_47 rfl rfl ?_
  refine Ev_putI (dt_X9_become.at 7 rfl) ff_X9_31 fw_9_6 sk_19 rfl ?_
  refine Ev_nmS (fun s2 es2 => ?_)
  replace h := oLt h es2
  refine Ev_aload_n 1 (dt_X9_become.at 8 rfl) rfl ?_
  refine Ev_get (i := 0) (v := .ref 48) (dt_X9_become.at 9 rfl) ff_X9_9 sk_47 rfl rfl ?_
  refine Ev_iconst (dt_X9_become.at 10 rfl) ki_0 ?_
  refine Ev_aload_n 0 (dt_X9_become.at 11 rfl) rfl ?_
  refine Ev_get (i := 0) (v := .ref 20) (dt_X9_become.at 12 rfl) ff_X9_9 sk_19 rfl rfl ?_
  refine Ev_iconst (dt_X9_become.at 13 rfl) ki_0 ?_
  refine Ev_bipush (dt_X9_become.at 14 rfl) kb_9 ?_
  refine Ev_copy (st := []) (dt_X9_become.at 15 rfl) ac_X9_60 (by decide) sk_48 sk_20 (by decide) (Nat.le_of_ble_eq_true rfl) ?_
  refine Ev_nmS (fun s3 es3 => ?_)
  replace h := oLt h es3
  refine Ev_aload_n 1 (dt_X9_become.at 16 rfl) rfl ?_
  refine Ev_get (i := 1) (v := .ref 49) (dt_X9_become.at 17 rfl) ff_X9_15 sk_47 rfl rfl ?_
  refine Ev_iconst (dt_X9_become.at 18 rfl) ki_0 ?_
  refine Ev_aload_n 0 (dt_X9_become.at 19 rfl) rfl ?_
  refine Ev_get (i := 1) (v := .ref 21) (dt_X9_become.at 20 rfl) ff_X9_15 sk_19 rfl rfl ?_
  refine Ev_iconst (dt_X9_become.at 21 rfl) ki_0 ?_
  refine Ev_bipush (dt_X9_become.at 22 rfl) kb_9 ?_
  refine Ev_copy (st := []) (dt_X9_become.at 23 rfl) ac_X9_60 (by decide) sk_49 sk_21 (by decide) (Nat.le_of_ble_eq_true rfl) ?_
  refine Ev_nmS (fun s4 es4 => ?_)
  replace h := oLt h es4
  refine Ev_aload_n 1 (dt_X9_become.at 24 rfl) rfl ?_
  refine Ev_get (i := 2) (v := .ref 50) (dt_X9_become.at 25 rfl) ff_X9_18 sk_47 rfl rfl ?_
  refine Ev_iconst (dt_X9_become.at 26 rfl) ki_0 ?_
  refine Ev_aload_n 0 (dt_X9_become.at 27 rfl) rfl ?_
  refine Ev_get (i := 2) (v := .ref 22) (dt_X9_become.at 28 rfl) ff_X9_18 sk_19 rfl rfl ?_
  refine Ev_iconst (dt_X9_become.at 29 rfl) ki_0 ?_
  refine Ev_bipush (dt_X9_become.at 30 rfl) kb_9 ?_
  refine Ev_copy (st := []) (dt_X9_become.at 31 rfl) ac_X9_60 (by decide) sk_50 sk_22 (by decide) (Nat.le_of_ble_eq_true rfl) ?_
  refine Ev_nmS (fun s5 es5 => ?_)
  replace h := oLt h es5
  refine Ev_aload_n 1 (dt_X9_become.at 32 rfl) rfl ?_
  refine Ev_get (i := 3) (v := .ref 51) (dt_X9_become.at 33 rfl) ff_X9_21 sk_47 rfl rfl ?_
  refine Ev_iconst (dt_X9_become.at 34 rfl) ki_0 ?_
  refine Ev_aload_n 0 (dt_X9_become.at 35 rfl) rfl ?_
  refine Ev_get (i := 3) (v := .ref 23) (dt_X9_become.at 36 rfl) ff_X9_21 sk_19 rfl rfl ?_
  refine Ev_iconst (dt_X9_become.at 37 rfl) ki_0 ?_
  refine Ev_bipush (dt_X9_become.at 38 rfl) kb_36 ?_
  refine Ev_copy (st := []) (dt_X9_become.at 39 rfl) ac_X9_60 (by decide) sk_51 sk_23 (by decide) (Nat.le_of_ble_eq_true rfl) ?_
  refine Ev_nmS (fun s6 es6 => ?_)
  replace h := oLt h es6
  refine Ev_aload_n 1 (dt_X9_become.at 40 rfl) rfl ?_
  refine Ev_get (i := 4) (v := .ref 52) (dt_X9_become.at 41 rfl) ff_X9_24 sk_47 rfl rfl ?_
  refine Ev_iconst (dt_X9_become.at 42 rfl) ki_0 ?_
  refine Ev_aload_n 0 (dt_X9_become.at 43 rfl) rfl ?_
  refine Ev_get (i := 4) (v := .ref 24) (dt_X9_become.at 44 rfl) ff_X9_24 sk_19 rfl rfl ?_
  refine Ev_iconst (dt_X9_become.at 45 rfl) ki_0 ?_
  refine Ev_bipush (dt_X9_become.at 46 rfl) kb_36 ?_
  refine Ev_copy (st := []) (dt_X9_become.at 47 rfl) ac_X9_60 (by decide) sk_52 sk_24 (by decide) (Nat.le_of_ble_eq_true rfl) ?_
  refine Ev_nmS (fun s7 es7 => ?_)
  replace h := oLt h es7
  exact Ev_vret (dt_X9_become.at 48 rfl) rfl h
