def s_Scene_become_25_53 (σ : Sg)  : Option Sg :=
  (s_Town_become_19_47 σ ).bind fun q1 =>
  lt (cpI q1 54 (Int32.toNatClampNeg 0) 26 (Int32.toNatClampNeg 0) (Int32.toNatClampNeg 8) : Sg) fun s2 =>
  lt (cpI s2 55 (Int32.toNatClampNeg 0) 27 (Int32.toNatClampNeg 0) (Int32.toNatClampNeg 18) : Sg) fun s3 =>
  lt (cpI s3 56 (Int32.toNatClampNeg 0) 28 (Int32.toNatClampNeg 0) (Int32.toNatClampNeg 5) : Sg) fun s4 =>
  lt (cpI s4 57 (Int32.toNatClampNeg 0) 29 (Int32.toNatClampNeg 0) (Int32.toNatClampNeg 5) : Sg) fun s5 =>
  lt (cpI s5 58 (Int32.toNatClampNeg 0) 30 (Int32.toNatClampNeg 0) (Int32.toNatClampNeg 5) : Sg) fun s6 =>
  lt (pI s6 25 6 (gI s6 53 6) : Sg) fun s7 =>
  lt (pI s7 25 7 (gI s7 53 7) : Sg) fun s8 =>
  some s8
set_option maxRecDepth 100000 in
set_option maxHeartbeats 4000000 in
theorem w_Scene_become_25_53 (σ : Sg)  (q : Sg) (h : s_Scene_become_25_53 σ  = some q) : Cal M_X6_become 2 [.ref 25, .ref 53] σ none q := by
  refine Cal.of (M := M_X6_become) (by decide +kernel) (Nat.le_of_ble_eq_true rfl) ?_
  show Ev _ _ _ _ 0 [(0, .ref 25), (1, .ref 53)] [] σ
  unfold s_Scene_become_25_53 at h
  refine Ev_aload_n 0 (dt_X6_become.at 0 rfl) rfl ?_
  refine Ev_get (i := 0) (v := .ref 19) (dt_X6_become.at 1 rfl) ff_X6_27 sk_25 rfl rfl ?_
  refine Ev_aload_n 1 (dt_X6_become.at 2 rfl) rfl ?_
  refine Ev_get (i := 0) (v := .ref 47) (dt_X6_become.at 3 rfl) ff_X6_27 sk_53 rfl rfl ?_
  obtain ⟨q1, hq1, h⟩ := oBind h
  refine Ev_callV (st := []) (st' := []) [.ref 47] (dt_X6_become.at 4 rfl) cf_X6_38 (w_Town_become_19_47 σ  q1 hq1) (by decide) sk_19 rfl rfl rfl (Nat.le_of_ble_eq_true rfl) rfl ?_
  refine Ev_aload_n 1 (dt_X6_become.at 5 rfl) rfl ?_
  refine Ev_get (i := 1) (v := .ref 54) (dt_X6_become.at 6 rfl) ff_X6_9 sk_53 rfl rfl ?_
  refine Ev_iconst (dt_X6_become.at 7 rfl) ki_0 ?_
  refine Ev_aload_n 0 (dt_X6_become.at 8 rfl) rfl ?_
  refine Ev_get (i := 1) (v := .ref 26) (dt_X6_become.at 9 rfl) ff_X6_9 sk_25 rfl rfl ?_
  refine Ev_iconst (dt_X6_become.at 10 rfl) ki_0 ?_
  refine Ev_bipush (dt_X6_become.at 11 rfl) kb_8 ?_
  refine Ev_copy (st := []) (dt_X6_become.at 12 rfl) ac_X6_44 (by decide) sk_54 sk_26 (by decide) (Nat.le_of_ble_eq_true rfl) ?_
  refine Ev_nmS (fun s2 es2 => ?_)
  replace h := oLt h es2
  refine Ev_aload_n 1 (dt_X6_become.at 13 rfl) rfl ?_
  refine Ev_get (i := 2) (v := .ref 55) (dt_X6_become.at 14 rfl) ff_X6_15 sk_53 rfl rfl ?_
  refine Ev_iconst (dt_X6_become.at 15 rfl) ki_0 ?_
  refine Ev_aload_n 0 (dt_X6_become.at 16 rfl) rfl ?_
  refine Ev_get (i := 2) (v := .ref 27) (dt_X6_become.at 17 rfl) ff_X6_15 sk_25 rfl rfl ?_
  refine Ev_iconst (dt_X6_become.at 18 rfl) ki_0 ?_
  refine Ev_bipush (dt_X6_become.at 19 rfl) kb_18 ?_
  refine Ev_copy (st := []) (dt_X6_become.at 20 rfl) ac_X6_44 (by decide) sk_55 sk_27 (by decide) (Nat.le_of_ble_eq_true rfl) ?_
  refine Ev_nmS (fun s3 es3 => ?_)
  replace h := oLt h es3
  refine Ev_aload_n 1 (dt_X6_become.at 21 rfl) rfl ?_
  refine Ev_get (i := 3) (v := .ref 56) (dt_X6_become.at 22 rfl) ff_X6_18 sk_53 rfl rfl ?_
  refine Ev_iconst (dt_X6_become.at 23 rfl) ki_0 ?_
  refine Ev_aload_n 0 (dt_X6_become.at 24 rfl) rfl ?_
  refine Ev_get (i := 3) (v := .ref 28) (dt_X6_become.at 25 rfl) ff_X6_18 sk_25 rfl rfl ?_
  refine Ev_iconst (dt_X6_become.at 26 rfl) ki_0 ?_
  refine Ev_iconst (dt_X6_become.at 27 rfl) ki_5 ?_
  refine Ev_copy (st := []) (dt_X6_become.at 28 rfl) ac_X6_44 (by decide) sk_56 sk_28 (by decide) (Nat.le_of_ble_eq_true rfl) ?_
  refine Ev_nmS (fun s4 es4 => ?_)
  replace h := oLt h es4
  refine Ev_aload_n 1 (dt_X6_become.at 29 rfl) rfl ?_
  refine Ev_get (i := 4) (v := .ref 57) (dt_X6_become.at 30 rfl) ff_X6_21 sk_53 rfl rfl ?_
  refine Ev_iconst (dt_X6_become.at 31 rfl) ki_0 ?_
  refine Ev_aload_n 0 (dt_X6_become.at 32 rfl) rfl ?_
  refine Ev_get (i := 4) (v := .ref 29) (dt_X6_become.at 33 rfl) ff_X6_21 sk_25 rfl rfl ?_
  refine Ev_iconst (dt_X6_become.at 34 rfl) ki_0 ?_
  refine Ev_iconst (dt_X6_become.at 35 rfl) ki_5 ?_
  refine Ev_copy (st := []) (dt_X6_become.at 36 rfl) ac_X6_44 (by decide) sk_57 sk_29 (by decide) (Nat.le_of_ble_eq_true rfl) ?_
  refine Ev_nmS (fun s5 es5 => ?_)
  replace h := oLt h es5
  refine Ev_aload_n 1 (dt_X6_become.at 37 rfl) rfl ?_
  refine Ev_get (i := 5) (v := .ref 58) (dt_X6_become.at 38 rfl) ff_X6_24 sk_53 rfl rfl ?_
  refine Ev_iconst (dt_X6_become.at 39 rfl) ki_0 ?_
  refine Ev_aload_n 0 (dt_X6_become.at 40 rfl) rfl ?_
  refine Ev_get (i := 5) (v := .ref 30) (dt_X6_become.at 41 rfl) ff_X6_24 sk_25 rfl rfl ?_
  refine Ev_iconst (dt_X6_become.at 42 rfl) ki_0 ?_
  refine Ev_iconst (dt_X6_become.at 43 rfl) ki_5 ?_
  refine Ev_copy (st := []) (dt_X6_become.at 44 rfl) ac_X6_44 (by decide) sk_58 sk_30 (by decide) (Nat.le_of_ble_eq_true rfl) ?_
  refine Ev_nmS (fun s6 es6 => ?_)
  replace h := oLt h es6
  refine Ev_aload_n 0 (dt_X6_become.at 45 rfl) rfl ?_
  refine Ev_aload_n 1 (dt_X6_become.at 46 rfl) rfl ?_
  refine Ev_get (i := 6) (v := .int (gI s6 53 6)) (dt_X6_become.at 47 rfl) ff_X6_31 sk_53 rfl rfl ?_
  refine Ev_putI (dt_X6_become.at 48 rfl) ff_X6_31 fw_6_6 sk_25 rfl ?_
  refine Ev_nmS (fun s7 es7 => ?_)
  replace h := oLt h es7
  refine Ev_aload_n 0 (dt_X6_become.at 49 rfl) rfl ?_
  refine Ev_aload_n 1 (dt_X6_become.at 50 rfl) rfl ?_
  refine Ev_get (i := 7) (v := .int (gI s7 53 7)) (dt_X6_become.at 51 rfl) ff_X6_35 sk_53 rfl rfl ?_
  refine Ev_putI (dt_X6_become.at 52 rfl) ff_X6_35 fw_6_7 sk_25 rfl ?_
  refine Ev_nmS (fun s8 es8 => ?_)
  replace h := oLt h es8
  exact Ev_vret (dt_X6_become.at 53 rfl) rfl h
def s_Town_become_19_59 (σ : Sg)  : Option Sg :=
  lt (pI σ 19 5 (gI σ 59 5) : Sg) fun s1 =>
  lt (pI s1 19 6 (gI s1 59 6) : Sg) fun s2 =>
  lt (cpI s2 60 (Int32.toNatClampNeg 0) 20 (Int32.toNatClampNeg 0) (Int32.toNatClampNeg 9) : Sg) fun s3 =>
  lt (cpI s3 61 (Int32.toNatClampNeg 0) 21 (Int32.toNatClampNeg 0) (Int32.toNatClampNeg 9) : Sg) fun s4 =>
  lt (cpI s4 62 (Int32.toNatClampNeg 0) 22 (Int32.toNatClampNeg 0) (Int32.toNatClampNeg 9) : Sg) fun s5 =>
  lt (cpI s5 63 (Int32.toNatClampNeg 0) 23 (Int32.toNatClampNeg 0) (Int32.toNatClampNeg 36) : Sg) fun s6 =>
  lt (cpI s6 64 (Int32.toNatClampNeg 0) 24 (Int32.toNatClampNeg 0) (Int32.toNatClampNeg 36) : Sg) fun s7 =>
  some s7
set_option maxRecDepth 100000 in
set_option maxHeartbeats 4000000 in
theorem w_Town_become_19_59 (σ : Sg)  (q : Sg) (h : s_Town_become_19_59 σ  = some q) : Cal M_X9_become 1 [.ref 19, .ref 59] σ none q := by
  refine Cal.of (M := M_X9_become) (by decide +kernel) (Nat.le_of_ble_eq_true rfl) ?_
  show Ev _ _ _ _ 0 [(0, .ref 19), (1, .ref 59)] [] σ
  unfold s_Town_become_19_59 at h
  refine Ev_aload_n 0 (dt_X9_become.at 0 rfl) rfl ?_
  refine Ev_aload_n 1 (dt_X9_become.at 1 rfl) rfl ?_
  refine Ev_get (i := 5) (v := .int (gI σ 59 5)) (dt_X9_become.at 2 rfl) ff_X9_27 sk_59 rfl rfl ?_
  refine Ev_putI (dt_X9_become.at 3 rfl) ff_X9_27 fw_9_5 sk_19 rfl ?_
  refine Ev_nmS (fun s1 es1 => ?_)
  replace h := oLt h es1
  refine Ev_aload_n 0 (dt_X9_become.at 4 rfl) rfl ?_
  refine Ev_aload_n 1 (dt_X9_become.at 5 rfl) rfl ?_
  refine Ev_get (i := 6) (v := .int (gI s1 59 6)) (dt_X9_become.at 6 rfl) ff_X9_31 sk_59 rfl rfl ?_
  refine Ev_putI (dt_X9_become.at 7 rfl) ff_X9_31 fw_9_6 sk_19 rfl ?_
  refine Ev_nmS (fun s2 es2 => ?_)
  replace h := oLt h es2
  refine Ev_aload_n 1 (dt_X9_become.at 8 rfl) rfl ?_
  refine Ev_get (i := 0) (v := .ref 60) (dt_X9_become.at 9 rfl) ff_X9_9 sk_59 rfl rfl ?_
  refine Ev_iconst (dt_X9_become.at 10 rfl) ki_0 ?_
  refine Ev_aload_n 0 (dt_X9_become.at 11 rfl) rfl ?_
  refine Ev_get (i := 0) (v := .ref 20) (dt_X9_become.at 12 rfl) ff_X9_9 sk_19 rfl rfl ?_
  refine Ev_iconst (dt_X9_become.at 13 rfl) ki_0 ?_
  refine Ev_bipush (dt_X9_become.at 14 rfl) kb_9 ?_
  refine Ev_copy (st := []) (dt_X9_become.at 15 rfl) ac_X9_60 (by decide) sk_60 sk_20 (by decide) (Nat.le_of_ble_eq_true rfl) ?_
  refine Ev_nmS (fun s3 es3 => ?_)
  replace h := oLt h es3
  refine Ev_aload_n 1 (dt_X9_become.at 16 rfl) rfl ?_
  refine Ev_get (i := 1) (v := .ref 61) (dt_X9_become.at 17 rfl) ff_X9_15 sk_59 rfl rfl ?_
  refine Ev_iconst (dt_X9_become.at 18 rfl) ki_0 ?_
  refine Ev_aload_n 0 (dt_X9_become.at 19 rfl) rfl ?_
  refine Ev_get (i := 1) (v := .ref 21) (dt_X9_become.at 20 rfl) ff_X9_15 sk_19 rfl rfl ?_
  refine Ev_iconst (dt_X9_become.at 21 rfl) ki_0 ?_
  refine Ev_bipush (dt_X9_become.at 22 rfl) kb_9 ?_
  refine Ev_copy (st := []) (dt_X9_become.at 23 rfl) ac_X9_60 (by decide) sk_61 sk_21 (by decide) (Nat.le_of_ble_eq_true rfl) ?_
  refine Ev_nmS (fun s4 es4 => ?_)
  replace h := oLt h es4
  refine Ev_aload_n 1 (dt_X9_become.at 24 rfl) rfl ?_
  refine Ev_get (i := 2) (v := .ref 62) (dt_X9_become.at 25 rfl) ff_X9_18 sk_59 rfl rfl ?_
  refine Ev_iconst (dt_X9_become.at 26 rfl) ki_0 ?_
  refine Ev_aload_n 0 (dt_X9_become.at 27 rfl) rfl ?_
  refine Ev_get (i := 2) (v := .ref 22) (dt_X9_become.at 28 rfl) ff_X9_18 sk_19 rfl rfl ?_
  refine Ev_iconst (dt_X9_become.at 29 rfl) ki_0 ?_
  refine Ev_bipush (dt_X9_become.at 30 rfl) kb_9 ?_
  refine Ev_copy (st := []) (dt_X9_become.at 31 rfl) ac_X9_60 (by decide) sk_62 sk_22 (by decide) (Nat.le_of_ble_eq_true rfl) ?_
  refine Ev_nmS (fun s5 es5 => ?_)
  replace h := oLt h es5
  refine Ev_aload_n 1 (dt_X9_become.at 32 rfl) rfl ?_
  refine Ev_get (i := 3) (v := .ref 63) (dt_X9_become.at 33 rfl) ff_X9_21 sk_59 rfl rfl ?_
  refine Ev_iconst (dt_X9_become.at 34 rfl) ki_0 ?_
  refine Ev_aload_n 0 (dt_X9_become.at 35 rfl) rfl ?_
  refine Ev_get (i := 3) (v := .ref 23) (dt_X9_become.at 36 rfl) ff_X9_21 sk_19 rfl rfl ?_
  refine Ev_iconst (dt_X9_become.at 37 rfl) ki_0 ?_
  refine Ev_bipush (dt_X9_become.at 38 rfl) kb_36 ?_
  refine Ev_copy (st := []) (dt_X9_become.at 39 rfl) ac_X9_60 (by decide) sk_63 sk_23 (by decide) (Nat.le_of_ble_eq_true rfl) ?_
  refine Ev_nmS (fun s6 es6 => ?_)
  replace h := oLt h es6
  refine Ev_aload_n 1 (dt_X9_become.at 40 rfl) rfl ?_
  refine Ev_get (i := 4) (v := .ref 64) (dt_X9_become.at 41 rfl) ff_X9_24 sk_59 rfl rfl ?_
  refine Ev_iconst (dt_X9_become.at 42 rfl) ki_0 ?_
  refine Ev_aload_n 0 (dt_X9_become.at 43 rfl) rfl ?_
  refine Ev_get (i := 4) (v := .ref 24) (dt_X9_become.at 44 rfl) ff_X9_24 sk_19 rfl rfl ?_
  refine Ev_iconst (dt_X9_become.at 45 rfl) ki_0 ?_
  refine Ev_bipush (dt_X9_become.at 46 rfl) kb_36 ?_
  refine Ev_copy (st := []) (dt_X9_become.at 47 rfl) ac_X9_60 (by decide) sk_64 sk_24 (by decide) (Nat.le_of_ble_eq_true rfl) ?_
  refine Ev_nmS (fun s7 es7 => ?_)
  replace h := oLt h es7
  exact Ev_vret (dt_X9_become.at 48 rfl) rfl h
def s_Scene_become_25_65 (σ : Sg)  : Option Sg :=
  (s_Town_become_19_59 σ ).bind fun q1 =>
  lt (cpI q1 66 (Int32.toNatClampNeg 0) 26 (Int32.toNatClampNeg 0) (Int32.toNatClampNeg 8) : Sg) fun s2 =>
  lt (cpI s2 67 (Int32.toNatClampNeg 0) 27 (Int32.toNatClampNeg 0) (Int32.toNatClampNeg 18) : Sg) fun s3 =>
  lt (cpI s3 68 (Int32.toNatClampNeg 0) 28 (Int32.toNatClampNeg 0) (Int32.toNatClampNeg 5) : Sg) fun s4 =>
  lt (cpI s4 69 (Int32.toNatClampNeg 0) 29 (Int32.toNatClampNeg 0) (Int32.toNatClampNeg 5) : Sg) fun s5 =>
  lt (cpI s5 70 (Int32.toNatClampNeg 0) 30 (Int32.toNatClampNeg 0) (Int32.toNatClampNeg 5) : Sg) fun s6 =>
  lt (pI s6 25 6 (gI s6 65 6) : Sg) fun s7 =>
  lt (pI s7 25 7 (gI s7 65 7) : Sg) fun s8 =>
  some s8
set_option maxRecDepth 100000 in
set_option maxHeartbeats 4000000 in
theorem w_Scene_become_25_65 (σ : Sg)  (q : Sg) (h : s_Scene_become_25_65 σ  = some q) : Cal M_X6_become 2 [.ref 25, .ref 65] σ none q := by
  refine Cal.of (M := M_X6_become) (by decide +kernel) (Nat.le_of_ble_eq_true rfl) ?_
  show Ev _ _ _ _ 0 [(0, .ref 25), (1, .ref 65)] [] σ
  unfold s_Scene_become_25_65 at h
  refine Ev_aload_n 0 (dt_X6_become.at 0 rfl) rfl ?_
  refine Ev_get (i := 0) (v := .ref 19) (dt_X6_become.at 1 rfl) ff_X6_27 sk_25 rfl rfl ?_
  refine Ev_aload_n 1 (dt_X6_become.at 2 rfl) rfl ?_
  refine Ev_get (i := 0) (v := .ref 59) (dt_X6_become.at 3 rfl) ff_X6_27 sk_65 rfl rfl ?_
  obtain ⟨q1, hq1, h⟩ := oBind h
  refine Ev_callV (st := []) (st' := []) [.ref 59] (dt_X6_become.at 4 rfl) cf_X6_38 (w_Town_become_19_59 σ  q1 hq1) (by decide) sk_19 rfl rfl rfl (Nat.le_of_ble_eq_true rfl) rfl ?_
  refine Ev_aload_n 1 (dt_X6_become.at 5 rfl) rfl ?_
  refine Ev_get (i := 1) (v := .ref 66) (dt_X6_become.at 6 rfl) ff_X6_9 sk_65 rfl rfl ?_
  refine Ev_iconst (dt_X6_become.at 7 rfl) ki_0 ?_
  refine Ev_aload_n 0 (dt_X6_become.at 8 rfl) rfl ?_
  refine Ev_get (i := 1) (v := .ref 26) (dt_X6_become.at 9 rfl) ff_X6_9 sk_25 rfl rfl ?_
  refine Ev_iconst (dt_X6_become.at 10 rfl) ki_0 ?_
  refine Ev_bipush (dt_X6_become.at 11 rfl) kb_8 ?_
  refine Ev_copy (st := []) (dt_X6_become.at 12 rfl) ac_X6_44 (by decide) sk_66 sk_26 (by decide) (Nat.le_of_ble_eq_true rfl) ?_
  refine Ev_nmS (fun s2 es2 => ?_)
  replace h := oLt h es2
  refine Ev_aload_n 1 (dt_X6_become.at 13 rfl) rfl ?_
  refine Ev_get (i := 2) (v := .ref 67) (dt_X6_become.at 14 rfl) ff_X6_15 sk_65 rfl rfl ?_
  refine Ev_iconst (dt_X6_become.at 15 rfl) ki_0 ?_
  refine Ev_aload_n 0 (dt_X6_become.at 16 rfl) rfl ?_
  refine Ev_get (i := 2) (v := .ref 27) (dt_X6_become.at 17 rfl) ff_X6_15 sk_25 rfl rfl ?_
  refine Ev_iconst (dt_X6_become.at 18 rfl) ki_0 ?_
  refine Ev_bipush (dt_X6_become.at 19 rfl) kb_18 ?_
  refine Ev_copy (st := []) (dt_X6_become.at 20 rfl) ac_X6_44 (by decide) sk_67 sk_27 (by decide) (Nat.le_of_ble_eq_true rfl) ?_
  refine Ev_nmS (fun s3 es3 => ?_)
  replace h := oLt h es3
  refine Ev_aload_n 1 (dt_X6_become.at 21 rfl) rfl ?_
  refine Ev_get (i := 3) (v := .ref 68) (dt_X6_become.at 22 rfl) ff_X6_18 sk_65 rfl rfl ?_
  refine Ev_iconst (dt_X6_become.at 23 rfl) ki_0 ?_
  refine Ev_aload_n 0 (dt_X6_become.at 24 rfl) rfl ?_
  refine Ev_get (i := 3) (v := .ref 28) (dt_X6_become.at 25 rfl) ff_X6_18 sk_25 rfl rfl ?_
  refine Ev_iconst (dt_X6_become.at 26 rfl) ki_0 ?_
  refine Ev_iconst (dt_X6_become.at 27 rfl) ki_5 ?_
  refine Ev_copy (st := []) (dt_X6_become.at 28 rfl) ac_X6_44 (by decide) sk_68 sk_28 (by decide) (Nat.le_of_ble_eq_true rfl) ?_
  refine Ev_nmS (fun s4 es4 => ?_)
  replace h := oLt h es4
  refine Ev_aload_n 1 (dt_X6_become.at 29 rfl) rfl ?_
  refine Ev_get (i := 4) (v := .ref 69) (dt_X6_become.at 30 rfl) ff_X6_21 sk_65 rfl rfl ?_
  refine Ev_iconst (dt_X6_become.at 31 rfl) ki_0 ?_
  refine Ev_aload_n 0 (dt_X6_become.at 32 rfl) rfl ?_
  refine Ev_get (i := 4) (v := .ref 29) (dt_X6_become.at 33 rfl) ff_X6_21 sk_25 rfl rfl ?_
  refine Ev_iconst (dt_X6_become.at 34 rfl) ki_0 ?_
  refine Ev_iconst (dt_X6_become.at 35 rfl) ki_5 ?_
  refine Ev_copy (st := []) (dt_X6_become.at 36 rfl) ac_X6_44 (by decide) sk_69 sk_29 (by decide) (Nat.le_of_ble_eq_true rfl) ?_
  refine Ev_nmS (fun s5 es5 => ?_)
  replace h := oLt h es5
  refine Ev_aload_n 1 (dt_X6_become.at 37 rfl) rfl ?_
  refine Ev_get (i := 5) (v := .ref 70) (dt_X6_become.at 38 rfl) ff_X6_24 sk_65 rfl rfl ?_
  refine Ev_iconst (dt_X6_become.at 39 rfl) ki_0 ?_
  refine Ev_aload_n 0 (dt_X6_become.at 40 rfl) rfl ?_
  refine Ev_get (i := 5) (v := .ref 30) (dt_X6_become.at 41 rfl) ff_X6_24 sk_25 rfl rfl ?_
  refine Ev_iconst (dt_X6_become.at 42 rfl) ki_0 ?_
  refine Ev_iconst (dt_X6_become.at 43 rfl) ki_5 ?_
  refine Ev_copy (st := []) (dt_X6_become.at 44 rfl) ac_X6_44 (by decide) sk_70 sk_30 (by decide) (Nat.le_of_ble_eq_true rfl) ?_
  refine Ev_nmS (fun s6 es6 => ?_)
  replace h := oLt h es6
  refine Ev_aload_n 0 (dt_X6_become.at 45 rfl) rfl ?_
  refine Ev_aload_n 1 (dt_X6_become.at 46 rfl) rfl ?_
  refine Ev_get (i := 6) (v := .int (gI s6 65 6)) (dt_X6_become.at 47 rfl) ff_X6_31 sk_65 rfl rfl ?_
  refine Ev_putI (dt_X6_become.at 48 rfl) ff_X6_31 fw_6_6 sk_25 rfl ?_
  refine Ev_nmS (fun s7 es7 => ?_)
  replace h := oLt h es7
  refine Ev_aload_n 0 (dt_X6_become.at 49 rfl) rfl ?_
  refine Ev_aload_n 1 (dt_X6_become.at 50 rfl) rfl ?_
  refine Ev_get (i := 7) (v := .int (gI s7 65 7)) (dt_X6_become.at 51 rfl) ff_X6_35 sk_65 rfl rfl ?_
  refine Ev_putI (dt_X6_become.at 52 rfl) ff_X6_35 fw_6_7 sk_25 rfl ?_
  refine Ev_nmS (fun s8 es8 => ?_)
  replace h := oLt h es8
  exact Ev_vret (dt_X6_become.at 53 rfl) rfl h
def s_x_from (σ : Sg) (a1 : Int32) : Option (Int32 × Sg) :=
  (s_x_isImage a1).bind fun q1 =>
  if q1 = 0 then
    (s_x_refusedBad σ (-2)).bind fun q10 =>
    some (q10.1, q10.2)
  else
    if inB a1 2 = true then
      if (gI σ 2 (Int32.toNatClampNeg a1)) = 0 then
        (s_x_refusedNo σ (-3)).bind fun q9 =>
        some (q9.1, q9.2)
      else
        if a1 = 0 then
          (s_Scene_become_25_53 σ ).bind fun q6 =>
          some (1, q6)
        else
          if a1 = 1 then
            (s_Scene_become_25_65 σ ).bind fun q8 =>
            some (1, q8)
          else
            none
    else none
set_option maxRecDepth 100000 in
set_option maxHeartbeats 4000000 in
theorem w_x_from (σ : Sg) (a1 : Int32) (q : (Int32 × Sg)) (h : s_x_from σ a1 = some q) : Cal M_X11_from 3 [.ref 0, .int a1] σ (some (.int q.1)) q.2 := by
  refine Cal.of (M := M_X11_from) (by decide +kernel) (Nat.le_of_ble_eq_true rfl) ?_
  show Ev _ _ _ _ 0 [(0, .ref 0), (1, .int a1)] [] σ
  unfold s_x_from at h
  refine Ev_iload_n 1 (dt_X11_from.at 0 rfl) rfl ?_
  obtain ⟨q1, hq1, h⟩ := oBind h
  refine Ev_callS (st := []) (st' := [.int q1]) [.int a1] (dt_X11_from.at 1 rfl) cf_X11_226 (w_x_isImage σ a1 q1 hq1) (by decide) rfl rfl (Nat.le_of_ble_eq_true rfl) rfl ?_
  refine Ev_if_ne (tgt := 14) (dt_X11_from.at 2 rfl) (by decide) (fun c2 => ?_) (fun c2 => ?_)
  · replace h := oNeg h c2
    refine Ev_aload_n 0 (dt_X11_from.at 7 rfl) rfl ?_
    refine Ev_get (i := 2) (v := .ref 2) (dt_X11_from.at 8 rfl) ff_X11_15 sk_0 rfl rfl ?_
    refine Ev_iload_n 1 (dt_X11_from.at 9 rfl) rfl ?_
    obtain ⟨g3, h⟩ := oGuard h
    refine Ev_baload 2 (dt_X11_from.at 10 rfl) sk_2 g3 ?_
    refine Ev_if_ne (tgt := 30) (dt_X11_from.at 11 rfl) (by decide) (fun c4 => ?_) (fun c4 => ?_)
    · replace h := oNeg h c4
      refine Ev_aload_n 0 (dt_X11_from.at 16 rfl) rfl ?_
      refine Ev_get (i := 0) (v := .ref 25) (dt_X11_from.at 17 rfl) ff_X11_50 sk_0 rfl rfl ?_
      refine Ev_aload_n 0 (dt_X11_from.at 18 rfl) rfl ?_
      refine Ev_get (i := 1) (v := .ref 1) (dt_X11_from.at 19 rfl) ff_X11_11 sk_0 rfl rfl ?_
      refine Ev_iload_n 1 (dt_X11_from.at 20 rfl) rfl ?_
      by_cases c5 : a1 = 0
      · replace h := oPos h c5
        refine Ev_aaload (c1 := 53) 1 (dt_X11_from.at 21 rfl) sk_1 (Or.inl rfl) (by rw [c5]; decide) (by rw [c5]; decide) ?_
        obtain ⟨q6, hq6, h⟩ := oBind h
        refine Ev_callV (st := []) (st' := []) [.ref 53] (dt_X11_from.at 22 rfl) cf_X11_229 (w_Scene_become_25_53 σ  q6 hq6) (by decide) sk_25 rfl rfl rfl (Nat.le_of_ble_eq_true rfl) rfl ?_
        refine Ev_iconst (dt_X11_from.at 23 rfl) ki_1 ?_
        exact Ev_iret (dt_X11_from.at 24 rfl) rfl h
      replace h := oNeg h c5
      obtain ⟨c7, h⟩ := oGuard h
      refine Ev_aaload (c1 := 65) 1 (dt_X11_from.at 21 rfl) sk_1 (Or.inl rfl) (by rw [c7]; decide) (by rw [c7]; decide) ?_
      obtain ⟨q8, hq8, h⟩ := oBind h
      refine Ev_callV (st := []) (st' := []) [.ref 65] (dt_X11_from.at 22 rfl) cf_X11_229 (w_Scene_become_25_65 σ  q8 hq8) (by decide) sk_25 rfl rfl rfl (Nat.le_of_ble_eq_true rfl) rfl ?_
      refine Ev_iconst (dt_X11_from.at 23 rfl) ki_1 ?_
      exact Ev_iret (dt_X11_from.at 24 rfl) rfl h
    · replace h := oPos h c4
      refine Ev_aload_n 0 (dt_X11_from.at 12 rfl) rfl ?_
      refine Ev_bipush (dt_X11_from.at 13 rfl) kb_m3 ?_
      obtain ⟨q9, hq9, h⟩ := oBind h
      refine Ev_callV (st := []) (st' := [.int q9.1]) [.int (-3)] (dt_X11_from.at 14 rfl) cf_X11_118 (w_x_refusedNo σ (-3) q9 hq9) (by decide) sk_0 rfl rfl rfl (Nat.le_of_ble_eq_true rfl) rfl ?_
      exact Ev_iret (dt_X11_from.at 15 rfl) rfl h
  · replace h := oPos h c2
    refine Ev_aload_n 0 (dt_X11_from.at 3 rfl) rfl ?_
    refine Ev_bipush (dt_X11_from.at 4 rfl) kb_m2 ?_
    obtain ⟨q10, hq10, h⟩ := oBind h
    refine Ev_callV (st := []) (st' := [.int q10.1]) [.int (-2)] (dt_X11_from.at 5 rfl) cf_X11_68 (w_x_refusedBad σ (-2) q10 hq10) (by decide) sk_0 rfl rfl rfl (Nat.le_of_ble_eq_true rfl) rfl ?_
    exact Ev_iret (dt_X11_from.at 6 rfl) rfl h
def s_x_status (σ : Sg) (a1 : Int32) : Option (Int32 × Sg) :=
  if a1 = 0 then
    some ((gI σ 0 12), σ)
  else
    if a1 = 1 then
      some ((gI σ 0 13), σ)
    else
      if a1 = 2 then
        some ((gI σ 0 14), σ)
      else
        (s_x_refusedBad σ (-1)).bind fun q4 =>
        some (q4.1, q4.2)
set_option maxRecDepth 100000 in
set_option maxHeartbeats 4000000 in
theorem w_x_status (σ : Sg) (a1 : Int32) (q : (Int32 × Sg)) (h : s_x_status σ a1 = some q) : Cal M_X11_status 1 [.ref 0, .int a1] σ (some (.int q.1)) q.2 := by
  refine Cal.of (M := M_X11_status) (by decide +kernel) (Nat.le_of_ble_eq_true rfl) ?_
  show Ev _ _ _ _ 0 [(0, .ref 0), (1, .int a1)] [] σ
  unfold s_x_status at h
  refine Ev_iload_n 1 (dt_X11_status.at 0 rfl) rfl ?_
  by_cases c1 : a1 = 0
  · replace h := oPos h c1
    refine Ev_tblIn (tgt := 28) (off := 27) (dt_X11_status.at 1 rfl) (by rw [c1]; decide) (by rw [c1]; decide) (by rw [c1]; decide) (by decide) ?_
    refine Ev_aload_n 0 (dt_X11_status.at 2 rfl) rfl ?_
    refine Ev_get (i := 12) (v := .int (gI σ 0 12)) (dt_X11_status.at 3 rfl) ff_X11_232 sk_0 rfl rfl ?_
    exact Ev_iret (dt_X11_status.at 4 rfl) rfl h
  replace h := oNeg h c1
  by_cases c2 : a1 = 1
  · replace h := oPos h c2
    refine Ev_tblIn (tgt := 33) (off := 32) (dt_X11_status.at 1 rfl) (by rw [c2]; decide) (by rw [c2]; decide) (by rw [c2]; decide) (by decide) ?_
    refine Ev_aload_n 0 (dt_X11_status.at 5 rfl) rfl ?_
    refine Ev_get (i := 13) (v := .int (gI σ 0 13)) (dt_X11_status.at 6 rfl) ff_X11_235 sk_0 rfl rfl ?_
    exact Ev_iret (dt_X11_status.at 7 rfl) rfl h
  replace h := oNeg h c2
  by_cases c3 : a1 = 2
  · replace h := oPos h c3
    refine Ev_tblIn (tgt := 38) (off := 37) (dt_X11_status.at 1 rfl) (by rw [c3]; decide) (by rw [c3]; decide) (by rw [c3]; decide) (by decide) ?_
    refine Ev_aload_n 0 (dt_X11_status.at 8 rfl) rfl ?_
    refine Ev_get (i := 14) (v := .int (gI σ 0 14)) (dt_X11_status.at 9 rfl) ff_X11_238 sk_0 rfl rfl ?_
    exact Ev_iret (dt_X11_status.at 10 rfl) rfl h
  replace h := oNeg h c3
  refine Ev_tblOut (tgt := 43) (dt_X11_status.at 1 rfl) (by have zc1 := i32_ne (k := 0) c1 (by decide); have zc2 := i32_ne (k := 1) c2 (by decide); have zc3 := i32_ne (k := 2) c3 (by decide); omega) (by decide) ?_
  refine Ev_aload_n 0 (dt_X11_status.at 11 rfl) rfl ?_
  refine Ev_iconst (dt_X11_status.at 12 rfl) ki_m1 ?_
  obtain ⟨q4, hq4, h⟩ := oBind h
  refine Ev_callV (st := []) (st' := [.int q4.1]) [.int (-1)] (dt_X11_status.at 13 rfl) cf_X11_68 (w_x_refusedBad σ (-1) q4 hq4) (by decide) sk_0 rfl rfl rfl (Nat.le_of_ble_eq_true rfl) rfl ?_
  exact Ev_iret (dt_X11_status.at 14 rfl) rfl h
def b_Town_errandsOfAll_4 (σ : Sg) (x : (Int32 × Int32)) : Option ((Int32 × Int32) ⊕ (Int32 × Int32)) :=
  if (gI σ 19 6) ≤ x.2 then
    some (.inr (x.1, x.2))
  else
    if inB x.2 9 = true then
      lt ((x.1 + (gI σ 22 (Int32.toNatClampNeg x.2))) : Int32) fun x3 =>
      lt (x.2 + 1 : Int32) fun x4 =>
      some (.inl (x3, x4))
    else none
def s_Town_errandsOfAll (σ : Sg)  : Option Int32 :=
  (lp (b_Town_errandsOfAll_4 σ) 100000 (0, 0)).bind fun o5 =>
  some o5.1
set_option maxRecDepth 100000 in
set_option maxHeartbeats 4000000 in
theorem wb_Town_errandsOfAll_4 (σ : Sg) (x : (Int32 × Int32)) (r : Option Value) (τ : Sg) (o : ((Int32 × Int32) ⊕ (Int32 × Int32))) (h : (b_Town_errandsOfAll_4 σ x) = some o) (hc : ∀ y : (Int32 × Int32), o = .inl y → Ev M_X9_errandsOfAll 0 r τ 4 [(0, .ref 19), (1, .int y.1), (2, .int y.2)] [] σ) (he : ∀ y : (Int32 × Int32), o = .inr y → Ev M_X9_errandsOfAll 0 r τ 27 [(1, .int y.1)] [] σ) : Ev M_X9_errandsOfAll 0 r τ 4 [(0, .ref 19), (1, .int x.1), (2, .int x.2)] [] σ := by
  unfold b_Town_errandsOfAll_4 at h
  refine Ev_iload_n 2 (dt_X9_errandsOfAll.at 4 rfl) rfl ?_
  refine Ev_aload_n 0 (dt_X9_errandsOfAll.at 5 rfl) rfl ?_
  refine Ev_get (i := 6) (v := .int (gI σ 19 6)) (dt_X9_errandsOfAll.at 6 rfl) ff_X9_31 sk_19 rfl rfl ?_
  refine Ev_icmp_ge (tgt := 27) (dt_X9_errandsOfAll.at 7 rfl) (by decide) (fun c1 => ?_) (fun c1 => ?_)
  · replace h := oPos h c1
    refine Ev_sub [1] (ls' := [(1, .int x.1)]) rfl ?_
    exact he (x.1, x.2) (Option.some.inj h).symm
  · replace h := oNeg h c1
    refine Ev_iload_n 1 (dt_X9_errandsOfAll.at 8 rfl) rfl ?_
    refine Ev_aload_n 0 (dt_X9_errandsOfAll.at 9 rfl) rfl ?_
    refine Ev_get (i := 2) (v := .ref 22) (dt_X9_errandsOfAll.at 10 rfl) ff_X9_18 sk_19 rfl rfl ?_
    refine Ev_iload_n 2 (dt_X9_errandsOfAll.at 11 rfl) rfl ?_
    obtain ⟨g2, h⟩ := oGuard h
    refine Ev_iaload 22 (dt_X9_errandsOfAll.at 12 rfl) sk_22 g2 ?_
    refine Ev_iadd (dt_X9_errandsOfAll.at 13 rfl) ?_
    refine Ev_nmI (fun x3 ex3 => ?_)
    replace h := oLt h ex3
    refine Ev_istore_n (dt_X9_errandsOfAll.at 14 rfl) (by decide) (ls' := [(1, .int x3), (0, .ref 19), (2, .int x.2)]) rfl ?_
    obtain ⟨x4, ex4⟩ : ∃ z : Int32, z = x.2 + 1 := ⟨_, rfl⟩
    replace h := oLt h ex4
    refine Ev_iinc (v := x4) 2 (dt_X9_errandsOfAll.at 15 rfl) rfl (ex4.trans (congrArg (fun z => x.2 + z) ki_1.symm)) (by decide) (ls' := [(2, .int x4), (1, .int x3), (0, .ref 19)]) rfl ?_
    refine Ev_goto (tgt := 4) (dt_X9_errandsOfAll.at 16 rfl) (by decide) ?_
    refine Ev_sub [2, 1, 0] (ls' := [(0, .ref 19), (1, .int x3), (2, .int x4)]) rfl ?_
    exact hc (x3, x4) (Option.some.inj h).symm
set_option maxRecDepth 100000 in
set_option maxHeartbeats 4000000 in
theorem wl_Town_errandsOfAll_4 (σ : Sg) (r : Option Value) (τ : Sg) (n : Nat) (x : (Int32 × Int32)) (z : (Int32 × Int32)) (h : lp (b_Town_errandsOfAll_4 σ) n x = some z) (he : ∀ y : (Int32 × Int32), z = y → Ev M_X9_errandsOfAll 0 r τ 27 [(1, .int y.1)] [] σ) : Ev M_X9_errandsOfAll 0 r τ 4 [(0, .ref 19), (1, .int x.1), (2, .int x.2)] [] σ := by
  refine lp_ind (E := fun x : (Int32 × Int32) => Ev M_X9_errandsOfAll 0 r τ 4 [(0, .ref 19), (1, .int x.1), (2, .int x.2)] [] σ) (fun x => ⟨fun y hb hy => ?_, fun hb => ?_⟩) n x h
  · exact wb_Town_errandsOfAll_4 σ x r τ _ hb (fun y' e => by cases e; exact hy) (fun y' e => by cases e)
  · exact wb_Town_errandsOfAll_4 σ x r τ _ hb (fun y' e => by cases e) (fun y' e => he y' (Sum.inr.inj e))
set_option maxRecDepth 100000 in
set_option maxHeartbeats 4000000 in
theorem w_Town_errandsOfAll (σ : Sg)  (q : Int32) (h : s_Town_errandsOfAll σ  = some q) : Cal M_X9_errandsOfAll 0 [.ref 19] σ (some (.int q)) σ := by
  refine Cal.of (M := M_X9_errandsOfAll) (by decide +kernel) (Nat.le_of_ble_eq_true rfl) ?_
  show Ev _ _ _ _ 0 [(0, .ref 19)] [] σ
  unfold s_Town_errandsOfAll at h
  refine Ev_iconst (dt_X9_errandsOfAll.at 0 rfl) ki_0 ?_
  refine Ev_istore_n (dt_X9_errandsOfAll.at 1 rfl) (by decide) (ls' := [(1, .int 0), (0, .ref 19)]) rfl ?_
  refine Ev_iconst (dt_X9_errandsOfAll.at 2 rfl) ki_0 ?_
  refine Ev_istore_n (dt_X9_errandsOfAll.at 3 rfl) (by decide) (ls' := [(2, .int 0), (1, .int 0), (0, .ref 19)]) rfl ?_
  refine Ev_sub [2, 1, 0] (ls' := [(0, .ref 19), (1, .int 0), (2, .int 0)]) rfl ?_
  obtain ⟨o5, ho5, h⟩ := oBind h
  refine wl_Town_errandsOfAll_4 σ _ _ 100000 (0, 0) o5 ho5 (fun y ey => ?_)
  subst ey
  refine Ev_iload_n 0 (dt_X9_errandsOfAll.at 17 rfl) rfl ?_
  exact Ev_iret (dt_X9_errandsOfAll.at 18 rfl) rfl (oRet h)
def s_x_howMany (σ : Sg) (a1 : Int32) : Option Int32 :=
  if a1 = 0 then
    some (gI σ 19 5)
  else
    if a1 = 1 then
      some (gI σ 19 6)
    else
      if a1 = 2 then
        (s_Town_errandsOfAll σ ).bind fun q4 =>
        some q4
      else
        if a1 = 3 then
          some (gI σ 25 6)
        else
          if a1 = 4 then
            some (gI σ 25 7)
          else
            some (gI σ 0 9)
set_option maxRecDepth 100000 in
set_option maxHeartbeats 4000000 in
theorem w_x_howMany (σ : Sg) (a1 : Int32) (q : Int32) (h : s_x_howMany σ a1 = some q) : Cal M_X11_howMany 1 [.ref 0, .int a1] σ (some (.int q)) σ := by
  refine Cal.of (M := M_X11_howMany) (by decide +kernel) (Nat.le_of_ble_eq_true rfl) ?_
  show Ev _ _ _ _ 0 [(0, .ref 0), (1, .int a1)] [] σ
  unfold s_x_howMany at h
  refine Ev_iload_n 1 (dt_X11_howMany.at 0 rfl) rfl ?_
  by_cases c1 : a1 = 0
  · replace h := oPos h c1
    refine Ev_tblIn (tgt := 36) (off := 35) (dt_X11_howMany.at 1 rfl) (by rw [c1]; decide) (by rw [c1]; decide) (by rw [c1]; decide) (by decide) ?_
    refine Ev_aload_n 0 (dt_X11_howMany.at 2 rfl) rfl ?_
    refine Ev_get (i := 0) (v := .ref 25) (dt_X11_howMany.at 3 rfl) ff_X11_50 sk_0 rfl rfl ?_
    refine Ev_get (i := 0) (v := .ref 19) (dt_X11_howMany.at 4 rfl) ff_X11_72 sk_25 rfl rfl ?_
    refine Ev_get (i := 5) (v := .int (gI σ 19 5)) (dt_X11_howMany.at 5 rfl) ff_X11_76 sk_19 rfl rfl ?_
    exact Ev_iret (dt_X11_howMany.at 6 rfl) rfl (oRet h)
  replace h := oNeg h c1
  by_cases c2 : a1 = 1
  · replace h := oPos h c2
    refine Ev_tblIn (tgt := 47) (off := 46) (dt_X11_howMany.at 1 rfl) (by rw [c2]; decide) (by rw [c2]; decide) (by rw [c2]; decide) (by decide) ?_
    refine Ev_aload_n 0 (dt_X11_howMany.at 7 rfl) rfl ?_
    refine Ev_get (i := 0) (v := .ref 25) (dt_X11_howMany.at 8 rfl) ff_X11_50 sk_0 rfl rfl ?_
    refine Ev_get (i := 0) (v := .ref 19) (dt_X11_howMany.at 9 rfl) ff_X11_72 sk_25 rfl rfl ?_
    refine Ev_get (i := 6) (v := .int (gI σ 19 6)) (dt_X11_howMany.at 10 rfl) ff_X11_90 sk_19 rfl rfl ?_
    exact Ev_iret (dt_X11_howMany.at 11 rfl) rfl (oRet h)
  replace h := oNeg h c2
  by_cases c3 : a1 = 2
  · replace h := oPos h c3
    refine Ev_tblIn (tgt := 58) (off := 57) (dt_X11_howMany.at 1 rfl) (by rw [c3]; decide) (by rw [c3]; decide) (by rw [c3]; decide) (by decide) ?_
    refine Ev_aload_n 0 (dt_X11_howMany.at 12 rfl) rfl ?_
    refine Ev_get (i := 0) (v := .ref 25) (dt_X11_howMany.at 13 rfl) ff_X11_50 sk_0 rfl rfl ?_
    refine Ev_get (i := 0) (v := .ref 19) (dt_X11_howMany.at 14 rfl) ff_X11_72 sk_25 rfl rfl ?_
    obtain ⟨q4, hq4, h⟩ := oBind h
    refine Ev_callV (st := []) (st' := [.int q4]) [] (dt_X11_howMany.at 15 rfl) cf_X11_288 (w_Town_errandsOfAll σ  q4 hq4) (by decide) sk_19 rfl rfl rfl (Nat.le_of_ble_eq_true rfl) rfl ?_
    exact Ev_iret (dt_X11_howMany.at 16 rfl) rfl (oRet h)
  replace h := oNeg h c3
  by_cases c5 : a1 = 3
  · replace h := oPos h c5
    refine Ev_tblIn (tgt := 69) (off := 68) (dt_X11_howMany.at 1 rfl) (by rw [c5]; decide) (by rw [c5]; decide) (by rw [c5]; decide) (by decide) ?_
    refine Ev_aload_n 0 (dt_X11_howMany.at 17 rfl) rfl ?_
    refine Ev_get (i := 0) (v := .ref 25) (dt_X11_howMany.at 18 rfl) ff_X11_50 sk_0 rfl rfl ?_
    refine Ev_get (i := 6) (v := .int (gI σ 25 6)) (dt_X11_howMany.at 19 rfl) ff_X11_190 sk_25 rfl rfl ?_
    exact Ev_iret (dt_X11_howMany.at 20 rfl) rfl (oRet h)
  replace h := oNeg h c5
  by_cases c6 : a1 = 4
  · replace h := oPos h c6
    refine Ev_tblIn (tgt := 77) (off := 76) (dt_X11_howMany.at 1 rfl) (by rw [c6]; decide) (by rw [c6]; decide) (by rw [c6]; decide) (by decide) ?_
    refine Ev_aload_n 0 (dt_X11_howMany.at 21 rfl) rfl ?_
    refine Ev_get (i := 0) (v := .ref 25) (dt_X11_howMany.at 22 rfl) ff_X11_50 sk_0 rfl rfl ?_
    refine Ev_get (i := 7) (v := .int (gI σ 25 7)) (dt_X11_howMany.at 23 rfl) ff_X11_211 sk_25 rfl rfl ?_
    exact Ev_iret (dt_X11_howMany.at 24 rfl) rfl (oRet h)
  replace h := oNeg h c6
  refine Ev_tblOut (tgt := 85) (dt_X11_howMany.at 1 rfl) (by have zc1 := i32_ne (k := 0) c1 (by decide); have zc2 := i32_ne (k := 1) c2 (by decide); have zc3 := i32_ne (k := 2) c3 (by decide); have zc5 := i32_ne (k := 3) c5 (by decide); have zc6 := i32_ne (k := 4) c6 (by decide); omega) (by decide) ?_
  refine Ev_aload_n 0 (dt_X11_howMany.at 25 rfl) rfl ?_
  refine Ev_get (i := 9) (v := .int (gI σ 0 9)) (dt_X11_howMany.at 26 rfl) ff_X11_121 sk_0 rfl rfl ?_
  exact Ev_iret (dt_X11_howMany.at 27 rfl) rfl (oRet h)
