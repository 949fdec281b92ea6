def j_x_keepSixths_40  (σ : Sg) : Option Sg :=
  if ((gI σ 0 10) - (gI σ 0 10) / 3 * 3) = 0 then
    lt (pI σ 0 10 ((gI σ 0 10) / 3) : Sg) fun s5 =>
    lt (pI s5 0 11 ((gI s5 0 11) / 3) : Sg) fun s6 =>
    some s6
  else
    some σ
def s_x_keepSixths (σ : Sg) (a1 : Int32) : Option Sg :=
  lt (pI σ 0 10 a1 : Sg) fun s1 =>
  lt (pI s1 0 11 6 : Sg) fun s2 =>
  if ((gI s2 0 10) - (gI s2 0 10) / 2 * 2) = 0 then
    lt (pI s2 0 10 ((gI s2 0 10) / 2) : Sg) fun s7 =>
    lt (pI s7 0 11 ((gI s7 0 11) / 2) : Sg) fun s8 =>
    j_x_keepSixths_40  s8
  else
    j_x_keepSixths_40  s2
set_option maxRecDepth 100000 in
set_option maxHeartbeats 4000000 in
theorem wj_x_keepSixths_40  (σ : Sg) (q : Sg) (h : (j_x_keepSixths_40  σ) = some q) : Ev M_X11_keepSixths 0 none q 40 [(0, .ref 0)] [] σ := by
  unfold j_x_keepSixths_40 at h
  refine Ev_aload_n 0 (dt_X11_keepSixths.at 23 rfl) rfl ?_
  refine Ev_get (i := 10) (v := .int (gI σ 0 10)) (dt_X11_keepSixths.at 24 rfl) ff_X11_223 sk_0 rfl rfl ?_
  refine Ev_iconst (dt_X11_keepSixths.at 25 rfl) ki_3 ?_
  refine Ev_irem (dt_X11_keepSixths.at 26 rfl) (by decide) ?_
  refine Ev_if_ne (tgt := 69) (dt_X11_keepSixths.at 27 rfl) (by decide) (fun c4 => ?_) (fun c4 => ?_)
  · replace h := oNeg h c4
    exact Ev_vret (dt_X11_keepSixths.at 40 rfl) rfl h
  · replace h := oPos h c4
    refine Ev_aload_n 0 (dt_X11_keepSixths.at 28 rfl) rfl ?_
    refine Ev_dup (dt_X11_keepSixths.at 29 rfl) rfl ?_
    refine Ev_get (i := 10) (v := .int (gI σ 0 10)) (dt_X11_keepSixths.at 30 rfl) ff_X11_223 sk_0 rfl rfl ?_
    refine Ev_iconst (dt_X11_keepSixths.at 31 rfl) ki_3 ?_
    refine Ev_idiv (dt_X11_keepSixths.at 32 rfl) (by decide) ?_
    refine Ev_putI (dt_X11_keepSixths.at 33 rfl) ff_X11_223 fw_11_10 sk_0 rfl ?_
    refine Ev_nmS (fun s5 es5 => ?_)
    replace h := oLt h es5
    refine Ev_aload_n 0 (dt_X11_keepSixths.at 34 rfl) rfl ?_
    refine Ev_dup (dt_X11_keepSixths.at 35 rfl) rfl ?_
    refine Ev_get (i := 11) (v := .int (gI s5 0 11)) (dt_X11_keepSixths.at 36 rfl) ff_X11_40 sk_0 rfl rfl ?_
    refine Ev_iconst (dt_X11_keepSixths.at 37 rfl) ki_3 ?_
    refine Ev_idiv (dt_X11_keepSixths.at 38 rfl) (by decide) ?_
    refine Ev_putI (dt_X11_keepSixths.at 39 rfl) ff_X11_40 fw_11_11 sk_0 rfl ?_
    refine Ev_nmS (fun s6 es6 => ?_)
    replace h := oLt h es6
    exact Ev_vret (dt_X11_keepSixths.at 40 rfl) rfl h
set_option maxRecDepth 100000 in
set_option maxHeartbeats 4000000 in
theorem w_x_keepSixths (σ : Sg) (a1 : Int32) (q : Sg) (h : s_x_keepSixths σ a1 = some q) : Cal M_X11_keepSixths 0 [.ref 0, .int a1] σ none q := by
  refine Cal.of (M := M_X11_keepSixths) (by decide +kernel) (Nat.le_of_ble_eq_true rfl) ?_
  show Ev _ _ _ _ 0 [(0, .ref 0), (1, .int a1)] [] σ
  unfold s_x_keepSixths at h
  refine Ev_aload_n 0 (dt_X11_keepSixths.at 0 rfl) rfl ?_
  refine Ev_iload_n 1 (dt_X11_keepSixths.at 1 rfl) rfl ?_
  refine Ev_putI (dt_X11_keepSixths.at 2 rfl) ff_X11_223 fw_11_10 sk_0 rfl ?_
  refine Ev_nmS (fun s1 es1 => ?_)
  replace h := oLt h es1
  refine Ev_aload_n 0 (dt_X11_keepSixths.at 3 rfl) rfl ?_
  refine Ev_bipush (dt_X11_keepSixths.at 4 rfl) kb_6 ?_
  refine Ev_putI (dt_X11_keepSixths.at 5 rfl) ff_X11_40 fw_11_11 sk_0 rfl ?_
  refine Ev_nmS (fun s2 es2 => ?_)
  replace h := oLt h es2
  refine Ev_aload_n 0 (dt_X11_keepSixths.at 6 rfl) rfl ?_
  refine Ev_get (i := 10) (v := .int (gI s2 0 10)) (dt_X11_keepSixths.at 7 rfl) ff_X11_223 sk_0 rfl rfl ?_
  refine Ev_iconst (dt_X11_keepSixths.at 8 rfl) ki_2 ?_
  refine Ev_irem (dt_X11_keepSixths.at 9 rfl) (by decide) ?_
  refine Ev_if_ne (tgt := 40) (dt_X11_keepSixths.at 10 rfl) (by decide) (fun c3 => ?_) (fun c3 => ?_)
  · replace h := oNeg h c3
    refine Ev_sub [0] (ls' := [(0, .ref 0)]) rfl ?_
    exact wj_x_keepSixths_40  s2 q h
  · replace h := oPos h c3
    refine Ev_aload_n 0 (dt_X11_keepSixths.at 11 rfl) rfl ?_
    refine Ev_dup (dt_X11_keepSixths.at 12 rfl) rfl ?_
    refine Ev_get (i := 10) (v := .int (gI s2 0 10)) (dt_X11_keepSixths.at 13 rfl) ff_X11_223 sk_0 rfl rfl ?_
    refine Ev_iconst (dt_X11_keepSixths.at 14 rfl) ki_2 ?_
    refine Ev_idiv (dt_X11_keepSixths.at 15 rfl) (by decide) ?_
    refine Ev_putI (dt_X11_keepSixths.at 16 rfl) ff_X11_223 fw_11_10 sk_0 rfl ?_
    refine Ev_nmS (fun s7 es7 => ?_)
    replace h := oLt h es7
    refine Ev_aload_n 0 (dt_X11_keepSixths.at 17 rfl) rfl ?_
    refine Ev_dup (dt_X11_keepSixths.at 18 rfl) rfl ?_
    refine Ev_get (i := 11) (v := .int (gI s7 0 11)) (dt_X11_keepSixths.at 19 rfl) ff_X11_40 sk_0 rfl rfl ?_
    refine Ev_iconst (dt_X11_keepSixths.at 20 rfl) ki_2 ?_
    refine Ev_idiv (dt_X11_keepSixths.at 21 rfl) (by decide) ?_
    refine Ev_putI (dt_X11_keepSixths.at 22 rfl) ff_X11_40 fw_11_11 sk_0 rfl ?_
    refine Ev_nmS (fun s8 es8 => ?_)
    replace h := oLt h es8
    refine Ev_sub [0] (ls' := [(0, .ref 0)]) rfl ?_
    exact wj_x_keepSixths_40  s8 q h
def j_x_fair_37  (σ : Sg) (v3 : Int32) (u0 : Int32) : Option (Int32 × Sg) :=
  lt (((7 - v3) - u0) : Int32) fun x6 =>
  if inB v3 8 = true then
    lt ((gI σ 26 (Int32.toNatClampNeg v3)) : Int32) fun x8 =>
    if inB (v3 ||| u0) 8 = true then
      if inB u0 8 = true then
        if inB (v3 ||| x6) 8 = true then
          if inB x6 8 = true then
            lt (((((gI σ 26 (Int32.toNatClampNeg (v3 ||| u0))) - (gI σ 26 (Int32.toNatClampNeg u0))) + (gI σ 26 (Int32.toNatClampNeg (v3 ||| x6)))) - (gI σ 26 (Int32.toNatClampNeg x6))) : Int32) fun x13 =>
            if inB (u0 ||| x6) 8 = true then
              lt (((gI σ 26 (Int32.toNatClampNeg 7)) - (gI σ 26 (Int32.toNatClampNeg (u0 ||| x6)))) : Int32) fun x15 =>
              (s_x_keepSixths σ (((2 * x8) + x13) + (2 * x15))).bind fun q16 =>
              some (1, q16)
            else none
          else none
        else none
      else none
    else none
  else none
def s_x_fair (σ : Sg) (a1 : Int32) : Option (Int32 × Sg) :=
  if a1 < 0 then
    (s_x_refusedBad σ (-2)).bind fun q2 =>
    some (q2.1, q2.2)
  else
    if a1 < 3 then
      lt (((1 : Int32) <<< (a1 &&& 31)) : Int32) fun x4 =>
      if a1 = 0 then
        j_x_fair_37  σ x4 2
      else
        j_x_fair_37  σ x4 1
    else
      (s_x_refusedBad σ (-2)).bind fun q17 =>
      some (q17.1, q17.2)
set_option maxRecDepth 100000 in
set_option maxHeartbeats 4000000 in
theorem wj_x_fair_37  (σ : Sg) (v3 : Int32) (u0 : Int32) (q : (Int32 × Sg)) (h : (j_x_fair_37  σ v3 u0) = some q) : Ev M_X11_fair 1 (some (.int q.1)) q.2 37 [(0, .ref 0), (2, .ref 26), (3, .int v3)] [.int u0] σ := by
  unfold j_x_fair_37 at h
  refine Ev_istore (dt_X11_fair.at 22 rfl) (by decide) (ls' := [(4, .int u0), (0, .ref 0), (2, .ref 26), (3, .int v3)]) rfl ?_
  refine Ev_bipush (dt_X11_fair.at 23 rfl) kb_7 ?_
  refine Ev_iload_n 3 (dt_X11_fair.at 24 rfl) rfl ?_
  refine Ev_isub (dt_X11_fair.at 25 rfl) ?_
  refine Ev_iload 0 (dt_X11_fair.at 26 rfl) rfl ?_
  refine Ev_isub (dt_X11_fair.at 27 rfl) ?_
  refine Ev_nmI (fun x6 ex6 => ?_)
  replace h := oLt h ex6
  refine Ev_istore (dt_X11_fair.at 28 rfl) (by decide) (ls' := [(5, .int x6), (4, .int u0), (0, .ref 0), (2, .ref 26), (3, .int v3)]) rfl ?_
  refine Ev_aload_n 3 (dt_X11_fair.at 29 rfl) rfl ?_
  refine Ev_iload_n 4 (dt_X11_fair.at 30 rfl) rfl ?_
  obtain ⟨g7, h⟩ := oGuard h
  refine Ev_iaload 26 (dt_X11_fair.at 31 rfl) sk_26 g7 ?_
  refine Ev_nmI (fun x8 ex8 => ?_)
  replace h := oLt h ex8
  refine Ev_istore (dt_X11_fair.at 32 rfl) (by decide) (ls' := [(6, .int x8), (5, .int x6), (4, .int u0), (0, .ref 0), (2, .ref 26), (3, .int v3)]) rfl ?_
  refine Ev_aload_n 4 (dt_X11_fair.at 33 rfl) rfl ?_
  refine Ev_iload_n 5 (dt_X11_fair.at 34 rfl) rfl ?_
  refine Ev_iload 2 (dt_X11_fair.at 35 rfl) rfl ?_
  refine Ev_ior (dt_X11_fair.at 36 rfl) ?_
  obtain ⟨g9, h⟩ := oGuard h
  refine Ev_iaload 26 (dt_X11_fair.at 37 rfl) sk_26 g9 ?_
  refine Ev_aload_n 4 (dt_X11_fair.at 38 rfl) rfl ?_
  refine Ev_iload 2 (dt_X11_fair.at 39 rfl) rfl ?_
  obtain ⟨g10, h⟩ := oGuard h
  refine Ev_iaload 26 (dt_X11_fair.at 40 rfl) sk_26 g10 ?_
  refine Ev_isub (dt_X11_fair.at 41 rfl) ?_
  refine Ev_aload_n 4 (dt_X11_fair.at 42 rfl) rfl ?_
  refine Ev_iload_n 5 (dt_X11_fair.at 43 rfl) rfl ?_
  refine Ev_iload 1 (dt_X11_fair.at 44 rfl) rfl ?_
  refine Ev_ior (dt_X11_fair.at 45 rfl) ?_
  obtain ⟨g11, h⟩ := oGuard h
  refine Ev_iaload 26 (dt_X11_fair.at 46 rfl) sk_26 g11 ?_
  refine Ev_iadd (dt_X11_fair.at 47 rfl) ?_
  refine Ev_aload_n 4 (dt_X11_fair.at 48 rfl) rfl ?_
  refine Ev_iload 1 (dt_X11_fair.at 49 rfl) rfl ?_
  obtain ⟨g12, h⟩ := oGuard h
  refine Ev_iaload 26 (dt_X11_fair.at 50 rfl) sk_26 g12 ?_
  refine Ev_isub (dt_X11_fair.at 51 rfl) ?_
  refine Ev_nmI (fun x13 ex13 => ?_)
  replace h := oLt h ex13
  refine Ev_istore (dt_X11_fair.at 52 rfl) (by decide) (ls' := [(7, .int x13), (6, .int x8), (5, .int x6), (4, .int u0), (0, .ref 0), (2, .ref 26), (3, .int v3)]) rfl ?_
  refine Ev_aload_n 5 (dt_X11_fair.at 53 rfl) rfl ?_
  refine Ev_bipush (dt_X11_fair.at 54 rfl) kb_7 ?_
  refine Ev_iaload 26 (dt_X11_fair.at 55 rfl) sk_26 ib_7_8 ?_
  refine Ev_aload_n 5 (dt_X11_fair.at 56 rfl) rfl ?_
  refine Ev_iload 3 (dt_X11_fair.at 57 rfl) rfl ?_
  refine Ev_iload 2 (dt_X11_fair.at 58 rfl) rfl ?_
  refine Ev_ior (dt_X11_fair.at 59 rfl) ?_
  obtain ⟨g14, h⟩ := oGuard h
  refine Ev_iaload 26 (dt_X11_fair.at 60 rfl) sk_26 g14 ?_
  refine Ev_isub (dt_X11_fair.at 61 rfl) ?_
  refine Ev_nmI (fun x15 ex15 => ?_)
  replace h := oLt h ex15
  refine Ev_istore (dt_X11_fair.at 62 rfl) (by decide) (ls' := [(8, .int x15), (7, .int x13), (6, .int x8), (5, .int x6), (4, .int u0), (0, .ref 0), (2, .ref 26), (3, .int v3)]) rfl ?_
  refine Ev_aload_n 5 (dt_X11_fair.at 63 rfl) rfl ?_
  refine Ev_iconst (dt_X11_fair.at 64 rfl) ki_2 ?_
  refine Ev_iload 2 (dt_X11_fair.at 65 rfl) rfl ?_
  refine Ev_imul (dt_X11_fair.at 66 rfl) ?_
  refine Ev_iload 1 (dt_X11_fair.at 67 rfl) rfl ?_
  refine Ev_iadd (dt_X11_fair.at 68 rfl) ?_
  refine Ev_iconst (dt_X11_fair.at 69 rfl) ki_2 ?_
  refine Ev_iload 0 (dt_X11_fair.at 70 rfl) rfl ?_
  refine Ev_imul (dt_X11_fair.at 71 rfl) ?_
  refine Ev_iadd (dt_X11_fair.at 72 rfl) ?_
  obtain ⟨q16, hq16, h⟩ := oBind h
  refine Ev_callV (st := []) (st' := []) [.int (((2 * x8) + x13) + (2 * x15))] (dt_X11_fair.at 73 rfl) cf_X11_184 (w_x_keepSixths σ (((2 * x8) + x13) + (2 * x15)) q16 hq16) (by decide) sk_0 rfl rfl rfl (Nat.le_of_ble_eq_true rfl) rfl ?_
  refine Ev_iconst (dt_X11_fair.at 74 rfl) ki_1 ?_
  exact Ev_iret (dt_X11_fair.at 75 rfl) rfl h
set_option maxRecDepth 100000 in
set_option maxHeartbeats 4000000 in
theorem w_x_fair (σ : Sg) (a1 : Int32) (q : (Int32 × Sg)) (h : s_x_fair σ a1 = some q) : Cal M_X11_fair 1 [.ref 0, .int a1] σ (some (.int q.1)) q.2 := by
  refine Cal.of (M := M_X11_fair) (by decide +kernel) (Nat.le_of_ble_eq_true rfl) ?_
  show Ev _ _ _ _ 0 [(0, .ref 0), (1, .int a1)] [] σ
  unfold s_x_fair at h
  refine Ev_iload_n 1 (dt_X11_fair.at 0 rfl) rfl ?_
  refine Ev_if_lt (tgt := 9) (dt_X11_fair.at 1 rfl) (by decide) (fun c1 => ?_) (fun c1 => ?_)
  · replace h := oPos h c1
    refine Ev_aload_n 0 (dt_X11_fair.at 5 rfl) rfl ?_
    refine Ev_bipush (dt_X11_fair.at 6 rfl) kb_m2 ?_
    obtain ⟨q2, hq2, h⟩ := oBind h
    refine Ev_callV (st := []) (st' := [.int q2.1]) [.int (-2)] (dt_X11_fair.at 7 rfl) cf_X11_68 (w_x_refusedBad σ (-2) q2 hq2) (by decide) sk_0 rfl rfl rfl (Nat.le_of_ble_eq_true rfl) rfl ?_
    exact Ev_iret (dt_X11_fair.at 8 rfl) rfl h
  · replace h := oNeg h c1
    refine Ev_iload_n 1 (dt_X11_fair.at 2 rfl) rfl ?_
    refine Ev_iconst (dt_X11_fair.at 3 rfl) ki_3 ?_
    refine Ev_icmp_lt (tgt := 16) (dt_X11_fair.at 4 rfl) (by decide) (fun c3 => ?_) (fun c3 => ?_)
    · replace h := oPos h c3
      refine Ev_aload_n 0 (dt_X11_fair.at 9 rfl) rfl ?_
      refine Ev_get (i := 0) (v := .ref 25) (dt_X11_fair.at 10 rfl) ff_X11_50 sk_0 rfl rfl ?_
      refine Ev_get (i := 1) (v := .ref 26) (dt_X11_fair.at 11 rfl) ff_X11_181 sk_25 rfl rfl ?_
      refine Ev_astore_n (dt_X11_fair.at 12 rfl) (by decide) (ls' := [(2, .ref 26), (0, .ref 0), (1, .int a1)]) rfl ?_
      refine Ev_iconst (dt_X11_fair.at 13 rfl) ki_1 ?_
      refine Ev_iload_n 2 (dt_X11_fair.at 14 rfl) rfl ?_
      refine Ev_ishl (dt_X11_fair.at 15 rfl) ?_
      refine Ev_nmI (fun x4 ex4 => ?_)
      replace h := oLt h ex4
      refine Ev_istore_n (dt_X11_fair.at 16 rfl) (by decide) (ls' := [(3, .int x4), (2, .ref 26), (0, .ref 0), (1, .int a1)]) rfl ?_
      refine Ev_iload_n 3 (dt_X11_fair.at 17 rfl) rfl ?_
      refine Ev_if_ne (tgt := 36) (dt_X11_fair.at 18 rfl) (by decide) (fun c5 => ?_) (fun c5 => ?_)
      · replace h := oNeg h c5
        refine Ev_iconst (dt_X11_fair.at 21 rfl) ki_1 ?_
        refine Ev_sub [2, 1, 0] (ls' := [(0, .ref 0), (2, .ref 26), (3, .int x4)]) rfl ?_
        exact wj_x_fair_37  σ x4 1 q h
      · replace h := oPos h c5
        refine Ev_iconst (dt_X11_fair.at 19 rfl) ki_2 ?_
        refine Ev_goto (tgt := 37) (dt_X11_fair.at 20 rfl) (by decide) ?_
        refine Ev_sub [2, 1, 0] (ls' := [(0, .ref 0), (2, .ref 26), (3, .int x4)]) rfl ?_
        exact wj_x_fair_37  σ x4 2 q h
    · replace h := oNeg h c3
      refine Ev_aload_n 0 (dt_X11_fair.at 5 rfl) rfl ?_
      refine Ev_bipush (dt_X11_fair.at 6 rfl) kb_m2 ?_
      obtain ⟨q17, hq17, h⟩ := oBind h
      refine Ev_callV (st := []) (st' := [.int q17.1]) [.int (-2)] (dt_X11_fair.at 7 rfl) cf_X11_68 (w_x_refusedBad σ (-2) q17 hq17) (by decide) sk_0 rfl rfl rfl (Nat.le_of_ble_eq_true rfl) rfl ?_
      exact Ev_iret (dt_X11_fair.at 8 rfl) rfl h
def s_Town_isThreeOrNone (σ : Sg) (a1 : Int32) : Option Int32 :=
  if a1 = 0 then
    some 1
  else
    (s_Town_isThree σ a1).bind fun q2 =>
    if q2 = 0 then
      some 0
    else
      some 1
set_option maxRecDepth 100000 in
set_option maxHeartbeats 4000000 in
theorem w_Town_isThreeOrNone (σ : Sg) (a1 : Int32) (q : Int32) (h : s_Town_isThreeOrNone σ a1 = some q) : Cal M_X9_isThreeOrNone 2 [.ref 19, .int a1] σ (some (.int q)) σ := by
  refine Cal.of (M := M_X9_isThreeOrNone) (by decide +kernel) (Nat.le_of_ble_eq_true rfl) ?_
  show Ev _ _ _ _ 0 [(0, .ref 19), (1, .int a1)] [] σ
  unfold s_Town_isThreeOrNone at h
  refine Ev_iload_n 1 (dt_X9_isThreeOrNone.at 0 rfl) rfl ?_
  refine Ev_if_eq (tgt := 12) (dt_X9_isThreeOrNone.at 1 rfl) (by decide) (fun c1 => ?_) (fun c1 => ?_)
  · replace h := oPos h c1
    refine Ev_iconst (dt_X9_isThreeOrNone.at 6 rfl) ki_1 ?_
    refine Ev_goto (tgt := 17) (dt_X9_isThreeOrNone.at 7 rfl) (by decide) ?_
    exact Ev_zret (dt_X9_isThreeOrNone.at 9 rfl) rfl (by decide) (oRet h)
  · replace h := oNeg h c1
    refine Ev_aload_n 0 (dt_X9_isThreeOrNone.at 2 rfl) rfl ?_
    refine Ev_iload_n 1 (dt_X9_isThreeOrNone.at 3 rfl) rfl ?_
    obtain ⟨q2, hq2, h⟩ := oBind h
    refine Ev_callV (st := []) (st' := [.int q2]) [.int a1] (dt_X9_isThreeOrNone.at 4 rfl) cf_X9_44 (w_Town_isThree σ a1 q2 hq2) (by decide) sk_19 rfl rfl rfl (Nat.le_of_ble_eq_true rfl) rfl ?_
    refine Ev_if_eq (tgt := 16) (dt_X9_isThreeOrNone.at 5 rfl) (by decide) (fun c3 => ?_) (fun c3 => ?_)
    · replace h := oPos h c3
      refine Ev_iconst (dt_X9_isThreeOrNone.at 8 rfl) ki_0 ?_
      exact Ev_zret (dt_X9_isThreeOrNone.at 9 rfl) rfl (by decide) (oRet h)
    · replace h := oNeg h c3
      refine Ev_iconst (dt_X9_isThreeOrNone.at 6 rfl) ki_1 ?_
      refine Ev_goto (tgt := 17) (dt_X9_isThreeOrNone.at 7 rfl) (by decide) ?_
      exact Ev_zret (dt_X9_isThreeOrNone.at 9 rfl) rfl (by decide) (oRet h)
def s_Scene_addWeek (σ : Sg) (a1 : Int32) (a2 : Int32) (a3 : Int32) : Option (Int32 × Sg) :=
  if (gI σ 25 6) < 6 then
    if inB ((gI σ 25 6) * 3) 18 = true then
      lt (pI σ 27 (Int32.toNatClampNeg ((gI σ 25 6) * 3)) a1 : Sg) fun s3 =>
      if inB (((gI s3 25 6) * 3) + 1) 18 = true then
        lt (pI s3 27 (Int32.toNatClampNeg (((gI s3 25 6) * 3) + 1)) a2 : Sg) fun s5 =>
        if inB (((gI s5 25 6) * 3) + 2) 18 = true then
          lt (pI s5 27 (Int32.toNatClampNeg (((gI s5 25 6) * 3) + 2)) a3 : Sg) fun s7 =>
          lt (pI s7 25 6 ((gI s7 25 6) + 1) : Sg) fun s8 =>
          some (((gI s8 25 6) - 1), s8)
        else none
      else none
    else none
  else
    some ((-1), σ)
set_option maxRecDepth 100000 in
set_option maxHeartbeats 4000000 in
theorem w_Scene_addWeek (σ : Sg) (a1 : Int32) (a2 : Int32) (a3 : Int32) (q : (Int32 × Sg)) (h : s_Scene_addWeek σ a1 a2 a3 = some q) : Cal M_X6_addWeek 0 [.ref 25, .int a1, .int a2, .int a3] σ (some (.int q.1)) q.2 := by
  refine Cal.of (M := M_X6_addWeek) (by decide +kernel) (Nat.le_of_ble_eq_true rfl) ?_
  show Ev _ _ _ _ 0 [(0, .ref 25), (1, .int a1), (2, .int a2), (3, .int a3)] [] σ
  unfold s_Scene_addWeek at h
  refine Ev_aload_n 0 (dt_X6_addWeek.at 0 rfl) rfl ?_
  refine Ev_get (i := 6) (v := .int (gI σ 25 6)) (dt_X6_addWeek.at 1 rfl) ff_X6_31 sk_25 rfl rfl ?_
  refine Ev_bipush (dt_X6_addWeek.at 2 rfl) kb_6 ?_
  refine Ev_icmp_lt (tgt := 11) (dt_X6_addWeek.at 3 rfl) (by decide) (fun c1 => ?_) (fun c1 => ?_)
  · replace h := oPos h c1
    refine Ev_aload_n 0 (dt_X6_addWeek.at 6 rfl) rfl ?_
    refine Ev_get (i := 2) (v := .ref 27) (dt_X6_addWeek.at 7 rfl) ff_X6_15 sk_25 rfl rfl ?_
    refine Ev_aload_n 0 (dt_X6_addWeek.at 8 rfl) rfl ?_
    refine Ev_get (i := 6) (v := .int (gI σ 25 6)) (dt_X6_addWeek.at 9 rfl) ff_X6_31 sk_25 rfl rfl ?_
    refine Ev_iconst (dt_X6_addWeek.at 10 rfl) ki_3 ?_
    refine Ev_imul (dt_X6_addWeek.at 11 rfl) ?_
    refine Ev_iload_n 1 (dt_X6_addWeek.at 12 rfl) rfl ?_
    obtain ⟨g2, h⟩ := oGuard h
    refine Ev_iastore 27 (dt_X6_addWeek.at 13 rfl) sk_27 g2 ?_
    refine Ev_nmS (fun s3 es3 => ?_)
    replace h := oLt h es3
    refine Ev_aload_n 0 (dt_X6_addWeek.at 14 rfl) rfl ?_
    refine Ev_get (i := 2) (v := .ref 27) (dt_X6_addWeek.at 15 rfl) ff_X6_15 sk_25 rfl rfl ?_
    refine Ev_aload_n 0 (dt_X6_addWeek.at 16 rfl) rfl ?_
    refine Ev_get (i := 6) (v := .int (gI s3 25 6)) (dt_X6_addWeek.at 17 rfl) ff_X6_31 sk_25 rfl rfl ?_
    refine Ev_iconst (dt_X6_addWeek.at 18 rfl) ki_3 ?_
    refine Ev_imul (dt_X6_addWeek.at 19 rfl) ?_
    refine Ev_iconst (dt_X6_addWeek.at 20 rfl) ki_1 ?_
    refine Ev_iadd (dt_X6_addWeek.at 21 rfl) ?_
    refine Ev_iload_n 2 (dt_X6_addWeek.at 22 rfl) rfl ?_
    obtain ⟨g4, h⟩ := oGuard h
    refine Ev_iastore 27 (dt_X6_addWeek.at 23 rfl) sk_27 g4 ?_
    refine Ev_nmS (fun s5 es5 => ?_)
    replace h := oLt h es5
    refine Ev_aload_n 0 (dt_X6_addWeek.at 24 rfl) rfl ?_
    refine Ev_get (i := 2) (v := .ref 27) (dt_X6_addWeek.at 25 rfl) ff_X6_15 sk_25 rfl rfl ?_
    refine Ev_aload_n 0 (dt_X6_addWeek.at 26 rfl) rfl ?_
    refine Ev_get (i := 6) (v := .int (gI s5 25 6)) (dt_X6_addWeek.at 27 rfl) ff_X6_31 sk_25 rfl rfl ?_
    refine Ev_iconst (dt_X6_addWeek.at 28 rfl) ki_3 ?_
    refine Ev_imul (dt_X6_addWeek.at 29 rfl) ?_
    refine Ev_iconst (dt_X6_addWeek.at 30 rfl) ki_2 ?_
    refine Ev_iadd (dt_X6_addWeek.at 31 rfl) ?_
    refine Ev_iload_n 3 (dt_X6_addWeek.at 32 rfl) rfl ?_
    obtain ⟨g6, h⟩ := oGuard h
    refine Ev_iastore 27 (dt_X6_addWeek.at 33 rfl) sk_27 g6 ?_
    refine Ev_nmS (fun s7 es7 => ?_)
    replace h := oLt h es7
    refine Ev_aload_n 0 (dt_X6_addWeek.at 34 rfl) rfl ?_
    refine Ev_dup (dt_X6_addWeek.at 35 rfl) rfl ?_
    refine Ev_get (i := 6) (v := .int (gI s7 25 6)) (dt_X6_addWeek.at 36 rfl) ff_X6_31 sk_25 rfl rfl ?_
    refine Ev_iconst (dt_X6_addWeek.at 37 rfl) ki_1 ?_
    refine Ev_iadd (dt_X6_addWeek.at 38 rfl) ?_
    refine Ev_putI (dt_X6_addWeek.at 39 rfl) ff_X6_31 fw_6_6 sk_25 rfl ?_
    refine Ev_nmS (fun s8 es8 => ?_)
    replace h := oLt h es8
    refine Ev_aload_n 0 (dt_X6_addWeek.at 40 rfl) rfl ?_
    refine Ev_get (i := 6) (v := .int (gI s8 25 6)) (dt_X6_addWeek.at 41 rfl) ff_X6_31 sk_25 rfl rfl ?_
    refine Ev_iconst (dt_X6_addWeek.at 42 rfl) ki_1 ?_
    refine Ev_isub (dt_X6_addWeek.at 43 rfl) ?_
    exact Ev_iret (dt_X6_addWeek.at 44 rfl) rfl h
  · replace h := oNeg h c1
    refine Ev_iconst (dt_X6_addWeek.at 4 rfl) ki_m1 ?_
    exact Ev_iret (dt_X6_addWeek.at 5 rfl) rfl h
def s_x_week (σ : Sg) (a1 : Int32) (a2 : Int32) (a3 : Int32) : Option (Int32 × Sg) :=
  (s_Town_isThreeOrNone σ a1).bind fun q1 =>
  if q1 = 0 then
    (s_x_refusedBad σ (-2)).bind fun q3 =>
    some (q3.1, q3.2)
  else
    (s_Town_isThreeOrNone σ a2).bind fun q4 =>
    if q4 = 0 then
      (s_x_refusedBad σ (-2)).bind fun q6 =>
      some (q6.1, q6.2)
    else
      (s_Town_isThreeOrNone σ a3).bind fun q7 =>
      if q7 = 0 then
        (s_x_refusedBad σ (-2)).bind fun q18 =>
        some (q18.1, q18.2)
      else
        if (a1 &&& a2) = 0 then
          if (a1 &&& a3) = 0 then
            if (a2 &&& a3) = 0 then
              if (gI σ 25 6) < 6 then
                (s_Scene_addWeek σ a1 a2 a3).bind fun q15 =>
                some (q15.1, q15.2)
              else
                (s_x_refusedFull σ ).bind fun q16 =>
                some (q16.1, q16.2)
            else
              (s_x_refusedBad σ (-2)).bind fun q17 =>
              some (q17.1, q17.2)
          else
            (s_x_refusedBad σ (-2)).bind fun q12 =>
            some (q12.1, q12.2)
        else
          (s_x_refusedBad σ (-2)).bind fun q10 =>
          some (q10.1, q10.2)
set_option maxRecDepth 100000 in
set_option maxHeartbeats 4000000 in
theorem w_x_week (σ : Sg) (a1 : Int32) (a2 : Int32) (a3 : Int32) (q : (Int32 × Sg)) (h : s_x_week σ a1 a2 a3 = some q) : Cal M_X11_week 3 [.ref 0, .int a1, .int a2, .int a3] σ (some (.int q.1)) q.2 := by
  refine Cal.of (M := M_X11_week) (by decide +kernel) (Nat.le_of_ble_eq_true rfl) ?_
  show Ev _ _ _ _ 0 [(0, .ref 0), (1, .int a1), (2, .int a2), (3, .int a3)] [] σ
  unfold s_x_week at h
  refine Ev_aload_n 0 (dt_X11_week.at 0 rfl) rfl ?_
  refine Ev_get (i := 0) (v := .ref 25) (dt_X11_week.at 1 rfl) ff_X11_50 sk_0 rfl rfl ?_
  refine Ev_get (i := 0) (v := .ref 19) (dt_X11_week.at 2 rfl) ff_X11_72 sk_25 rfl rfl ?_
  refine Ev_astore (dt_X11_week.at 3 rfl) (by decide) (ls' := [(4, .ref 19), (0, .ref 0), (1, .int a1), (2, .int a2), (3, .int a3)]) rfl ?_
  refine Ev_aload 0 (dt_X11_week.at 4 rfl) rfl ?_
  refine Ev_iload_n 2 (dt_X11_week.at 5 rfl) rfl ?_
  obtain ⟨q1, hq1, h⟩ := oBind h
  refine Ev_callV (st := []) (st' := [.int q1]) [.int a1] (dt_X11_week.at 6 rfl) cf_X11_187 (w_Town_isThreeOrNone σ a1 q1 hq1) (by decide) sk_19 rfl rfl rfl (Nat.le_of_ble_eq_true rfl) rfl ?_
  refine Ev_if_eq (tgt := 36) (dt_X11_week.at 7 rfl) (by decide) (fun c2 => ?_) (fun c2 => ?_)
  · replace h := oPos h c2
    refine Ev_aload_n 1 (dt_X11_week.at 16 rfl) rfl ?_
    refine Ev_bipush (dt_X11_week.at 17 rfl) kb_m2 ?_
    obtain ⟨q3, hq3, h⟩ := oBind h
    refine Ev_callV (st := []) (st' := [.int q3.1]) [.int (-2)] (dt_X11_week.at 18 rfl) cf_X11_68 (w_x_refusedBad σ (-2) q3 hq3) (by decide) sk_0 rfl rfl rfl (Nat.le_of_ble_eq_true rfl) rfl ?_
    exact Ev_iret (dt_X11_week.at 19 rfl) rfl h
  · replace h := oNeg h c2
    refine Ev_aload 0 (dt_X11_week.at 8 rfl) rfl ?_
    refine Ev_iload_n 3 (dt_X11_week.at 9 rfl) rfl ?_
    obtain ⟨q4, hq4, h⟩ := oBind h
    refine Ev_callV (st := []) (st' := [.int q4]) [.int a2] (dt_X11_week.at 10 rfl) cf_X11_187 (w_Town_isThreeOrNone σ a2 q4 hq4) (by decide) sk_19 rfl rfl rfl (Nat.le_of_ble_eq_true rfl) rfl ?_
    refine Ev_if_eq (tgt := 36) (dt_X11_week.at 11 rfl) (by decide) (fun c5 => ?_) (fun c5 => ?_)
    · replace h := oPos h c5
      refine Ev_aload_n 1 (dt_X11_week.at 16 rfl) rfl ?_
      refine Ev_bipush (dt_X11_week.at 17 rfl) kb_m2 ?_
      obtain ⟨q6, hq6, h⟩ := oBind h
      refine Ev_callV (st := []) (st' := [.int q6.1]) [.int (-2)] (dt_X11_week.at 18 rfl) cf_X11_68 (w_x_refusedBad σ (-2) q6 hq6) (by decide) sk_0 rfl rfl rfl (Nat.le_of_ble_eq_true rfl) rfl ?_
      exact Ev_iret (dt_X11_week.at 19 rfl) rfl h
    · replace h := oNeg h c5
      refine Ev_aload 0 (dt_X11_week.at 12 rfl) rfl ?_
      refine Ev_iload_n 4 (dt_X11_week.at 13 rfl) rfl ?_
      obtain ⟨q7, hq7, h⟩ := oBind h
      refine Ev_callV (st := []) (st' := [.int q7]) [.int a3] (dt_X11_week.at 14 rfl) cf_X11_187 (w_Town_isThreeOrNone σ a3 q7 hq7) (by decide) sk_19 rfl rfl rfl (Nat.le_of_ble_eq_true rfl) rfl ?_
      refine Ev_if_ne (tgt := 43) (dt_X11_week.at 15 rfl) (by decide) (fun c8 => ?_) (fun c8 => ?_)
      · replace h := oNeg h c8
        refine Ev_iload_n 2 (dt_X11_week.at 20 rfl) rfl ?_
        refine Ev_iload_n 3 (dt_X11_week.at 21 rfl) rfl ?_
        refine Ev_iand (dt_X11_week.at 22 rfl) ?_
        refine Ev_if_ne (tgt := 61) (dt_X11_week.at 23 rfl) (by decide) (fun c9 => ?_) (fun c9 => ?_)
        · replace h := oNeg h c9
          refine Ev_aload_n 1 (dt_X11_week.at 32 rfl) rfl ?_
          refine Ev_bipush (dt_X11_week.at 33 rfl) kb_m2 ?_
          obtain ⟨q10, hq10, h⟩ := oBind h
          refine Ev_callV (st := []) (st' := [.int q10.1]) [.int (-2)] (dt_X11_week.at 34 rfl) cf_X11_68 (w_x_refusedBad σ (-2) q10 hq10) (by decide) sk_0 rfl rfl rfl (Nat.le_of_ble_eq_true rfl) rfl ?_
          exact Ev_iret (dt_X11_week.at 35 rfl) rfl h
        · replace h := oPos h c9
          refine Ev_iload_n 2 (dt_X11_week.at 24 rfl) rfl ?_
          refine Ev_iload_n 4 (dt_X11_week.at 25 rfl) rfl ?_
          refine Ev_iand (dt_X11_week.at 26 rfl) ?_
          refine Ev_if_ne (tgt := 61) (dt_X11_week.at 27 rfl) (by decide) (fun c11 => ?_) (fun c11 => ?_)
          · replace h := oNeg h c11
            refine Ev_aload_n 1 (dt_X11_week.at 32 rfl) rfl ?_
            refine Ev_bipush (dt_X11_week.at 33 rfl) kb_m2 ?_
            obtain ⟨q12, hq12, h⟩ := oBind h
            refine Ev_callV (st := []) (st' := [.int q12.1]) [.int (-2)] (dt_X11_week.at 34 rfl) cf_X11_68 (w_x_refusedBad σ (-2) q12 hq12) (by decide) sk_0 rfl rfl rfl (Nat.le_of_ble_eq_true rfl) rfl ?_
            exact Ev_iret (dt_X11_week.at 35 rfl) rfl h
          · replace h := oPos h c11
            refine Ev_iload_n 3 (dt_X11_week.at 28 rfl) rfl ?_
            refine Ev_iload_n 4 (dt_X11_week.at 29 rfl) rfl ?_
            refine Ev_iand (dt_X11_week.at 30 rfl) ?_
            refine Ev_if_eq (tgt := 68) (dt_X11_week.at 31 rfl) (by decide) (fun c13 => ?_) (fun c13 => ?_)
            · replace h := oPos h c13
              refine Ev_aload_n 1 (dt_X11_week.at 36 rfl) rfl ?_
              refine Ev_get (i := 0) (v := .ref 25) (dt_X11_week.at 37 rfl) ff_X11_50 sk_0 rfl rfl ?_
              refine Ev_get (i := 6) (v := .int (gI σ 25 6)) (dt_X11_week.at 38 rfl) ff_X11_190 sk_25 rfl rfl ?_
              refine Ev_bipush (dt_X11_week.at 39 rfl) kb_6 ?_
              refine Ev_icmp_lt (tgt := 85) (dt_X11_week.at 40 rfl) (by decide) (fun c14 => ?_) (fun c14 => ?_)
              · replace h := oPos h c14
                refine Ev_aload_n 1 (dt_X11_week.at 44 rfl) rfl ?_
                refine Ev_get (i := 0) (v := .ref 25) (dt_X11_week.at 45 rfl) ff_X11_50 sk_0 rfl rfl ?_
                refine Ev_iload_n 2 (dt_X11_week.at 46 rfl) rfl ?_
                refine Ev_iload_n 3 (dt_X11_week.at 47 rfl) rfl ?_
                refine Ev_iload_n 4 (dt_X11_week.at 48 rfl) rfl ?_
                obtain ⟨q15, hq15, h⟩ := oBind h
                refine Ev_callV (st := []) (st' := [.int q15.1]) [.int a1, .int a2, .int a3] (dt_X11_week.at 49 rfl) cf_X11_193 (w_Scene_addWeek σ a1 a2 a3 q15 hq15) (by decide) sk_25 rfl rfl rfl (Nat.le_of_ble_eq_true rfl) rfl ?_
                exact Ev_iret (dt_X11_week.at 50 rfl) rfl h
              · replace h := oNeg h c14
                refine Ev_aload_n 1 (dt_X11_week.at 41 rfl) rfl ?_
                obtain ⟨q16, hq16, h⟩ := oBind h
                refine Ev_callV (st := []) (st' := [.int q16.1]) [] (dt_X11_week.at 42 rfl) cf_X11_93 (w_x_refusedFull σ  q16 hq16) (by decide) sk_0 rfl rfl rfl (Nat.le_of_ble_eq_true rfl) rfl ?_
                exact Ev_iret (dt_X11_week.at 43 rfl) rfl h
            · replace h := oNeg h c13
              refine Ev_aload_n 1 (dt_X11_week.at 32 rfl) rfl ?_
              refine Ev_bipush (dt_X11_week.at 33 rfl) kb_m2 ?_
              obtain ⟨q17, hq17, h⟩ := oBind h
              refine Ev_callV (st := []) (st' := [.int q17.1]) [.int (-2)] (dt_X11_week.at 34 rfl) cf_X11_68 (w_x_refusedBad σ (-2) q17 hq17) (by decide) sk_0 rfl rfl rfl (Nat.le_of_ble_eq_true rfl) rfl ?_
              exact Ev_iret (dt_X11_week.at 35 rfl) rfl h
      · replace h := oPos h c8
        refine Ev_aload_n 1 (dt_X11_week.at 16 rfl) rfl ?_
        refine Ev_bipush (dt_X11_week.at 17 rfl) kb_m2 ?_
        obtain ⟨q18, hq18, h⟩ := oBind h
        refine Ev_callV (st := []) (st' := [.int q18.1]) [.int (-2)] (dt_X11_week.at 18 rfl) cf_X11_68 (w_x_refusedBad σ (-2) q18 hq18) (by decide) sk_0 rfl rfl rfl (Nat.le_of_ble_eq_true rfl) rfl ?_
        exact Ev_iret (dt_X11_week.at 19 rfl) rfl h
def s_x_loose (σ : Sg)  : Option (Int32 × Sg) :=
  lt ((gI σ 25 6) : Int32) fun x1 =>
  lt (pI σ 25 6 0 : Sg) fun s2 =>
  some (x1, s2)
set_option maxRecDepth 100000 in
set_option maxHeartbeats 4000000 in
theorem w_x_loose (σ : Sg)  (q : (Int32 × Sg)) (h : s_x_loose σ  = some q) : Cal M_X11_loose 0 [.ref 0] σ (some (.int q.1)) q.2 := by
  refine Cal.of (M := M_X11_loose) (by decide +kernel) (Nat.le_of_ble_eq_true rfl) ?_
  show Ev _ _ _ _ 0 [(0, .ref 0)] [] σ
  unfold s_x_loose at h
  refine Ev_aload_n 0 (dt_X11_loose.at 0 rfl) rfl ?_
  refine Ev_get (i := 0) (v := .ref 25) (dt_X11_loose.at 1 rfl) ff_X11_50 sk_0 rfl rfl ?_
  refine Ev_get (i := 6) (v := .int (gI σ 25 6)) (dt_X11_loose.at 2 rfl) ff_X11_190 sk_25 rfl rfl ?_
  refine Ev_nmI (fun x1 ex1 => ?_)
  replace h := oLt h ex1
  refine Ev_istore_n (dt_X11_loose.at 3 rfl) (by decide) (ls' := [(1, .int x1), (0, .ref 0)]) rfl ?_
  refine Ev_aload_n 1 (dt_X11_loose.at 4 rfl) rfl ?_
  refine Ev_get (i := 0) (v := .ref 25) (dt_X11_loose.at 5 rfl) ff_X11_50 sk_0 rfl rfl ?_
  refine Ev_iconst (dt_X11_loose.at 6 rfl) ki_0 ?_
  refine Ev_putI (dt_X11_loose.at 7 rfl) ff_X11_190 fw_6_6 sk_25 rfl ?_
  refine Ev_nmS (fun s2 es2 => ?_)
  replace h := oLt h es2
  refine Ev_iload_n 0 (dt_X11_loose.at 8 rfl) rfl ?_
  exact Ev_iret (dt_X11_loose.at 9 rfl) rfl h
def b_Scene_toldInWeek_5 (σ : Sg) (v1 : Int32) (v2 : Int32) (x : (Int32 × Int32)) : Option ((Int32 × Int32) ⊕ (Int32 × Int32)) :=
  if 3 ≤ x.2 then
    some (.inr (x.1, x.2))
  else
    if inB ((v1 * 3) + x.2) 18 = true then
      lt ((gI σ 27 (Int32.toNatClampNeg ((v1 * 3) + x.2))) : Int32) fun x3 =>
      if (x3 &&& v2) = 0 then
        lt (x.2 + 1 : Int32) fun x5 =>
        some (.inl (x.1, x5))
      else
        lt ((x.1 ||| x3) : Int32) fun x6 =>
        lt (x.2 + 1 : Int32) fun x7 =>
        some (.inl (x6, x7))
    else none
def s_Scene_toldInWeek (σ : Sg) (a1 : Int32) (a2 : Int32) : Option Int32 :=
  (lp (b_Scene_toldInWeek_5 σ a1 a2) 100000 (a2, 0)).bind fun o8 =>
  some o8.1
set_option maxRecDepth 100000 in
set_option maxHeartbeats 4000000 in
theorem wb_Scene_toldInWeek_5 (σ : Sg) (v1 : Int32) (v2 : Int32) (x : (Int32 × Int32)) (r : Option Value) (τ : Sg) (o : ((Int32 × Int32) ⊕ (Int32 × Int32))) (h : (b_Scene_toldInWeek_5 σ v1 v2 x) = some o) (hc : ∀ y : (Int32 × Int32), o = .inl y → Ev M_X6_toldInWeek 0 r τ 5 [(0, .ref 25), (1, .int v1), (2, .int v2), (3, .int y.1), (4, .int y.2)] [] σ) (he : ∀ y : (Int32 × Int32), o = .inr y → Ev M_X6_toldInWeek 0 r τ 42 [(3, .int y.1)] [] σ) : Ev M_X6_toldInWeek 0 r τ 5 [(0, .ref 25), (1, .int v1), (2, .int v2), (3, .int x.1), (4, .int x.2)] [] σ := by
  unfold b_Scene_toldInWeek_5 at h
  refine Ev_iload 4 (dt_X6_toldInWeek.at 4 rfl) rfl ?_
  refine Ev_iconst (dt_X6_toldInWeek.at 5 rfl) ki_3 ?_
  refine Ev_icmp_ge (tgt := 42) (dt_X6_toldInWeek.at 6 rfl) (by decide) (fun c1 => ?_) (fun c1 => ?_)
  · replace h := oPos h c1
    refine Ev_sub [3] (ls' := [(3, .int x.1)]) rfl ?_
    exact he (x.1, x.2) (Option.some.inj h).symm
  · replace h := oNeg h c1
    refine Ev_aload_n 0 (dt_X6_toldInWeek.at 7 rfl) rfl ?_
    refine Ev_get (i := 2) (v := .ref 27) (dt_X6_toldInWeek.at 8 rfl) ff_X6_15 sk_25 rfl rfl ?_
    refine Ev_iload_n 1 (dt_X6_toldInWeek.at 9 rfl) rfl ?_
    refine Ev_iconst (dt_X6_toldInWeek.at 10 rfl) ki_3 ?_
    refine Ev_imul (dt_X6_toldInWeek.at 11 rfl) ?_
    refine Ev_iload 4 (dt_X6_toldInWeek.at 12 rfl) rfl ?_
    refine Ev_iadd (dt_X6_toldInWeek.at 13 rfl) ?_
    obtain ⟨g2, h⟩ := oGuard h
    refine Ev_iaload 27 (dt_X6_toldInWeek.at 14 rfl) sk_27 g2 ?_
    refine Ev_nmI (fun x3 ex3 => ?_)
    replace h := oLt h ex3
    refine Ev_istore (dt_X6_toldInWeek.at 15 rfl) (by decide) (ls' := [(5, .int x3), (0, .ref 25), (1, .int v1), (2, .int v2), (3, .int x.1), (4, .int x.2)]) rfl ?_
    refine Ev_iload 0 (dt_X6_toldInWeek.at 16 rfl) rfl ?_
    refine Ev_iload_n 3 (dt_X6_toldInWeek.at 17 rfl) rfl ?_
    refine Ev_iand (dt_X6_toldInWeek.at 18 rfl) ?_
    refine Ev_if_eq (tgt := 36) (dt_X6_toldInWeek.at 19 rfl) (by decide) (fun c4 => ?_) (fun c4 => ?_)
    · replace h := oPos h c4
      obtain ⟨x5, ex5⟩ : ∃ z : Int32, z = x.2 + 1 := ⟨_, rfl⟩
      replace h := oLt h ex5
      refine Ev_iinc (v := x5) 5 (dt_X6_toldInWeek.at 24 rfl) rfl (ex5.trans (congrArg (fun z => x.2 + z) ki_1.symm)) (by decide) (ls' := [(4, .int x5), (5, .int x3), (0, .ref 25), (1, .int v1), (2, .int v2), (3, .int x.1)]) rfl ?_
      refine Ev_goto (tgt := 5) (dt_X6_toldInWeek.at 25 rfl) (by decide) ?_
      refine Ev_sub [2, 3, 4, 5, 0] (ls' := [(0, .ref 25), (1, .int v1), (2, .int v2), (3, .int x.1), (4, .int x5)]) rfl ?_
      exact hc (x.1, x5) (Option.some.inj h).symm
    · replace h := oNeg h c4
      refine Ev_iload_n 4 (dt_X6_toldInWeek.at 20 rfl) rfl ?_
      refine Ev_iload 0 (dt_X6_toldInWeek.at 21 rfl) rfl ?_
      refine Ev_ior (dt_X6_toldInWeek.at 22 rfl) ?_
      refine Ev_nmI (fun x6 ex6 => ?_)
      replace h := oLt h ex6
      refine Ev_istore_n (dt_X6_toldInWeek.at 23 rfl) (by decide) (ls' := [(3, .int x6), (5, .int x3), (0, .ref 25), (1, .int v1), (2, .int v2), (4, .int x.2)]) rfl ?_
      obtain ⟨x7, ex7⟩ : ∃ z : Int32, z = x.2 + 1 := ⟨_, rfl⟩
      replace h := oLt h ex7
      refine Ev_iinc (v := x7) 5 (dt_X6_toldInWeek.at 24 rfl) rfl (ex7.trans (congrArg (fun z => x.2 + z) ki_1.symm)) (by decide) (ls' := [(4, .int x7), (3, .int x6), (5, .int x3), (0, .ref 25), (1, .int v1), (2, .int v2)]) rfl ?_
      refine Ev_goto (tgt := 5) (dt_X6_toldInWeek.at 25 rfl) (by decide) ?_
      refine Ev_sub [3, 4, 5, 1, 0] (ls' := [(0, .ref 25), (1, .int v1), (2, .int v2), (3, .int x6), (4, .int x7)]) rfl ?_
      exact hc (x6, x7) (Option.some.inj h).symm
set_option maxRecDepth 100000 in
set_option maxHeartbeats 4000000 in
theorem wl_Scene_toldInWeek_5 (σ : Sg) (v1 : Int32) (v2 : Int32) (r : Option Value) (τ : Sg) (n : Nat) (x : (Int32 × Int32)) (z : (Int32 × Int32)) (h : lp (b_Scene_toldInWeek_5 σ v1 v2) n x = some z) (he : ∀ y : (Int32 × Int32), z = y → Ev M_X6_toldInWeek 0 r τ 42 [(3, .int y.1)] [] σ) : Ev M_X6_toldInWeek 0 r τ 5 [(0, .ref 25), (1, .int v1), (2, .int v2), (3, .int x.1), (4, .int x.2)] [] σ := by
  refine lp_ind (E := fun x : (Int32 × Int32) => Ev M_X6_toldInWeek 0 r τ 5 [(0, .ref 25), (1, .int v1), (2, .int v2), (3, .int x.1), (4, .int x.2)] [] σ) (fun x => ⟨fun y hb hy => ?_, fun hb => ?_⟩) n x h
  · exact wb_Scene_toldInWeek_5 σ v1 v2 x r τ _ hb (fun y' e => by cases e; exact hy) (fun y' e => by cases e)
  · exact wb_Scene_toldInWeek_5 σ v1 v2 x r τ _ hb (fun y' e => by cases e) (fun y' e => he y' (Sum.inr.inj e))
set_option maxRecDepth 100000 in
set_option maxHeartbeats 4000000 in
theorem w_Scene_toldInWeek (σ : Sg) (a1 : Int32) (a2 : Int32) (q : Int32) (h : s_Scene_toldInWeek σ a1 a2 = some q) : Cal M_X6_toldInWeek 0 [.ref 25, .int a1, .int a2] σ (some (.int q)) σ := by
  refine Cal.of (M := M_X6_toldInWeek) (by decide +kernel) (Nat.le_of_ble_eq_true rfl) ?_
  show Ev _ _ _ _ 0 [(0, .ref 25), (1, .int a1), (2, .int a2)] [] σ
  unfold s_Scene_toldInWeek at h
  refine Ev_iload_n 2 (dt_X6_toldInWeek.at 0 rfl) rfl ?_
  refine Ev_istore_n (dt_X6_toldInWeek.at 1 rfl) (by decide) (ls' := [(3, .int a2), (0, .ref 25), (1, .int a1), (2, .int a2)]) rfl ?_
  refine Ev_iconst (dt_X6_toldInWeek.at 2 rfl) ki_0 ?_
  refine Ev_istore (dt_X6_toldInWeek.at 3 rfl) (by decide) (ls' := [(4, .int 0), (3, .int a2), (0, .ref 25), (1, .int a1), (2, .int a2)]) rfl ?_
  refine Ev_sub [2, 3, 4, 1, 0] (ls' := [(0, .ref 25), (1, .int a1), (2, .int a2), (3, .int a2), (4, .int 0)]) rfl ?_
  obtain ⟨o8, ho8, h⟩ := oBind h
  refine wl_Scene_toldInWeek_5 σ a1 a2 _ _ 100000 (a2, 0) o8 ho8 (fun y ey => ?_)
  subst ey
  refine Ev_iload_n 0 (dt_X6_toldInWeek.at 26 rfl) rfl ?_
  exact Ev_iret (dt_X6_toldInWeek.at 27 rfl) rfl (oRet h)
