def s_x_best (σ : Sg) (a1 : Int32) : Option (Int32 × Sg) :=
  (s_Town_isThree σ a1).bind fun q1 =>
  if q1 = 0 then
    (s_x_refusedBad σ (-2)).bind fun q4 =>
    some (q4.1, q4.2)
  else
    (s_FreeDay_mostDone σ a1).bind fun q3 =>
    some (q3.1, q3.2)
set_option maxRecDepth 100000 in
set_option maxHeartbeats 4000000 in
theorem w_x_best (σ : Sg) (a1 : Int32) (q : (Int32 × Sg)) (h : s_x_best σ a1 = some q) : Cal M_X11_best 5 [.ref 0, .int a1] σ (some (.int q.1)) q.2 := by
  refine Cal.of (M := M_X11_best) (by decide +kernel) (Nat.le_of_ble_eq_true rfl) ?_
  show Ev _ _ _ _ 0 [(0, .ref 0), (1, .int a1)] [] σ
  unfold s_x_best at h
  refine Ev_aload_n 0 (dt_X11_best.at 0 rfl) rfl ?_
  refine Ev_get (i := 0) (v := .ref 25) (dt_X11_best.at 1 rfl) ff_X11_50 sk_0 rfl rfl ?_
  refine Ev_get (i := 0) (v := .ref 19) (dt_X11_best.at 2 rfl) ff_X11_72 sk_25 rfl rfl ?_
  refine Ev_iload_n 1 (dt_X11_best.at 3 rfl) rfl ?_
  obtain ⟨q1, hq1, h⟩ := oBind h
  refine Ev_callV (st := []) (st' := [.int q1]) [.int a1] (dt_X11_best.at 4 rfl) cf_X11_132 (w_Town_isThree σ a1 q1 hq1) (by decide) sk_19 rfl rfl rfl (Nat.le_of_ble_eq_true rfl) rfl ?_
  refine Ev_if_ne (tgt := 21) (dt_X11_best.at 5 rfl) (by decide) (fun c2 => ?_) (fun c2 => ?_)
  · replace h := oNeg h c2
    refine Ev_aload_n 0 (dt_X11_best.at 10 rfl) rfl ?_
    refine Ev_get (i := 6) (v := .ref 43) (dt_X11_best.at 11 rfl) ff_X11_64 sk_0 rfl rfl ?_
    refine Ev_iload_n 1 (dt_X11_best.at 12 rfl) rfl ?_
    obtain ⟨q3, hq3, h⟩ := oBind h
    refine Ev_callV (st := []) (st' := [.int q3.1]) [.int a1] (dt_X11_best.at 13 rfl) cf_X11_144 (w_FreeDay_mostDone σ a1 q3 hq3) (by decide) sk_43 rfl rfl rfl (Nat.le_of_ble_eq_true rfl) rfl ?_
    exact Ev_iret (dt_X11_best.at 14 rfl) rfl h
  · replace h := oPos h c2
    refine Ev_aload_n 0 (dt_X11_best.at 6 rfl) rfl ?_
    refine Ev_bipush (dt_X11_best.at 7 rfl) kb_m2 ?_
    obtain ⟨q4, hq4, h⟩ := oBind h
    refine Ev_callV (st := []) (st' := [.int q4.1]) [.int (-2)] (dt_X11_best.at 8 rfl) cf_X11_68 (w_x_refusedBad σ (-2) q4 hq4) (by decide) sk_0 rfl rfl rfl (Nat.le_of_ble_eq_true rfl) rfl ?_
    exact Ev_iret (dt_X11_best.at 9 rfl) rfl h
def s_x_isAllInThrees (σ : Sg)  : Option Int32 :=
  lt ((gI σ 19 6) : Int32) fun x1 =>
  if x1 = 3 then
    some 1
  else
    if x1 = 6 then
      some 1
    else
      if x1 = 9 then
        some 1
      else
        some 0
set_option maxRecDepth 100000 in
set_option maxHeartbeats 4000000 in
theorem w_x_isAllInThrees (σ : Sg)  (q : Int32) (h : s_x_isAllInThrees σ  = some q) : Cal M_X11_isAllInThrees 0 [.ref 0] σ (some (.int q)) σ := by
  refine Cal.of (M := M_X11_isAllInThrees) (by decide +kernel) (Nat.le_of_ble_eq_true rfl) ?_
  show Ev _ _ _ _ 0 [(0, .ref 0)] [] σ
  unfold s_x_isAllInThrees at h
  refine Ev_aload_n 0 (dt_X11_isAllInThrees.at 0 rfl) rfl ?_
  refine Ev_get (i := 0) (v := .ref 25) (dt_X11_isAllInThrees.at 1 rfl) ff_X11_50 sk_0 rfl rfl ?_
  refine Ev_get (i := 0) (v := .ref 19) (dt_X11_isAllInThrees.at 2 rfl) ff_X11_72 sk_25 rfl rfl ?_
  refine Ev_get (i := 6) (v := .int (gI σ 19 6)) (dt_X11_isAllInThrees.at 3 rfl) ff_X11_90 sk_19 rfl rfl ?_
  refine Ev_nmI (fun x1 ex1 => ?_)
  replace h := oLt h ex1
  refine Ev_istore_n (dt_X11_isAllInThrees.at 4 rfl) (by decide) (ls' := [(1, .int x1), (0, .ref 0)]) rfl ?_
  refine Ev_iload_n 0 (dt_X11_isAllInThrees.at 5 rfl) rfl ?_
  refine Ev_iconst (dt_X11_isAllInThrees.at 6 rfl) ki_3 ?_
  refine Ev_icmp_eq (tgt := 28) (dt_X11_isAllInThrees.at 7 rfl) (by decide) (fun c2 => ?_) (fun c2 => ?_)
  · replace h := oPos h c2
    refine Ev_iconst (dt_X11_isAllInThrees.at 14 rfl) ki_1 ?_
    refine Ev_goto (tgt := 33) (dt_X11_isAllInThrees.at 15 rfl) (by decide) ?_
    exact Ev_zret (dt_X11_isAllInThrees.at 17 rfl) rfl (by decide) (oRet h)
  · replace h := oNeg h c2
    refine Ev_iload_n 0 (dt_X11_isAllInThrees.at 8 rfl) rfl ?_
    refine Ev_bipush (dt_X11_isAllInThrees.at 9 rfl) kb_6 ?_
    refine Ev_icmp_eq (tgt := 28) (dt_X11_isAllInThrees.at 10 rfl) (by decide) (fun c3 => ?_) (fun c3 => ?_)
    · replace h := oPos h c3
      refine Ev_iconst (dt_X11_isAllInThrees.at 14 rfl) ki_1 ?_
      refine Ev_goto (tgt := 33) (dt_X11_isAllInThrees.at 15 rfl) (by decide) ?_
      exact Ev_zret (dt_X11_isAllInThrees.at 17 rfl) rfl (by decide) (oRet h)
    · replace h := oNeg h c3
      refine Ev_iload_n 0 (dt_X11_isAllInThrees.at 11 rfl) rfl ?_
      refine Ev_bipush (dt_X11_isAllInThrees.at 12 rfl) kb_9 ?_
      refine Ev_icmp_ne (tgt := 32) (dt_X11_isAllInThrees.at 13 rfl) (by decide) (fun c4 => ?_) (fun c4 => ?_)
      · replace h := oNeg h c4
        refine Ev_iconst (dt_X11_isAllInThrees.at 16 rfl) ki_0 ?_
        exact Ev_zret (dt_X11_isAllInThrees.at 17 rfl) rfl (by decide) (oRet h)
      · replace h := oPos h c4
        refine Ev_iconst (dt_X11_isAllInThrees.at 14 rfl) ki_1 ?_
        refine Ev_goto (tgt := 33) (dt_X11_isAllInThrees.at 15 rfl) (by decide) ?_
        exact Ev_zret (dt_X11_isAllInThrees.at 17 rfl) rfl (by decide) (oRet h)
def s_Splits_tiesLeast (a0 : Int32) (a1 : Int32) : Option Int32 :=
  if (a0 &&& (a1 ^^^ (-1))) = 0 then
    if (a0 &&& (a1 &&& (-a1))) = 0 then
      some 0
    else
      some 1
  else
    some 0
set_option maxRecDepth 100000 in
set_option maxHeartbeats 4000000 in
theorem w_Splits_tiesLeast (σ : Sg) (a0 : Int32) (a1 : Int32) (q : Int32) (h : s_Splits_tiesLeast a0 a1 = some q) : Cal M_X7_tiesLeast 0 [.int a0, .int a1] σ (some (.int q)) σ := by
  refine Cal.of (M := M_X7_tiesLeast) (by decide +kernel) (Nat.le_of_ble_eq_true rfl) ?_
  show Ev _ _ _ _ 0 [(0, .int a0), (1, .int a1)] [] σ
  unfold s_Splits_tiesLeast at h
  refine Ev_iload_n 0 (dt_X7_tiesLeast.at 0 rfl) rfl ?_
  refine Ev_iload_n 1 (dt_X7_tiesLeast.at 1 rfl) rfl ?_
  refine Ev_iconst (dt_X7_tiesLeast.at 2 rfl) ki_m1 ?_
  refine Ev_ixor (dt_X7_tiesLeast.at 3 rfl) ?_
  refine Ev_iand (dt_X7_tiesLeast.at 4 rfl) ?_
  refine Ev_if_ne (tgt := 21) (dt_X7_tiesLeast.at 5 rfl) (by decide) (fun c1 => ?_) (fun c1 => ?_)
  · replace h := oNeg h c1
    refine Ev_iconst (dt_X7_tiesLeast.at 15 rfl) ki_0 ?_
    exact Ev_zret (dt_X7_tiesLeast.at 16 rfl) rfl (by decide) (oRet h)
  · replace h := oPos h c1
    refine Ev_iload_n 0 (dt_X7_tiesLeast.at 6 rfl) rfl ?_
    refine Ev_iload_n 1 (dt_X7_tiesLeast.at 7 rfl) rfl ?_
    refine Ev_iload_n 1 (dt_X7_tiesLeast.at 8 rfl) rfl ?_
    refine Ev_ineg (dt_X7_tiesLeast.at 9 rfl) ?_
    refine Ev_iand (dt_X7_tiesLeast.at 10 rfl) ?_
    refine Ev_iand (dt_X7_tiesLeast.at 11 rfl) ?_
    refine Ev_if_eq (tgt := 21) (dt_X7_tiesLeast.at 12 rfl) (by decide) (fun c2 => ?_) (fun c2 => ?_)
    · replace h := oPos h c2
      refine Ev_iconst (dt_X7_tiesLeast.at 15 rfl) ki_0 ?_
      exact Ev_zret (dt_X7_tiesLeast.at 16 rfl) rfl (by decide) (oRet h)
    · replace h := oNeg h c2
      refine Ev_iconst (dt_X7_tiesLeast.at 13 rfl) ki_1 ?_
      refine Ev_goto (tgt := 22) (dt_X7_tiesLeast.at 14 rfl) (by decide) ?_
      exact Ev_zret (dt_X7_tiesLeast.at 16 rfl) rfl (by decide) (oRet h)
def s_Splits_add (σ : Sg) (a1 : Int32) (a2 : Int32) (a3 : Int32) : Option Sg :=
  if (gI σ 12 5) < 280 then
    if inB ((gI σ 12 5) * 3) 840 = true then
      lt (pI σ 16 (Int32.toNatClampNeg ((gI σ 12 5) * 3)) a1 : Sg) fun s3 =>
      if inB (((gI s3 12 5) * 3) + 1) 840 = true then
        lt (pI s3 16 (Int32.toNatClampNeg (((gI s3 12 5) * 3) + 1)) a2 : Sg) fun s5 =>
        if inB (((gI s5 12 5) * 3) + 2) 840 = true then
          lt (pI s5 16 (Int32.toNatClampNeg (((gI s5 12 5) * 3) + 2)) a3 : Sg) fun s7 =>
          if inB a1 512 = true then
            if inB a2 512 = true then
              if inB a3 512 = true then
                if inB (gI s7 12 5) 280 = true then
                  lt (pL s7 17 (Int32.toNatClampNeg (gI s7 12 5)) (((gL s7 14 (Int32.toNatClampNeg a1)) ||| (gL s7 14 (Int32.toNatClampNeg a2))) ||| (gL s7 14 (Int32.toNatClampNeg a3))) : Sg) fun s12 =>
                  lt (pI s12 12 5 ((gI s12 12 5) + 1) : Sg) fun s13 =>
                  some s13
                else none
              else none
            else none
          else none
        else none
      else none
    else none
  else
    some σ
set_option maxRecDepth 100000 in
set_option maxHeartbeats 4000000 in
theorem w_Splits_add (σ : Sg) (a1 : Int32) (a2 : Int32) (a3 : Int32) (q : Sg) (h : s_Splits_add σ a1 a2 a3 = some q) : Cal M_X7_add 0 [.ref 12, .int a1, .int a2, .int a3] σ none q := by
  refine Cal.of (M := M_X7_add) (by decide +kernel) (Nat.le_of_ble_eq_true rfl) ?_
  show Ev _ _ _ _ 0 [(0, .ref 12), (1, .int a1), (2, .int a2), (3, .int a3)] [] σ
  unfold s_Splits_add at h
  refine Ev_aload_n 0 (dt_X7_add.at 0 rfl) rfl ?_
  refine Ev_get (i := 5) (v := .int (gI σ 12 5)) (dt_X7_add.at 1 rfl) ff_X7_32 sk_12 rfl rfl ?_
  refine Ev_sipush (dt_X7_add.at 2 rfl) ks_280 ?_
  refine Ev_icmp_lt (tgt := 11) (dt_X7_add.at 3 rfl) (by decide) (fun c1 => ?_) (fun c1 => ?_)
  · replace h := oPos h c1
    refine Ev_aload_n 0 (dt_X7_add.at 5 rfl) rfl ?_
    refine Ev_get (i := 3) (v := .ref 16) (dt_X7_add.at 6 rfl) ff_X7_22 sk_12 rfl rfl ?_
    refine Ev_aload_n 0 (dt_X7_add.at 7 rfl) rfl ?_
    refine Ev_get (i := 5) (v := .int (gI σ 12 5)) (dt_X7_add.at 8 rfl) ff_X7_32 sk_12 rfl rfl ?_
    refine Ev_iconst (dt_X7_add.at 9 rfl) ki_3 ?_
    refine Ev_imul (dt_X7_add.at 10 rfl) ?_
    refine Ev_iload_n 1 (dt_X7_add.at 11 rfl) rfl ?_
    obtain ⟨g2, h⟩ := oGuard h
    refine Ev_iastore 16 (dt_X7_add.at 12 rfl) sk_16 g2 ?_
    refine Ev_nmS (fun s3 es3 => ?_)
    replace h := oLt h es3
    refine Ev_aload_n 0 (dt_X7_add.at 13 rfl) rfl ?_
    refine Ev_get (i := 3) (v := .ref 16) (dt_X7_add.at 14 rfl) ff_X7_22 sk_12 rfl rfl ?_
    refine Ev_aload_n 0 (dt_X7_add.at 15 rfl) rfl ?_
    refine Ev_get (i := 5) (v := .int (gI s3 12 5)) (dt_X7_add.at 16 rfl) ff_X7_32 sk_12 rfl rfl ?_
    refine Ev_iconst (dt_X7_add.at 17 rfl) ki_3 ?_
    refine Ev_imul (dt_X7_add.at 18 rfl) ?_
    refine Ev_iconst (dt_X7_add.at 19 rfl) ki_1 ?_
    refine Ev_iadd (dt_X7_add.at 20 rfl) ?_
    refine Ev_iload_n 2 (dt_X7_add.at 21 rfl) rfl ?_
    obtain ⟨g4, h⟩ := oGuard h
    refine Ev_iastore 16 (dt_X7_add.at 22 rfl) sk_16 g4 ?_
    refine Ev_nmS (fun s5 es5 => ?_)
    replace h := oLt h es5
    refine Ev_aload_n 0 (dt_X7_add.at 23 rfl) rfl ?_
    refine Ev_get (i := 3) (v := .ref 16) (dt_X7_add.at 24 rfl) ff_X7_22 sk_12 rfl rfl ?_
    refine Ev_aload_n 0 (dt_X7_add.at 25 rfl) rfl ?_
    refine Ev_get (i := 5) (v := .int (gI s5 12 5)) (dt_X7_add.at 26 rfl) ff_X7_32 sk_12 rfl rfl ?_
    refine Ev_iconst (dt_X7_add.at 27 rfl) ki_3 ?_
    refine Ev_imul (dt_X7_add.at 28 rfl) ?_
    refine Ev_iconst (dt_X7_add.at 29 rfl) ki_2 ?_
    refine Ev_iadd (dt_X7_add.at 30 rfl) ?_
    refine Ev_iload_n 3 (dt_X7_add.at 31 rfl) rfl ?_
    obtain ⟨g6, h⟩ := oGuard h
    refine Ev_iastore 16 (dt_X7_add.at 32 rfl) sk_16 g6 ?_
    refine Ev_nmS (fun s7 es7 => ?_)
    replace h := oLt h es7
    refine Ev_aload_n 0 (dt_X7_add.at 33 rfl) rfl ?_
    refine Ev_get (i := 4) (v := .ref 17) (dt_X7_add.at 34 rfl) ff_X7_25 sk_12 rfl rfl ?_
    refine Ev_aload_n 0 (dt_X7_add.at 35 rfl) rfl ?_
    refine Ev_get (i := 5) (v := .int (gI s7 12 5)) (dt_X7_add.at 36 rfl) ff_X7_32 sk_12 rfl rfl ?_
    refine Ev_aload_n 0 (dt_X7_add.at 37 rfl) rfl ?_
    refine Ev_get (i := 1) (v := .ref 14) (dt_X7_add.at 38 rfl) ff_X7_15 sk_12 rfl rfl ?_
    refine Ev_iload_n 1 (dt_X7_add.at 39 rfl) rfl ?_
    obtain ⟨g8, h⟩ := oGuard h
    refine Ev_laload 14 (dt_X7_add.at 40 rfl) sk_14 g8 ?_
    refine Ev_aload_n 0 (dt_X7_add.at 41 rfl) rfl ?_
    refine Ev_get (i := 1) (v := .ref 14) (dt_X7_add.at 42 rfl) ff_X7_15 sk_12 rfl rfl ?_
    refine Ev_iload_n 2 (dt_X7_add.at 43 rfl) rfl ?_
    obtain ⟨g9, h⟩ := oGuard h
    refine Ev_laload 14 (dt_X7_add.at 44 rfl) sk_14 g9 ?_
    refine Ev_lor (dt_X7_add.at 45 rfl) ?_
    refine Ev_aload_n 0 (dt_X7_add.at 46 rfl) rfl ?_
    refine Ev_get (i := 1) (v := .ref 14) (dt_X7_add.at 47 rfl) ff_X7_15 sk_12 rfl rfl ?_
    refine Ev_iload_n 3 (dt_X7_add.at 48 rfl) rfl ?_
    obtain ⟨g10, h⟩ := oGuard h
    refine Ev_laload 14 (dt_X7_add.at 49 rfl) sk_14 g10 ?_
    refine Ev_lor (dt_X7_add.at 50 rfl) ?_
    obtain ⟨g11, h⟩ := oGuard h
    refine Ev_lastore 17 (dt_X7_add.at 51 rfl) sk_17 g11 ?_
    refine Ev_nmS (fun s12 es12 => ?_)
    replace h := oLt h es12
    refine Ev_aload_n 0 (dt_X7_add.at 52 rfl) rfl ?_
    refine Ev_dup (dt_X7_add.at 53 rfl) rfl ?_
    refine Ev_get (i := 5) (v := .int (gI s12 12 5)) (dt_X7_add.at 54 rfl) ff_X7_32 sk_12 rfl rfl ?_
    refine Ev_iconst (dt_X7_add.at 55 rfl) ki_1 ?_
    refine Ev_iadd (dt_X7_add.at 56 rfl) ?_
    refine Ev_putI (dt_X7_add.at 57 rfl) ff_X7_32 fw_7_5 sk_12 rfl ?_
    refine Ev_nmS (fun s13 es13 => ?_)
    replace h := oLt h es13
    exact Ev_vret (dt_X7_add.at 58 rfl) rfl h
  · replace h := oNeg h c1
    exact Ev_vret (dt_X7_add.at 4 rfl) rfl h
def b_Splits_listBehind_24 (v1 : Int32) (v2 : Int32) (v4 : Int32) (x : (Sg × Int32)) : Option ((Sg × Int32) ⊕ (Sg × Int32)) :=
  if v4 ≤ x.2 then
    some (.inr (x.1, x.2))
  else
    if inB x.2 84 = true then
      lt ((gI x.1 13 (Int32.toNatClampNeg x.2)) : Int32) fun x4 =>
      (s_Splits_tiesLeast x4 v2).bind fun q5 =>
      if q5 = 0 then
        lt (x.2 + 1 : Int32) fun x7 =>
        some (.inl (x.1, x7))
      else
        (s_Splits_add x.1 v1 x4 (v2 &&& (x4 ^^^ (-1)))).bind fun q8 =>
        lt (x.2 + 1 : Int32) fun x9 =>
        some (.inl (q8, x9))
    else none
def s_Splits_listBehind (σ : Sg) (a1 : Int32) (a2 : Int32) : Option Sg :=
  if a2 = 0 then
    (s_Splits_add σ a1 0 0).bind fun q11 =>
    some q11
  else
    (lp (b_Splits_listBehind_24 a1 a2 84) 100000 (σ, 0)).bind fun o10 =>
    some o10.1
set_option maxRecDepth 100000 in
set_option maxHeartbeats 4000000 in
theorem wb_Splits_listBehind_24 (v1 : Int32) (v2 : Int32) (v4 : Int32) (x : (Sg × Int32)) (r : Option Value) (τ : Sg) (o : ((Sg × Int32) ⊕ (Sg × Int32))) (h : (b_Splits_listBehind_24 v1 v2 v4 x) = some o) (hc : ∀ y : (Sg × Int32), o = .inl y → Ev M_X7_listBehind 1 r τ 24 [(0, .ref 12), (1, .int v1), (2, .int v2), (3, .ref 13), (4, .int v4), (5, .int y.2)] [] y.1) (he : ∀ y : (Sg × Int32), o = .inr y → Ev M_X7_listBehind 1 r τ 65 [] [] y.1) : Ev M_X7_listBehind 1 r τ 24 [(0, .ref 12), (1, .int v1), (2, .int v2), (3, .ref 13), (4, .int v4), (5, .int x.2)] [] x.1 := by
  unfold b_Splits_listBehind_24 at h
  refine Ev_iload 5 (dt_X7_listBehind.at 16 rfl) rfl ?_
  refine Ev_iload 4 (dt_X7_listBehind.at 17 rfl) rfl ?_
  refine Ev_icmp_ge (tgt := 65) (dt_X7_listBehind.at 18 rfl) (by decide) (fun c2 => ?_) (fun c2 => ?_)
  · replace h := oPos h c2
    refine Ev_sub [] (ls' := []) rfl ?_
    exact he (x.1, x.2) (Option.some.inj h).symm
  · replace h := oNeg h c2
    refine Ev_aload_n 3 (dt_X7_listBehind.at 19 rfl) rfl ?_
    refine Ev_iload 5 (dt_X7_listBehind.at 20 rfl) rfl ?_
    obtain ⟨g3, h⟩ := oGuard h
    refine Ev_iaload 13 (dt_X7_listBehind.at 21 rfl) sk_13 g3 ?_
    refine Ev_nmI (fun x4 ex4 => ?_)
    replace h := oLt h ex4
    refine Ev_istore (dt_X7_listBehind.at 22 rfl) (by decide) (ls' := [(6, .int x4), (0, .ref 12), (1, .int v1), (2, .int v2), (3, .ref 13), (4, .int v4), (5, .int x.2)]) rfl ?_
    refine Ev_iload 0 (dt_X7_listBehind.at 23 rfl) rfl ?_
    refine Ev_iload_n 3 (dt_X7_listBehind.at 24 rfl) rfl ?_
    obtain ⟨q5, hq5, h⟩ := oBind h
    refine Ev_callS (st := []) (st' := [.int q5]) [.int x4, .int v2] (dt_X7_listBehind.at 25 rfl) cf_X7_36 (w_Splits_tiesLeast x.1 x4 v2 q5 hq5) (by decide) rfl rfl (Nat.le_of_ble_eq_true rfl) rfl ?_
    refine Ev_if_eq (tgt := 59) (dt_X7_listBehind.at 26 rfl) (by decide) (fun c6 => ?_) (fun c6 => ?_)
    · replace h := oPos h c6
      obtain ⟨x7, ex7⟩ : ∃ z : Int32, z = x.2 + 1 := ⟨_, rfl⟩
      replace h := oLt h ex7
      refine Ev_iinc (v := x7) 6 (dt_X7_listBehind.at 36 rfl) rfl (ex7.trans (congrArg (fun z => x.2 + z) ki_1.symm)) (by decide) (ls' := [(5, .int x7), (6, .int x4), (0, .ref 12), (1, .int v1), (2, .int v2), (3, .ref 13), (4, .int v4)]) rfl ?_
      refine Ev_goto (tgt := 24) (dt_X7_listBehind.at 37 rfl) (by decide) ?_
      refine Ev_sub [2, 3, 4, 5, 6, 0] (ls' := [(0, .ref 12), (1, .int v1), (2, .int v2), (3, .ref 13), (4, .int v4), (5, .int x7)]) rfl ?_
      exact hc (x.1, x7) (Option.some.inj h).symm
    · replace h := oNeg h c6
      refine Ev_aload_n 1 (dt_X7_listBehind.at 27 rfl) rfl ?_
      refine Ev_iload_n 2 (dt_X7_listBehind.at 28 rfl) rfl ?_
      refine Ev_iload 0 (dt_X7_listBehind.at 29 rfl) rfl ?_
      refine Ev_iload_n 3 (dt_X7_listBehind.at 30 rfl) rfl ?_
      refine Ev_iload 0 (dt_X7_listBehind.at 31 rfl) rfl ?_
      refine Ev_iconst (dt_X7_listBehind.at 32 rfl) ki_m1 ?_
      refine Ev_ixor (dt_X7_listBehind.at 33 rfl) ?_
      refine Ev_iand (dt_X7_listBehind.at 34 rfl) ?_
      obtain ⟨q8, hq8, h⟩ := oBind h
      refine Ev_callV (st := []) (st' := []) [.int v1, .int x4, .int (v2 &&& (x4 ^^^ (-1)))] (dt_X7_listBehind.at 35 rfl) cf_X7_44 (w_Splits_add x.1 v1 x4 (v2 &&& (x4 ^^^ (-1))) q8 hq8) (by decide) sk_12 rfl rfl rfl (Nat.le_of_ble_eq_true rfl) rfl ?_
      obtain ⟨x9, ex9⟩ : ∃ z : Int32, z = x.2 + 1 := ⟨_, rfl⟩
      replace h := oLt h ex9
      refine Ev_iinc (v := x9) 6 (dt_X7_listBehind.at 36 rfl) rfl (ex9.trans (congrArg (fun z => x.2 + z) ki_1.symm)) (by decide) (ls' := [(5, .int x9), (6, .int x4), (0, .ref 12), (1, .int v1), (2, .int v2), (3, .ref 13), (4, .int v4)]) rfl ?_
      refine Ev_goto (tgt := 24) (dt_X7_listBehind.at 37 rfl) (by decide) ?_
      refine Ev_sub [2, 3, 4, 5, 6, 0] (ls' := [(0, .ref 12), (1, .int v1), (2, .int v2), (3, .ref 13), (4, .int v4), (5, .int x9)]) rfl ?_
      exact hc (q8, x9) (Option.some.inj h).symm
set_option maxRecDepth 100000 in
set_option maxHeartbeats 4000000 in
theorem wl_Splits_listBehind_24 (v1 : Int32) (v2 : Int32) (v4 : Int32) (r : Option Value) (τ : Sg) (n : Nat) (x : (Sg × Int32)) (z : (Sg × Int32)) (h : lp (b_Splits_listBehind_24 v1 v2 v4) n x = some z) (he : ∀ y : (Sg × Int32), z = y → Ev M_X7_listBehind 1 r τ 65 [] [] y.1) : Ev M_X7_listBehind 1 r τ 24 [(0, .ref 12), (1, .int v1), (2, .int v2), (3, .ref 13), (4, .int v4), (5, .int x.2)] [] x.1 := by
  refine lp_ind (E := fun x : (Sg × Int32) => Ev M_X7_listBehind 1 r τ 24 [(0, .ref 12), (1, .int v1), (2, .int v2), (3, .ref 13), (4, .int v4), (5, .int x.2)] [] x.1) (fun x => ⟨fun y hb hy => ?_, fun hb => ?_⟩) n x h
  · exact wb_Splits_listBehind_24 v1 v2 v4 x r τ _ hb (fun y' e => by cases e; exact hy) (fun y' e => by cases e)
  · exact wb_Splits_listBehind_24 v1 v2 v4 x r τ _ hb (fun y' e => by cases e) (fun y' e => he y' (Sum.inr.inj e))
set_option maxRecDepth 100000 in
set_option maxHeartbeats 4000000 in
theorem w_Splits_listBehind (σ : Sg) (a1 : Int32) (a2 : Int32) (q : Sg) (h : s_Splits_listBehind σ a1 a2 = some q) : Cal M_X7_listBehind 1 [.ref 12, .int a1, .int a2] σ none q := by
  refine Cal.of (M := M_X7_listBehind) (by decide +kernel) (Nat.le_of_ble_eq_true rfl) ?_
  show Ev _ _ _ _ 0 [(0, .ref 12), (1, .int a1), (2, .int a2)] [] σ
  unfold s_Splits_listBehind at h
  refine Ev_iload_n 2 (dt_X7_listBehind.at 0 rfl) rfl ?_
  refine Ev_if_ne (tgt := 12) (dt_X7_listBehind.at 1 rfl) (by decide) (fun c1 => ?_) (fun c1 => ?_)
  · replace h := oNeg h c1
    refine Ev_aload_n 0 (dt_X7_listBehind.at 8 rfl) rfl ?_
    refine Ev_get (i := 0) (v := .ref 13) (dt_X7_listBehind.at 9 rfl) ff_X7_11 sk_12 rfl rfl ?_
    refine Ev_astore_n (dt_X7_listBehind.at 10 rfl) (by decide) (ls' := [(3, .ref 13), (0, .ref 12), (1, .int a1), (2, .int a2)]) rfl ?_
    refine Ev_aload_n 0 (dt_X7_listBehind.at 11 rfl) rfl ?_
    refine Ev_alen 13 (dt_X7_listBehind.at 12 rfl) sk_13 (Or.inl rfl) kn_84 ?_
    refine Ev_istore (dt_X7_listBehind.at 13 rfl) (by decide) (ls' := [(4, .int 84), (3, .ref 13), (0, .ref 12), (1, .int a1), (2, .int a2)]) rfl ?_
    refine Ev_iconst (dt_X7_listBehind.at 14 rfl) ki_0 ?_
    refine Ev_istore (dt_X7_listBehind.at 15 rfl) (by decide) (ls' := [(5, .int 0), (4, .int 84), (3, .ref 13), (0, .ref 12), (1, .int a1), (2, .int a2)]) rfl ?_
    refine Ev_sub [3, 4, 5, 2, 1, 0] (ls' := [(0, .ref 12), (1, .int a1), (2, .int a2), (3, .ref 13), (4, .int 84), (5, .int 0)]) rfl ?_
    obtain ⟨o10, ho10, h⟩ := oBind h
    refine wl_Splits_listBehind_24 a1 a2 84 _ _ 100000 (σ, 0) o10 ho10 (fun y ey => ?_)
    subst ey
    exact Ev_vret (dt_X7_listBehind.at 38 rfl) rfl h
  · replace h := oPos h c1
    refine Ev_aload_n 0 (dt_X7_listBehind.at 2 rfl) rfl ?_
    refine Ev_iload_n 1 (dt_X7_listBehind.at 3 rfl) rfl ?_
    refine Ev_iconst (dt_X7_listBehind.at 4 rfl) ki_0 ?_
    refine Ev_iconst (dt_X7_listBehind.at 5 rfl) ki_0 ?_
    obtain ⟨q11, hq11, h⟩ := oBind h
    refine Ev_callV (st := []) (st' := []) [.int a1, .int 0, .int 0] (dt_X7_listBehind.at 6 rfl) cf_X7_44 (w_Splits_add σ a1 0 0 q11 hq11) (by decide) sk_12 rfl rfl rfl (Nat.le_of_ble_eq_true rfl) rfl ?_
    exact Ev_vret (dt_X7_listBehind.at 7 rfl) rfl h
def b_Splits_list_23 (v2 : Int32) (v4 : Int32) (x : (Sg × Int32)) : Option ((Sg × Int32) ⊕ (Sg × Int32)) :=
  if v4 ≤ x.2 then
    some (.inr (x.1, x.2))
  else
    if inB x.2 84 = true then
      lt ((gI x.1 13 (Int32.toNatClampNeg x.2)) : Int32) fun x5 =>
      (s_Splits_tiesLeast x5 v2).bind fun q6 =>
      if q6 = 0 then
        lt (x.2 + 1 : Int32) fun x8 =>
        some (.inl (x.1, x8))
      else
        (s_Splits_listBehind x.1 x5 (v2 &&& (x5 ^^^ (-1)))).bind fun q9 =>
        lt (x.2 + 1 : Int32) fun x10 =>
        some (.inl (q9, x10))
    else none
def s_Splits_list (σ : Sg) (a1 : Int32) : Option Sg :=
  lt (pI σ 12 5 0 : Sg) fun s1 =>
  lt ((((1 : Int32) <<< (a1 &&& 31)) - 1) : Int32) fun x2 =>
  (lp (b_Splits_list_23 x2 84) 100000 (s1, 0)).bind fun o11 =>
  some o11.1
set_option maxRecDepth 100000 in
set_option maxHeartbeats 4000000 in
theorem wb_Splits_list_23 (v2 : Int32) (v4 : Int32) (x : (Sg × Int32)) (r : Option Value) (τ : Sg) (o : ((Sg × Int32) ⊕ (Sg × Int32))) (h : (b_Splits_list_23 v2 v4 x) = some o) (hc : ∀ y : (Sg × Int32), o = .inl y → Ev M_X7_list 2 r τ 23 [(0, .ref 12), (2, .int v2), (3, .ref 13), (4, .int v4), (5, .int y.2)] [] y.1) (he : ∀ y : (Sg × Int32), o = .inr y → Ev M_X7_list 2 r τ 63 [] [] y.1) : Ev M_X7_list 2 r τ 23 [(0, .ref 12), (2, .int v2), (3, .ref 13), (4, .int v4), (5, .int x.2)] [] x.1 := by
  unfold b_Splits_list_23 at h
  refine Ev_iload 4 (dt_X7_list.at 17 rfl) rfl ?_
  refine Ev_iload 3 (dt_X7_list.at 18 rfl) rfl ?_
  refine Ev_icmp_ge (tgt := 63) (dt_X7_list.at 19 rfl) (by decide) (fun c3 => ?_) (fun c3 => ?_)
  · replace h := oPos h c3
    refine Ev_sub [] (ls' := []) rfl ?_
    exact he (x.1, x.2) (Option.some.inj h).symm
  · replace h := oNeg h c3
    refine Ev_aload_n 2 (dt_X7_list.at 20 rfl) rfl ?_
    refine Ev_iload 4 (dt_X7_list.at 21 rfl) rfl ?_
    obtain ⟨g4, h⟩ := oGuard h
    refine Ev_iaload 13 (dt_X7_list.at 22 rfl) sk_13 g4 ?_
    refine Ev_nmI (fun x5 ex5 => ?_)
    replace h := oLt h ex5
    refine Ev_istore (dt_X7_list.at 23 rfl) (by decide) (ls' := [(6, .int x5), (0, .ref 12), (2, .int v2), (3, .ref 13), (4, .int v4), (5, .int x.2)]) rfl ?_
    refine Ev_iload 0 (dt_X7_list.at 24 rfl) rfl ?_
    refine Ev_iload_n 2 (dt_X7_list.at 25 rfl) rfl ?_
    obtain ⟨q6, hq6, h⟩ := oBind h
    refine Ev_callS (st := []) (st' := [.int q6]) [.int x5, .int v2] (dt_X7_list.at 26 rfl) cf_X7_36 (w_Splits_tiesLeast x.1 x5 v2 q6 hq6) (by decide) rfl rfl (Nat.le_of_ble_eq_true rfl) rfl ?_
    refine Ev_if_eq (tgt := 57) (dt_X7_list.at 27 rfl) (by decide) (fun c7 => ?_) (fun c7 => ?_)
    · replace h := oPos h c7
      obtain ⟨x8, ex8⟩ : ∃ z : Int32, z = x.2 + 1 := ⟨_, rfl⟩
      replace h := oLt h ex8
      refine Ev_iinc (v := x8) 5 (dt_X7_list.at 36 rfl) rfl (ex8.trans (congrArg (fun z => x.2 + z) ki_1.symm)) (by decide) (ls' := [(5, .int x8), (6, .int x5), (0, .ref 12), (2, .int v2), (3, .ref 13), (4, .int v4)]) rfl ?_
      refine Ev_goto (tgt := 23) (dt_X7_list.at 37 rfl) (by decide) ?_
      refine Ev_sub [2, 3, 4, 5, 0] (ls' := [(0, .ref 12), (2, .int v2), (3, .ref 13), (4, .int v4), (5, .int x8)]) rfl ?_
      exact hc (x.1, x8) (Option.some.inj h).symm
    · replace h := oNeg h c7
      refine Ev_aload_n 1 (dt_X7_list.at 28 rfl) rfl ?_
      refine Ev_iload 0 (dt_X7_list.at 29 rfl) rfl ?_
      refine Ev_iload_n 2 (dt_X7_list.at 30 rfl) rfl ?_
      refine Ev_iload 0 (dt_X7_list.at 31 rfl) rfl ?_
      refine Ev_iconst (dt_X7_list.at 32 rfl) ki_m1 ?_
      refine Ev_ixor (dt_X7_list.at 33 rfl) ?_
      refine Ev_iand (dt_X7_list.at 34 rfl) ?_
      obtain ⟨q9, hq9, h⟩ := oBind h
      refine Ev_callV (st := []) (st' := []) [.int x5, .int (v2 &&& (x5 ^^^ (-1)))] (dt_X7_list.at 35 rfl) cf_X7_40 (w_Splits_listBehind x.1 x5 (v2 &&& (x5 ^^^ (-1))) q9 hq9) (by decide) sk_12 rfl rfl rfl (Nat.le_of_ble_eq_true rfl) rfl ?_
      obtain ⟨x10, ex10⟩ : ∃ z : Int32, z = x.2 + 1 := ⟨_, rfl⟩
      replace h := oLt h ex10
      refine Ev_iinc (v := x10) 5 (dt_X7_list.at 36 rfl) rfl (ex10.trans (congrArg (fun z => x.2 + z) ki_1.symm)) (by decide) (ls' := [(5, .int x10), (6, .int x5), (0, .ref 12), (2, .int v2), (3, .ref 13), (4, .int v4)]) rfl ?_
      refine Ev_goto (tgt := 23) (dt_X7_list.at 37 rfl) (by decide) ?_
      refine Ev_sub [2, 3, 4, 5, 0] (ls' := [(0, .ref 12), (2, .int v2), (3, .ref 13), (4, .int v4), (5, .int x10)]) rfl ?_
      exact hc (q9, x10) (Option.some.inj h).symm
set_option maxRecDepth 100000 in
set_option maxHeartbeats 4000000 in
theorem wl_Splits_list_23 (v2 : Int32) (v4 : Int32) (r : Option Value) (τ : Sg) (n : Nat) (x : (Sg × Int32)) (z : (Sg × Int32)) (h : lp (b_Splits_list_23 v2 v4) n x = some z) (he : ∀ y : (Sg × Int32), z = y → Ev M_X7_list 2 r τ 63 [] [] y.1) : Ev M_X7_list 2 r τ 23 [(0, .ref 12), (2, .int v2), (3, .ref 13), (4, .int v4), (5, .int x.2)] [] x.1 := by
  refine lp_ind (E := fun x : (Sg × Int32) => Ev M_X7_list 2 r τ 23 [(0, .ref 12), (2, .int v2), (3, .ref 13), (4, .int v4), (5, .int x.2)] [] x.1) (fun x => ⟨fun y hb hy => ?_, fun hb => ?_⟩) n x h
  · exact wb_Splits_list_23 v2 v4 x r τ _ hb (fun y' e => by cases e; exact hy) (fun y' e => by cases e)
  · exact wb_Splits_list_23 v2 v4 x r τ _ hb (fun y' e => by cases e) (fun y' e => he y' (Sum.inr.inj e))
set_option maxRecDepth 100000 in
set_option maxHeartbeats 4000000 in
theorem w_Splits_list (σ : Sg) (a1 : Int32) (q : Sg) (h : s_Splits_list σ a1 = some q) : Cal M_X7_list 2 [.ref 12, .int a1] σ none q := by
  refine Cal.of (M := M_X7_list) (by decide +kernel) (Nat.le_of_ble_eq_true rfl) ?_
  show Ev _ _ _ _ 0 [(0, .ref 12), (1, .int a1)] [] σ
  unfold s_Splits_list at h
  refine Ev_aload_n 0 (dt_X7_list.at 0 rfl) rfl ?_
  refine Ev_iconst (dt_X7_list.at 1 rfl) ki_0 ?_
  refine Ev_putI (dt_X7_list.at 2 rfl) ff_X7_32 fw_7_5 sk_12 rfl ?_
  refine Ev_nmS (fun s1 es1 => ?_)
  replace h := oLt h es1
  refine Ev_iconst (dt_X7_list.at 3 rfl) ki_1 ?_
  refine Ev_iload_n 1 (dt_X7_list.at 4 rfl) rfl ?_
  refine Ev_ishl (dt_X7_list.at 5 rfl) ?_
  refine Ev_iconst (dt_X7_list.at 6 rfl) ki_1 ?_
  refine Ev_isub (dt_X7_list.at 7 rfl) ?_
  refine Ev_nmI (fun x2 ex2 => ?_)
  replace h := oLt h ex2
  refine Ev_istore_n (dt_X7_list.at 8 rfl) (by decide) (ls' := [(2, .int x2), (0, .ref 12), (1, .int a1)]) rfl ?_
  refine Ev_aload_n 1 (dt_X7_list.at 9 rfl) rfl ?_
  refine Ev_get (i := 0) (v := .ref 13) (dt_X7_list.at 10 rfl) ff_X7_11 sk_12 rfl rfl ?_
  refine Ev_astore_n (dt_X7_list.at 11 rfl) (by decide) (ls' := [(3, .ref 13), (2, .int x2), (0, .ref 12), (1, .int a1)]) rfl ?_
  refine Ev_aload_n 0 (dt_X7_list.at 12 rfl) rfl ?_
  refine Ev_alen 13 (dt_X7_list.at 13 rfl) sk_13 (Or.inl rfl) kn_84 ?_
  refine Ev_istore (dt_X7_list.at 14 rfl) (by decide) (ls' := [(4, .int 84), (3, .ref 13), (2, .int x2), (0, .ref 12), (1, .int a1)]) rfl ?_
  refine Ev_iconst (dt_X7_list.at 15 rfl) ki_0 ?_
  refine Ev_istore (dt_X7_list.at 16 rfl) (by decide) (ls' := [(5, .int 0), (4, .int 84), (3, .ref 13), (2, .int x2), (0, .ref 12), (1, .int a1)]) rfl ?_
  refine Ev_sub [4, 3, 2, 1, 0] (ls' := [(0, .ref 12), (2, .int x2), (3, .ref 13), (4, .int 84), (5, .int 0)]) rfl ?_
  obtain ⟨o11, ho11, h⟩ := oBind h
  refine wl_Splits_list_23 x2 84 _ _ 100000 (s1, 0) o11 ho11 (fun y ey => ?_)
  subst ey
  exact Ev_vret (dt_X7_list.at 38 rfl) rfl h
def b_x_walkAllThrees_13 (v2 : Int32) (x : (Sg × Int32)) : Option ((Sg × Int32) ⊕ (Sg × Int32)) :=
  if v2 ≤ x.2 then
    some (.inr (x.1, x.2))
  else
    if inB x.2 84 = true then
      lt ((gI x.1 13 (Int32.toNatClampNeg x.2)) : Int32) fun x3 =>
      (s_Town_isThree x.1 x3).bind fun q4 =>
      if q4 = 0 then
        lt (x.2 + 1 : Int32) fun x6 =>
        some (.inl (x.1, x6))
      else
        (s_Day_pass x.1 x3).bind fun q7 =>
        if inB x3 512 = true then
          lt (pI q7 15 (Int32.toNatClampNeg x3) (gI q7 31 9) : Sg) fun s9 =>
          lt (x.2 + 1 : Int32) fun x10 =>
          some (.inl (s9, x10))
        else none
    else none
def s_x_walkAllThrees (σ : Sg)  : Option Sg :=
  (lp (b_x_walkAllThrees_13 84) 100000 (σ, 0)).bind fun o11 =>
  some o11.1
set_option maxRecDepth 100000 in
set_option maxHeartbeats 4000000 in
theorem wb_x_walkAllThrees_13 (v2 : Int32) (x : (Sg × Int32)) (r : Option Value) (τ : Sg) (o : ((Sg × Int32) ⊕ (Sg × Int32))) (h : (b_x_walkAllThrees_13 v2 x) = some o) (hc : ∀ y : (Sg × Int32), o = .inl y → Ev M_X11_walkAllThrees 5 r τ 13 [(0, .ref 0), (1, .ref 13), (2, .int v2), (3, .int y.2)] [] y.1) (he : ∀ y : (Sg × Int32), o = .inr y → Ev M_X11_walkAllThrees 5 r τ 70 [] [] y.1) : Ev M_X11_walkAllThrees 5 r τ 13 [(0, .ref 0), (1, .ref 13), (2, .int v2), (3, .int x.2)] [] x.1 := by
  unfold b_x_walkAllThrees_13 at h
  refine Ev_iload_n 3 (dt_X11_walkAllThrees.at 9 rfl) rfl ?_
  refine Ev_iload_n 2 (dt_X11_walkAllThrees.at 10 rfl) rfl ?_
  refine Ev_icmp_ge (tgt := 70) (dt_X11_walkAllThrees.at 11 rfl) (by decide) (fun c1 => ?_) (fun c1 => ?_)
  · replace h := oPos h c1
    refine Ev_sub [] (ls' := []) rfl ?_
    exact he (x.1, x.2) (Option.some.inj h).symm
  · replace h := oNeg h c1
    refine Ev_aload_n 1 (dt_X11_walkAllThrees.at 12 rfl) rfl ?_
    refine Ev_iload_n 3 (dt_X11_walkAllThrees.at 13 rfl) rfl ?_
    obtain ⟨g2, h⟩ := oGuard h
    refine Ev_iaload 13 (dt_X11_walkAllThrees.at 14 rfl) sk_13 g2 ?_
    refine Ev_nmI (fun x3 ex3 => ?_)
    replace h := oLt h ex3
    refine Ev_istore (dt_X11_walkAllThrees.at 15 rfl) (by decide) (ls' := [(4, .int x3), (0, .ref 0), (1, .ref 13), (2, .int v2), (3, .int x.2)]) rfl ?_
    refine Ev_aload_n 1 (dt_X11_walkAllThrees.at 16 rfl) rfl ?_
    refine Ev_get (i := 0) (v := .ref 25) (dt_X11_walkAllThrees.at 17 rfl) ff_X11_50 sk_0 rfl rfl ?_
    refine Ev_get (i := 0) (v := .ref 19) (dt_X11_walkAllThrees.at 18 rfl) ff_X11_72 sk_25 rfl rfl ?_
    refine Ev_iload 0 (dt_X11_walkAllThrees.at 19 rfl) rfl ?_
    obtain ⟨q4, hq4, h⟩ := oBind h
    refine Ev_callV (st := []) (st' := [.int q4]) [.int x3] (dt_X11_walkAllThrees.at 20 rfl) cf_X11_132 (w_Town_isThree x.1 x3 q4 hq4) (by decide) sk_19 rfl rfl rfl (Nat.le_of_ble_eq_true rfl) rfl ?_
    refine Ev_if_eq (tgt := 64) (dt_X11_walkAllThrees.at 21 rfl) (by decide) (fun c5 => ?_) (fun c5 => ?_)
    · replace h := oPos h c5
      obtain ⟨x6, ex6⟩ : ∃ z : Int32, z = x.2 + 1 := ⟨_, rfl⟩
      replace h := oLt h ex6
      refine Ev_iinc (v := x6) 4 (dt_X11_walkAllThrees.at 34 rfl) rfl (ex6.trans (congrArg (fun z => x.2 + z) ki_1.symm)) (by decide) (ls' := [(3, .int x6), (4, .int x3), (0, .ref 0), (1, .ref 13), (2, .int v2)]) rfl ?_
      refine Ev_goto (tgt := 13) (dt_X11_walkAllThrees.at 35 rfl) (by decide) ?_
      refine Ev_sub [2, 3, 4, 0] (ls' := [(0, .ref 0), (1, .ref 13), (2, .int v2), (3, .int x6)]) rfl ?_
      exact hc (x.1, x6) (Option.some.inj h).symm
    · replace h := oNeg h c5
      refine Ev_aload_n 1 (dt_X11_walkAllThrees.at 22 rfl) rfl ?_
      refine Ev_get (i := 5) (v := .ref 31) (dt_X11_walkAllThrees.at 23 rfl) ff_X11_57 sk_0 rfl rfl ?_
      refine Ev_iload 0 (dt_X11_walkAllThrees.at 24 rfl) rfl ?_
      obtain ⟨q7, hq7, h⟩ := oBind h
      refine Ev_callV (st := []) (st' := []) [.int x3] (dt_X11_walkAllThrees.at 25 rfl) cf_X11_135 (w_Day_pass x.1 x3 q7 hq7) (by decide) sk_31 rfl rfl rfl (Nat.le_of_ble_eq_true rfl) rfl ?_
      refine Ev_aload_n 1 (dt_X11_walkAllThrees.at 26 rfl) rfl ?_
      refine Ev_get (i := 7) (v := .ref 12) (dt_X11_walkAllThrees.at 27 rfl) ff_X11_33 sk_0 rfl rfl ?_
      refine Ev_get (i := 2) (v := .ref 15) (dt_X11_walkAllThrees.at 28 rfl) ff_X11_252 sk_12 rfl rfl ?_
      refine Ev_iload 0 (dt_X11_walkAllThrees.at 29 rfl) rfl ?_
      refine Ev_aload_n 1 (dt_X11_walkAllThrees.at 30 rfl) rfl ?_
      refine Ev_get (i := 5) (v := .ref 31) (dt_X11_walkAllThrees.at 31 rfl) ff_X11_57 sk_0 rfl rfl ?_
      refine Ev_get (i := 9) (v := .int (gI q7 31 9)) (dt_X11_walkAllThrees.at 32 rfl) ff_X11_138 sk_31 rfl rfl ?_
      obtain ⟨g8, h⟩ := oGuard h
      refine Ev_iastore 15 (dt_X11_walkAllThrees.at 33 rfl) sk_15 g8 ?_
      refine Ev_nmS (fun s9 es9 => ?_)
      replace h := oLt h es9
      obtain ⟨x10, ex10⟩ : ∃ z : Int32, z = x.2 + 1 := ⟨_, rfl⟩
      replace h := oLt h ex10
      refine Ev_iinc (v := x10) 4 (dt_X11_walkAllThrees.at 34 rfl) rfl (ex10.trans (congrArg (fun z => x.2 + z) ki_1.symm)) (by decide) (ls' := [(3, .int x10), (4, .int x3), (0, .ref 0), (1, .ref 13), (2, .int v2)]) rfl ?_
      refine Ev_goto (tgt := 13) (dt_X11_walkAllThrees.at 35 rfl) (by decide) ?_
      refine Ev_sub [2, 3, 4, 0] (ls' := [(0, .ref 0), (1, .ref 13), (2, .int v2), (3, .int x10)]) rfl ?_
      exact hc (s9, x10) (Option.some.inj h).symm
set_option maxRecDepth 100000 in
set_option maxHeartbeats 4000000 in
theorem wl_x_walkAllThrees_13 (v2 : Int32) (r : Option Value) (τ : Sg) (n : Nat) (x : (Sg × Int32)) (z : (Sg × Int32)) (h : lp (b_x_walkAllThrees_13 v2) n x = some z) (he : ∀ y : (Sg × Int32), z = y → Ev M_X11_walkAllThrees 5 r τ 70 [] [] y.1) : Ev M_X11_walkAllThrees 5 r τ 13 [(0, .ref 0), (1, .ref 13), (2, .int v2), (3, .int x.2)] [] x.1 := by
  refine lp_ind (E := fun x : (Sg × Int32) => Ev M_X11_walkAllThrees 5 r τ 13 [(0, .ref 0), (1, .ref 13), (2, .int v2), (3, .int x.2)] [] x.1) (fun x => ⟨fun y hb hy => ?_, fun hb => ?_⟩) n x h
  · exact wb_x_walkAllThrees_13 v2 x r τ _ hb (fun y' e => by cases e; exact hy) (fun y' e => by cases e)
  · exact wb_x_walkAllThrees_13 v2 x r τ _ hb (fun y' e => by cases e) (fun y' e => he y' (Sum.inr.inj e))
set_option maxRecDepth 100000 in
set_option maxHeartbeats 4000000 in
theorem w_x_walkAllThrees (σ : Sg)  (q : Sg) (h : s_x_walkAllThrees σ  = some q) : Cal M_X11_walkAllThrees 5 [.ref 0] σ none q := by
  refine Cal.of (M := M_X11_walkAllThrees) (by decide +kernel) (Nat.le_of_ble_eq_true rfl) ?_
  show Ev _ _ _ _ 0 [(0, .ref 0)] [] σ
  unfold s_x_walkAllThrees at h
  refine Ev_aload_n 0 (dt_X11_walkAllThrees.at 0 rfl) rfl ?_
  refine Ev_get (i := 7) (v := .ref 12) (dt_X11_walkAllThrees.at 1 rfl) ff_X11_33 sk_0 rfl rfl ?_
  refine Ev_get (i := 0) (v := .ref 13) (dt_X11_walkAllThrees.at 2 rfl) ff_X11_217 sk_12 rfl rfl ?_
  refine Ev_astore_n (dt_X11_walkAllThrees.at 3 rfl) (by decide) (ls' := [(1, .ref 13), (0, .ref 0)]) rfl ?_
  refine Ev_aload_n 0 (dt_X11_walkAllThrees.at 4 rfl) rfl ?_
  refine Ev_alen 13 (dt_X11_walkAllThrees.at 5 rfl) sk_13 (Or.inl rfl) kn_84 ?_
  refine Ev_istore_n (dt_X11_walkAllThrees.at 6 rfl) (by decide) (ls' := [(2, .int 84), (1, .ref 13), (0, .ref 0)]) rfl ?_
  refine Ev_iconst (dt_X11_walkAllThrees.at 7 rfl) ki_0 ?_
  refine Ev_istore_n (dt_X11_walkAllThrees.at 8 rfl) (by decide) (ls' := [(3, .int 0), (2, .int 84), (1, .ref 13), (0, .ref 0)]) rfl ?_
  refine Ev_sub [3, 2, 1, 0] (ls' := [(0, .ref 0), (1, .ref 13), (2, .int 84), (3, .int 0)]) rfl ?_
  obtain ⟨o11, ho11, h⟩ := oBind h
  refine wl_x_walkAllThrees_13 84 _ _ 100000 (σ, 0) o11 ho11 (fun y ey => ?_)
  subst ey
  exact Ev_vret (dt_X11_walkAllThrees.at 36 rfl) rfl h
