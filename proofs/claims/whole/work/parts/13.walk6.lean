def b_Arrays_fill_46_5 (v1 : Int32) (v3 : Int32) (x : (Sg × Int32)) : Option ((Sg × Int32) ⊕ (Sg × Int32)) :=
  if v3 ≤ x.2 then
    some (.inr (x.1, x.2))
  else
    if inB x.2 384 = true then
      lt (pI x.1 46 (Int32.toNatClampNeg x.2) v1 : Sg) fun s3 =>
      lt (x.2 + 1 : Int32) fun x4 =>
      some (.inl (s3, x4))
    else none
def s_Arrays_fill_46 (σ : Sg) (a1 : Int32) : Option Sg :=
  (lp (b_Arrays_fill_46_5 a1 384) 100000 (σ, 0)).bind fun o5 =>
  some o5.1
set_option maxRecDepth 100000 in
set_option maxHeartbeats 4000000 in
theorem wb_Arrays_fill_46_5 (v1 : Int32) (v3 : Int32) (x : (Sg × Int32)) (r : Option Value) (τ : Sg) (o : ((Sg × Int32) ⊕ (Sg × Int32))) (h : (b_Arrays_fill_46_5 v1 v3 x) = some o) (hc : ∀ y : (Sg × Int32), o = .inl y → Ev M_J7_fill 0 r τ 5 [(0, .ref 46), (1, .int v1), (2, .int y.2), (3, .int v3)] [] y.1) (he : ∀ y : (Sg × Int32), o = .inr y → Ev M_J7_fill 0 r τ 20 [] [] y.1) : Ev M_J7_fill 0 r τ 5 [(0, .ref 46), (1, .int v1), (2, .int x.2), (3, .int v3)] [] x.1 := by
  unfold b_Arrays_fill_46_5 at h
  refine Ev_iload_n 2 (dt_J7_fill.at 5 rfl) rfl ?_
  refine Ev_iload_n 3 (dt_J7_fill.at 6 rfl) rfl ?_
  refine Ev_icmp_ge (tgt := 20) (dt_J7_fill.at 7 rfl) (by decide) (fun c1 => ?_) (fun c1 => ?_)
  · replace h := oPos h c1
    refine Ev_sub [] (ls' := []) rfl ?_
    exact he (x.1, x.2) (Option.some.inj h).symm
  · replace h := oNeg h c1
    refine Ev_aload_n 0 (dt_J7_fill.at 8 rfl) rfl ?_
    refine Ev_iload_n 2 (dt_J7_fill.at 9 rfl) rfl ?_
    refine Ev_iload_n 1 (dt_J7_fill.at 10 rfl) rfl ?_
    obtain ⟨g2, h⟩ := oGuard h
    refine Ev_iastore 46 (dt_J7_fill.at 11 rfl) sk_46 g2 ?_
    refine Ev_nmS (fun s3 es3 => ?_)
    replace h := oLt h es3
    obtain ⟨x4, ex4⟩ : ∃ z : Int32, z = x.2 + 1 := ⟨_, rfl⟩
    replace h := oLt h ex4
    refine Ev_iinc (v := x4) 2 (dt_J7_fill.at 12 rfl) rfl (ex4.trans (congrArg (fun z => x.2 + z) ki_1.symm)) (by decide) (ls' := [(2, .int x4), (0, .ref 46), (1, .int v1), (3, .int v3)]) rfl ?_
    refine Ev_goto (tgt := 5) (dt_J7_fill.at 13 rfl) (by decide) ?_
    refine Ev_sub [1, 2, 0, 3] (ls' := [(0, .ref 46), (1, .int v1), (2, .int x4), (3, .int v3)]) rfl ?_
    exact hc (s3, x4) (Option.some.inj h).symm
set_option maxRecDepth 100000 in
set_option maxHeartbeats 4000000 in
theorem wl_Arrays_fill_46_5 (v1 : Int32) (v3 : Int32) (r : Option Value) (τ : Sg) (n : Nat) (x : (Sg × Int32)) (z : (Sg × Int32)) (h : lp (b_Arrays_fill_46_5 v1 v3) n x = some z) (he : ∀ y : (Sg × Int32), z = y → Ev M_J7_fill 0 r τ 20 [] [] y.1) : Ev M_J7_fill 0 r τ 5 [(0, .ref 46), (1, .int v1), (2, .int x.2), (3, .int v3)] [] x.1 := by
  refine lp_ind (E := fun x : (Sg × Int32) => Ev M_J7_fill 0 r τ 5 [(0, .ref 46), (1, .int v1), (2, .int x.2), (3, .int v3)] [] x.1) (fun x => ⟨fun y hb hy => ?_, fun hb => ?_⟩) n x h
  · exact wb_Arrays_fill_46_5 v1 v3 x r τ _ hb (fun y' e => by cases e; exact hy) (fun y' e => by cases e)
  · exact wb_Arrays_fill_46_5 v1 v3 x r τ _ hb (fun y' e => by cases e) (fun y' e => he y' (Sum.inr.inj e))
set_option maxRecDepth 100000 in
set_option maxHeartbeats 4000000 in
theorem w_Arrays_fill_46 (σ : Sg) (a1 : Int32) (q : Sg) (h : s_Arrays_fill_46 σ a1 = some q) : Cal M_J7_fill 0 [.ref 46, .int a1] σ none q := by
  refine Cal.of (M := M_J7_fill) (by decide +kernel) (Nat.le_of_ble_eq_true rfl) ?_
  show Ev _ _ _ _ 0 [(0, .ref 46), (1, .int a1)] [] σ
  unfold s_Arrays_fill_46 at h
  refine Ev_iconst (dt_J7_fill.at 0 rfl) ki_0 ?_
  refine Ev_istore_n (dt_J7_fill.at 1 rfl) (by decide) (ls' := [(2, .int 0), (0, .ref 46), (1, .int a1)]) rfl ?_
  refine Ev_aload_n 1 (dt_J7_fill.at 2 rfl) rfl ?_
  refine Ev_alen 46 (dt_J7_fill.at 3 rfl) sk_46 (Or.inl rfl) kn_384 ?_
  refine Ev_istore_n (dt_J7_fill.at 4 rfl) (by decide) (ls' := [(3, .int 384), (2, .int 0), (0, .ref 46), (1, .int a1)]) rfl ?_
  refine Ev_sub [2, 3, 1, 0] (ls' := [(0, .ref 46), (1, .int a1), (2, .int 0), (3, .int 384)]) rfl ?_
  obtain ⟨o5, ho5, h⟩ := oBind h
  refine wl_Arrays_fill_46_5 a1 384 _ _ 100000 (σ, 0) o5 ho5 (fun y ey => ?_)
  subst ey
  exact Ev_vret (dt_J7_fill.at 14 rfl) rfl h
def b_FreeDay_passHour_10 (v1 : Int32) (v2 : Int32) (x : (Sg × Int32)) : Option ((Sg × Int32) ⊕ (Sg × Int32)) :=
  if 384 ≤ x.2 then
    some (.inr (x.1, x.2))
  else
    if gR x.1 43 2 = 45 then
      if inB x.2 384 = true then
        if (gI x.1 45 (Int32.toNatClampNeg x.2)) = (-1) then
          lt (x.2 + 1 : Int32) fun x7 =>
          some (.inl (x.1, x7))
        else
          (s_FreeDay_goOn x.1 x.2 v1 v2).bind fun q8 =>
          lt (x.2 + 1 : Int32) fun x9 =>
          some (.inl (q8, x9))
      else none
    else
      if gR x.1 43 2 = 46 then
        if inB x.2 384 = true then
          if (gI x.1 46 (Int32.toNatClampNeg x.2)) = (-1) then
            lt (x.2 + 1 : Int32) fun x13 =>
            some (.inl (x.1, x13))
          else
            (s_FreeDay_goOn x.1 x.2 v1 v2).bind fun q14 =>
            lt (x.2 + 1 : Int32) fun x15 =>
            some (.inl (q14, x15))
        else none
      else
        none
def s_FreeDay_passHour (σ : Sg) (a1 : Int32) (a2 : Int32) : Option Sg :=
  if gR σ 43 3 = 45 then
    (s_Arrays_fill_45 σ (-1)).bind fun q2 =>
    (lp (b_FreeDay_passHour_10 a1 a2) 100000 (q2, 0)).bind fun o16 =>
    if gR o16.1 43 2 = 45 then
      if gR o16.1 43 3 = 45 then
        lt (pR o16.1 43 2 45 : Sg) fun s19 =>
        lt (pR s19 43 3 45 : Sg) fun s20 =>
        some s20
      else
        if gR o16.1 43 3 = 46 then
          lt (pR o16.1 43 2 46 : Sg) fun s22 =>
          lt (pR s22 43 3 45 : Sg) fun s23 =>
          some s23
        else
          none
    else
      if gR o16.1 43 2 = 46 then
        if gR o16.1 43 3 = 45 then
          lt (pR o16.1 43 2 45 : Sg) fun s26 =>
          lt (pR s26 43 3 46 : Sg) fun s27 =>
          some s27
        else
          if gR o16.1 43 3 = 46 then
            lt (pR o16.1 43 2 46 : Sg) fun s29 =>
            lt (pR s29 43 3 46 : Sg) fun s30 =>
            some s30
          else
            none
      else
        none
  else
    if gR σ 43 3 = 46 then
      (s_Arrays_fill_46 σ (-1)).bind fun q32 =>
      (lp (b_FreeDay_passHour_10 a1 a2) 100000 (q32, 0)).bind fun o33 =>
      if gR o33.1 43 2 = 45 then
        if gR o33.1 43 3 = 45 then
          lt (pR o33.1 43 2 45 : Sg) fun s36 =>
          lt (pR s36 43 3 45 : Sg) fun s37 =>
          some s37
        else
          if gR o33.1 43 3 = 46 then
            lt (pR o33.1 43 2 46 : Sg) fun s39 =>
            lt (pR s39 43 3 45 : Sg) fun s40 =>
            some s40
          else
            none
      else
        if gR o33.1 43 2 = 46 then
          if gR o33.1 43 3 = 45 then
            lt (pR o33.1 43 2 45 : Sg) fun s43 =>
            lt (pR s43 43 3 46 : Sg) fun s44 =>
            some s44
          else
            if gR o33.1 43 3 = 46 then
              lt (pR o33.1 43 2 46 : Sg) fun s46 =>
              lt (pR s46 43 3 46 : Sg) fun s47 =>
              some s47
            else
              none
        else
          none
    else
      none
set_option maxRecDepth 100000 in
set_option maxHeartbeats 4000000 in
theorem wb_FreeDay_passHour_10 (v1 : Int32) (v2 : Int32) (x : (Sg × Int32)) (r : Option Value) (τ : Sg) (o : ((Sg × Int32) ⊕ (Sg × Int32))) (h : (b_FreeDay_passHour_10 v1 v2 x) = some o) (hc : ∀ y : (Sg × Int32), o = .inl y → Ev M_X1_passHour 3 r τ 10 [(0, .ref 43), (1, .int v1), (2, .int v2), (3, .int y.2)] [] y.1) (he : ∀ y : (Sg × Int32), o = .inr y → Ev M_X1_passHour 3 r τ 40 [(0, .ref 43)] [] y.1) : Ev M_X1_passHour 3 r τ 10 [(0, .ref 43), (1, .int v1), (2, .int v2), (3, .int x.2)] [] x.1 := by
  unfold b_FreeDay_passHour_10 at h
  refine Ev_iload_n 3 (dt_X1_passHour.at 6 rfl) rfl ?_
  refine Ev_sipush (dt_X1_passHour.at 7 rfl) ks_384 ?_
  refine Ev_icmp_ge (tgt := 40) (dt_X1_passHour.at 8 rfl) (by decide) (fun c3 => ?_) (fun c3 => ?_)
  · replace h := oPos h c3
    refine Ev_sub [0] (ls' := [(0, .ref 43)]) rfl ?_
    exact he (x.1, x.2) (Option.some.inj h).symm
  · replace h := oNeg h c3
    refine Ev_aload_n 0 (dt_X1_passHour.at 9 rfl) rfl ?_
    by_cases c4 : gR x.1 43 2 = 45
    · replace h := oPos h c4
      refine Ev_get (i := 2) (v := .ref 45) (dt_X1_passHour.at 10 rfl) ff_X1_15 sk_43 rfl (congrArg Value.ref c4) ?_
      refine Ev_iload_n 3 (dt_X1_passHour.at 11 rfl) rfl ?_
      obtain ⟨g5, h⟩ := oGuard h
      refine Ev_iaload 45 (dt_X1_passHour.at 12 rfl) sk_45 g5 ?_
      refine Ev_iconst (dt_X1_passHour.at 13 rfl) ki_m1 ?_
      refine Ev_icmp_eq (tgt := 34) (dt_X1_passHour.at 14 rfl) (by decide) (fun c6 => ?_) (fun c6 => ?_)
      · replace h := oPos h c6
        obtain ⟨x7, ex7⟩ : ∃ z : Int32, z = x.2 + 1 := ⟨_, rfl⟩
        replace h := oLt h ex7
        refine Ev_iinc (v := x7) 3 (dt_X1_passHour.at 20 rfl) rfl (ex7.trans (congrArg (fun z => x.2 + z) ki_1.symm)) (by decide) (ls' := [(3, .int x7), (0, .ref 43), (1, .int v1), (2, .int v2)]) rfl ?_
        refine Ev_goto (tgt := 10) (dt_X1_passHour.at 21 rfl) (by decide) ?_
        refine Ev_sub [1, 2, 3, 0] (ls' := [(0, .ref 43), (1, .int v1), (2, .int v2), (3, .int x7)]) rfl ?_
        exact hc (x.1, x7) (Option.some.inj h).symm
      · replace h := oNeg h c6
        refine Ev_aload_n 0 (dt_X1_passHour.at 15 rfl) rfl ?_
        refine Ev_iload_n 3 (dt_X1_passHour.at 16 rfl) rfl ?_
        refine Ev_iload_n 1 (dt_X1_passHour.at 17 rfl) rfl ?_
        refine Ev_iload_n 2 (dt_X1_passHour.at 18 rfl) rfl ?_
        obtain ⟨q8, hq8, h⟩ := oBind h
        refine Ev_callV (st := []) (st' := []) [.int x.2, .int v1, .int v2] (dt_X1_passHour.at 19 rfl) cf_X1_71 (w_FreeDay_goOn x.1 x.2 v1 v2 q8 hq8) (by decide) sk_43 rfl rfl rfl (Nat.le_of_ble_eq_true rfl) rfl ?_
        obtain ⟨x9, ex9⟩ : ∃ z : Int32, z = x.2 + 1 := ⟨_, rfl⟩
        replace h := oLt h ex9
        refine Ev_iinc (v := x9) 3 (dt_X1_passHour.at 20 rfl) rfl (ex9.trans (congrArg (fun z => x.2 + z) ki_1.symm)) (by decide) (ls' := [(3, .int x9), (0, .ref 43), (1, .int v1), (2, .int v2)]) rfl ?_
        refine Ev_goto (tgt := 10) (dt_X1_passHour.at 21 rfl) (by decide) ?_
        refine Ev_sub [1, 2, 3, 0] (ls' := [(0, .ref 43), (1, .int v1), (2, .int v2), (3, .int x9)]) rfl ?_
        exact hc (q8, x9) (Option.some.inj h).symm
    replace h := oNeg h c4
    obtain ⟨c10, h⟩ := oGuard h
    refine Ev_get (i := 2) (v := .ref 46) (dt_X1_passHour.at 10 rfl) ff_X1_15 sk_43 rfl (congrArg Value.ref c10) ?_
    refine Ev_iload_n 3 (dt_X1_passHour.at 11 rfl) rfl ?_
    obtain ⟨g11, h⟩ := oGuard h
    refine Ev_iaload 46 (dt_X1_passHour.at 12 rfl) sk_46 g11 ?_
    refine Ev_iconst (dt_X1_passHour.at 13 rfl) ki_m1 ?_
    refine Ev_icmp_eq (tgt := 34) (dt_X1_passHour.at 14 rfl) (by decide) (fun c12 => ?_) (fun c12 => ?_)
    · replace h := oPos h c12
      obtain ⟨x13, ex13⟩ : ∃ z : Int32, z = x.2 + 1 := ⟨_, rfl⟩
      replace h := oLt h ex13
      refine Ev_iinc (v := x13) 3 (dt_X1_passHour.at 20 rfl) rfl (ex13.trans (congrArg (fun z => x.2 + z) ki_1.symm)) (by decide) (ls' := [(3, .int x13), (0, .ref 43), (1, .int v1), (2, .int v2)]) rfl ?_
      refine Ev_goto (tgt := 10) (dt_X1_passHour.at 21 rfl) (by decide) ?_
      refine Ev_sub [1, 2, 3, 0] (ls' := [(0, .ref 43), (1, .int v1), (2, .int v2), (3, .int x13)]) rfl ?_
      exact hc (x.1, x13) (Option.some.inj h).symm
    · replace h := oNeg h c12
      refine Ev_aload_n 0 (dt_X1_passHour.at 15 rfl) rfl ?_
      refine Ev_iload_n 3 (dt_X1_passHour.at 16 rfl) rfl ?_
      refine Ev_iload_n 1 (dt_X1_passHour.at 17 rfl) rfl ?_
      refine Ev_iload_n 2 (dt_X1_passHour.at 18 rfl) rfl ?_
      obtain ⟨q14, hq14, h⟩ := oBind h
      refine Ev_callV (st := []) (st' := []) [.int x.2, .int v1, .int v2] (dt_X1_passHour.at 19 rfl) cf_X1_71 (w_FreeDay_goOn x.1 x.2 v1 v2 q14 hq14) (by decide) sk_43 rfl rfl rfl (Nat.le_of_ble_eq_true rfl) rfl ?_
      obtain ⟨x15, ex15⟩ : ∃ z : Int32, z = x.2 + 1 := ⟨_, rfl⟩
      replace h := oLt h ex15
      refine Ev_iinc (v := x15) 3 (dt_X1_passHour.at 20 rfl) rfl (ex15.trans (congrArg (fun z => x.2 + z) ki_1.symm)) (by decide) (ls' := [(3, .int x15), (0, .ref 43), (1, .int v1), (2, .int v2)]) rfl ?_
      refine Ev_goto (tgt := 10) (dt_X1_passHour.at 21 rfl) (by decide) ?_
      refine Ev_sub [1, 2, 3, 0] (ls' := [(0, .ref 43), (1, .int v1), (2, .int v2), (3, .int x15)]) rfl ?_
      exact hc (q14, x15) (Option.some.inj h).symm
set_option maxRecDepth 100000 in
set_option maxHeartbeats 4000000 in
theorem wl_FreeDay_passHour_10 (v1 : Int32) (v2 : Int32) (r : Option Value) (τ : Sg) (n : Nat) (x : (Sg × Int32)) (z : (Sg × Int32)) (h : lp (b_FreeDay_passHour_10 v1 v2) n x = some z) (he : ∀ y : (Sg × Int32), z = y → Ev M_X1_passHour 3 r τ 40 [(0, .ref 43)] [] y.1) : Ev M_X1_passHour 3 r τ 10 [(0, .ref 43), (1, .int v1), (2, .int v2), (3, .int x.2)] [] x.1 := by
  refine lp_ind (E := fun x : (Sg × Int32) => Ev M_X1_passHour 3 r τ 10 [(0, .ref 43), (1, .int v1), (2, .int v2), (3, .int x.2)] [] x.1) (fun x => ⟨fun y hb hy => ?_, fun hb => ?_⟩) n x h
  · exact wb_FreeDay_passHour_10 v1 v2 x r τ _ hb (fun y' e => by cases e; exact hy) (fun y' e => by cases e)
  · exact wb_FreeDay_passHour_10 v1 v2 x r τ _ hb (fun y' e => by cases e) (fun y' e => he y' (Sum.inr.inj e))
set_option maxRecDepth 100000 in
set_option maxHeartbeats 4000000 in
theorem w_FreeDay_passHour (σ : Sg) (a1 : Int32) (a2 : Int32) (q : Sg) (h : s_FreeDay_passHour σ a1 a2 = some q) : Cal M_X1_passHour 3 [.ref 43, .int a1, .int a2] σ none q := by
  refine Cal.of (M := M_X1_passHour) (by decide +kernel) (Nat.le_of_ble_eq_true rfl) ?_
  show Ev _ _ _ _ 0 [(0, .ref 43), (1, .int a1), (2, .int a2)] [] σ
  unfold s_FreeDay_passHour at h
  refine Ev_aload_n 0 (dt_X1_passHour.at 0 rfl) rfl ?_
  by_cases c1 : gR σ 43 3 = 45
  · replace h := oPos h c1
    refine Ev_get (i := 3) (v := .ref 45) (dt_X1_passHour.at 1 rfl) ff_X1_18 sk_43 rfl (congrArg Value.ref c1) ?_
    refine Ev_iconst (dt_X1_passHour.at 2 rfl) ki_m1 ?_
    obtain ⟨q2, hq2, h⟩ := oBind h
    refine Ev_callS (st := []) (st' := []) [.ref 45, .int (-1)] (dt_X1_passHour.at 3 rfl) cf_X1_35 (w_Arrays_fill_45 σ (-1) q2 hq2) (by decide) rfl rfl (Nat.le_of_ble_eq_true rfl) rfl ?_
    refine Ev_iconst (dt_X1_passHour.at 4 rfl) ki_0 ?_
    refine Ev_istore_n (dt_X1_passHour.at 5 rfl) (by decide) (ls' := [(3, .int 0), (0, .ref 43), (1, .int a1), (2, .int a2)]) rfl ?_
    refine Ev_sub [1, 2, 3, 0] (ls' := [(0, .ref 43), (1, .int a1), (2, .int a2), (3, .int 0)]) rfl ?_
    obtain ⟨o16, ho16, h⟩ := oBind h
    refine wl_FreeDay_passHour_10 a1 a2 _ _ 100000 (q2, 0) o16 ho16 (fun y ey => ?_)
    subst ey
    refine Ev_aload_n 0 (dt_X1_passHour.at 22 rfl) rfl ?_
    by_cases c17 : gR o16.1 43 2 = 45
    · replace h := oPos h c17
      refine Ev_get (i := 2) (v := .ref 45) (dt_X1_passHour.at 23 rfl) ff_X1_15 sk_43 rfl (congrArg Value.ref c17) ?_
      refine Ev_astore_n (dt_X1_passHour.at 24 rfl) (by decide) (ls' := [(3, .ref 45), (0, .ref 43)]) rfl ?_
      refine Ev_aload_n 1 (dt_X1_passHour.at 25 rfl) rfl ?_
      refine Ev_aload_n 1 (dt_X1_passHour.at 26 rfl) rfl ?_
      by_cases c18 : gR o16.1 43 3 = 45
      · replace h := oPos h c18
        refine Ev_get (i := 3) (v := .ref 45) (dt_X1_passHour.at 27 rfl) ff_X1_18 sk_43 rfl (congrArg Value.ref c18) ?_
        refine Ev_putR (dt_X1_passHour.at 28 rfl) ff_X1_15 fw_1_2 sk_43 rfl ?_
        refine Ev_nmS (fun s19 es19 => ?_)
        replace h := oLt h es19
        refine Ev_aload_n 1 (dt_X1_passHour.at 29 rfl) rfl ?_
        refine Ev_aload_n 0 (dt_X1_passHour.at 30 rfl) rfl ?_
        refine Ev_putR (dt_X1_passHour.at 31 rfl) ff_X1_18 fw_1_3 sk_43 rfl ?_
        refine Ev_nmS (fun s20 es20 => ?_)
        replace h := oLt h es20
        exact Ev_vret (dt_X1_passHour.at 32 rfl) rfl h
      replace h := oNeg h c18
      obtain ⟨c21, h⟩ := oGuard h
      refine Ev_get (i := 3) (v := .ref 46) (dt_X1_passHour.at 27 rfl) ff_X1_18 sk_43 rfl (congrArg Value.ref c21) ?_
      refine Ev_putR (dt_X1_passHour.at 28 rfl) ff_X1_15 fw_1_2 sk_43 rfl ?_
      refine Ev_nmS (fun s22 es22 => ?_)
      replace h := oLt h es22
      refine Ev_aload_n 1 (dt_X1_passHour.at 29 rfl) rfl ?_
      refine Ev_aload_n 0 (dt_X1_passHour.at 30 rfl) rfl ?_
      refine Ev_putR (dt_X1_passHour.at 31 rfl) ff_X1_18 fw_1_3 sk_43 rfl ?_
      refine Ev_nmS (fun s23 es23 => ?_)
      replace h := oLt h es23
      exact Ev_vret (dt_X1_passHour.at 32 rfl) rfl h
    replace h := oNeg h c17
    obtain ⟨c24, h⟩ := oGuard h
    refine Ev_get (i := 2) (v := .ref 46) (dt_X1_passHour.at 23 rfl) ff_X1_15 sk_43 rfl (congrArg Value.ref c24) ?_
    refine Ev_astore_n (dt_X1_passHour.at 24 rfl) (by decide) (ls' := [(3, .ref 46), (0, .ref 43)]) rfl ?_
    refine Ev_aload_n 1 (dt_X1_passHour.at 25 rfl) rfl ?_
    refine Ev_aload_n 1 (dt_X1_passHour.at 26 rfl) rfl ?_
    by_cases c25 : gR o16.1 43 3 = 45
    · replace h := oPos h c25
      refine Ev_get (i := 3) (v := .ref 45) (dt_X1_passHour.at 27 rfl) ff_X1_18 sk_43 rfl (congrArg Value.ref c25) ?_
      refine Ev_putR (dt_X1_passHour.at 28 rfl) ff_X1_15 fw_1_2 sk_43 rfl ?_
      refine Ev_nmS (fun s26 es26 => ?_)
      replace h := oLt h es26
      refine Ev_aload_n 1 (dt_X1_passHour.at 29 rfl) rfl ?_
      refine Ev_aload_n 0 (dt_X1_passHour.at 30 rfl) rfl ?_
      refine Ev_putR (dt_X1_passHour.at 31 rfl) ff_X1_18 fw_1_3 sk_43 rfl ?_
      refine Ev_nmS (fun s27 es27 => ?_)
      replace h := oLt h es27
      exact Ev_vret (dt_X1_passHour.at 32 rfl) rfl h
    replace h := oNeg h c25
    obtain ⟨c28, h⟩ := oGuard h
    refine Ev_get (i := 3) (v := .ref 46) (dt_X1_passHour.at 27 rfl) ff_X1_18 sk_43 rfl (congrArg Value.ref c28) ?_
    refine Ev_putR (dt_X1_passHour.at 28 rfl) ff_X1_15 fw_1_2 sk_43 rfl ?_
    refine Ev_nmS (fun s29 es29 => ?_)
    replace h := oLt h es29
    refine Ev_aload_n 1 (dt_X1_passHour.at 29 rfl) rfl ?_
    refine Ev_aload_n 0 (dt_X1_passHour.at 30 rfl) rfl ?_
    refine Ev_putR (dt_X1_passHour.at 31 rfl) ff_X1_18 fw_1_3 sk_43 rfl ?_
    refine Ev_nmS (fun s30 es30 => ?_)
    replace h := oLt h es30
    exact Ev_vret (dt_X1_passHour.at 32 rfl) rfl h
  replace h := oNeg h c1
  obtain ⟨c31, h⟩ := oGuard h
  refine Ev_get (i := 3) (v := .ref 46) (dt_X1_passHour.at 1 rfl) ff_X1_18 sk_43 rfl (congrArg Value.ref c31) ?_
  refine Ev_iconst (dt_X1_passHour.at 2 rfl) ki_m1 ?_
  obtain ⟨q32, hq32, h⟩ := oBind h
  refine Ev_callS (st := []) (st' := []) [.ref 46, .int (-1)] (dt_X1_passHour.at 3 rfl) cf_X1_35 (w_Arrays_fill_46 σ (-1) q32 hq32) (by decide) rfl rfl (Nat.le_of_ble_eq_true rfl) rfl ?_
  refine Ev_iconst (dt_X1_passHour.at 4 rfl) ki_0 ?_
  refine Ev_istore_n (dt_X1_passHour.at 5 rfl) (by decide) (ls' := [(3, .int 0), (0, .ref 43), (1, .int a1), (2, .int a2)]) rfl ?_
  refine Ev_sub [1, 2, 3, 0] (ls' := [(0, .ref 43), (1, .int a1), (2, .int a2), (3, .int 0)]) rfl ?_
  obtain ⟨o33, ho33, h⟩ := oBind h
  refine wl_FreeDay_passHour_10 a1 a2 _ _ 100000 (q32, 0) o33 ho33 (fun y ey => ?_)
  subst ey
  refine Ev_aload_n 0 (dt_X1_passHour.at 22 rfl) rfl ?_
  by_cases c34 : gR o33.1 43 2 = 45
  · replace h := oPos h c34
    refine Ev_get (i := 2) (v := .ref 45) (dt_X1_passHour.at 23 rfl) ff_X1_15 sk_43 rfl (congrArg Value.ref c34) ?_
    refine Ev_astore_n (dt_X1_passHour.at 24 rfl) (by decide) (ls' := [(3, .ref 45), (0, .ref 43)]) rfl ?_
    refine Ev_aload_n 1 (dt_X1_passHour.at 25 rfl) rfl ?_
    refine Ev_aload_n 1 (dt_X1_passHour.at 26 rfl) rfl ?_
    by_cases c35 : gR o33.1 43 3 = 45
    · replace h := oPos h c35
      refine Ev_get (i := 3) (v := .ref 45) (dt_X1_passHour.at 27 rfl) ff_X1_18 sk_43 rfl (congrArg Value.ref c35) ?_
      refine Ev_putR (dt_X1_passHour.at 28 rfl) ff_X1_15 fw_1_2 sk_43 rfl ?_
      refine Ev_nmS (fun s36 es36 => ?_)
      replace h := oLt h es36
      refine Ev_aload_n 1 (dt_X1_passHour.at 29 rfl) rfl ?_
      refine Ev_aload_n 0 (dt_X1_passHour.at 30 rfl) rfl ?_
      refine Ev_putR (dt_X1_passHour.at 31 rfl) ff_X1_18 fw_1_3 sk_43 rfl ?_
      refine Ev_nmS (fun s37 es37 => ?_)
      replace h := oLt h es37
      exact Ev_vret (dt_X1_passHour.at 32 rfl) rfl h
    replace h := oNeg h c35
    obtain ⟨c38, h⟩ := oGuard h
    refine Ev_get (i := 3) (v := .ref 46) (dt_X1_passHour.at 27 rfl) ff_X1_18 sk_43 rfl (congrArg Value.ref c38) ?_
    refine Ev_putR (dt_X1_passHour.at 28 rfl) ff_X1_15 fw_1_2 sk_43 rfl ?_
    refine Ev_nmS (fun s39 es39 => ?_)
    replace h := oLt h es39
    refine Ev_aload_n 1 (dt_X1_passHour.at 29 rfl) rfl ?_
    refine Ev_aload_n 0 (dt_X1_passHour.at 30 rfl) rfl ?_
    refine Ev_putR (dt_X1_passHour.at 31 rfl) ff_X1_18 fw_1_3 sk_43 rfl ?_
    refine Ev_nmS (fun s40 es40 => ?_)
    replace h := oLt h es40
    exact Ev_vret (dt_X1_passHour.at 32 rfl) rfl h
  replace h := oNeg h c34
  obtain ⟨c41, h⟩ := oGuard h
  refine Ev_get (i := 2) (v := .ref 46) (dt_X1_passHour.at 23 rfl) ff_X1_15 sk_43 rfl (congrArg Value.ref c41) ?_
  refine Ev_astore_n (dt_X1_passHour.at 24 rfl) (by decide) (ls' := [(3, .ref 46), (0, .ref 43)]) rfl ?_
  refine Ev_aload_n 1 (dt_X1_passHour.at 25 rfl) rfl ?_
  refine Ev_aload_n 1 (dt_X1_passHour.at 26 rfl) rfl ?_
  by_cases c42 : gR o33.1 43 3 = 45
  · replace h := oPos h c42
    refine Ev_get (i := 3) (v := .ref 45) (dt_X1_passHour.at 27 rfl) ff_X1_18 sk_43 rfl (congrArg Value.ref c42) ?_
    refine Ev_putR (dt_X1_passHour.at 28 rfl) ff_X1_15 fw_1_2 sk_43 rfl ?_
    refine Ev_nmS (fun s43 es43 => ?_)
    replace h := oLt h es43
    refine Ev_aload_n 1 (dt_X1_passHour.at 29 rfl) rfl ?_
    refine Ev_aload_n 0 (dt_X1_passHour.at 30 rfl) rfl ?_
    refine Ev_putR (dt_X1_passHour.at 31 rfl) ff_X1_18 fw_1_3 sk_43 rfl ?_
    refine Ev_nmS (fun s44 es44 => ?_)
    replace h := oLt h es44
    exact Ev_vret (dt_X1_passHour.at 32 rfl) rfl h
  replace h := oNeg h c42
  obtain ⟨c45, h⟩ := oGuard h
  refine Ev_get (i := 3) (v := .ref 46) (dt_X1_passHour.at 27 rfl) ff_X1_18 sk_43 rfl (congrArg Value.ref c45) ?_
  refine Ev_putR (dt_X1_passHour.at 28 rfl) ff_X1_15 fw_1_2 sk_43 rfl ?_
  refine Ev_nmS (fun s46 es46 => ?_)
  replace h := oLt h es46
  refine Ev_aload_n 1 (dt_X1_passHour.at 29 rfl) rfl ?_
  refine Ev_aload_n 0 (dt_X1_passHour.at 30 rfl) rfl ?_
  refine Ev_putR (dt_X1_passHour.at 31 rfl) ff_X1_18 fw_1_3 sk_43 rfl ?_
  refine Ev_nmS (fun s47 es47 => ?_)
  replace h := oLt h es47
  exact Ev_vret (dt_X1_passHour.at 32 rfl) rfl h
def b_FreeDay_mostDone_39 (v2 : Int32) (x : (Sg × Int32)) : Option ((Sg × Int32) ⊕ (Sg × Int32)) :=
  if 10 ≤ x.2 then
    some (.inr (x.1, x.2))
  else
    (s_FreeDay_passHour x.1 x.2 v2).bind fun q9 =>
    lt (x.2 + 1 : Int32) fun x10 =>
    some (.inl (q9, x10))
def b_FreeDay_mostDone_73 (σ : Sg) (v5 : Int32) (x : (Int32 × Int32)) : Option ((Int32 × Int32) ⊕ (Int32 × Int32)) :=
  if v5 ≤ x.2 then
    some (.inr (x.1, x.2))
  else
    if inB x.2 384 = true then
      lt ((gI σ 45 (Int32.toNatClampNeg x.2)) : Int32) fun x15 =>
      (s_Math_max x.1 x15).bind fun q16 =>
      lt (x.2 + 1 : Int32) fun x17 =>
      some (.inl (q16, x17))
    else none
def b_FreeDay_mostDone_73r1 (σ : Sg) (v5 : Int32) (x : (Int32 × Int32)) : Option ((Int32 × Int32) ⊕ (Int32 × Int32)) :=
  if v5 ≤ x.2 then
    some (.inr (x.1, x.2))
  else
    if inB x.2 384 = true then
      lt ((gI σ 46 (Int32.toNatClampNeg x.2)) : Int32) fun x22 =>
      (s_Math_max x.1 x22).bind fun q23 =>
      lt (x.2 + 1 : Int32) fun x24 =>
      some (.inl (q23, x24))
    else none
def j_FreeDay_mostDone_21  (σ : Sg) (u0 : Int32) : Option (Int32 × Sg) :=
  if gR σ 43 2 = 45 then
    (s_Arrays_fill_45 σ (-1)).bind fun q5 =>
    if gR q5 43 2 = 45 then
      lt (pI q5 45 (Int32.toNatClampNeg 0) 0 : Sg) fun s7 =>
      (lp (b_FreeDay_mostDone_39 u0) 100000 (s7, 0)).bind fun o11 =>
      if gR o11.1 43 2 = 45 then
        (lp (b_FreeDay_mostDone_73 o11.1 384) 100000 (0, 0)).bind fun o18 =>
        some (o18.1, o11.1)
      else
        if gR o11.1 43 2 = 46 then
          (lp (b_FreeDay_mostDone_73r1 o11.1 384) 100000 (0, 0)).bind fun o25 =>
          some (o25.1, o11.1)
        else
          none
    else
      if gR q5 43 2 = 46 then
        lt (pI q5 46 (Int32.toNatClampNeg 0) 0 : Sg) fun s27 =>
        (lp (b_FreeDay_mostDone_39 u0) 100000 (s27, 0)).bind fun o28 =>
        if gR o28.1 43 2 = 45 then
          (lp (b_FreeDay_mostDone_73 o28.1 384) 100000 (0, 0)).bind fun o30 =>
          some (o30.1, o28.1)
        else
          if gR o28.1 43 2 = 46 then
            (lp (b_FreeDay_mostDone_73r1 o28.1 384) 100000 (0, 0)).bind fun o32 =>
            some (o32.1, o28.1)
          else
            none
      else
        none
  else
    if gR σ 43 2 = 46 then
      (s_Arrays_fill_46 σ (-1)).bind fun q34 =>
      if gR q34 43 2 = 45 then
        lt (pI q34 45 (Int32.toNatClampNeg 0) 0 : Sg) fun s36 =>
        (lp (b_FreeDay_mostDone_39 u0) 100000 (s36, 0)).bind fun o37 =>
        if gR o37.1 43 2 = 45 then
          (lp (b_FreeDay_mostDone_73 o37.1 384) 100000 (0, 0)).bind fun o39 =>
          some (o39.1, o37.1)
        else
          if gR o37.1 43 2 = 46 then
            (lp (b_FreeDay_mostDone_73r1 o37.1 384) 100000 (0, 0)).bind fun o41 =>
            some (o41.1, o37.1)
          else
            none
      else
        if gR q34 43 2 = 46 then
          lt (pI q34 46 (Int32.toNatClampNeg 0) 0 : Sg) fun s43 =>
          (lp (b_FreeDay_mostDone_39 u0) 100000 (s43, 0)).bind fun o44 =>
          if gR o44.1 43 2 = 45 then
            (lp (b_FreeDay_mostDone_73 o44.1 384) 100000 (0, 0)).bind fun o46 =>
            some (o46.1, o44.1)
          else
            if gR o44.1 43 2 = 46 then
              (lp (b_FreeDay_mostDone_73r1 o44.1 384) 100000 (0, 0)).bind fun o48 =>
              some (o48.1, o44.1)
            else
              none
        else
          none
    else
      none
def s_FreeDay_mostDone (σ : Sg) (a1 : Int32) : Option (Int32 × Sg) :=
  (s_FreeDay_weigh σ a1).bind fun q1 =>
  (s_Town_isQuick q1 a1).bind fun q2 =>
  if q2 = 0 then
    j_FreeDay_mostDone_21  q1 1
  else
    j_FreeDay_mostDone_21  q1 2
set_option maxRecDepth 100000 in
set_option maxHeartbeats 4000000 in
theorem wb_FreeDay_mostDone_39 (v2 : Int32) (x : (Sg × Int32)) (r : Option Value) (τ : Sg) (o : ((Sg × Int32) ⊕ (Sg × Int32))) (h : (b_FreeDay_mostDone_39 v2 x) = some o) (hc : ∀ y : (Sg × Int32), o = .inl y → Ev M_X1_mostDone 4 r τ 39 [(0, .ref 43), (2, .int v2), (3, .int y.2)] [] y.1) (he : ∀ y : (Sg × Int32), o = .inr y → Ev M_X1_mostDone 4 r τ 57 [(0, .ref 43)] [] y.1) : Ev M_X1_mostDone 4 r τ 39 [(0, .ref 43), (2, .int v2), (3, .int x.2)] [] x.1 := by
  unfold b_FreeDay_mostDone_39 at h
  refine Ev_iload_n 2 (dt_X1_mostDone.at 23 rfl) rfl ?_
  refine Ev_bipush (dt_X1_mostDone.at 24 rfl) kb_10 ?_
  refine Ev_icmp_ge (tgt := 57) (dt_X1_mostDone.at 25 rfl) (by decide) (fun c8 => ?_) (fun c8 => ?_)
  · replace h := oPos h c8
    refine Ev_sub [0] (ls' := [(0, .ref 43)]) rfl ?_
    exact he (x.1, x.2) (Option.some.inj h).symm
  · replace h := oNeg h c8
    refine Ev_aload_n 0 (dt_X1_mostDone.at 26 rfl) rfl ?_
    refine Ev_iload_n 2 (dt_X1_mostDone.at 27 rfl) rfl ?_
    refine Ev_iload_n 1 (dt_X1_mostDone.at 28 rfl) rfl ?_
    obtain ⟨q9, hq9, h⟩ := oBind h
    refine Ev_callV (st := []) (st' := []) [.int x.2, .int v2] (dt_X1_mostDone.at 29 rfl) cf_X1_41 (w_FreeDay_passHour x.1 x.2 v2 q9 hq9) (by decide) sk_43 rfl rfl rfl (Nat.le_of_ble_eq_true rfl) rfl ?_
    obtain ⟨x10, ex10⟩ : ∃ z : Int32, z = x.2 + 1 := ⟨_, rfl⟩
    replace h := oLt h ex10
    refine Ev_iinc (v := x10) 2 (dt_X1_mostDone.at 30 rfl) rfl (ex10.trans (congrArg (fun z => x.2 + z) ki_1.symm)) (by decide) (ls' := [(3, .int x10), (0, .ref 43), (2, .int v2)]) rfl ?_
    refine Ev_goto (tgt := 39) (dt_X1_mostDone.at 31 rfl) (by decide) ?_
    refine Ev_sub [1, 2, 0] (ls' := [(0, .ref 43), (2, .int v2), (3, .int x10)]) rfl ?_
    exact hc (q9, x10) (Option.some.inj h).symm
set_option maxRecDepth 100000 in
set_option maxHeartbeats 4000000 in
theorem wl_FreeDay_mostDone_39 (v2 : Int32) (r : Option Value) (τ : Sg) (n : Nat) (x : (Sg × Int32)) (z : (Sg × Int32)) (h : lp (b_FreeDay_mostDone_39 v2) n x = some z) (he : ∀ y : (Sg × Int32), z = y → Ev M_X1_mostDone 4 r τ 57 [(0, .ref 43)] [] y.1) : Ev M_X1_mostDone 4 r τ 39 [(0, .ref 43), (2, .int v2), (3, .int x.2)] [] x.1 := by
  refine lp_ind (E := fun x : (Sg × Int32) => Ev M_X1_mostDone 4 r τ 39 [(0, .ref 43), (2, .int v2), (3, .int x.2)] [] x.1) (fun x => ⟨fun y hb hy => ?_, fun hb => ?_⟩) n x h
  · exact wb_FreeDay_mostDone_39 v2 x r τ _ hb (fun y' e => by cases e; exact hy) (fun y' e => by cases e)
  · exact wb_FreeDay_mostDone_39 v2 x r τ _ hb (fun y' e => by cases e) (fun y' e => he y' (Sum.inr.inj e))
set_option maxRecDepth 100000 in
set_option maxHeartbeats 4000000 in
theorem wb_FreeDay_mostDone_73 (σ : Sg) (v5 : Int32) (x : (Int32 × Int32)) (r : Option Value) (τ : Sg) (o : ((Int32 × Int32) ⊕ (Int32 × Int32))) (h : (b_FreeDay_mostDone_73 σ v5 x) = some o) (hc : ∀ y : (Int32 × Int32), o = .inl y → Ev M_X1_mostDone 4 r τ 73 [(3, .int y.1), (4, .ref 45), (5, .int v5), (6, .int y.2)] [] σ) (he : ∀ y : (Int32 × Int32), o = .inr y → Ev M_X1_mostDone 4 r τ 100 [(3, .int y.1)] [] σ) : Ev M_X1_mostDone 4 r τ 73 [(3, .int x.1), (4, .ref 45), (5, .int v5), (6, .int x.2)] [] σ := by
  unfold b_FreeDay_mostDone_73 at h
  refine Ev_iload 3 (dt_X1_mostDone.at 42 rfl) rfl ?_
  refine Ev_iload 2 (dt_X1_mostDone.at 43 rfl) rfl ?_
  refine Ev_icmp_ge (tgt := 100) (dt_X1_mostDone.at 44 rfl) (by decide) (fun c13 => ?_) (fun c13 => ?_)
  · replace h := oPos h c13
    refine Ev_sub [0] (ls' := [(3, .int x.1)]) rfl ?_
    exact he (x.1, x.2) (Option.some.inj h).symm
  · replace h := oNeg h c13
    refine Ev_aload 1 (dt_X1_mostDone.at 45 rfl) rfl ?_
    refine Ev_iload 3 (dt_X1_mostDone.at 46 rfl) rfl ?_
    obtain ⟨g14, h⟩ := oGuard h
    refine Ev_iaload 45 (dt_X1_mostDone.at 47 rfl) sk_45 g14 ?_
    refine Ev_nmI (fun x15 ex15 => ?_)
    replace h := oLt h ex15
    refine Ev_istore (dt_X1_mostDone.at 48 rfl) (by decide) (ls' := [(7, .int x15), (3, .int x.1), (4, .ref 45), (5, .int v5), (6, .int x.2)]) rfl ?_
    refine Ev_iload_n 1 (dt_X1_mostDone.at 49 rfl) rfl ?_
    refine Ev_iload 0 (dt_X1_mostDone.at 50 rfl) rfl ?_
    obtain ⟨q16, hq16, h⟩ := oBind h
    refine Ev_callS (st := []) (st' := [.int q16]) [.int x.1, .int x15] (dt_X1_mostDone.at 51 rfl) cf_X1_45 (w_Math_max σ x.1 x15 q16 hq16) (by decide) rfl rfl (Nat.le_of_ble_eq_true rfl) rfl ?_
    refine Ev_istore_n (dt_X1_mostDone.at 52 rfl) (by decide) (ls' := [(3, .int q16), (7, .int x15), (4, .ref 45), (5, .int v5), (6, .int x.2)]) rfl ?_
    obtain ⟨x17, ex17⟩ : ∃ z : Int32, z = x.2 + 1 := ⟨_, rfl⟩
    replace h := oLt h ex17
    refine Ev_iinc (v := x17) 4 (dt_X1_mostDone.at 53 rfl) rfl (ex17.trans (congrArg (fun z => x.2 + z) ki_1.symm)) (by decide) (ls' := [(6, .int x17), (3, .int q16), (7, .int x15), (4, .ref 45), (5, .int v5)]) rfl ?_
    refine Ev_goto (tgt := 73) (dt_X1_mostDone.at 54 rfl) (by decide) ?_
    refine Ev_sub [1, 3, 4, 0] (ls' := [(3, .int q16), (4, .ref 45), (5, .int v5), (6, .int x17)]) rfl ?_
    exact hc (q16, x17) (Option.some.inj h).symm
set_option maxRecDepth 100000 in
set_option maxHeartbeats 4000000 in
theorem wl_FreeDay_mostDone_73 (σ : Sg) (v5 : Int32) (r : Option Value) (τ : Sg) (n : Nat) (x : (Int32 × Int32)) (z : (Int32 × Int32)) (h : lp (b_FreeDay_mostDone_73 σ v5) n x = some z) (he : ∀ y : (Int32 × Int32), z = y → Ev M_X1_mostDone 4 r τ 100 [(3, .int y.1)] [] σ) : Ev M_X1_mostDone 4 r τ 73 [(3, .int x.1), (4, .ref 45), (5, .int v5), (6, .int x.2)] [] σ := by
  refine lp_ind (E := fun x : (Int32 × Int32) => Ev M_X1_mostDone 4 r τ 73 [(3, .int x.1), (4, .ref 45), (5, .int v5), (6, .int x.2)] [] σ) (fun x => ⟨fun y hb hy => ?_, fun hb => ?_⟩) n x h
  · exact wb_FreeDay_mostDone_73 σ v5 x r τ _ hb (fun y' e => by cases e; exact hy) (fun y' e => by cases e)
  · exact wb_FreeDay_mostDone_73 σ v5 x r τ _ hb (fun y' e => by cases e) (fun y' e => he y' (Sum.inr.inj e))
set_option maxRecDepth 100000 in
set_option maxHeartbeats 4000000 in
theorem wb_FreeDay_mostDone_73r1 (σ : Sg) (v5 : Int32) (x : (Int32 × Int32)) (r : Option Value) (τ : Sg) (o : ((Int32 × Int32) ⊕ (Int32 × Int32))) (h : (b_FreeDay_mostDone_73r1 σ v5 x) = some o) (hc : ∀ y : (Int32 × Int32), o = .inl y → Ev M_X1_mostDone 4 r τ 73 [(3, .int y.1), (4, .ref 46), (5, .int v5), (6, .int y.2)] [] σ) (he : ∀ y : (Int32 × Int32), o = .inr y → Ev M_X1_mostDone 4 r τ 100 [(3, .int y.1)] [] σ) : Ev M_X1_mostDone 4 r τ 73 [(3, .int x.1), (4, .ref 46), (5, .int v5), (6, .int x.2)] [] σ := by
  unfold b_FreeDay_mostDone_73r1 at h
  refine Ev_iload 3 (dt_X1_mostDone.at 42 rfl) rfl ?_
  refine Ev_iload 2 (dt_X1_mostDone.at 43 rfl) rfl ?_
  refine Ev_icmp_ge (tgt := 100) (dt_X1_mostDone.at 44 rfl) (by decide) (fun c20 => ?_) (fun c20 => ?_)
  · replace h := oPos h c20
    refine Ev_sub [0] (ls' := [(3, .int x.1)]) rfl ?_
    exact he (x.1, x.2) (Option.some.inj h).symm
  · replace h := oNeg h c20
    refine Ev_aload 1 (dt_X1_mostDone.at 45 rfl) rfl ?_
    refine Ev_iload 3 (dt_X1_mostDone.at 46 rfl) rfl ?_
    obtain ⟨g21, h⟩ := oGuard h
    refine Ev_iaload 46 (dt_X1_mostDone.at 47 rfl) sk_46 g21 ?_
    refine Ev_nmI (fun x22 ex22 => ?_)
    replace h := oLt h ex22
    refine Ev_istore (dt_X1_mostDone.at 48 rfl) (by decide) (ls' := [(7, .int x22), (3, .int x.1), (4, .ref 46), (5, .int v5), (6, .int x.2)]) rfl ?_
    refine Ev_iload_n 1 (dt_X1_mostDone.at 49 rfl) rfl ?_
    refine Ev_iload 0 (dt_X1_mostDone.at 50 rfl) rfl ?_
    obtain ⟨q23, hq23, h⟩ := oBind h
    refine Ev_callS (st := []) (st' := [.int q23]) [.int x.1, .int x22] (dt_X1_mostDone.at 51 rfl) cf_X1_45 (w_Math_max σ x.1 x22 q23 hq23) (by decide) rfl rfl (Nat.le_of_ble_eq_true rfl) rfl ?_
    refine Ev_istore_n (dt_X1_mostDone.at 52 rfl) (by decide) (ls' := [(3, .int q23), (7, .int x22), (4, .ref 46), (5, .int v5), (6, .int x.2)]) rfl ?_
    obtain ⟨x24, ex24⟩ : ∃ z : Int32, z = x.2 + 1 := ⟨_, rfl⟩
    replace h := oLt h ex24
    refine Ev_iinc (v := x24) 4 (dt_X1_mostDone.at 53 rfl) rfl (ex24.trans (congrArg (fun z => x.2 + z) ki_1.symm)) (by decide) (ls' := [(6, .int x24), (3, .int q23), (7, .int x22), (4, .ref 46), (5, .int v5)]) rfl ?_
    refine Ev_goto (tgt := 73) (dt_X1_mostDone.at 54 rfl) (by decide) ?_
    refine Ev_sub [1, 3, 4, 0] (ls' := [(3, .int q23), (4, .ref 46), (5, .int v5), (6, .int x24)]) rfl ?_
    exact hc (q23, x24) (Option.some.inj h).symm
set_option maxRecDepth 100000 in
set_option maxHeartbeats 4000000 in
theorem wl_FreeDay_mostDone_73r1 (σ : Sg) (v5 : Int32) (r : Option Value) (τ : Sg) (n : Nat) (x : (Int32 × Int32)) (z : (Int32 × Int32)) (h : lp (b_FreeDay_mostDone_73r1 σ v5) n x = some z) (he : ∀ y : (Int32 × Int32), z = y → Ev M_X1_mostDone 4 r τ 100 [(3, .int y.1)] [] σ) : Ev M_X1_mostDone 4 r τ 73 [(3, .int x.1), (4, .ref 46), (5, .int v5), (6, .int x.2)] [] σ := by
  refine lp_ind (E := fun x : (Int32 × Int32) => Ev M_X1_mostDone 4 r τ 73 [(3, .int x.1), (4, .ref 46), (5, .int v5), (6, .int x.2)] [] σ) (fun x => ⟨fun y hb hy => ?_, fun hb => ?_⟩) n x h
  · exact wb_FreeDay_mostDone_73r1 σ v5 x r τ _ hb (fun y' e => by cases e; exact hy) (fun y' e => by cases e)
  · exact wb_FreeDay_mostDone_73r1 σ v5 x r τ _ hb (fun y' e => by cases e) (fun y' e => he y' (Sum.inr.inj e))
set_option maxRecDepth 100000 in
set_option maxHeartbeats 4000000 in
theorem wj_FreeDay_mostDone_21  (σ : Sg) (u0 : Int32) (q : (Int32 × Sg)) (h : (j_FreeDay_mostDone_21  σ u0) = some q) : Ev M_X1_mostDone 4 (some (.int q.1)) q.2 21 [(0, .ref 43)] [.int u0] σ := by
  unfold j_FreeDay_mostDone_21 at h
  refine Ev_istore_n (dt_X1_mostDone.at 11 rfl) (by decide) (ls' := [(2, .int u0), (0, .ref 43)]) rfl ?_
  refine Ev_aload_n 1 (dt_X1_mostDone.at 12 rfl) rfl ?_
  by_cases c4 : gR σ 43 2 = 45
  · replace h := oPos h c4
    refine Ev_get (i := 2) (v := .ref 45) (dt_X1_mostDone.at 13 rfl) ff_X1_15 sk_43 rfl (congrArg Value.ref c4) ?_
    refine Ev_iconst (dt_X1_mostDone.at 14 rfl) ki_m1 ?_
    obtain ⟨q5, hq5, h⟩ := oBind h
    refine Ev_callS (st := []) (st' := []) [.ref 45, .int (-1)] (dt_X1_mostDone.at 15 rfl) cf_X1_35 (w_Arrays_fill_45 σ (-1) q5 hq5) (by decide) rfl rfl (Nat.le_of_ble_eq_true rfl) rfl ?_
    refine Ev_aload_n 1 (dt_X1_mostDone.at 16 rfl) rfl ?_
    by_cases c6 : gR q5 43 2 = 45
    · replace h := oPos h c6
      refine Ev_get (i := 2) (v := .ref 45) (dt_X1_mostDone.at 17 rfl) ff_X1_15 sk_43 rfl (congrArg Value.ref c6) ?_
      refine Ev_iconst (dt_X1_mostDone.at 18 rfl) ki_0 ?_
      refine Ev_iconst (dt_X1_mostDone.at 19 rfl) ki_0 ?_
      refine Ev_iastore 45 (dt_X1_mostDone.at 20 rfl) sk_45 ib_0_384 ?_
      refine Ev_nmS (fun s7 es7 => ?_)
      replace h := oLt h es7
      refine Ev_iconst (dt_X1_mostDone.at 21 rfl) ki_0 ?_
      refine Ev_istore_n (dt_X1_mostDone.at 22 rfl) (by decide) (ls' := [(3, .int 0), (2, .int u0), (0, .ref 43)]) rfl ?_
      refine Ev_sub [2, 1, 0] (ls' := [(0, .ref 43), (2, .int u0), (3, .int 0)]) rfl ?_
      obtain ⟨o11, ho11, h⟩ := oBind h
      refine wl_FreeDay_mostDone_39 u0 _ _ 100000 (s7, 0) o11 ho11 (fun y ey => ?_)
      subst ey
      refine Ev_iconst (dt_X1_mostDone.at 32 rfl) ki_0 ?_
      refine Ev_istore_n (dt_X1_mostDone.at 33 rfl) (by decide) (ls' := [(3, .int 0), (0, .ref 43)]) rfl ?_
      refine Ev_aload_n 1 (dt_X1_mostDone.at 34 rfl) rfl ?_
      by_cases c12 : gR o11.1 43 2 = 45
      · replace h := oPos h c12
        refine Ev_get (i := 2) (v := .ref 45) (dt_X1_mostDone.at 35 rfl) ff_X1_15 sk_43 rfl (congrArg Value.ref c12) ?_
        refine Ev_astore (dt_X1_mostDone.at 36 rfl) (by decide) (ls' := [(4, .ref 45), (3, .int 0), (0, .ref 43)]) rfl ?_
        refine Ev_aload 0 (dt_X1_mostDone.at 37 rfl) rfl ?_
        refine Ev_alen 45 (dt_X1_mostDone.at 38 rfl) sk_45 (Or.inl rfl) kn_384 ?_
        refine Ev_istore (dt_X1_mostDone.at 39 rfl) (by decide) (ls' := [(5, .int 384), (4, .ref 45), (3, .int 0), (0, .ref 43)]) rfl ?_
        refine Ev_iconst (dt_X1_mostDone.at 40 rfl) ki_0 ?_
        refine Ev_istore (dt_X1_mostDone.at 41 rfl) (by decide) (ls' := [(6, .int 0), (5, .int 384), (4, .ref 45), (3, .int 0), (0, .ref 43)]) rfl ?_
        refine Ev_sub [3, 2, 1, 0] (ls' := [(3, .int 0), (4, .ref 45), (5, .int 384), (6, .int 0)]) rfl ?_
        obtain ⟨o18, ho18, h⟩ := oBind h
        refine wl_FreeDay_mostDone_73 o11.1 384 _ _ 100000 (0, 0) o18 ho18 (fun y ey => ?_)
        subst ey
        refine Ev_iload_n 0 (dt_X1_mostDone.at 55 rfl) rfl ?_
        exact Ev_iret (dt_X1_mostDone.at 56 rfl) rfl h
      replace h := oNeg h c12
      obtain ⟨c19, h⟩ := oGuard h
      refine Ev_get (i := 2) (v := .ref 46) (dt_X1_mostDone.at 35 rfl) ff_X1_15 sk_43 rfl (congrArg Value.ref c19) ?_
      refine Ev_astore (dt_X1_mostDone.at 36 rfl) (by decide) (ls' := [(4, .ref 46), (3, .int 0), (0, .ref 43)]) rfl ?_
      refine Ev_aload 0 (dt_X1_mostDone.at 37 rfl) rfl ?_
      refine Ev_alen 46 (dt_X1_mostDone.at 38 rfl) sk_46 (Or.inl rfl) kn_384 ?_
      refine Ev_istore (dt_X1_mostDone.at 39 rfl) (by decide) (ls' := [(5, .int 384), (4, .ref 46), (3, .int 0), (0, .ref 43)]) rfl ?_
      refine Ev_iconst (dt_X1_mostDone.at 40 rfl) ki_0 ?_
      refine Ev_istore (dt_X1_mostDone.at 41 rfl) (by decide) (ls' := [(6, .int 0), (5, .int 384), (4, .ref 46), (3, .int 0), (0, .ref 43)]) rfl ?_
      refine Ev_sub [3, 2, 1, 0] (ls' := [(3, .int 0), (4, .ref 46), (5, .int 384), (6, .int 0)]) rfl ?_
      obtain ⟨o25, ho25, h⟩ := oBind h
      refine wl_FreeDay_mostDone_73r1 o11.1 384 _ _ 100000 (0, 0) o25 ho25 (fun y ey => ?_)
      subst ey
      refine Ev_iload_n 0 (dt_X1_mostDone.at 55 rfl) rfl ?_
      exact Ev_iret (dt_X1_mostDone.at 56 rfl) rfl h
    replace h := oNeg h c6
    obtain ⟨c26, h⟩ := oGuard h
    refine Ev_get (i := 2) (v := .ref 46) (dt_X1_mostDone.at 17 rfl) ff_X1_15 sk_43 rfl (congrArg Value.ref c26) ?_
    refine Ev_iconst (dt_X1_mostDone.at 18 rfl) ki_0 ?_
    refine Ev_iconst (dt_X1_mostDone.at 19 rfl) ki_0 ?_
    refine Ev_iastore 46 (dt_X1_mostDone.at 20 rfl) sk_46 ib_0_384 ?_
    refine Ev_nmS (fun s27 es27 => ?_)
    replace h := oLt h es27
    refine Ev_iconst (dt_X1_mostDone.at 21 rfl) ki_0 ?_
    refine Ev_istore_n (dt_X1_mostDone.at 22 rfl) (by decide) (ls' := [(3, .int 0), (2, .int u0), (0, .ref 43)]) rfl ?_
    refine Ev_sub [2, 1, 0] (ls' := [(0, .ref 43), (2, .int u0), (3, .int 0)]) rfl ?_
    obtain ⟨o28, ho28, h⟩ := oBind h
    refine wl_FreeDay_mostDone_39 u0 _ _ 100000 (s27, 0) o28 ho28 (fun y ey => ?_)
    subst ey
    refine Ev_iconst (dt_X1_mostDone.at 32 rfl) ki_0 ?_
    refine Ev_istore_n (dt_X1_mostDone.at 33 rfl) (by decide) (ls' := [(3, .int 0), (0, .ref 43)]) rfl ?_
    refine Ev_aload_n 1 (dt_X1_mostDone.at 34 rfl) rfl ?_
    by_cases c29 : gR o28.1 43 2 = 45
    · replace h := oPos h c29
      refine Ev_get (i := 2) (v := .ref 45) (dt_X1_mostDone.at 35 rfl) ff_X1_15 sk_43 rfl (congrArg Value.ref c29) ?_
      refine Ev_astore (dt_X1_mostDone.at 36 rfl) (by decide) (ls' := [(4, .ref 45), (3, .int 0), (0, .ref 43)]) rfl ?_
      refine Ev_aload 0 (dt_X1_mostDone.at 37 rfl) rfl ?_
      refine Ev_alen 45 (dt_X1_mostDone.at 38 rfl) sk_45 (Or.inl rfl) kn_384 ?_
      refine Ev_istore (dt_X1_mostDone.at 39 rfl) (by decide) (ls' := [(5, .int 384), (4, .ref 45), (3, .int 0), (0, .ref 43)]) rfl ?_
      refine Ev_iconst (dt_X1_mostDone.at 40 rfl) ki_0 ?_
      refine Ev_istore (dt_X1_mostDone.at 41 rfl) (by decide) (ls' := [(6, .int 0), (5, .int 384), (4, .ref 45), (3, .int 0), (0, .ref 43)]) rfl ?_
      refine Ev_sub [3, 2, 1, 0] (ls' := [(3, .int 0), (4, .ref 45), (5, .int 384), (6, .int 0)]) rfl ?_
      obtain ⟨o30, ho30, h⟩ := oBind h
      refine wl_FreeDay_mostDone_73 o28.1 384 _ _ 100000 (0, 0) o30 ho30 (fun y ey => ?_)
      subst ey
      refine Ev_iload_n 0 (dt_X1_mostDone.at 55 rfl) rfl ?_
      exact Ev_iret (dt_X1_mostDone.at 56 rfl) rfl h
    replace h := oNeg h c29
    obtain ⟨c31, h⟩ := oGuard h
    refine Ev_get (i := 2) (v := .ref 46) (dt_X1_mostDone.at 35 rfl) ff_X1_15 sk_43 rfl (congrArg Value.ref c31) ?_
    refine Ev_astore (dt_X1_mostDone.at 36 rfl) (by decide) (ls' := [(4, .ref 46), (3, .int 0), (0, .ref 43)]) rfl ?_
    refine Ev_aload 0 (dt_X1_mostDone.at 37 rfl) rfl ?_
    refine Ev_alen 46 (dt_X1_mostDone.at 38 rfl) sk_46 (Or.inl rfl) kn_384 ?_
    refine Ev_istore (dt_X1_mostDone.at 39 rfl) (by decide) (ls' := [(5, .int 384), (4, .ref 46), (3, .int 0), (0, .ref 43)]) rfl ?_
    refine Ev_iconst (dt_X1_mostDone.at 40 rfl) ki_0 ?_
    refine Ev_istore (dt_X1_mostDone.at 41 rfl) (by decide) (ls' := [(6, .int 0), (5, .int 384), (4, .ref 46), (3, .int 0), (0, .ref 43)]) rfl ?_
    refine Ev_sub [3, 2, 1, 0] (ls' := [(3, .int 0), (4, .ref 46), (5, .int 384), (6, .int 0)]) rfl ?_
    obtain ⟨o32, ho32, h⟩ := oBind h
    refine wl_FreeDay_mostDone_73r1 o28.1 384 _ _ 100000 (0, 0) o32 ho32 (fun y ey => ?_)
    subst ey
    refine Ev_iload_n 0 (dt_X1_mostDone.at 55 rfl) rfl ?_
    exact Ev_iret (dt_X1_mostDone.at 56 rfl) rfl h
  replace h := oNeg h c4
  obtain ⟨c33, h⟩ := oGuard h
  refine Ev_get (i := 2) (v := .ref 46) (dt_X1_mostDone.at 13 rfl) ff_X1_15 sk_43 rfl (congrArg Value.ref c33) ?_
  refine Ev_iconst (dt_X1_mostDone.at 14 rfl) ki_m1 ?_
  obtain ⟨q34, hq34, h⟩ := oBind h
  refine Ev_callS (st := []) (st' := []) [.ref 46, .int (-1)] (dt_X1_mostDone.at 15 rfl) cf_X1_35 (w_Arrays_fill_46 σ (-1) q34 hq34) (by decide) rfl rfl (Nat.le_of_ble_eq_true rfl) rfl ?_
  refine Ev_aload_n 1 (dt_X1_mostDone.at 16 rfl) rfl ?_
  by_cases c35 : gR q34 43 2 = 45
  · replace h := oPos h c35
    refine Ev_get (i := 2) (v := .ref 45) (dt_X1_mostDone.at 17 rfl) ff_X1_15 sk_43 rfl (congrArg Value.ref c35) ?_
    refine Ev_iconst (dt_X1_mostDone.at 18 rfl) ki_0 ?_
    refine Ev_iconst (dt_X1_mostDone.at 19 rfl) ki_0 ?_
    refine Ev_iastore 45 (dt_X1_mostDone.at 20 rfl) sk_45 ib_0_384 ?_
    refine Ev_nmS (fun s36 es36 => ?_)
    replace h := oLt h es36
    refine Ev_iconst (dt_X1_mostDone.at 21 rfl) ki_0 ?_
    refine Ev_istore_n (dt_X1_mostDone.at 22 rfl) (by decide) (ls' := [(3, .int 0), (2, .int u0), (0, .ref 43)]) rfl ?_
    refine Ev_sub [2, 1, 0] (ls' := [(0, .ref 43), (2, .int u0), (3, .int 0)]) rfl ?_
    obtain ⟨o37, ho37, h⟩ := oBind h
    refine wl_FreeDay_mostDone_39 u0 _ _ 100000 (s36, 0) o37 ho37 (fun y ey => ?_)
    subst ey
    refine Ev_iconst (dt_X1_mostDone.at 32 rfl) ki_0 ?_
    refine Ev_istore_n (dt_X1_mostDone.at 33 rfl) (by decide) (ls' := [(3, .int 0), (0, .ref 43)]) rfl ?_
    refine Ev_aload_n 1 (dt_X1_mostDone.at 34 rfl) rfl ?_
    by_cases c38 : gR o37.1 43 2 = 45
    · replace h := oPos h c38
      refine Ev_get (i := 2) (v := .ref 45) (dt_X1_mostDone.at 35 rfl) ff_X1_15 sk_43 rfl (congrArg Value.ref c38) ?_
      refine Ev_astore (dt_X1_mostDone.at 36 rfl) (by decide) (ls' := [(4, .ref 45), (3, .int 0), (0, .ref 43)]) rfl ?_
      refine Ev_aload 0 (dt_X1_mostDone.at 37 rfl) rfl ?_
      refine Ev_alen 45 (dt_X1_mostDone.at 38 rfl) sk_45 (Or.inl rfl) kn_384 ?_
      refine Ev_istore (dt_X1_mostDone.at 39 rfl) (by decide) (ls' := [(5, .int 384), (4, .ref 45), (3, .int 0), (0, .ref 43)]) rfl ?_
      refine Ev_iconst (dt_X1_mostDone.at 40 rfl) ki_0 ?_
      refine Ev_istore (dt_X1_mostDone.at 41 rfl) (by decide) (ls' := [(6, .int 0), (5, .int 384), (4, .ref 45), (3, .int 0), (0, .ref 43)]) rfl ?_
      refine Ev_sub [3, 2, 1, 0] (ls' := [(3, .int 0), (4, .ref 45), (5, .int 384), (6, .int 0)]) rfl ?_
      obtain ⟨o39, ho39, h⟩ := oBind h
      refine wl_FreeDay_mostDone_73 o37.1 384 _ _ 100000 (0, 0) o39 ho39 (fun y ey => ?_)
      subst ey
      refine Ev_iload_n 0 (dt_X1_mostDone.at 55 rfl) rfl ?_
      exact Ev_iret (dt_X1_mostDone.at 56 rfl) rfl h
    replace h := oNeg h c38
    obtain ⟨c40, h⟩ := oGuard h
    refine Ev_get (i := 2) (v := .ref 46) (dt_X1_mostDone.at 35 rfl) ff_X1_15 sk_43 rfl (congrArg Value.ref c40) ?_
    refine Ev_astore (dt_X1_mostDone.at 36 rfl) (by decide) (ls' := [(4, .ref 46), (3, .int 0), (0, .ref 43)]) rfl ?_
    refine Ev_aload 0 (dt_X1_mostDone.at 37 rfl) rfl ?_
    refine Ev_alen 46 (dt_X1_mostDone.at 38 rfl) sk_46 (Or.inl rfl) kn_384 ?_
    refine Ev_istore (dt_X1_mostDone.at 39 rfl) (by decide) (ls' := [(5, .int 384), (4, .ref 46), (3, .int 0), (0, .ref 43)]) rfl ?_
    refine Ev_iconst (dt_X1_mostDone.at 40 rfl) ki_0 ?_
    refine Ev_istore (dt_X1_mostDone.at 41 rfl) (by decide) (ls' := [(6, .int 0), (5, .int 384), (4, .ref 46), (3, .int 0), (0, .ref 43)]) rfl ?_
    refine Ev_sub [3, 2, 1, 0] (ls' := [(3, .int 0), (4, .ref 46), (5, .int 384), (6, .int 0)]) rfl ?_
    obtain ⟨o41, ho41, h⟩ := oBind h
    refine wl_FreeDay_mostDone_73r1 o37.1 384 _ _ 100000 (0, 0) o41 ho41 (fun y ey => ?_)
    subst ey
    refine Ev_iload_n 0 (dt_X1_mostDone.at 55 rfl) rfl ?_
    exact Ev_iret (dt_X1_mostDone.at 56 rfl) rfl h
  replace h := oNeg h c35
  obtain ⟨c42, h⟩ := oGuard h
  refine Ev_get (i := 2) (v := .ref 46) (dt_X1_mostDone.at 17 rfl) ff_X1_15 sk_43 rfl (congrArg Value.ref c42) ?_
  refine Ev_iconst (dt_X1_mostDone.at 18 rfl) ki_0 ?_
  refine Ev_iconst (dt_X1_mostDone.at 19 rfl) ki_0 ?_
  refine Ev_iastore 46 (dt_X1_mostDone.at 20 rfl) sk_46 ib_0_384 ?_
  refine Ev_nmS (fun s43 es43 => ?_)
  replace h := oLt h es43
  refine Ev_iconst (dt_X1_mostDone.at 21 rfl) ki_0 ?_
  refine Ev_istore_n (dt_X1_mostDone.at 22 rfl) (by decide) (ls' := [(3, .int 0), (2, .int u0), (0, .ref 43)]) rfl ?_
  refine Ev_sub [2, 1, 0] (ls' := [(0, .ref 43), (2, .int u0), (3, .int 0)]) rfl ?_
  obtain ⟨o44, ho44, h⟩ := oBind h
  refine wl_FreeDay_mostDone_39 u0 _ _ 100000 (s43, 0) o44 ho44 (fun y ey => ?_)
  subst ey
  refine Ev_iconst (dt_X1_mostDone.at 32 rfl) ki_0 ?_
  refine Ev_istore_n (dt_X1_mostDone.at 33 rfl) (by decide) (ls' := [(3, .int 0), (0, .ref 43)]) rfl ?_
  refine Ev_aload_n 1 (dt_X1_mostDone.at 34 rfl) rfl ?_
  by_cases c45 : gR o44.1 43 2 = 45
  · replace h := oPos h c45
    refine Ev_get (i := 2) (v := .ref 45) (dt_X1_mostDone.at 35 rfl) ff_X1_15 sk_43 rfl (congrArg Value.ref c45) ?_
    refine Ev_astore (dt_X1_mostDone.at 36 rfl) (by decide) (ls' := [(4, .ref 45), (3, .int 0), (0, .ref 43)]) rfl ?_
    refine Ev_aload 0 (dt_X1_mostDone.at 37 rfl) rfl ?_
    refine Ev_alen 45 (dt_X1_mostDone.at 38 rfl) sk_45 (Or.inl rfl) kn_384 ?_
    refine Ev_istore (dt_X1_mostDone.at 39 rfl) (by decide) (ls' := [(5, .int 384), (4, .ref 45), (3, .int 0), (0, .ref 43)]) rfl ?_
    refine Ev_iconst (dt_X1_mostDone.at 40 rfl) ki_0 ?_
    refine Ev_istore (dt_X1_mostDone.at 41 rfl) (by decide) (ls' := [(6, .int 0), (5, .int 384), (4, .ref 45), (3, .int 0), (0, .ref 43)]) rfl ?_
    refine Ev_sub [3, 2, 1, 0] (ls' := [(3, .int 0), (4, .ref 45), (5, .int 384), (6, .int 0)]) rfl ?_
    obtain ⟨o46, ho46, h⟩ := oBind h
    refine wl_FreeDay_mostDone_73 o44.1 384 _ _ 100000 (0, 0) o46 ho46 (fun y ey => ?_)
    subst ey
    refine Ev_iload_n 0 (dt_X1_mostDone.at 55 rfl) rfl ?_
    exact Ev_iret (dt_X1_mostDone.at 56 rfl) rfl h
  replace h := oNeg h c45
  obtain ⟨c47, h⟩ := oGuard h
  refine Ev_get (i := 2) (v := .ref 46) (dt_X1_mostDone.at 35 rfl) ff_X1_15 sk_43 rfl (congrArg Value.ref c47) ?_
  refine Ev_astore (dt_X1_mostDone.at 36 rfl) (by decide) (ls' := [(4, .ref 46), (3, .int 0), (0, .ref 43)]) rfl ?_
  refine Ev_aload 0 (dt_X1_mostDone.at 37 rfl) rfl ?_
  refine Ev_alen 46 (dt_X1_mostDone.at 38 rfl) sk_46 (Or.inl rfl) kn_384 ?_
  refine Ev_istore (dt_X1_mostDone.at 39 rfl) (by decide) (ls' := [(5, .int 384), (4, .ref 46), (3, .int 0), (0, .ref 43)]) rfl ?_
  refine Ev_iconst (dt_X1_mostDone.at 40 rfl) ki_0 ?_
  refine Ev_istore (dt_X1_mostDone.at 41 rfl) (by decide) (ls' := [(6, .int 0), (5, .int 384), (4, .ref 46), (3, .int 0), (0, .ref 43)]) rfl ?_
  refine Ev_sub [3, 2, 1, 0] (ls' := [(3, .int 0), (4, .ref 46), (5, .int 384), (6, .int 0)]) rfl ?_
  obtain ⟨o48, ho48, h⟩ := oBind h
  refine wl_FreeDay_mostDone_73r1 o44.1 384 _ _ 100000 (0, 0) o48 ho48 (fun y ey => ?_)
  subst ey
  refine Ev_iload_n 0 (dt_X1_mostDone.at 55 rfl) rfl ?_
  exact Ev_iret (dt_X1_mostDone.at 56 rfl) rfl h
set_option maxRecDepth 100000 in
set_option maxHeartbeats 4000000 in
theorem w_FreeDay_mostDone (σ : Sg) (a1 : Int32) (q : (Int32 × Sg)) (h : s_FreeDay_mostDone σ a1 = some q) : Cal M_X1_mostDone 4 [.ref 43, .int a1] σ (some (.int q.1)) q.2 := by
  refine Cal.of (M := M_X1_mostDone) (by decide +kernel) (Nat.le_of_ble_eq_true rfl) ?_
  show Ev _ _ _ _ 0 [(0, .ref 43), (1, .int a1)] [] σ
  unfold s_FreeDay_mostDone at h
  refine Ev_aload_n 0 (dt_X1_mostDone.at 0 rfl) rfl ?_
  refine Ev_iload_n 1 (dt_X1_mostDone.at 1 rfl) rfl ?_
  obtain ⟨q1, hq1, h⟩ := oBind h
  refine Ev_callV (st := []) (st' := []) [.int a1] (dt_X1_mostDone.at 2 rfl) cf_X1_25 (w_FreeDay_weigh σ a1 q1 hq1) (by decide) sk_43 rfl rfl rfl (Nat.le_of_ble_eq_true rfl) rfl ?_
  refine Ev_aload_n 0 (dt_X1_mostDone.at 3 rfl) rfl ?_
  refine Ev_get (i := 0) (v := .ref 19) (dt_X1_mostDone.at 4 rfl) ff_X1_21 sk_43 rfl rfl ?_
  refine Ev_iload_n 1 (dt_X1_mostDone.at 5 rfl) rfl ?_
  obtain ⟨q2, hq2, h⟩ := oBind h
  refine Ev_callV (st := []) (st' := [.int q2]) [.int a1] (dt_X1_mostDone.at 6 rfl) cf_X1_29 (w_Town_isQuick q1 a1 q2 hq2) (by decide) sk_19 rfl rfl rfl (Nat.le_of_ble_eq_true rfl) rfl ?_
  refine Ev_if_eq (tgt := 20) (dt_X1_mostDone.at 7 rfl) (by decide) (fun c3 => ?_) (fun c3 => ?_)
  · replace h := oPos h c3
    refine Ev_iconst (dt_X1_mostDone.at 10 rfl) ki_1 ?_
    refine Ev_sub [0] (ls' := [(0, .ref 43)]) rfl ?_
    exact wj_FreeDay_mostDone_21  q1 1 q h
  · replace h := oNeg h c3
    refine Ev_iconst (dt_X1_mostDone.at 8 rfl) ki_2 ?_
    refine Ev_goto (tgt := 21) (dt_X1_mostDone.at 9 rfl) (by decide) ?_
    refine Ev_sub [0] (ls' := [(0, .ref 43)]) rfl ?_
    exact wj_FreeDay_mostDone_21  q1 2 q h
