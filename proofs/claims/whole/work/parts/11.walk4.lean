def b_Day_doErrands_30 (v2 : Int32) (v3 : Int32) (v4 : Int32) (v5 : Int32) (x : (Sg × Int32)) : Option ((Sg × Int32) ⊕ (Sg × Int32)) :=
  if inB v4 9 = true then
    if (v5 + (gI x.1 22 (Int32.toNatClampNeg v4))) ≤ x.2 then
      some (.inr (x.1, x.2))
    else
      if inB x.2 36 = true then
        if (gI x.1 23 (Int32.toNatClampNeg x.2)) = (gI x.1 31 8) then
          (s_Day_isOpen x.1 x.2).bind fun q10 =>
          if q10 = 0 then
            lt (x.2 + 1 : Int32) fun x12 =>
            some (.inl (x.1, x12))
          else
            if inB x.2 36 = true then
              lt (pI x.1 36 (Int32.toNatClampNeg x.2) (1 &&& 1) : Sg) fun s14 =>
              lt (pI s14 31 9 ((gI s14 31 9) + 1) : Sg) fun s15 =>
              lt (x.2 + 1 : Int32) fun x16 =>
              some (.inl (s15, x16))
            else none
        else
          lt (x.2 + 1 : Int32) fun x9 =>
          some (.inl (x.1, x9))
      else none
  else none
def b_Day_doErrands_10 (v2 : Int32) (x : (Sg × Int32)) : Option ((Sg × Int32) ⊕ (Sg × Int32)) :=
  if v2 ≤ x.2 then
    some (.inr (x.1, x.2))
  else
    if inB x.2 3 = true then
      lt ((gI x.1 33 (Int32.toNatClampNeg x.2)) : Int32) fun x3 =>
      lt ((x3 * 4) : Int32) fun x4 =>
      (lp (b_Day_doErrands_30 v2 x.2 x3 x4) 100000 (x.1, x4)).bind fun o17 =>
      lt (x.2 + 1 : Int32) fun x18 =>
      some (.inl (o17.1, x18))
    else none
def s_Day_doErrands (σ : Sg)  : Option Sg :=
  (lp (b_Day_doErrands_10 3) 100000 (σ, 0)).bind fun o19 =>
  some o19.1
set_option maxRecDepth 100000 in
set_option maxHeartbeats 4000000 in
theorem wb_Day_doErrands_30 (v2 : Int32) (v3 : Int32) (v4 : Int32) (v5 : Int32) (x : (Sg × Int32)) (r : Option Value) (τ : Sg) (o : ((Sg × Int32) ⊕ (Sg × Int32))) (h : (b_Day_doErrands_30 v2 v3 v4 v5 x) = some o) (hc : ∀ y : (Sg × Int32), o = .inl y → Ev M_X0_doErrands 1 r τ 30 [(0, .ref 31), (1, .ref 33), (2, .int v2), (3, .int v3), (4, .int v4), (5, .int v5), (6, .int y.2)] [] y.1) (he : ∀ y : (Sg × Int32), o = .inr y → Ev M_X0_doErrands 1 r τ 98 [(0, .ref 31), (1, .ref 33), (2, .int v2), (3, .int v3)] [] y.1) : Ev M_X0_doErrands 1 r τ 30 [(0, .ref 31), (1, .ref 33), (2, .int v2), (3, .int v3), (4, .int v4), (5, .int v5), (6, .int x.2)] [] x.1 := by
  unfold b_Day_doErrands_30 at h
  refine Ev_iload 6 (dt_X0_doErrands.at 21 rfl) rfl ?_
  refine Ev_iload 5 (dt_X0_doErrands.at 22 rfl) rfl ?_
  refine Ev_aload_n 0 (dt_X0_doErrands.at 23 rfl) rfl ?_
  refine Ev_get (i := 0) (v := .ref 19) (dt_X0_doErrands.at 24 rfl) ff_X0_34 sk_31 rfl rfl ?_
  refine Ev_get (i := 2) (v := .ref 22) (dt_X0_doErrands.at 25 rfl) ff_X0_93 sk_19 rfl rfl ?_
  refine Ev_iload 4 (dt_X0_doErrands.at 26 rfl) rfl ?_
  obtain ⟨g5, h⟩ := oGuard h
  refine Ev_iaload 22 (dt_X0_doErrands.at 27 rfl) sk_22 g5 ?_
  refine Ev_iadd (dt_X0_doErrands.at 28 rfl) ?_
  refine Ev_icmp_ge (tgt := 98) (dt_X0_doErrands.at 29 rfl) (by decide) (fun c6 => ?_) (fun c6 => ?_)
  · replace h := oPos h c6
    refine Ev_sub [0, 1, 2, 3] (ls' := [(0, .ref 31), (1, .ref 33), (2, .int v2), (3, .int v3)]) rfl ?_
    exact he (x.1, x.2) (Option.some.inj h).symm
  · replace h := oNeg h c6
    refine Ev_aload_n 0 (dt_X0_doErrands.at 30 rfl) rfl ?_
    refine Ev_get (i := 0) (v := .ref 19) (dt_X0_doErrands.at 31 rfl) ff_X0_34 sk_31 rfl rfl ?_
    refine Ev_get (i := 3) (v := .ref 23) (dt_X0_doErrands.at 32 rfl) ff_X0_99 sk_19 rfl rfl ?_
    refine Ev_iload 6 (dt_X0_doErrands.at 33 rfl) rfl ?_
    obtain ⟨g7, h⟩ := oGuard h
    refine Ev_iaload 23 (dt_X0_doErrands.at 34 rfl) sk_23 g7 ?_
    refine Ev_aload_n 0 (dt_X0_doErrands.at 35 rfl) rfl ?_
    refine Ev_get (i := 8) (v := .int (gI x.1 31 8)) (dt_X0_doErrands.at 36 rfl) ff_X0_78 sk_31 rfl rfl ?_
    refine Ev_icmp_ne (tgt := 92) (dt_X0_doErrands.at 37 rfl) (by decide) (fun c8 => ?_) (fun c8 => ?_)
    · replace h := oNeg h c8
      obtain ⟨x9, ex9⟩ : ∃ z : Int32, z = x.2 + 1 := ⟨_, rfl⟩
      replace h := oLt h ex9
      refine Ev_iinc (v := x9) 6 (dt_X0_doErrands.at 53 rfl) rfl (ex9.trans (congrArg (fun z => x.2 + z) ki_1.symm)) (by decide) (ls' := [(6, .int x9), (0, .ref 31), (1, .ref 33), (2, .int v2), (3, .int v3), (4, .int v4), (5, .int v5)]) rfl ?_
      refine Ev_goto (tgt := 30) (dt_X0_doErrands.at 54 rfl) (by decide) ?_
      refine Ev_sub [1, 2, 3, 4, 5, 6, 0] (ls' := [(0, .ref 31), (1, .ref 33), (2, .int v2), (3, .int v3), (4, .int v4), (5, .int v5), (6, .int x9)]) rfl ?_
      exact hc (x.1, x9) (Option.some.inj h).symm
    · replace h := oPos h c8
      refine Ev_aload_n 0 (dt_X0_doErrands.at 38 rfl) rfl ?_
      refine Ev_iload 6 (dt_X0_doErrands.at 39 rfl) rfl ?_
      obtain ⟨q10, hq10, h⟩ := oBind h
      refine Ev_callV (st := []) (st' := [.int q10]) [.int x.2] (dt_X0_doErrands.at 40 rfl) cf_X0_96 (w_Day_isOpen x.1 x.2 q10 hq10) (by decide) sk_31 rfl rfl rfl (Nat.le_of_ble_eq_true rfl) rfl ?_
      refine Ev_if_eq (tgt := 92) (dt_X0_doErrands.at 41 rfl) (by decide) (fun c11 => ?_) (fun c11 => ?_)
      · replace h := oPos h c11
        obtain ⟨x12, ex12⟩ : ∃ z : Int32, z = x.2 + 1 := ⟨_, rfl⟩
        replace h := oLt h ex12
        refine Ev_iinc (v := x12) 6 (dt_X0_doErrands.at 53 rfl) rfl (ex12.trans (congrArg (fun z => x.2 + z) ki_1.symm)) (by decide) (ls' := [(6, .int x12), (0, .ref 31), (1, .ref 33), (2, .int v2), (3, .int v3), (4, .int v4), (5, .int v5)]) rfl ?_
        refine Ev_goto (tgt := 30) (dt_X0_doErrands.at 54 rfl) (by decide) ?_
        refine Ev_sub [1, 2, 3, 4, 5, 6, 0] (ls' := [(0, .ref 31), (1, .ref 33), (2, .int v2), (3, .int v3), (4, .int v4), (5, .int v5), (6, .int x12)]) rfl ?_
        exact hc (x.1, x12) (Option.some.inj h).symm
      · replace h := oNeg h c11
        refine Ev_aload_n 0 (dt_X0_doErrands.at 42 rfl) rfl ?_
        refine Ev_get (i := 5) (v := .ref 36) (dt_X0_doErrands.at 43 rfl) ff_X0_28 sk_31 rfl rfl ?_
        refine Ev_iload 6 (dt_X0_doErrands.at 44 rfl) rfl ?_
        refine Ev_iconst (dt_X0_doErrands.at 45 rfl) ki_1 ?_
        obtain ⟨g13, h⟩ := oGuard h
        refine Ev_bastore 36 (dt_X0_doErrands.at 46 rfl) sk_36 g13 ?_
        refine Ev_nmS (fun s14 es14 => ?_)
        replace h := oLt h es14
        refine Ev_aload_n 0 (dt_X0_doErrands.at 47 rfl) rfl ?_
        refine Ev_dup (dt_X0_doErrands.at 48 rfl) rfl ?_
        refine Ev_get (i := 9) (v := .int (gI s14 31 9)) (dt_X0_doErrands.at 49 rfl) ff_X0_81 sk_31 rfl rfl ?_
        refine Ev_iconst (dt_X0_doErrands.at 50 rfl) ki_1 ?_
        refine Ev_iadd (dt_X0_doErrands.at 51 rfl) ?_
        refine Ev_putI (dt_X0_doErrands.at 52 rfl) ff_X0_81 fw_0_9 sk_31 rfl ?_
        refine Ev_nmS (fun s15 es15 => ?_)
        replace h := oLt h es15
        obtain ⟨x16, ex16⟩ : ∃ z : Int32, z = x.2 + 1 := ⟨_, rfl⟩
        replace h := oLt h ex16
        refine Ev_iinc (v := x16) 6 (dt_X0_doErrands.at 53 rfl) rfl (ex16.trans (congrArg (fun z => x.2 + z) ki_1.symm)) (by decide) (ls' := [(6, .int x16), (0, .ref 31), (1, .ref 33), (2, .int v2), (3, .int v3), (4, .int v4), (5, .int v5)]) rfl ?_
        refine Ev_goto (tgt := 30) (dt_X0_doErrands.at 54 rfl) (by decide) ?_
        refine Ev_sub [1, 2, 3, 4, 5, 6, 0] (ls' := [(0, .ref 31), (1, .ref 33), (2, .int v2), (3, .int v3), (4, .int v4), (5, .int v5), (6, .int x16)]) rfl ?_
        exact hc (s15, x16) (Option.some.inj h).symm
set_option maxRecDepth 100000 in
set_option maxHeartbeats 4000000 in
theorem wl_Day_doErrands_30 (v2 : Int32) (v3 : Int32) (v4 : Int32) (v5 : Int32) (r : Option Value) (τ : Sg) (n : Nat) (x : (Sg × Int32)) (z : (Sg × Int32)) (h : lp (b_Day_doErrands_30 v2 v3 v4 v5) n x = some z) (he : ∀ y : (Sg × Int32), z = y → Ev M_X0_doErrands 1 r τ 98 [(0, .ref 31), (1, .ref 33), (2, .int v2), (3, .int v3)] [] y.1) : Ev M_X0_doErrands 1 r τ 30 [(0, .ref 31), (1, .ref 33), (2, .int v2), (3, .int v3), (4, .int v4), (5, .int v5), (6, .int x.2)] [] x.1 := by
  refine lp_ind (E := fun x : (Sg × Int32) => Ev M_X0_doErrands 1 r τ 30 [(0, .ref 31), (1, .ref 33), (2, .int v2), (3, .int v3), (4, .int v4), (5, .int v5), (6, .int x.2)] [] x.1) (fun x => ⟨fun y hb hy => ?_, fun hb => ?_⟩) n x h
  · exact wb_Day_doErrands_30 v2 v3 v4 v5 x r τ _ hb (fun y' e => by cases e; exact hy) (fun y' e => by cases e)
  · exact wb_Day_doErrands_30 v2 v3 v4 v5 x r τ _ hb (fun y' e => by cases e) (fun y' e => he y' (Sum.inr.inj e))
set_option maxRecDepth 100000 in
set_option maxHeartbeats 4000000 in
theorem wb_Day_doErrands_10 (v2 : Int32) (x : (Sg × Int32)) (r : Option Value) (τ : Sg) (o : ((Sg × Int32) ⊕ (Sg × Int32))) (h : (b_Day_doErrands_10 v2 x) = some o) (hc : ∀ y : (Sg × Int32), o = .inl y → Ev M_X0_doErrands 1 r τ 10 [(0, .ref 31), (1, .ref 33), (2, .int v2), (3, .int y.2)] [] y.1) (he : ∀ y : (Sg × Int32), o = .inr y → Ev M_X0_doErrands 1 r τ 104 [] [] y.1) : Ev M_X0_doErrands 1 r τ 10 [(0, .ref 31), (1, .ref 33), (2, .int v2), (3, .int x.2)] [] x.1 := by
  unfold b_Day_doErrands_10 at h
  refine Ev_iload_n 3 (dt_X0_doErrands.at 8 rfl) rfl ?_
  refine Ev_iload_n 2 (dt_X0_doErrands.at 9 rfl) rfl ?_
  refine Ev_icmp_ge (tgt := 104) (dt_X0_doErrands.at 10 rfl) (by decide) (fun c1 => ?_) (fun c1 => ?_)
  · replace h := oPos h c1
    refine Ev_sub [] (ls' := []) rfl ?_
    exact he (x.1, x.2) (Option.some.inj h).symm
  · replace h := oNeg h c1
    refine Ev_aload_n 1 (dt_X0_doErrands.at 11 rfl) rfl ?_
    refine Ev_iload_n 3 (dt_X0_doErrands.at 12 rfl) rfl ?_
    obtain ⟨g2, h⟩ := oGuard h
    refine Ev_iaload 33 (dt_X0_doErrands.at 13 rfl) sk_33 g2 ?_
    refine Ev_nmI (fun x3 ex3 => ?_)
    replace h := oLt h ex3
    refine Ev_istore (dt_X0_doErrands.at 14 rfl) (by decide) (ls' := [(4, .int x3), (0, .ref 31), (1, .ref 33), (2, .int v2), (3, .int x.2)]) rfl ?_
    refine Ev_iload 0 (dt_X0_doErrands.at 15 rfl) rfl ?_
    refine Ev_iconst (dt_X0_doErrands.at 16 rfl) ki_4 ?_
    refine Ev_imul (dt_X0_doErrands.at 17 rfl) ?_
    refine Ev_nmI (fun x4 ex4 => ?_)
    replace h := oLt h ex4
    refine Ev_istore (dt_X0_doErrands.at 18 rfl) (by decide) (ls' := [(5, .int x4), (4, .int x3), (0, .ref 31), (1, .ref 33), (2, .int v2), (3, .int x.2)]) rfl ?_
    refine Ev_iload 0 (dt_X0_doErrands.at 19 rfl) rfl ?_
    refine Ev_istore (dt_X0_doErrands.at 20 rfl) (by decide) (ls' := [(6, .int x4), (5, .int x4), (4, .int x3), (0, .ref 31), (1, .ref 33), (2, .int v2), (3, .int x.2)]) rfl ?_
    refine Ev_sub [3, 4, 5, 6, 2, 1, 0] (ls' := [(0, .ref 31), (1, .ref 33), (2, .int v2), (3, .int x.2), (4, .int x3), (5, .int x4), (6, .int x4)]) rfl ?_
    obtain ⟨o17, ho17, h⟩ := oBind h
    refine wl_Day_doErrands_30 v2 x.2 x3 x4 _ _ 100000 (x.1, x4) o17 ho17 (fun y ey => ?_)
    subst ey
    obtain ⟨x18, ex18⟩ : ∃ z : Int32, z = x.2 + 1 := ⟨_, rfl⟩
    replace h := oLt h ex18
    refine Ev_iinc (v := x18) 3 (dt_X0_doErrands.at 55 rfl) rfl (ex18.trans (congrArg (fun z => x.2 + z) ki_1.symm)) (by decide) (ls' := [(3, .int x18), (0, .ref 31), (1, .ref 33), (2, .int v2)]) rfl ?_
    refine Ev_goto (tgt := 10) (dt_X0_doErrands.at 56 rfl) (by decide) ?_
    refine Ev_sub [1, 2, 3, 0] (ls' := [(0, .ref 31), (1, .ref 33), (2, .int v2), (3, .int x18)]) rfl ?_
    exact hc (o17.1, x18) (Option.some.inj h).symm
set_option maxRecDepth 100000 in
set_option maxHeartbeats 4000000 in
theorem wl_Day_doErrands_10 (v2 : Int32) (r : Option Value) (τ : Sg) (n : Nat) (x : (Sg × Int32)) (z : (Sg × Int32)) (h : lp (b_Day_doErrands_10 v2) n x = some z) (he : ∀ y : (Sg × Int32), z = y → Ev M_X0_doErrands 1 r τ 104 [] [] y.1) : Ev M_X0_doErrands 1 r τ 10 [(0, .ref 31), (1, .ref 33), (2, .int v2), (3, .int x.2)] [] x.1 := by
  refine lp_ind (E := fun x : (Sg × Int32) => Ev M_X0_doErrands 1 r τ 10 [(0, .ref 31), (1, .ref 33), (2, .int v2), (3, .int x.2)] [] x.1) (fun x => ⟨fun y hb hy => ?_, fun hb => ?_⟩) n x h
  · exact wb_Day_doErrands_10 v2 x r τ _ hb (fun y' e => by cases e; exact hy) (fun y' e => by cases e)
  · exact wb_Day_doErrands_10 v2 x r τ _ hb (fun y' e => by cases e) (fun y' e => he y' (Sum.inr.inj e))
set_option maxRecDepth 100000 in
set_option maxHeartbeats 4000000 in
theorem w_Day_doErrands (σ : Sg)  (q : Sg) (h : s_Day_doErrands σ  = some q) : Cal M_X0_doErrands 1 [.ref 31] σ none q := by
  refine Cal.of (M := M_X0_doErrands) (by decide +kernel) (Nat.le_of_ble_eq_true rfl) ?_
  show Ev _ _ _ _ 0 [(0, .ref 31)] [] σ
  unfold s_Day_doErrands at h
  refine Ev_aload_n 0 (dt_X0_doErrands.at 0 rfl) rfl ?_
  refine Ev_get (i := 2) (v := .ref 33) (dt_X0_doErrands.at 1 rfl) ff_X0_17 sk_31 rfl rfl ?_
  refine Ev_astore_n (dt_X0_doErrands.at 2 rfl) (by decide) (ls' := [(1, .ref 33), (0, .ref 31)]) rfl ?_
  refine Ev_aload_n 0 (dt_X0_doErrands.at 3 rfl) rfl ?_
  refine Ev_alen 33 (dt_X0_doErrands.at 4 rfl) sk_33 (Or.inl rfl) kn_3 ?_
  refine Ev_istore_n (dt_X0_doErrands.at 5 rfl) (by decide) (ls' := [(2, .int 3), (1, .ref 33), (0, .ref 31)]) rfl ?_
  refine Ev_iconst (dt_X0_doErrands.at 6 rfl) ki_0 ?_
  refine Ev_istore_n (dt_X0_doErrands.at 7 rfl) (by decide) (ls' := [(3, .int 0), (2, .int 3), (1, .ref 33), (0, .ref 31)]) rfl ?_
  refine Ev_sub [3, 2, 1, 0] (ls' := [(0, .ref 31), (1, .ref 33), (2, .int 3), (3, .int 0)]) rfl ?_
  obtain ⟨o19, ho19, h⟩ := oBind h
  refine wl_Day_doErrands_10 3 _ _ 100000 (σ, 0) o19 ho19 (fun y ey => ?_)
  subst ey
  exact Ev_vret (dt_X0_doErrands.at 57 rfl) rfl h
def j_Day_pass_53i16 (v2 : Int32) (σ : Sg) (v3 : Int32) : Option ((Sg × Int32) ⊕ (Sg × Int32)) :=
  (s_Day_doErrands σ ).bind fun q9 =>
  if inB v3 10 = true then
    lt (pI q9 37 (Int32.toNatClampNeg v3) (gI q9 31 8) : Sg) fun s11 =>
    lt (v3 + 1 : Int32) fun x12 =>
    some (.inl (s11, x12))
  else none
def b_Day_pass_16 (v2 : Int32) (x : (Sg × Int32)) : Option ((Sg × Int32) ⊕ (Sg × Int32)) :=
  if 10 ≤ x.2 then
    some (.inr (x.1, x.2))
  else
    lt (pI x.1 31 7 x.2 : Sg) fun s4 =>
    (s_Day_lookAround s4 ).bind fun q5 =>
    (s_Day_chosen q5 ).bind fun q6 =>
    (s_Day_stepTowards q5 q6).bind fun q7 =>
    if v2 = 0 then
      j_Day_pass_53i16 v2 q7 x.2
    else
      (s_Day_stepTowards q7 q6).bind fun q13 =>
      j_Day_pass_53i16 v2 q13 x.2
def s_Day_pass (σ : Sg) (a1 : Int32) : Option Sg :=
  (s_Day_begin σ a1).bind fun q1 =>
  (s_Town_isQuick q1 a1).bind fun q2 =>
  (lp (b_Day_pass_16 q2) 100000 (q1, 0)).bind fun o14 =>
  some o14.1
set_option maxRecDepth 100000 in
set_option maxHeartbeats 4000000 in
theorem wj_Day_pass_53i16 (v2 : Int32) (σ : Sg) (v3 : Int32) (r : Option Value) (τ : Sg) (o : ((Sg × Int32) ⊕ (Sg × Int32))) (h : (j_Day_pass_53i16 v2 σ v3) = some o) (hc : ∀ y : (Sg × Int32), o = .inl y → Ev M_X0_pass 4 r τ 16 [(0, .ref 31), (2, .int v2), (3, .int y.2)] [] y.1) (he : ∀ y : (Sg × Int32), o = .inr y → Ev M_X0_pass 4 r τ 73 [] [] y.1) : Ev M_X0_pass 4 r τ 53 [(0, .ref 31), (2, .int v2), (3, .int v3)] [] σ := by
  unfold j_Day_pass_53i16 at h
  refine Ev_aload_n 0 (dt_X0_pass.at 29 rfl) rfl ?_
  obtain ⟨q9, hq9, h⟩ := oBind h
  refine Ev_callV (st := []) (st' := []) [] (dt_X0_pass.at 30 rfl) cf_X0_75 (w_Day_doErrands σ  q9 hq9) (by decide) sk_31 rfl rfl rfl (Nat.le_of_ble_eq_true rfl) rfl ?_
  refine Ev_aload_n 0 (dt_X0_pass.at 31 rfl) rfl ?_
  refine Ev_get (i := 6) (v := .ref 37) (dt_X0_pass.at 32 rfl) ff_X0_31 sk_31 rfl rfl ?_
  refine Ev_iload_n 2 (dt_X0_pass.at 33 rfl) rfl ?_
  refine Ev_aload_n 0 (dt_X0_pass.at 34 rfl) rfl ?_
  refine Ev_get (i := 8) (v := .int (gI q9 31 8)) (dt_X0_pass.at 35 rfl) ff_X0_78 sk_31 rfl rfl ?_
  obtain ⟨g10, h⟩ := oGuard h
  refine Ev_iastore 37 (dt_X0_pass.at 36 rfl) sk_37 g10 ?_
  refine Ev_nmS (fun s11 es11 => ?_)
  replace h := oLt h es11
  obtain ⟨x12, ex12⟩ : ∃ z : Int32, z = v3 + 1 := ⟨_, rfl⟩
  replace h := oLt h ex12
  refine Ev_iinc (v := x12) 2 (dt_X0_pass.at 37 rfl) rfl (ex12.trans (congrArg (fun z => v3 + z) ki_1.symm)) (by decide) (ls' := [(3, .int x12), (0, .ref 31), (2, .int v2)]) rfl ?_
  refine Ev_goto (tgt := 16) (dt_X0_pass.at 38 rfl) (by decide) ?_
  refine Ev_sub [1, 2, 0] (ls' := [(0, .ref 31), (2, .int v2), (3, .int x12)]) rfl ?_
  exact hc (s11, x12) (Option.some.inj h).symm
set_option maxRecDepth 100000 in
set_option maxHeartbeats 4000000 in
theorem wb_Day_pass_16 (v2 : Int32) (x : (Sg × Int32)) (r : Option Value) (τ : Sg) (o : ((Sg × Int32) ⊕ (Sg × Int32))) (h : (b_Day_pass_16 v2 x) = some o) (hc : ∀ y : (Sg × Int32), o = .inl y → Ev M_X0_pass 4 r τ 16 [(0, .ref 31), (2, .int v2), (3, .int y.2)] [] y.1) (he : ∀ y : (Sg × Int32), o = .inr y → Ev M_X0_pass 4 r τ 73 [] [] y.1) : Ev M_X0_pass 4 r τ 16 [(0, .ref 31), (2, .int v2), (3, .int x.2)] [] x.1 := by
  unfold b_Day_pass_16 at h
  refine Ev_iload_n 2 (dt_X0_pass.at 10 rfl) rfl ?_
  refine Ev_bipush (dt_X0_pass.at 11 rfl) kb_10 ?_
  refine Ev_icmp_ge (tgt := 73) (dt_X0_pass.at 12 rfl) (by decide) (fun c3 => ?_) (fun c3 => ?_)
  · replace h := oPos h c3
    refine Ev_sub [] (ls' := []) rfl ?_
    exact he (x.1, x.2) (Option.some.inj h).symm
  · replace h := oNeg h c3
    refine Ev_aload_n 0 (dt_X0_pass.at 13 rfl) rfl ?_
    refine Ev_iload_n 2 (dt_X0_pass.at 14 rfl) rfl ?_
    refine Ev_putI (dt_X0_pass.at 15 rfl) ff_X0_61 fw_0_7 sk_31 rfl ?_
    refine Ev_nmS (fun s4 es4 => ?_)
    replace h := oLt h es4
    refine Ev_aload_n 0 (dt_X0_pass.at 16 rfl) rfl ?_
    obtain ⟨q5, hq5, h⟩ := oBind h
    refine Ev_callV (st := []) (st' := []) [] (dt_X0_pass.at 17 rfl) cf_X0_65 (w_Day_lookAround s4  q5 hq5) (by decide) sk_31 rfl rfl rfl (Nat.le_of_ble_eq_true rfl) rfl ?_
    refine Ev_aload_n 0 (dt_X0_pass.at 18 rfl) rfl ?_
    obtain ⟨q6, hq6, h⟩ := oBind h
    refine Ev_callV (st := []) (st' := [.int q6]) [] (dt_X0_pass.at 19 rfl) cf_X0_68 (w_Day_chosen q5  q6 hq6) (by decide) sk_31 rfl rfl rfl (Nat.le_of_ble_eq_true rfl) rfl ?_
    refine Ev_istore (dt_X0_pass.at 20 rfl) (by decide) (ls' := [(4, .int q6), (0, .ref 31), (2, .int v2), (3, .int x.2)]) rfl ?_
    refine Ev_aload_n 1 (dt_X0_pass.at 21 rfl) rfl ?_
    refine Ev_iload 0 (dt_X0_pass.at 22 rfl) rfl ?_
    obtain ⟨q7, hq7, h⟩ := oBind h
    refine Ev_callV (st := []) (st' := []) [.int q6] (dt_X0_pass.at 23 rfl) cf_X0_72 (w_Day_stepTowards q5 q6 q7 hq7) (by decide) sk_31 rfl rfl rfl (Nat.le_of_ble_eq_true rfl) rfl ?_
    refine Ev_iload_n 2 (dt_X0_pass.at 24 rfl) rfl ?_
    refine Ev_if_eq (tgt := 53) (dt_X0_pass.at 25 rfl) (by decide) (fun c8 => ?_) (fun c8 => ?_)
    · replace h := oPos h c8
      refine Ev_sub [1, 2, 3] (ls' := [(0, .ref 31), (2, .int v2), (3, .int x.2)]) rfl ?_
      exact wj_Day_pass_53i16 v2 q7 x.2 _ _ _ h hc he
    · replace h := oNeg h c8
      refine Ev_aload_n 1 (dt_X0_pass.at 26 rfl) rfl ?_
      refine Ev_iload 0 (dt_X0_pass.at 27 rfl) rfl ?_
      obtain ⟨q13, hq13, h⟩ := oBind h
      refine Ev_callV (st := []) (st' := []) [.int q6] (dt_X0_pass.at 28 rfl) cf_X0_72 (w_Day_stepTowards q7 q6 q13 hq13) (by decide) sk_31 rfl rfl rfl (Nat.le_of_ble_eq_true rfl) rfl ?_
      refine Ev_sub [1, 2, 3] (ls' := [(0, .ref 31), (2, .int v2), (3, .int x.2)]) rfl ?_
      exact wj_Day_pass_53i16 v2 q13 x.2 _ _ _ h hc he
set_option maxRecDepth 100000 in
set_option maxHeartbeats 4000000 in
theorem wl_Day_pass_16 (v2 : Int32) (r : Option Value) (τ : Sg) (n : Nat) (x : (Sg × Int32)) (z : (Sg × Int32)) (h : lp (b_Day_pass_16 v2) n x = some z) (he : ∀ y : (Sg × Int32), z = y → Ev M_X0_pass 4 r τ 73 [] [] y.1) : Ev M_X0_pass 4 r τ 16 [(0, .ref 31), (2, .int v2), (3, .int x.2)] [] x.1 := by
  refine lp_ind (E := fun x : (Sg × Int32) => Ev M_X0_pass 4 r τ 16 [(0, .ref 31), (2, .int v2), (3, .int x.2)] [] x.1) (fun x => ⟨fun y hb hy => ?_, fun hb => ?_⟩) n x h
  · exact wb_Day_pass_16 v2 x r τ _ hb (fun y' e => by cases e; exact hy) (fun y' e => by cases e)
  · exact wb_Day_pass_16 v2 x r τ _ hb (fun y' e => by cases e) (fun y' e => he y' (Sum.inr.inj e))
set_option maxRecDepth 100000 in
set_option maxHeartbeats 4000000 in
theorem w_Day_pass (σ : Sg) (a1 : Int32) (q : Sg) (h : s_Day_pass σ a1 = some q) : Cal M_X0_pass 4 [.ref 31, .int a1] σ none q := by
  refine Cal.of (M := M_X0_pass) (by decide +kernel) (Nat.le_of_ble_eq_true rfl) ?_
  show Ev _ _ _ _ 0 [(0, .ref 31), (1, .int a1)] [] σ
  unfold s_Day_pass at h
  refine Ev_aload_n 0 (dt_X0_pass.at 0 rfl) rfl ?_
  refine Ev_iload_n 1 (dt_X0_pass.at 1 rfl) rfl ?_
  obtain ⟨q1, hq1, h⟩ := oBind h
  refine Ev_callV (st := []) (st' := []) [.int a1] (dt_X0_pass.at 2 rfl) cf_X0_51 (w_Day_begin σ a1 q1 hq1) (by decide) sk_31 rfl rfl rfl (Nat.le_of_ble_eq_true rfl) rfl ?_
  refine Ev_aload_n 0 (dt_X0_pass.at 3 rfl) rfl ?_
  refine Ev_get (i := 0) (v := .ref 19) (dt_X0_pass.at 4 rfl) ff_X0_34 sk_31 rfl rfl ?_
  refine Ev_iload_n 1 (dt_X0_pass.at 5 rfl) rfl ?_
  obtain ⟨q2, hq2, h⟩ := oBind h
  refine Ev_callV (st := []) (st' := [.int q2]) [.int a1] (dt_X0_pass.at 6 rfl) cf_X0_55 (w_Town_isQuick q1 a1 q2 hq2) (by decide) sk_19 rfl rfl rfl (Nat.le_of_ble_eq_true rfl) rfl ?_
  refine Ev_istore_n (dt_X0_pass.at 7 rfl) (by decide) (ls' := [(2, .int q2), (0, .ref 31), (1, .int a1)]) rfl ?_
  refine Ev_iconst (dt_X0_pass.at 8 rfl) ki_0 ?_
  refine Ev_istore_n (dt_X0_pass.at 9 rfl) (by decide) (ls' := [(3, .int 0), (2, .int q2), (0, .ref 31), (1, .int a1)]) rfl ?_
  refine Ev_sub [2, 1, 0] (ls' := [(0, .ref 31), (2, .int q2), (3, .int 0)]) rfl ?_
  obtain ⟨o14, ho14, h⟩ := oBind h
  refine wl_Day_pass_16 q2 _ _ 100000 (q1, 0) o14 ho14 (fun y ey => ?_)
  subst ey
  exact Ev_vret (dt_X0_pass.at 39 rfl) rfl h
def j_x_day_33  (σ : Sg) (v1 : Int32) (v2 : Int32) : Option (Int32 × Sg) :=
  (s_Day_pass σ v1).bind fun q5 =>
  if v2 = (-1) then
    some ((gI q5 31 9), q5)
  else
    if inB v2 10 = true then
      some ((gI q5 37 (Int32.toNatClampNeg v2)), q5)
    else none
def s_x_day (σ : Sg) (a1 : Int32) (a2 : Int32) : Option (Int32 × Sg) :=
  (s_Town_isThree σ a1).bind fun q1 =>
  if q1 = 0 then
    (s_x_refusedBad σ (-10)).bind fun q3 =>
    some (q3.1, q3.2)
  else
    if a2 = (-1) then
      j_x_day_33  σ a1 a2
    else
      (s_x_isHour a2).bind fun q8 =>
      if q8 = 0 then
        (s_x_refusedBad σ (-10)).bind fun q10 =>
        some (q10.1, q10.2)
      else
        j_x_day_33  σ a1 a2
set_option maxRecDepth 100000 in
set_option maxHeartbeats 4000000 in
theorem wj_x_day_33  (σ : Sg) (v1 : Int32) (v2 : Int32) (q : (Int32 × Sg)) (h : (j_x_day_33  σ v1 v2) = some q) : Ev M_X11_day 5 (some (.int q.1)) q.2 33 [(0, .ref 0), (1, .int v1), (2, .int v2)] [] σ := by
  unfold j_x_day_33 at h
  refine Ev_aload_n 0 (dt_X11_day.at 16 rfl) rfl ?_
  refine Ev_get (i := 5) (v := .ref 31) (dt_X11_day.at 17 rfl) ff_X11_57 sk_0 rfl rfl ?_
  refine Ev_iload_n 1 (dt_X11_day.at 18 rfl) rfl ?_
  obtain ⟨q5, hq5, h⟩ := oBind h
  refine Ev_callV (st := []) (st' := []) [.int v1] (dt_X11_day.at 19 rfl) cf_X11_135 (w_Day_pass σ v1 q5 hq5) (by decide) sk_31 rfl rfl rfl (Nat.le_of_ble_eq_true rfl) rfl ?_
  refine Ev_iload_n 2 (dt_X11_day.at 20 rfl) rfl ?_
  refine Ev_iconst (dt_X11_day.at 21 rfl) ki_m1 ?_
  refine Ev_icmp_ne (tgt := 56) (dt_X11_day.at 22 rfl) (by decide) (fun c6 => ?_) (fun c6 => ?_)
  · replace h := oNeg h c6
    refine Ev_aload_n 0 (dt_X11_day.at 27 rfl) rfl ?_
    refine Ev_get (i := 5) (v := .ref 31) (dt_X11_day.at 28 rfl) ff_X11_57 sk_0 rfl rfl ?_
    refine Ev_get (i := 6) (v := .ref 37) (dt_X11_day.at 29 rfl) ff_X11_141 sk_31 rfl rfl ?_
    refine Ev_iload_n 2 (dt_X11_day.at 30 rfl) rfl ?_
    obtain ⟨g7, h⟩ := oGuard h
    refine Ev_iaload 37 (dt_X11_day.at 31 rfl) sk_37 g7 ?_
    exact Ev_iret (dt_X11_day.at 32 rfl) rfl h
  · replace h := oPos h c6
    refine Ev_aload_n 0 (dt_X11_day.at 23 rfl) rfl ?_
    refine Ev_get (i := 5) (v := .ref 31) (dt_X11_day.at 24 rfl) ff_X11_57 sk_0 rfl rfl ?_
    refine Ev_get (i := 9) (v := .int (gI q5 31 9)) (dt_X11_day.at 25 rfl) ff_X11_138 sk_31 rfl rfl ?_
    refine Ev_goto (tgt := 65) (dt_X11_day.at 26 rfl) (by decide) ?_
    exact Ev_iret (dt_X11_day.at 32 rfl) rfl h
set_option maxRecDepth 100000 in
set_option maxHeartbeats 4000000 in
theorem w_x_day (σ : Sg) (a1 : Int32) (a2 : Int32) (q : (Int32 × Sg)) (h : s_x_day σ a1 a2 = some q) : Cal M_X11_day 5 [.ref 0, .int a1, .int a2] σ (some (.int q.1)) q.2 := by
  refine Cal.of (M := M_X11_day) (by decide +kernel) (Nat.le_of_ble_eq_true rfl) ?_
  show Ev _ _ _ _ 0 [(0, .ref 0), (1, .int a1), (2, .int a2)] [] σ
  unfold s_x_day at h
  refine Ev_aload_n 0 (dt_X11_day.at 0 rfl) rfl ?_
  refine Ev_get (i := 0) (v := .ref 25) (dt_X11_day.at 1 rfl) ff_X11_50 sk_0 rfl rfl ?_
  refine Ev_get (i := 0) (v := .ref 19) (dt_X11_day.at 2 rfl) ff_X11_72 sk_25 rfl rfl ?_
  refine Ev_iload_n 1 (dt_X11_day.at 3 rfl) rfl ?_
  obtain ⟨q1, hq1, h⟩ := oBind h
  refine Ev_callV (st := []) (st' := [.int q1]) [.int a1] (dt_X11_day.at 4 rfl) cf_X11_132 (w_Town_isThree σ a1 q1 hq1) (by decide) sk_19 rfl rfl rfl (Nat.le_of_ble_eq_true rfl) rfl ?_
  refine Ev_if_eq (tgt := 26) (dt_X11_day.at 5 rfl) (by decide) (fun c2 => ?_) (fun c2 => ?_)
  · replace h := oPos h c2
    refine Ev_aload_n 0 (dt_X11_day.at 12 rfl) rfl ?_
    refine Ev_bipush (dt_X11_day.at 13 rfl) kb_m10 ?_
    obtain ⟨q3, hq3, h⟩ := oBind h
    refine Ev_callV (st := []) (st' := [.int q3.1]) [.int (-10)] (dt_X11_day.at 14 rfl) cf_X11_68 (w_x_refusedBad σ (-10) q3 hq3) (by decide) sk_0 rfl rfl rfl (Nat.le_of_ble_eq_true rfl) rfl ?_
    exact Ev_iret (dt_X11_day.at 15 rfl) rfl h
  · replace h := oNeg h c2
    refine Ev_iload_n 2 (dt_X11_day.at 6 rfl) rfl ?_
    refine Ev_iconst (dt_X11_day.at 7 rfl) ki_m1 ?_
    refine Ev_icmp_eq (tgt := 33) (dt_X11_day.at 8 rfl) (by decide) (fun c4 => ?_) (fun c4 => ?_)
    · replace h := oPos h c4
      refine Ev_sub [0, 1, 2] (ls' := [(0, .ref 0), (1, .int a1), (2, .int a2)]) rfl ?_
      exact wj_x_day_33  σ a1 a2 q h
    · replace h := oNeg h c4
      refine Ev_iload_n 2 (dt_X11_day.at 9 rfl) rfl ?_
      obtain ⟨q8, hq8, h⟩ := oBind h
      refine Ev_callS (st := []) (st' := [.int q8]) [.int a2] (dt_X11_day.at 10 rfl) cf_X11_108 (w_x_isHour σ a2 q8 hq8) (by decide) rfl rfl (Nat.le_of_ble_eq_true rfl) rfl ?_
      refine Ev_if_ne (tgt := 33) (dt_X11_day.at 11 rfl) (by decide) (fun c9 => ?_) (fun c9 => ?_)
      · replace h := oNeg h c9
        refine Ev_sub [0, 1, 2] (ls' := [(0, .ref 0), (1, .int a1), (2, .int a2)]) rfl ?_
        exact wj_x_day_33  σ a1 a2 q h
      · replace h := oPos h c9
        refine Ev_aload_n 0 (dt_X11_day.at 12 rfl) rfl ?_
        refine Ev_bipush (dt_X11_day.at 13 rfl) kb_m10 ?_
        obtain ⟨q10, hq10, h⟩ := oBind h
        refine Ev_callV (st := []) (st' := [.int q10.1]) [.int (-10)] (dt_X11_day.at 14 rfl) cf_X11_68 (w_x_refusedBad σ (-10) q10 hq10) (by decide) sk_0 rfl rfl rfl (Nat.le_of_ble_eq_true rfl) rfl ?_
        exact Ev_iret (dt_X11_day.at 15 rfl) rfl h
def b_Arrays_fill_5 (v1 : Int32) (v3 : Int32) (x : (Sg × Int32)) : Option ((Sg × Int32) ⊕ (Sg × Int32)) :=
  if v3 ≤ x.2 then
    some (.inr (x.1, x.2))
  else
    if inB x.2 60 = true then
      lt (pI x.1 44 (Int32.toNatClampNeg x.2) v1 : Sg) fun s3 =>
      lt (x.2 + 1 : Int32) fun x4 =>
      some (.inl (s3, x4))
    else none
def s_Arrays_fill (σ : Sg) (a1 : Int32) : Option Sg :=
  (lp (b_Arrays_fill_5 a1 60) 100000 (σ, 0)).bind fun o5 =>
  some o5.1
set_option maxRecDepth 100000 in
set_option maxHeartbeats 4000000 in
theorem wb_Arrays_fill_5 (v1 : Int32) (v3 : Int32) (x : (Sg × Int32)) (r : Option Value) (τ : Sg) (o : ((Sg × Int32) ⊕ (Sg × Int32))) (h : (b_Arrays_fill_5 v1 v3 x) = some o) (hc : ∀ y : (Sg × Int32), o = .inl y → Ev M_J7_fill 0 r τ 5 [(0, .ref 44), (1, .int v1), (2, .int y.2), (3, .int v3)] [] y.1) (he : ∀ y : (Sg × Int32), o = .inr y → Ev M_J7_fill 0 r τ 20 [] [] y.1) : Ev M_J7_fill 0 r τ 5 [(0, .ref 44), (1, .int v1), (2, .int x.2), (3, .int v3)] [] x.1 := by
  unfold b_Arrays_fill_5 at h
  refine Ev_iload_n 2 (dt_J7_fill.at 5 rfl) rfl ?_
  refine Ev_iload_n 3 (dt_J7_fill.at 6 rfl) rfl ?_
  refine Ev_icmp_ge (tgt := 20) (dt_J7_fill.at 7 rfl) (by decide) (fun c1 => ?_) (fun c1 => ?_)
  · replace h := oPos h c1
    refine Ev_sub [] (ls' := []) rfl ?_
    exact he (x.1, x.2) (Option.some.inj h).symm
  · replace h := oNeg h c1
    refine Ev_aload_n 0 (dt_J7_fill.at 8 rfl) rfl ?_
    refine Ev_iload_n 2 (dt_J7_fill.at 9 rfl) rfl ?_
    refine Ev_iload_n 1 (dt_J7_fill.at 10 rfl) rfl ?_
    obtain ⟨g2, h⟩ := oGuard h
    refine Ev_iastore 44 (dt_J7_fill.at 11 rfl) sk_44 g2 ?_
    refine Ev_nmS (fun s3 es3 => ?_)
    replace h := oLt h es3
    obtain ⟨x4, ex4⟩ : ∃ z : Int32, z = x.2 + 1 := ⟨_, rfl⟩
    replace h := oLt h ex4
    refine Ev_iinc (v := x4) 2 (dt_J7_fill.at 12 rfl) rfl (ex4.trans (congrArg (fun z => x.2 + z) ki_1.symm)) (by decide) (ls' := [(2, .int x4), (0, .ref 44), (1, .int v1), (3, .int v3)]) rfl ?_
    refine Ev_goto (tgt := 5) (dt_J7_fill.at 13 rfl) (by decide) ?_
    refine Ev_sub [1, 2, 0, 3] (ls' := [(0, .ref 44), (1, .int v1), (2, .int x4), (3, .int v3)]) rfl ?_
    exact hc (s3, x4) (Option.some.inj h).symm
set_option maxRecDepth 100000 in
set_option maxHeartbeats 4000000 in
theorem wl_Arrays_fill_5 (v1 : Int32) (v3 : Int32) (r : Option Value) (τ : Sg) (n : Nat) (x : (Sg × Int32)) (z : (Sg × Int32)) (h : lp (b_Arrays_fill_5 v1 v3) n x = some z) (he : ∀ y : (Sg × Int32), z = y → Ev M_J7_fill 0 r τ 20 [] [] y.1) : Ev M_J7_fill 0 r τ 5 [(0, .ref 44), (1, .int v1), (2, .int x.2), (3, .int v3)] [] x.1 := by
  refine lp_ind (E := fun x : (Sg × Int32) => Ev M_J7_fill 0 r τ 5 [(0, .ref 44), (1, .int v1), (2, .int x.2), (3, .int v3)] [] x.1) (fun x => ⟨fun y hb hy => ?_, fun hb => ?_⟩) n x h
  · exact wb_Arrays_fill_5 v1 v3 x r τ _ hb (fun y' e => by cases e; exact hy) (fun y' e => by cases e)
  · exact wb_Arrays_fill_5 v1 v3 x r τ _ hb (fun y' e => by cases e) (fun y' e => he y' (Sum.inr.inj e))
set_option maxRecDepth 100000 in
set_option maxHeartbeats 4000000 in
theorem w_Arrays_fill (σ : Sg) (a1 : Int32) (q : Sg) (h : s_Arrays_fill σ a1 = some q) : Cal M_J7_fill 0 [.ref 44, .int a1] σ none q := by
  refine Cal.of (M := M_J7_fill) (by decide +kernel) (Nat.le_of_ble_eq_true rfl) ?_
  show Ev _ _ _ _ 0 [(0, .ref 44), (1, .int a1)] [] σ
  unfold s_Arrays_fill at h
  refine Ev_iconst (dt_J7_fill.at 0 rfl) ki_0 ?_
  refine Ev_istore_n (dt_J7_fill.at 1 rfl) (by decide) (ls' := [(2, .int 0), (0, .ref 44), (1, .int a1)]) rfl ?_
  refine Ev_aload_n 1 (dt_J7_fill.at 2 rfl) rfl ?_
  refine Ev_alen 44 (dt_J7_fill.at 3 rfl) sk_44 (Or.inl rfl) kn_60 ?_
  refine Ev_istore_n (dt_J7_fill.at 4 rfl) (by decide) (ls' := [(3, .int 60), (2, .int 0), (0, .ref 44), (1, .int a1)]) rfl ?_
  refine Ev_sub [2, 3, 1, 0] (ls' := [(0, .ref 44), (1, .int a1), (2, .int 0), (3, .int 60)]) rfl ?_
  obtain ⟨o5, ho5, h⟩ := oBind h
  refine wl_Arrays_fill_5 a1 60 _ _ 100000 (σ, 0) o5 ho5 (fun y ey => ?_)
  subst ey
  exact Ev_vret (dt_J7_fill.at 14 rfl) rfl h
