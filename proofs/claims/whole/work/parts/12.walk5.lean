def b_FreeDay_weighErrandsOf_24 (v1 : Int32) (v2 : Int32) (v3 : Int32) (x : (Sg × Int32)) : Option ((Sg × Int32) ⊕ (Sg × Int32)) :=
  if inB v3 36 = true then
    if (gI x.1 24 (Int32.toNatClampNeg v3)) < x.2 then
      some (.inr (x.1, x.2))
    else
      if inB v3 36 = true then
        if inB (((gI x.1 23 (Int32.toNatClampNeg v3)) * 10) + x.2) 60 = true then
          if inB (((gI x.1 23 (Int32.toNatClampNeg v3)) * 10) + x.2) 60 = true then
            lt (pI x.1 44 (Int32.toNatClampNeg (((gI x.1 23 (Int32.toNatClampNeg v3)) * 10) + x.2)) ((gI x.1 44 (Int32.toNatClampNeg (((gI x.1 23 (Int32.toNatClampNeg v3)) * 10) + x.2))) + 1) : Sg) fun s9 =>
            lt (x.2 + 1 : Int32) fun x10 =>
            some (.inl (s9, x10))
          else none
        else none
      else none
  else none
def b_FreeDay_weighErrandsOf_6 (v1 : Int32) (v2 : Int32) (x : (Sg × Int32)) : Option ((Sg × Int32) ⊕ (Sg × Int32)) :=
  if inB v1 9 = true then
    if (v2 + (gI x.1 22 (Int32.toNatClampNeg v1))) ≤ x.2 then
      some (.inr (x.1, x.2))
    else
      (lp (b_FreeDay_weighErrandsOf_24 v1 v2 x.2) 100000 (x.1, 0)).bind fun o11 =>
      lt (x.2 + 1 : Int32) fun x12 =>
      some (.inl (o11.1, x12))
  else none
def s_FreeDay_weighErrandsOf (σ : Sg) (a1 : Int32) : Option Sg :=
  lt ((a1 * 4) : Int32) fun x1 =>
  (lp (b_FreeDay_weighErrandsOf_6 a1 x1) 100000 (σ, x1)).bind fun o13 =>
  some o13.1
set_option maxRecDepth 100000 in
set_option maxHeartbeats 4000000 in
theorem wb_FreeDay_weighErrandsOf_24 (v1 : Int32) (v2 : Int32) (v3 : Int32) (x : (Sg × Int32)) (r : Option Value) (τ : Sg) (o : ((Sg × Int32) ⊕ (Sg × Int32))) (h : (b_FreeDay_weighErrandsOf_24 v1 v2 v3 x) = some o) (hc : ∀ y : (Sg × Int32), o = .inl y → Ev M_X1_weighErrandsOf 0 r τ 24 [(0, .ref 43), (1, .int v1), (2, .int v2), (3, .int v3), (4, .int y.2)] [] y.1) (he : ∀ y : (Sg × Int32), o = .inr y → Ev M_X1_weighErrandsOf 0 r τ 68 [(0, .ref 43), (1, .int v1), (2, .int v2), (3, .int v3)] [] y.1) : Ev M_X1_weighErrandsOf 0 r τ 24 [(0, .ref 43), (1, .int v1), (2, .int v2), (3, .int v3), (4, .int x.2)] [] x.1 := by
  unfold b_FreeDay_weighErrandsOf_24 at h
  refine Ev_iload 4 (dt_X1_weighErrandsOf.at 17 rfl) rfl ?_
  refine Ev_aload_n 0 (dt_X1_weighErrandsOf.at 18 rfl) rfl ?_
  refine Ev_get (i := 0) (v := .ref 19) (dt_X1_weighErrandsOf.at 19 rfl) ff_X1_21 sk_43 rfl rfl ?_
  refine Ev_get (i := 4) (v := .ref 24) (dt_X1_weighErrandsOf.at 20 rfl) ff_X1_65 sk_19 rfl rfl ?_
  refine Ev_iload_n 3 (dt_X1_weighErrandsOf.at 21 rfl) rfl ?_
  obtain ⟨g4, h⟩ := oGuard h
  refine Ev_iaload 24 (dt_X1_weighErrandsOf.at 22 rfl) sk_24 g4 ?_
  refine Ev_icmp_gt (tgt := 68) (dt_X1_weighErrandsOf.at 23 rfl) (by decide) (fun c5 => ?_) (fun c5 => ?_)
  · replace h := oPos h c5
    refine Ev_sub [0, 1, 2, 3] (ls' := [(0, .ref 43), (1, .int v1), (2, .int v2), (3, .int v3)]) rfl ?_
    exact he (x.1, x.2) (Option.some.inj h).symm
  · replace h := oNeg h c5
    refine Ev_aload_n 0 (dt_X1_weighErrandsOf.at 24 rfl) rfl ?_
    refine Ev_get (i := 1) (v := .ref 44) (dt_X1_weighErrandsOf.at 25 rfl) ff_X1_9 sk_43 rfl rfl ?_
    refine Ev_aload_n 0 (dt_X1_weighErrandsOf.at 26 rfl) rfl ?_
    refine Ev_get (i := 0) (v := .ref 19) (dt_X1_weighErrandsOf.at 27 rfl) ff_X1_21 sk_43 rfl rfl ?_
    refine Ev_get (i := 3) (v := .ref 23) (dt_X1_weighErrandsOf.at 28 rfl) ff_X1_68 sk_19 rfl rfl ?_
    refine Ev_iload_n 3 (dt_X1_weighErrandsOf.at 29 rfl) rfl ?_
    obtain ⟨g6, h⟩ := oGuard h
    refine Ev_iaload 23 (dt_X1_weighErrandsOf.at 30 rfl) sk_23 g6 ?_
    refine Ev_bipush (dt_X1_weighErrandsOf.at 31 rfl) kb_10 ?_
    refine Ev_imul (dt_X1_weighErrandsOf.at 32 rfl) ?_
    refine Ev_iload 4 (dt_X1_weighErrandsOf.at 33 rfl) rfl ?_
    refine Ev_iadd (dt_X1_weighErrandsOf.at 34 rfl) ?_
    refine Ev_dup2 (dt_X1_weighErrandsOf.at 35 rfl) rfl rfl ?_
    obtain ⟨g7, h⟩ := oGuard h
    refine Ev_iaload 44 (dt_X1_weighErrandsOf.at 36 rfl) sk_44 g7 ?_
    refine Ev_iconst (dt_X1_weighErrandsOf.at 37 rfl) ki_1 ?_
    refine Ev_iadd (dt_X1_weighErrandsOf.at 38 rfl) ?_
    obtain ⟨g8, h⟩ := oGuard h
    refine Ev_iastore 44 (dt_X1_weighErrandsOf.at 39 rfl) sk_44 g8 ?_
    refine Ev_nmS (fun s9 es9 => ?_)
    replace h := oLt h es9
    obtain ⟨x10, ex10⟩ : ∃ z : Int32, z = x.2 + 1 := ⟨_, rfl⟩
    replace h := oLt h ex10
    refine Ev_iinc (v := x10) 4 (dt_X1_weighErrandsOf.at 40 rfl) rfl (ex10.trans (congrArg (fun z => x.2 + z) ki_1.symm)) (by decide) (ls' := [(4, .int x10), (0, .ref 43), (1, .int v1), (2, .int v2), (3, .int v3)]) rfl ?_
    refine Ev_goto (tgt := 24) (dt_X1_weighErrandsOf.at 41 rfl) (by decide) ?_
    refine Ev_sub [1, 2, 3, 4, 0] (ls' := [(0, .ref 43), (1, .int v1), (2, .int v2), (3, .int v3), (4, .int x10)]) rfl ?_
    exact hc (s9, x10) (Option.some.inj h).symm
set_option maxRecDepth 100000 in
set_option maxHeartbeats 4000000 in
theorem wl_FreeDay_weighErrandsOf_24 (v1 : Int32) (v2 : Int32) (v3 : Int32) (r : Option Value) (τ : Sg) (n : Nat) (x : (Sg × Int32)) (z : (Sg × Int32)) (h : lp (b_FreeDay_weighErrandsOf_24 v1 v2 v3) n x = some z) (he : ∀ y : (Sg × Int32), z = y → Ev M_X1_weighErrandsOf 0 r τ 68 [(0, .ref 43), (1, .int v1), (2, .int v2), (3, .int v3)] [] y.1) : Ev M_X1_weighErrandsOf 0 r τ 24 [(0, .ref 43), (1, .int v1), (2, .int v2), (3, .int v3), (4, .int x.2)] [] x.1 := by
  refine lp_ind (E := fun x : (Sg × Int32) => Ev M_X1_weighErrandsOf 0 r τ 24 [(0, .ref 43), (1, .int v1), (2, .int v2), (3, .int v3), (4, .int x.2)] [] x.1) (fun x => ⟨fun y hb hy => ?_, fun hb => ?_⟩) n x h
  · exact wb_FreeDay_weighErrandsOf_24 v1 v2 v3 x r τ _ hb (fun y' e => by cases e; exact hy) (fun y' e => by cases e)
  · exact wb_FreeDay_weighErrandsOf_24 v1 v2 v3 x r τ _ hb (fun y' e => by cases e) (fun y' e => he y' (Sum.inr.inj e))
set_option maxRecDepth 100000 in
set_option maxHeartbeats 4000000 in
theorem wb_FreeDay_weighErrandsOf_6 (v1 : Int32) (v2 : Int32) (x : (Sg × Int32)) (r : Option Value) (τ : Sg) (o : ((Sg × Int32) ⊕ (Sg × Int32))) (h : (b_FreeDay_weighErrandsOf_6 v1 v2 x) = some o) (hc : ∀ y : (Sg × Int32), o = .inl y → Ev M_X1_weighErrandsOf 0 r τ 6 [(0, .ref 43), (1, .int v1), (2, .int v2), (3, .int y.2)] [] y.1) (he : ∀ y : (Sg × Int32), o = .inr y → Ev M_X1_weighErrandsOf 0 r τ 74 [] [] y.1) : Ev M_X1_weighErrandsOf 0 r τ 6 [(0, .ref 43), (1, .int v1), (2, .int v2), (3, .int x.2)] [] x.1 := by
  unfold b_FreeDay_weighErrandsOf_6 at h
  refine Ev_iload_n 3 (dt_X1_weighErrandsOf.at 6 rfl) rfl ?_
  refine Ev_iload_n 2 (dt_X1_weighErrandsOf.at 7 rfl) rfl ?_
  refine Ev_aload_n 0 (dt_X1_weighErrandsOf.at 8 rfl) rfl ?_
  refine Ev_get (i := 0) (v := .ref 19) (dt_X1_weighErrandsOf.at 9 rfl) ff_X1_21 sk_43 rfl rfl ?_
  refine Ev_get (i := 2) (v := .ref 22) (dt_X1_weighErrandsOf.at 10 rfl) ff_X1_62 sk_19 rfl rfl ?_
  refine Ev_iload_n 1 (dt_X1_weighErrandsOf.at 11 rfl) rfl ?_
  obtain ⟨g2, h⟩ := oGuard h
  refine Ev_iaload 22 (dt_X1_weighErrandsOf.at 12 rfl) sk_22 g2 ?_
  refine Ev_iadd (dt_X1_weighErrandsOf.at 13 rfl) ?_
  refine Ev_icmp_ge (tgt := 74) (dt_X1_weighErrandsOf.at 14 rfl) (by decide) (fun c3 => ?_) (fun c3 => ?_)
  · replace h := oPos h c3
    refine Ev_sub [] (ls' := []) rfl ?_
    exact he (x.1, x.2) (Option.some.inj h).symm
  · replace h := oNeg h c3
    refine Ev_iconst (dt_X1_weighErrandsOf.at 15 rfl) ki_0 ?_
    refine Ev_istore (dt_X1_weighErrandsOf.at 16 rfl) (by decide) (ls' := [(4, .int 0), (0, .ref 43), (1, .int v1), (2, .int v2), (3, .int x.2)]) rfl ?_
    refine Ev_sub [1, 2, 3, 4, 0] (ls' := [(0, .ref 43), (1, .int v1), (2, .int v2), (3, .int x.2), (4, .int 0)]) rfl ?_
    obtain ⟨o11, ho11, h⟩ := oBind h
    refine wl_FreeDay_weighErrandsOf_24 v1 v2 x.2 _ _ 100000 (x.1, 0) o11 ho11 (fun y ey => ?_)
    subst ey
    obtain ⟨x12, ex12⟩ : ∃ z : Int32, z = x.2 + 1 := ⟨_, rfl⟩
    replace h := oLt h ex12
    refine Ev_iinc (v := x12) 3 (dt_X1_weighErrandsOf.at 42 rfl) rfl (ex12.trans (congrArg (fun z => x.2 + z) ki_1.symm)) (by decide) (ls' := [(3, .int x12), (0, .ref 43), (1, .int v1), (2, .int v2)]) rfl ?_
    refine Ev_goto (tgt := 6) (dt_X1_weighErrandsOf.at 43 rfl) (by decide) ?_
    refine Ev_sub [1, 2, 3, 0] (ls' := [(0, .ref 43), (1, .int v1), (2, .int v2), (3, .int x12)]) rfl ?_
    exact hc (o11.1, x12) (Option.some.inj h).symm
set_option maxRecDepth 100000 in
set_option maxHeartbeats 4000000 in
theorem wl_FreeDay_weighErrandsOf_6 (v1 : Int32) (v2 : Int32) (r : Option Value) (τ : Sg) (n : Nat) (x : (Sg × Int32)) (z : (Sg × Int32)) (h : lp (b_FreeDay_weighErrandsOf_6 v1 v2) n x = some z) (he : ∀ y : (Sg × Int32), z = y → Ev M_X1_weighErrandsOf 0 r τ 74 [] [] y.1) : Ev M_X1_weighErrandsOf 0 r τ 6 [(0, .ref 43), (1, .int v1), (2, .int v2), (3, .int x.2)] [] x.1 := by
  refine lp_ind (E := fun x : (Sg × Int32) => Ev M_X1_weighErrandsOf 0 r τ 6 [(0, .ref 43), (1, .int v1), (2, .int v2), (3, .int x.2)] [] x.1) (fun x => ⟨fun y hb hy => ?_, fun hb => ?_⟩) n x h
  · exact wb_FreeDay_weighErrandsOf_6 v1 v2 x r τ _ hb (fun y' e => by cases e; exact hy) (fun y' e => by cases e)
  · exact wb_FreeDay_weighErrandsOf_6 v1 v2 x r τ _ hb (fun y' e => by cases e) (fun y' e => he y' (Sum.inr.inj e))
set_option maxRecDepth 100000 in
set_option maxHeartbeats 4000000 in
theorem w_FreeDay_weighErrandsOf (σ : Sg) (a1 : Int32) (q : Sg) (h : s_FreeDay_weighErrandsOf σ a1 = some q) : Cal M_X1_weighErrandsOf 0 [.ref 43, .int a1] σ none q := by
  refine Cal.of (M := M_X1_weighErrandsOf) (by decide +kernel) (Nat.le_of_ble_eq_true rfl) ?_
  show Ev _ _ _ _ 0 [(0, .ref 43), (1, .int a1)] [] σ
  unfold s_FreeDay_weighErrandsOf at h
  refine Ev_iload_n 1 (dt_X1_weighErrandsOf.at 0 rfl) rfl ?_
  refine Ev_iconst (dt_X1_weighErrandsOf.at 1 rfl) ki_4 ?_
  refine Ev_imul (dt_X1_weighErrandsOf.at 2 rfl) ?_
  refine Ev_nmI (fun x1 ex1 => ?_)
  replace h := oLt h ex1
  refine Ev_istore_n (dt_X1_weighErrandsOf.at 3 rfl) (by decide) (ls' := [(2, .int x1), (0, .ref 43), (1, .int a1)]) rfl ?_
  refine Ev_iload_n 0 (dt_X1_weighErrandsOf.at 4 rfl) rfl ?_
  refine Ev_istore_n (dt_X1_weighErrandsOf.at 5 rfl) (by decide) (ls' := [(3, .int x1), (2, .int x1), (0, .ref 43), (1, .int a1)]) rfl ?_
  refine Ev_sub [2, 3, 1, 0] (ls' := [(0, .ref 43), (1, .int a1), (2, .int x1), (3, .int x1)]) rfl ?_
  obtain ⟨o13, ho13, h⟩ := oBind h
  refine wl_FreeDay_weighErrandsOf_6 a1 x1 _ _ 100000 (σ, x1) o13 ho13 (fun y ey => ?_)
  subst ey
  exact Ev_vret (dt_X1_weighErrandsOf.at 44 rfl) rfl h
def b_FreeDay_weigh_10 (v1 : Int32) (x : (Sg × Int32)) : Option ((Sg × Int32) ⊕ (Sg × Int32)) :=
  if (gI x.1 19 6) ≤ x.2 then
    some (.inr (x.1, x.2))
  else
    (s_x_isIn v1 x.2).bind fun q3 =>
    if q3 = 0 then
      lt (x.2 + 1 : Int32) fun x5 =>
      some (.inl (x.1, x5))
    else
      (s_FreeDay_weighErrandsOf x.1 x.2).bind fun q6 =>
      lt (x.2 + 1 : Int32) fun x7 =>
      some (.inl (q6, x7))
def s_FreeDay_weigh (σ : Sg) (a1 : Int32) : Option Sg :=
  (s_Arrays_fill σ 0).bind fun q1 =>
  (lp (b_FreeDay_weigh_10 a1) 100000 (q1, 0)).bind fun o8 =>
  some o8.1
set_option maxRecDepth 100000 in
set_option maxHeartbeats 4000000 in
theorem wb_FreeDay_weigh_10 (v1 : Int32) (x : (Sg × Int32)) (r : Option Value) (τ : Sg) (o : ((Sg × Int32) ⊕ (Sg × Int32))) (h : (b_FreeDay_weigh_10 v1 x) = some o) (hc : ∀ y : (Sg × Int32), o = .inl y → Ev M_X1_weigh 1 r τ 10 [(0, .ref 43), (1, .int v1), (2, .int y.2)] [] y.1) (he : ∀ y : (Sg × Int32), o = .inr y → Ev M_X1_weigh 1 r τ 40 [] [] y.1) : Ev M_X1_weigh 1 r τ 10 [(0, .ref 43), (1, .int v1), (2, .int x.2)] [] x.1 := by
  unfold b_FreeDay_weigh_10 at h
  refine Ev_iload_n 2 (dt_X1_weigh.at 6 rfl) rfl ?_
  refine Ev_aload_n 0 (dt_X1_weigh.at 7 rfl) rfl ?_
  refine Ev_get (i := 0) (v := .ref 19) (dt_X1_weigh.at 8 rfl) ff_X1_21 sk_43 rfl rfl ?_
  refine Ev_get (i := 6) (v := .int (gI x.1 19 6)) (dt_X1_weigh.at 9 rfl) ff_X1_51 sk_19 rfl rfl ?_
  refine Ev_icmp_ge (tgt := 40) (dt_X1_weigh.at 10 rfl) (by decide) (fun c2 => ?_) (fun c2 => ?_)
  · replace h := oPos h c2
    refine Ev_sub [] (ls' := []) rfl ?_
    exact he (x.1, x.2) (Option.some.inj h).symm
  · replace h := oNeg h c2
    refine Ev_iload_n 1 (dt_X1_weigh.at 11 rfl) rfl ?_
    refine Ev_iload_n 2 (dt_X1_weigh.at 12 rfl) rfl ?_
    obtain ⟨q3, hq3, h⟩ := oBind h
    refine Ev_callS (st := []) (st' := [.int q3]) [.int v1, .int x.2] (dt_X1_weigh.at 13 rfl) cf_X1_55 (w_x_isIn x.1 v1 x.2 q3 hq3) (by decide) rfl rfl (Nat.le_of_ble_eq_true rfl) rfl ?_
    refine Ev_if_eq (tgt := 34) (dt_X1_weigh.at 14 rfl) (by decide) (fun c4 => ?_) (fun c4 => ?_)
    · replace h := oPos h c4
      obtain ⟨x5, ex5⟩ : ∃ z : Int32, z = x.2 + 1 := ⟨_, rfl⟩
      replace h := oLt h ex5
      refine Ev_iinc (v := x5) 2 (dt_X1_weigh.at 18 rfl) rfl (ex5.trans (congrArg (fun z => x.2 + z) ki_1.symm)) (by decide) (ls' := [(2, .int x5), (0, .ref 43), (1, .int v1)]) rfl ?_
      refine Ev_goto (tgt := 10) (dt_X1_weigh.at 19 rfl) (by decide) ?_
      refine Ev_sub [1, 2, 0] (ls' := [(0, .ref 43), (1, .int v1), (2, .int x5)]) rfl ?_
      exact hc (x.1, x5) (Option.some.inj h).symm
    · replace h := oNeg h c4
      refine Ev_aload_n 0 (dt_X1_weigh.at 15 rfl) rfl ?_
      refine Ev_iload_n 2 (dt_X1_weigh.at 16 rfl) rfl ?_
      obtain ⟨q6, hq6, h⟩ := oBind h
      refine Ev_callV (st := []) (st' := []) [.int x.2] (dt_X1_weigh.at 17 rfl) cf_X1_59 (w_FreeDay_weighErrandsOf x.1 x.2 q6 hq6) (by decide) sk_43 rfl rfl rfl (Nat.le_of_ble_eq_true rfl) rfl ?_
      obtain ⟨x7, ex7⟩ : ∃ z : Int32, z = x.2 + 1 := ⟨_, rfl⟩
      replace h := oLt h ex7
      refine Ev_iinc (v := x7) 2 (dt_X1_weigh.at 18 rfl) rfl (ex7.trans (congrArg (fun z => x.2 + z) ki_1.symm)) (by decide) (ls' := [(2, .int x7), (0, .ref 43), (1, .int v1)]) rfl ?_
      refine Ev_goto (tgt := 10) (dt_X1_weigh.at 19 rfl) (by decide) ?_
      refine Ev_sub [1, 2, 0] (ls' := [(0, .ref 43), (1, .int v1), (2, .int x7)]) rfl ?_
      exact hc (q6, x7) (Option.some.inj h).symm
set_option maxRecDepth 100000 in
set_option maxHeartbeats 4000000 in
theorem wl_FreeDay_weigh_10 (v1 : Int32) (r : Option Value) (τ : Sg) (n : Nat) (x : (Sg × Int32)) (z : (Sg × Int32)) (h : lp (b_FreeDay_weigh_10 v1) n x = some z) (he : ∀ y : (Sg × Int32), z = y → Ev M_X1_weigh 1 r τ 40 [] [] y.1) : Ev M_X1_weigh 1 r τ 10 [(0, .ref 43), (1, .int v1), (2, .int x.2)] [] x.1 := by
  refine lp_ind (E := fun x : (Sg × Int32) => Ev M_X1_weigh 1 r τ 10 [(0, .ref 43), (1, .int v1), (2, .int x.2)] [] x.1) (fun x => ⟨fun y hb hy => ?_, fun hb => ?_⟩) n x h
  · exact wb_FreeDay_weigh_10 v1 x r τ _ hb (fun y' e => by cases e; exact hy) (fun y' e => by cases e)
  · exact wb_FreeDay_weigh_10 v1 x r τ _ hb (fun y' e => by cases e) (fun y' e => he y' (Sum.inr.inj e))
set_option maxRecDepth 100000 in
set_option maxHeartbeats 4000000 in
theorem w_FreeDay_weigh (σ : Sg) (a1 : Int32) (q : Sg) (h : s_FreeDay_weigh σ a1 = some q) : Cal M_X1_weigh 1 [.ref 43, .int a1] σ none q := by
  refine Cal.of (M := M_X1_weigh) (by decide +kernel) (Nat.le_of_ble_eq_true rfl) ?_
  show Ev _ _ _ _ 0 [(0, .ref 43), (1, .int a1)] [] σ
  unfold s_FreeDay_weigh at h
  refine Ev_aload_n 0 (dt_X1_weigh.at 0 rfl) rfl ?_
  refine Ev_get (i := 1) (v := .ref 44) (dt_X1_weigh.at 1 rfl) ff_X1_9 sk_43 rfl rfl ?_
  refine Ev_iconst (dt_X1_weigh.at 2 rfl) ki_0 ?_
  obtain ⟨q1, hq1, h⟩ := oBind h
  refine Ev_callS (st := []) (st' := []) [.ref 44, .int 0] (dt_X1_weigh.at 3 rfl) cf_X1_35 (w_Arrays_fill σ 0 q1 hq1) (by decide) rfl rfl (Nat.le_of_ble_eq_true rfl) rfl ?_
  refine Ev_iconst (dt_X1_weigh.at 4 rfl) ki_0 ?_
  refine Ev_istore_n (dt_X1_weigh.at 5 rfl) (by decide) (ls' := [(2, .int 0), (0, .ref 43), (1, .int a1)]) rfl ?_
  refine Ev_sub [1, 2, 0] (ls' := [(0, .ref 43), (1, .int a1), (2, .int 0)]) rfl ?_
  obtain ⟨o8, ho8, h⟩ := oBind h
  refine wl_FreeDay_weigh_10 a1 _ _ 100000 (q1, 0) o8 ho8 (fun y ey => ?_)
  subst ey
  exact Ev_vret (dt_X1_weigh.at 20 rfl) rfl h
def b_Arrays_fill_45_5 (v1 : Int32) (v3 : Int32) (x : (Sg × Int32)) : Option ((Sg × Int32) ⊕ (Sg × Int32)) :=
  if v3 ≤ x.2 then
    some (.inr (x.1, x.2))
  else
    if inB x.2 384 = true then
      lt (pI x.1 45 (Int32.toNatClampNeg x.2) v1 : Sg) fun s3 =>
      lt (x.2 + 1 : Int32) fun x4 =>
      some (.inl (s3, x4))
    else none
def s_Arrays_fill_45 (σ : Sg) (a1 : Int32) : Option Sg :=
  (lp (b_Arrays_fill_45_5 a1 384) 100000 (σ, 0)).bind fun o5 =>
  some o5.1
set_option maxRecDepth 100000 in
set_option maxHeartbeats 4000000 in
theorem wb_Arrays_fill_45_5 (v1 : Int32) (v3 : Int32) (x : (Sg × Int32)) (r : Option Value) (τ : Sg) (o : ((Sg × Int32) ⊕ (Sg × Int32))) (h : (b_Arrays_fill_45_5 v1 v3 x) = some o) (hc : ∀ y : (Sg × Int32), o = .inl y → Ev M_J7_fill 0 r τ 5 [(0, .ref 45), (1, .int v1), (2, .int y.2), (3, .int v3)] [] y.1) (he : ∀ y : (Sg × Int32), o = .inr y → Ev M_J7_fill 0 r τ 20 [] [] y.1) : Ev M_J7_fill 0 r τ 5 [(0, .ref 45), (1, .int v1), (2, .int x.2), (3, .int v3)] [] x.1 := by
  unfold b_Arrays_fill_45_5 at h
  refine Ev_iload_n 2 (dt_J7_fill.at 5 rfl) rfl ?_
  refine Ev_iload_n 3 (dt_J7_fill.at 6 rfl) rfl ?_
  refine Ev_icmp_ge (tgt := 20) (dt_J7_fill.at 7 rfl) (by decide) (fun c1 => ?_) (fun c1 => ?_)
  · replace h := oPos h c1
    refine Ev_sub [] (ls' := []) rfl ?_
    exact he (x.1, x.2) (Option.some.inj h).symm
  · replace h := oNeg h c1
    refine Ev_aload_n 0 (dt_J7_fill.at 8 rfl) rfl ?_
    refine Ev_iload_n 2 (dt_J7_fill.at 9 rfl) rfl ?_
    refine Ev_iload_n 1 (dt_J7_fill.at 10 rfl) rfl ?_
    obtain ⟨g2, h⟩ := oGuard h
    refine Ev_iastore 45 (dt_J7_fill.at 11 rfl) sk_45 g2 ?_
    refine Ev_nmS (fun s3 es3 => ?_)
    replace h := oLt h es3
    obtain ⟨x4, ex4⟩ : ∃ z : Int32, z = x.2 + 1 := ⟨_, rfl⟩
    replace h := oLt h ex4
    refine Ev_iinc (v := x4) 2 (dt_J7_fill.at 12 rfl) rfl (ex4.trans (congrArg (fun z => x.2 + z) ki_1.symm)) (by decide) (ls' := [(2, .int x4), (0, .ref 45), (1, .int v1), (3, .int v3)]) rfl ?_
    refine Ev_goto (tgt := 5) (dt_J7_fill.at 13 rfl) (by decide) ?_
    refine Ev_sub [1, 2, 0, 3] (ls' := [(0, .ref 45), (1, .int v1), (2, .int x4), (3, .int v3)]) rfl ?_
    exact hc (s3, x4) (Option.some.inj h).symm
set_option maxRecDepth 100000 in
set_option maxHeartbeats 4000000 in
theorem wl_Arrays_fill_45_5 (v1 : Int32) (v3 : Int32) (r : Option Value) (τ : Sg) (n : Nat) (x : (Sg × Int32)) (z : (Sg × Int32)) (h : lp (b_Arrays_fill_45_5 v1 v3) n x = some z) (he : ∀ y : (Sg × Int32), z = y → Ev M_J7_fill 0 r τ 20 [] [] y.1) : Ev M_J7_fill 0 r τ 5 [(0, .ref 45), (1, .int v1), (2, .int x.2), (3, .int v3)] [] x.1 := by
  refine lp_ind (E := fun x : (Sg × Int32) => Ev M_J7_fill 0 r τ 5 [(0, .ref 45), (1, .int v1), (2, .int x.2), (3, .int v3)] [] x.1) (fun x => ⟨fun y hb hy => ?_, fun hb => ?_⟩) n x h
  · exact wb_Arrays_fill_45_5 v1 v3 x r τ _ hb (fun y' e => by cases e; exact hy) (fun y' e => by cases e)
  · exact wb_Arrays_fill_45_5 v1 v3 x r τ _ hb (fun y' e => by cases e) (fun y' e => he y' (Sum.inr.inj e))
set_option maxRecDepth 100000 in
set_option maxHeartbeats 4000000 in
theorem w_Arrays_fill_45 (σ : Sg) (a1 : Int32) (q : Sg) (h : s_Arrays_fill_45 σ a1 = some q) : Cal M_J7_fill 0 [.ref 45, .int a1] σ none q := by
  refine Cal.of (M := M_J7_fill) (by decide +kernel) (Nat.le_of_ble_eq_true rfl) ?_
  show Ev _ _ _ _ 0 [(0, .ref 45), (1, .int a1)] [] σ
  unfold s_Arrays_fill_45 at h
  refine Ev_iconst (dt_J7_fill.at 0 rfl) ki_0 ?_
  refine Ev_istore_n (dt_J7_fill.at 1 rfl) (by decide) (ls' := [(2, .int 0), (0, .ref 45), (1, .int a1)]) rfl ?_
  refine Ev_aload_n 1 (dt_J7_fill.at 2 rfl) rfl ?_
  refine Ev_alen 45 (dt_J7_fill.at 3 rfl) sk_45 (Or.inl rfl) kn_384 ?_
  refine Ev_istore_n (dt_J7_fill.at 4 rfl) (by decide) (ls' := [(3, .int 384), (2, .int 0), (0, .ref 45), (1, .int a1)]) rfl ?_
  refine Ev_sub [2, 3, 1, 0] (ls' := [(0, .ref 45), (1, .int a1), (2, .int 0), (3, .int 384)]) rfl ?_
  obtain ⟨o5, ho5, h⟩ := oBind h
  refine wl_Arrays_fill_45_5 a1 384 _ _ 100000 (σ, 0) o5 ho5 (fun y ey => ?_)
  subst ey
  exact Ev_vret (dt_J7_fill.at 14 rfl) rfl h
def s_Math_max (a0 : Int32) (a1 : Int32) : Option Int32 :=
  if a0 < a1 then
    some a1
  else
    some a0
set_option maxRecDepth 100000 in
set_option maxHeartbeats 4000000 in
theorem w_Math_max (σ : Sg) (a0 : Int32) (a1 : Int32) (q : Int32) (h : s_Math_max a0 a1 = some q) : Cal M_J9_max 0 [.int a0, .int a1] σ (some (.int q)) σ := by
  refine Cal.of (M := M_J9_max) (by decide +kernel) (Nat.le_of_ble_eq_true rfl) ?_
  show Ev _ _ _ _ 0 [(0, .int a0), (1, .int a1)] [] σ
  unfold s_Math_max at h
  refine Ev_iload_n 0 (dt_J9_max.at 0 rfl) rfl ?_
  refine Ev_iload_n 1 (dt_J9_max.at 1 rfl) rfl ?_
  refine Ev_icmp_lt (tgt := 9) (dt_J9_max.at 2 rfl) (by decide) (fun c1 => ?_) (fun c1 => ?_)
  · replace h := oPos h c1
    refine Ev_iload_n 1 (dt_J9_max.at 5 rfl) rfl ?_
    exact Ev_iret (dt_J9_max.at 6 rfl) rfl (oRet h)
  · replace h := oNeg h c1
    refine Ev_iload_n 0 (dt_J9_max.at 3 rfl) rfl ?_
    refine Ev_goto (tgt := 10) (dt_J9_max.at 4 rfl) (by decide) ?_
    exact Ev_iret (dt_J9_max.at 6 rfl) rfl (oRet h)
def j_FreeDay_goOn_68i16 (v1 : Int32) (v2 : Int32) (v3 : Int32) (v4 : Int32) (v5 : Int32) (σ : Sg) (v6 : Int32) (v7 : Int32) (u0 : Int32) (u1 : Int32) : Option ((Sg × Int32) ⊕ (Sg × Int32)) :=
  lt ((u1 + u0) : Int32) fun x11 =>
  lt (((v7 <<< ((6 : Int32) &&& 31)) + (v4 ||| ((1 : Int32) <<< (v7 &&& 31)))) : Int32) fun x12 =>
  if gR σ 43 3 = 45 then
    if inB x12 384 = true then
      (s_Math_max (gI σ 45 (Int32.toNatClampNeg x12)) x11).bind fun q15 =>
      if inB x12 384 = true then
        lt (pI σ 45 (Int32.toNatClampNeg x12) q15 : Sg) fun s17 =>
        lt (v6 + 1 : Int32) fun x18 =>
        some (.inl (s17, x18))
      else none
    else none
  else
    if gR σ 43 3 = 46 then
      if inB x12 384 = true then
        (s_Math_max (gI σ 46 (Int32.toNatClampNeg x12)) x11).bind fun q21 =>
        if inB x12 384 = true then
          lt (pI σ 46 (Int32.toNatClampNeg x12) q21 : Sg) fun s23 =>
          lt (v6 + 1 : Int32) fun x24 =>
          some (.inl (s23, x24))
        else none
      else none
    else
      none
def b_FreeDay_goOn_16 (v1 : Int32) (v2 : Int32) (v3 : Int32) (v4 : Int32) (v5 : Int32) (x : (Sg × Int32)) : Option ((Sg × Int32) ⊕ (Sg × Int32)) :=
  if v3 < x.2 then
    some (.inr (x.1, x.2))
  else
    (s_Town_onRing x.1 (v5 + x.2)).bind fun q5 =>
    if gR x.1 43 2 = 45 then
      if inB v1 384 = true then
        (s_x_isIn v4 q5).bind fun q8 =>
        if q8 = 0 then
          if inB ((q5 * 10) + v2) 60 = true then
            j_FreeDay_goOn_68i16 v1 v2 v3 v4 v5 x.1 x.2 q5 (gI x.1 44 (Int32.toNatClampNeg ((q5 * 10) + v2))) (gI x.1 45 (Int32.toNatClampNeg v1))
          else none
        else
          j_FreeDay_goOn_68i16 v1 v2 v3 v4 v5 x.1 x.2 q5 0 (gI x.1 45 (Int32.toNatClampNeg v1))
      else none
    else
      if gR x.1 43 2 = 46 then
        if inB v1 384 = true then
          (s_x_isIn v4 q5).bind fun q27 =>
          if q27 = 0 then
            if inB ((q5 * 10) + v2) 60 = true then
              j_FreeDay_goOn_68i16 v1 v2 v3 v4 v5 x.1 x.2 q5 (gI x.1 44 (Int32.toNatClampNeg ((q5 * 10) + v2))) (gI x.1 46 (Int32.toNatClampNeg v1))
            else none
          else
            j_FreeDay_goOn_68i16 v1 v2 v3 v4 v5 x.1 x.2 q5 0 (gI x.1 46 (Int32.toNatClampNeg v1))
        else none
      else
        none
def s_FreeDay_goOn (σ : Sg) (a1 : Int32) (a2 : Int32) (a3 : Int32) : Option Sg :=
  lt ((a1 &&& 63) : Int32) fun x1 =>
  lt ((a1 >>> ((6 : Int32) &&& 31)) : Int32) fun x2 =>
  lt ((-a3) : Int32) fun x3 =>
  (lp (b_FreeDay_goOn_16 a1 a2 a3 x1 x2) 100000 (σ, x3)).bind fun o30 =>
  some o30.1
set_option maxRecDepth 100000 in
set_option maxHeartbeats 4000000 in
theorem wj_FreeDay_goOn_68i16 (v1 : Int32) (v2 : Int32) (v3 : Int32) (v4 : Int32) (v5 : Int32) (σ : Sg) (v6 : Int32) (v7 : Int32) (u0 : Int32) (u1 : Int32) (r : Option Value) (τ : Sg) (o : ((Sg × Int32) ⊕ (Sg × Int32))) (h : (j_FreeDay_goOn_68i16 v1 v2 v3 v4 v5 σ v6 v7 u0 u1) = some o) (hc : ∀ y : (Sg × Int32), o = .inl y → Ev M_X1_goOn 2 r τ 16 [(0, .ref 43), (1, .int v1), (2, .int v2), (3, .int v3), (4, .int v4), (5, .int v5), (6, .int y.2)] [] y.1) (he : ∀ y : (Sg × Int32), o = .inr y → Ev M_X1_goOn 2 r τ 111 [] [] y.1) : Ev M_X1_goOn 2 r τ 68 [(0, .ref 43), (1, .int v1), (2, .int v2), (3, .int v3), (4, .int v4), (5, .int v5), (6, .int v6), (7, .int v7)] [.int u0, .int u1] σ := by
  unfold j_FreeDay_goOn_68i16 at h
  refine Ev_iadd (dt_X1_goOn.at 39 rfl) ?_
  refine Ev_nmI (fun x11 ex11 => ?_)
  replace h := oLt h ex11
  refine Ev_istore (dt_X1_goOn.at 40 rfl) (by decide) (ls' := [(8, .int x11), (0, .ref 43), (1, .int v1), (2, .int v2), (3, .int v3), (4, .int v4), (5, .int v5), (6, .int v6), (7, .int v7)]) rfl ?_
  refine Ev_iload 8 (dt_X1_goOn.at 41 rfl) rfl ?_
  refine Ev_bipush (dt_X1_goOn.at 42 rfl) kb_6 ?_
  refine Ev_ishl (dt_X1_goOn.at 43 rfl) ?_
  refine Ev_iload 5 (dt_X1_goOn.at 44 rfl) rfl ?_
  refine Ev_iconst (dt_X1_goOn.at 45 rfl) ki_1 ?_
  refine Ev_iload 8 (dt_X1_goOn.at 46 rfl) rfl ?_
  refine Ev_ishl (dt_X1_goOn.at 47 rfl) ?_
  refine Ev_ior (dt_X1_goOn.at 48 rfl) ?_
  refine Ev_iadd (dt_X1_goOn.at 49 rfl) ?_
  refine Ev_nmI (fun x12 ex12 => ?_)
  replace h := oLt h ex12
  refine Ev_istore (dt_X1_goOn.at 50 rfl) (by decide) (ls' := [(9, .int x12), (8, .int x11), (0, .ref 43), (1, .int v1), (2, .int v2), (3, .int v3), (4, .int v4), (5, .int v5), (6, .int v6), (7, .int v7)]) rfl ?_
  refine Ev_aload_n 2 (dt_X1_goOn.at 51 rfl) rfl ?_
  by_cases c13 : gR σ 43 3 = 45
  · replace h := oPos h c13
    refine Ev_get (i := 3) (v := .ref 45) (dt_X1_goOn.at 52 rfl) ff_X1_18 sk_43 rfl (congrArg Value.ref c13) ?_
    refine Ev_iload 0 (dt_X1_goOn.at 53 rfl) rfl ?_
    refine Ev_aload_n 2 (dt_X1_goOn.at 54 rfl) rfl ?_
    refine Ev_get (i := 3) (v := .ref 45) (dt_X1_goOn.at 55 rfl) ff_X1_18 sk_43 rfl (congrArg Value.ref c13) ?_
    refine Ev_iload 0 (dt_X1_goOn.at 56 rfl) rfl ?_
    obtain ⟨g14, h⟩ := oGuard h
    refine Ev_iaload 45 (dt_X1_goOn.at 57 rfl) sk_45 g14 ?_
    refine Ev_iload 1 (dt_X1_goOn.at 58 rfl) rfl ?_
    obtain ⟨q15, hq15, h⟩ := oBind h
    refine Ev_callS (st := [.int x12, .ref 45]) (st' := [.int q15, .int x12, .ref 45]) [.int (gI σ 45 (Int32.toNatClampNeg x12)), .int x11] (dt_X1_goOn.at 59 rfl) cf_X1_45 (w_Math_max σ (gI σ 45 (Int32.toNatClampNeg x12)) x11 q15 hq15) (by decide) rfl rfl (Nat.le_of_ble_eq_true rfl) rfl ?_
    obtain ⟨g16, h⟩ := oGuard h
    refine Ev_iastore 45 (dt_X1_goOn.at 60 rfl) sk_45 g16 ?_
    refine Ev_nmS (fun s17 es17 => ?_)
    replace h := oLt h es17
    obtain ⟨x18, ex18⟩ : ∃ z : Int32, z = v6 + 1 := ⟨_, rfl⟩
    replace h := oLt h ex18
    refine Ev_iinc (v := x18) 8 (dt_X1_goOn.at 61 rfl) rfl (ex18.trans (congrArg (fun z => v6 + z) ki_1.symm)) (by decide) (ls' := [(6, .int x18), (9, .int x12), (8, .int x11), (0, .ref 43), (1, .int v1), (2, .int v2), (3, .int v3), (4, .int v4), (5, .int v5), (7, .int v7)]) rfl ?_
    refine Ev_goto (tgt := 16) (dt_X1_goOn.at 62 rfl) (by decide) ?_
    refine Ev_sub [3, 4, 5, 6, 7, 8, 0] (ls' := [(0, .ref 43), (1, .int v1), (2, .int v2), (3, .int v3), (4, .int v4), (5, .int v5), (6, .int x18)]) rfl ?_
    exact hc (s17, x18) (Option.some.inj h).symm
  replace h := oNeg h c13
  obtain ⟨c19, h⟩ := oGuard h
  refine Ev_get (i := 3) (v := .ref 46) (dt_X1_goOn.at 52 rfl) ff_X1_18 sk_43 rfl (congrArg Value.ref c19) ?_
  refine Ev_iload 0 (dt_X1_goOn.at 53 rfl) rfl ?_
  refine Ev_aload_n 2 (dt_X1_goOn.at 54 rfl) rfl ?_
  refine Ev_get (i := 3) (v := .ref 46) (dt_X1_goOn.at 55 rfl) ff_X1_18 sk_43 rfl (congrArg Value.ref c19) ?_
  refine Ev_iload 0 (dt_X1_goOn.at 56 rfl) rfl ?_
  obtain ⟨g20, h⟩ := oGuard h
  refine Ev_iaload 46 (dt_X1_goOn.at 57 rfl) sk_46 g20 ?_
  refine Ev_iload 1 (dt_X1_goOn.at 58 rfl) rfl ?_
  obtain ⟨q21, hq21, h⟩ := oBind h
  refine Ev_callS (st := [.int x12, .ref 46]) (st' := [.int q21, .int x12, .ref 46]) [.int (gI σ 46 (Int32.toNatClampNeg x12)), .int x11] (dt_X1_goOn.at 59 rfl) cf_X1_45 (w_Math_max σ (gI σ 46 (Int32.toNatClampNeg x12)) x11 q21 hq21) (by decide) rfl rfl (Nat.le_of_ble_eq_true rfl) rfl ?_
  obtain ⟨g22, h⟩ := oGuard h
  refine Ev_iastore 46 (dt_X1_goOn.at 60 rfl) sk_46 g22 ?_
  refine Ev_nmS (fun s23 es23 => ?_)
  replace h := oLt h es23
  obtain ⟨x24, ex24⟩ : ∃ z : Int32, z = v6 + 1 := ⟨_, rfl⟩
  replace h := oLt h ex24
  refine Ev_iinc (v := x24) 8 (dt_X1_goOn.at 61 rfl) rfl (ex24.trans (congrArg (fun z => v6 + z) ki_1.symm)) (by decide) (ls' := [(6, .int x24), (9, .int x12), (8, .int x11), (0, .ref 43), (1, .int v1), (2, .int v2), (3, .int v3), (4, .int v4), (5, .int v5), (7, .int v7)]) rfl ?_
  refine Ev_goto (tgt := 16) (dt_X1_goOn.at 62 rfl) (by decide) ?_
  refine Ev_sub [3, 4, 5, 6, 7, 8, 0] (ls' := [(0, .ref 43), (1, .int v1), (2, .int v2), (3, .int v3), (4, .int v4), (5, .int v5), (6, .int x24)]) rfl ?_
  exact hc (s23, x24) (Option.some.inj h).symm
set_option maxRecDepth 100000 in
set_option maxHeartbeats 4000000 in
theorem wb_FreeDay_goOn_16 (v1 : Int32) (v2 : Int32) (v3 : Int32) (v4 : Int32) (v5 : Int32) (x : (Sg × Int32)) (r : Option Value) (τ : Sg) (o : ((Sg × Int32) ⊕ (Sg × Int32))) (h : (b_FreeDay_goOn_16 v1 v2 v3 v4 v5 x) = some o) (hc : ∀ y : (Sg × Int32), o = .inl y → Ev M_X1_goOn 2 r τ 16 [(0, .ref 43), (1, .int v1), (2, .int v2), (3, .int v3), (4, .int v4), (5, .int v5), (6, .int y.2)] [] y.1) (he : ∀ y : (Sg × Int32), o = .inr y → Ev M_X1_goOn 2 r τ 111 [] [] y.1) : Ev M_X1_goOn 2 r τ 16 [(0, .ref 43), (1, .int v1), (2, .int v2), (3, .int v3), (4, .int v4), (5, .int v5), (6, .int x.2)] [] x.1 := by
  unfold b_FreeDay_goOn_16 at h
  refine Ev_iload 6 (dt_X1_goOn.at 11 rfl) rfl ?_
  refine Ev_iload_n 3 (dt_X1_goOn.at 12 rfl) rfl ?_
  refine Ev_icmp_gt (tgt := 111) (dt_X1_goOn.at 13 rfl) (by decide) (fun c4 => ?_) (fun c4 => ?_)
  · replace h := oPos h c4
    refine Ev_sub [] (ls' := []) rfl ?_
    exact he (x.1, x.2) (Option.some.inj h).symm
  · replace h := oNeg h c4
    refine Ev_aload_n 0 (dt_X1_goOn.at 14 rfl) rfl ?_
    refine Ev_get (i := 0) (v := .ref 19) (dt_X1_goOn.at 15 rfl) ff_X1_21 sk_43 rfl rfl ?_
    refine Ev_iload 5 (dt_X1_goOn.at 16 rfl) rfl ?_
    refine Ev_iload 6 (dt_X1_goOn.at 17 rfl) rfl ?_
    refine Ev_iadd (dt_X1_goOn.at 18 rfl) ?_
    obtain ⟨q5, hq5, h⟩ := oBind h
    refine Ev_callV (st := []) (st' := [.int q5]) [.int (v5 + x.2)] (dt_X1_goOn.at 19 rfl) cf_X1_75 (w_Town_onRing x.1 (v5 + x.2) q5 hq5) (by decide) sk_19 rfl rfl rfl (Nat.le_of_ble_eq_true rfl) rfl ?_
    refine Ev_istore (dt_X1_goOn.at 20 rfl) (by decide) (ls' := [(7, .int q5), (0, .ref 43), (1, .int v1), (2, .int v2), (3, .int v3), (4, .int v4), (5, .int v5), (6, .int x.2)]) rfl ?_
    refine Ev_aload_n 1 (dt_X1_goOn.at 21 rfl) rfl ?_
    by_cases c6 : gR x.1 43 2 = 45
    · replace h := oPos h c6
      refine Ev_get (i := 2) (v := .ref 45) (dt_X1_goOn.at 22 rfl) ff_X1_15 sk_43 rfl (congrArg Value.ref c6) ?_
      refine Ev_iload_n 2 (dt_X1_goOn.at 23 rfl) rfl ?_
      obtain ⟨g7, h⟩ := oGuard h
      refine Ev_iaload 45 (dt_X1_goOn.at 24 rfl) sk_45 g7 ?_
      refine Ev_iload 5 (dt_X1_goOn.at 25 rfl) rfl ?_
      refine Ev_iload 0 (dt_X1_goOn.at 26 rfl) rfl ?_
      obtain ⟨q8, hq8, h⟩ := oBind h
      refine Ev_callS (st := [.int (gI x.1 45 (Int32.toNatClampNeg v1))]) (st' := [.int q8, .int (gI x.1 45 (Int32.toNatClampNeg v1))]) [.int v4, .int q5] (dt_X1_goOn.at 27 rfl) cf_X1_55 (w_x_isIn x.1 v4 q5 q8 hq8) (by decide) rfl rfl (Nat.le_of_ble_eq_true rfl) rfl ?_
      refine Ev_if_eq (tgt := 56) (dt_X1_goOn.at 28 rfl) (by decide) (fun c9 => ?_) (fun c9 => ?_)
      · replace h := oPos h c9
        refine Ev_aload_n 1 (dt_X1_goOn.at 31 rfl) rfl ?_
        refine Ev_get (i := 1) (v := .ref 44) (dt_X1_goOn.at 32 rfl) ff_X1_9 sk_43 rfl rfl ?_
        refine Ev_iload 0 (dt_X1_goOn.at 33 rfl) rfl ?_
        refine Ev_bipush (dt_X1_goOn.at 34 rfl) kb_10 ?_
        refine Ev_imul (dt_X1_goOn.at 35 rfl) ?_
        refine Ev_iload_n 3 (dt_X1_goOn.at 36 rfl) rfl ?_
        refine Ev_iadd (dt_X1_goOn.at 37 rfl) ?_
        obtain ⟨g10, h⟩ := oGuard h
        refine Ev_iaload 44 (dt_X1_goOn.at 38 rfl) sk_44 g10 ?_
        refine Ev_sub [1, 2, 3, 4, 5, 6, 7, 0] (ls' := [(0, .ref 43), (1, .int v1), (2, .int v2), (3, .int v3), (4, .int v4), (5, .int v5), (6, .int x.2), (7, .int q5)]) rfl ?_
        exact wj_FreeDay_goOn_68i16 v1 v2 v3 v4 v5 x.1 x.2 q5 (gI x.1 44 (Int32.toNatClampNeg ((q5 * 10) + v2))) (gI x.1 45 (Int32.toNatClampNeg v1)) _ _ _ h hc he
      · replace h := oNeg h c9
        refine Ev_iconst (dt_X1_goOn.at 29 rfl) ki_0 ?_
        refine Ev_goto (tgt := 68) (dt_X1_goOn.at 30 rfl) (by decide) ?_
        refine Ev_sub [1, 2, 3, 4, 5, 6, 7, 0] (ls' := [(0, .ref 43), (1, .int v1), (2, .int v2), (3, .int v3), (4, .int v4), (5, .int v5), (6, .int x.2), (7, .int q5)]) rfl ?_
        exact wj_FreeDay_goOn_68i16 v1 v2 v3 v4 v5 x.1 x.2 q5 0 (gI x.1 45 (Int32.toNatClampNeg v1)) _ _ _ h hc he
    replace h := oNeg h c6
    obtain ⟨c25, h⟩ := oGuard h
    refine Ev_get (i := 2) (v := .ref 46) (dt_X1_goOn.at 22 rfl) ff_X1_15 sk_43 rfl (congrArg Value.ref c25) ?_
    refine Ev_iload_n 2 (dt_X1_goOn.at 23 rfl) rfl ?_
    obtain ⟨g26, h⟩ := oGuard h
    refine Ev_iaload 46 (dt_X1_goOn.at 24 rfl) sk_46 g26 ?_
    refine Ev_iload 5 (dt_X1_goOn.at 25 rfl) rfl ?_
    refine Ev_iload 0 (dt_X1_goOn.at 26 rfl) rfl ?_
    obtain ⟨q27, hq27, h⟩ := oBind h
    refine Ev_callS (st := [.int (gI x.1 46 (Int32.toNatClampNeg v1))]) (st' := [.int q27, .int (gI x.1 46 (Int32.toNatClampNeg v1))]) [.int v4, .int q5] (dt_X1_goOn.at 27 rfl) cf_X1_55 (w_x_isIn x.1 v4 q5 q27 hq27) (by decide) rfl rfl (Nat.le_of_ble_eq_true rfl) rfl ?_
    refine Ev_if_eq (tgt := 56) (dt_X1_goOn.at 28 rfl) (by decide) (fun c28 => ?_) (fun c28 => ?_)
    · replace h := oPos h c28
      refine Ev_aload_n 1 (dt_X1_goOn.at 31 rfl) rfl ?_
      refine Ev_get (i := 1) (v := .ref 44) (dt_X1_goOn.at 32 rfl) ff_X1_9 sk_43 rfl rfl ?_
      refine Ev_iload 0 (dt_X1_goOn.at 33 rfl) rfl ?_
      refine Ev_bipush (dt_X1_goOn.at 34 rfl) kb_10 ?_
      refine Ev_imul (dt_X1_goOn.at 35 rfl) ?_
      refine Ev_iload_n 3 (dt_X1_goOn.at 36 rfl) rfl ?_
      refine Ev_iadd (dt_X1_goOn.at 37 rfl) ?_
      obtain ⟨g29, h⟩ := oGuard h
      refine Ev_iaload 44 (dt_X1_goOn.at 38 rfl) sk_44 g29 ?_
      refine Ev_sub [1, 2, 3, 4, 5, 6, 7, 0] (ls' := [(0, .ref 43), (1, .int v1), (2, .int v2), (3, .int v3), (4, .int v4), (5, .int v5), (6, .int x.2), (7, .int q5)]) rfl ?_
      exact wj_FreeDay_goOn_68i16 v1 v2 v3 v4 v5 x.1 x.2 q5 (gI x.1 44 (Int32.toNatClampNeg ((q5 * 10) + v2))) (gI x.1 46 (Int32.toNatClampNeg v1)) _ _ _ h hc he
    · replace h := oNeg h c28
      refine Ev_iconst (dt_X1_goOn.at 29 rfl) ki_0 ?_
      refine Ev_goto (tgt := 68) (dt_X1_goOn.at 30 rfl) (by decide) ?_
      refine Ev_sub [1, 2, 3, 4, 5, 6, 7, 0] (ls' := [(0, .ref 43), (1, .int v1), (2, .int v2), (3, .int v3), (4, .int v4), (5, .int v5), (6, .int x.2), (7, .int q5)]) rfl ?_
      exact wj_FreeDay_goOn_68i16 v1 v2 v3 v4 v5 x.1 x.2 q5 0 (gI x.1 46 (Int32.toNatClampNeg v1)) _ _ _ h hc he
set_option maxRecDepth 100000 in
set_option maxHeartbeats 4000000 in
theorem wl_FreeDay_goOn_16 (v1 : Int32) (v2 : Int32) (v3 : Int32) (v4 : Int32) (v5 : Int32) (r : Option Value) (τ : Sg) (n : Nat) (x : (Sg × Int32)) (z : (Sg × Int32)) (h : lp (b_FreeDay_goOn_16 v1 v2 v3 v4 v5) n x = some z) (he : ∀ y : (Sg × Int32), z = y → Ev M_X1_goOn 2 r τ 111 [] [] y.1) : Ev M_X1_goOn 2 r τ 16 [(0, .ref 43), (1, .int v1), (2, .int v2), (3, .int v3), (4, .int v4), (5, .int v5), (6, .int x.2)] [] x.1 := by
  refine lp_ind (E := fun x : (Sg × Int32) => Ev M_X1_goOn 2 r τ 16 [(0, .ref 43), (1, .int v1), (2, .int v2), (3, .int v3), (4, .int v4), (5, .int v5), (6, .int x.2)] [] x.1) (fun x => ⟨fun y hb hy => ?_, fun hb => ?_⟩) n x h
  · exact wb_FreeDay_goOn_16 v1 v2 v3 v4 v5 x r τ _ hb (fun y' e => by cases e; exact hy) (fun y' e => by cases e)
  · exact wb_FreeDay_goOn_16 v1 v2 v3 v4 v5 x r τ _ hb (fun y' e => by cases e) (fun y' e => he y' (Sum.inr.inj e))
set_option maxRecDepth 100000 in
set_option maxHeartbeats 4000000 in
theorem w_FreeDay_goOn (σ : Sg) (a1 : Int32) (a2 : Int32) (a3 : Int32) (q : Sg) (h : s_FreeDay_goOn σ a1 a2 a3 = some q) : Cal M_X1_goOn 2 [.ref 43, .int a1, .int a2, .int a3] σ none q := by
  refine Cal.of (M := M_X1_goOn) (by decide +kernel) (Nat.le_of_ble_eq_true rfl) ?_
  show Ev _ _ _ _ 0 [(0, .ref 43), (1, .int a1), (2, .int a2), (3, .int a3)] [] σ
  unfold s_FreeDay_goOn at h
  refine Ev_iload_n 1 (dt_X1_goOn.at 0 rfl) rfl ?_
  refine Ev_bipush (dt_X1_goOn.at 1 rfl) kb_63 ?_
  refine Ev_iand (dt_X1_goOn.at 2 rfl) ?_
  refine Ev_nmI (fun x1 ex1 => ?_)
  replace h := oLt h ex1
  refine Ev_istore (dt_X1_goOn.at 3 rfl) (by decide) (ls' := [(4, .int x1), (0, .ref 43), (1, .int a1), (2, .int a2), (3, .int a3)]) rfl ?_
  refine Ev_iload_n 2 (dt_X1_goOn.at 4 rfl) rfl ?_
  refine Ev_bipush (dt_X1_goOn.at 5 rfl) kb_6 ?_
  refine Ev_ishr (dt_X1_goOn.at 6 rfl) ?_
  refine Ev_nmI (fun x2 ex2 => ?_)
  replace h := oLt h ex2
  refine Ev_istore (dt_X1_goOn.at 7 rfl) (by decide) (ls' := [(5, .int x2), (4, .int x1), (0, .ref 43), (1, .int a1), (2, .int a2), (3, .int a3)]) rfl ?_
  refine Ev_iload_n 5 (dt_X1_goOn.at 8 rfl) rfl ?_
  refine Ev_ineg (dt_X1_goOn.at 9 rfl) ?_
  refine Ev_nmI (fun x3 ex3 => ?_)
  replace h := oLt h ex3
  refine Ev_istore (dt_X1_goOn.at 10 rfl) (by decide) (ls' := [(6, .int x3), (5, .int x2), (4, .int x1), (0, .ref 43), (1, .int a1), (2, .int a2), (3, .int a3)]) rfl ?_
  refine Ev_sub [3, 4, 5, 6, 2, 1, 0] (ls' := [(0, .ref 43), (1, .int a1), (2, .int a2), (3, .int a3), (4, .int x1), (5, .int x2), (6, .int x3)]) rfl ?_
  obtain ⟨o30, ho30, h⟩ := oBind h
  refine wl_FreeDay_goOn_16 a1 a2 a3 x1 x2 _ _ 100000 (σ, x3) o30 ho30 (fun y ey => ?_)
  subst ey
  exact Ev_vret (dt_X1_goOn.at 63 rfl) rfl h
