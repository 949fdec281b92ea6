def b_Splits_doneBy_6 (σ : Sg) (v1 : Int32) (x : (Int32 × Int32)) : Option ((Int32 × Int32) ⊕ (Int32 × Int32)) :=
  if ((v1 + 1) * 3) ≤ x.2 then
    some (.inr (x.1, x.2))
  else
    if inB x.2 840 = true then
      if inB (gI σ 16 (Int32.toNatClampNeg x.2)) 512 = true then
        lt ((x.1 + (gI σ 15 (Int32.toNatClampNeg (gI σ 16 (Int32.toNatClampNeg x.2))))) : Int32) fun x5 =>
        lt (x.2 + 1 : Int32) fun x6 =>
        some (.inl (x5, x6))
      else none
    else none
def s_Splits_doneBy (σ : Sg) (a1 : Int32) : Option Int32 :=
  lt ((a1 * 3) : Int32) fun x1 =>
  (lp (b_Splits_doneBy_6 σ a1) 100000 (0, x1)).bind fun o7 =>
  some o7.1
set_option maxRecDepth 100000 in
set_option maxHeartbeats 4000000 in
theorem wb_Splits_doneBy_6 (σ : Sg) (v1 : Int32) (x : (Int32 × Int32)) (r : Option Value) (τ : Sg) (o : ((Int32 × Int32) ⊕ (Int32 × Int32))) (h : (b_Splits_doneBy_6 σ v1 x) = some o) (hc : ∀ y : (Int32 × Int32), o = .inl y → Ev M_X7_doneBy 0 r τ 6 [(0, .ref 12), (1, .int v1), (2, .int y.1), (3, .int y.2)] [] σ) (he : ∀ y : (Int32 × Int32), o = .inr y → Ev M_X7_doneBy 0 r τ 35 [(2, .int y.1)] [] σ) : Ev M_X7_doneBy 0 r τ 6 [(0, .ref 12), (1, .int v1), (2, .int x.1), (3, .int x.2)] [] σ := by
  unfold b_Splits_doneBy_6 at h
  refine Ev_iload_n 3 (dt_X7_doneBy.at 6 rfl) rfl ?_
  refine Ev_iload_n 1 (dt_X7_doneBy.at 7 rfl) rfl ?_
  refine Ev_iconst (dt_X7_doneBy.at 8 rfl) ki_1 ?_
  refine Ev_iadd (dt_X7_doneBy.at 9 rfl) ?_
  refine Ev_iconst (dt_X7_doneBy.at 10 rfl) ki_3 ?_
  refine Ev_imul (dt_X7_doneBy.at 11 rfl) ?_
  refine Ev_icmp_ge (tgt := 35) (dt_X7_doneBy.at 12 rfl) (by decide) (fun c2 => ?_) (fun c2 => ?_)
  · replace h := oPos h c2
    refine Ev_sub [2] (ls' := [(2, .int x.1)]) rfl ?_
    exact he (x.1, x.2) (Option.some.inj h).symm
  · replace h := oNeg h c2
    refine Ev_iload_n 2 (dt_X7_doneBy.at 13 rfl) rfl ?_
    refine Ev_aload_n 0 (dt_X7_doneBy.at 14 rfl) rfl ?_
    refine Ev_get (i := 2) (v := .ref 15) (dt_X7_doneBy.at 15 rfl) ff_X7_19 sk_12 rfl rfl ?_
    refine Ev_aload_n 0 (dt_X7_doneBy.at 16 rfl) rfl ?_
    refine Ev_get (i := 3) (v := .ref 16) (dt_X7_doneBy.at 17 rfl) ff_X7_22 sk_12 rfl rfl ?_
    refine Ev_iload_n 3 (dt_X7_doneBy.at 18 rfl) rfl ?_
    obtain ⟨g3, h⟩ := oGuard h
    refine Ev_iaload 16 (dt_X7_doneBy.at 19 rfl) sk_16 g3 ?_
    obtain ⟨g4, h⟩ := oGuard h
    refine Ev_iaload 15 (dt_X7_doneBy.at 20 rfl) sk_15 g4 ?_
    refine Ev_iadd (dt_X7_doneBy.at 21 rfl) ?_
    refine Ev_nmI (fun x5 ex5 => ?_)
    replace h := oLt h ex5
    refine Ev_istore_n (dt_X7_doneBy.at 22 rfl) (by decide) (ls' := [(2, .int x5), (0, .ref 12), (1, .int v1), (3, .int x.2)]) rfl ?_
    obtain ⟨x6, ex6⟩ : ∃ z : Int32, z = x.2 + 1 := ⟨_, rfl⟩
    replace h := oLt h ex6
    refine Ev_iinc (v := x6) 3 (dt_X7_doneBy.at 23 rfl) rfl (ex6.trans (congrArg (fun z => x.2 + z) ki_1.symm)) (by decide) (ls' := [(3, .int x6), (2, .int x5), (0, .ref 12), (1, .int v1)]) rfl ?_
    refine Ev_goto (tgt := 6) (dt_X7_doneBy.at 24 rfl) (by decide) ?_
    refine Ev_sub [2, 3, 1, 0] (ls' := [(0, .ref 12), (1, .int v1), (2, .int x5), (3, .int x6)]) rfl ?_
    exact hc (x5, x6) (Option.some.inj h).symm
set_option maxRecDepth 100000 in
set_option maxHeartbeats 4000000 in
theorem wl_Splits_doneBy_6 (σ : Sg) (v1 : Int32) (r : Option Value) (τ : Sg) (n : Nat) (x : (Int32 × Int32)) (z : (Int32 × Int32)) (h : lp (b_Splits_doneBy_6 σ v1) n x = some z) (he : ∀ y : (Int32 × Int32), z = y → Ev M_X7_doneBy 0 r τ 35 [(2, .int y.1)] [] σ) : Ev M_X7_doneBy 0 r τ 6 [(0, .ref 12), (1, .int v1), (2, .int x.1), (3, .int x.2)] [] σ := by
  refine lp_ind (E := fun x : (Int32 × Int32) => Ev M_X7_doneBy 0 r τ 6 [(0, .ref 12), (1, .int v1), (2, .int x.1), (3, .int x.2)] [] σ) (fun x => ⟨fun y hb hy => ?_, fun hb => ?_⟩) n x h
  · exact wb_Splits_doneBy_6 σ v1 x r τ _ hb (fun y' e => by cases e; exact hy) (fun y' e => by cases e)
  · exact wb_Splits_doneBy_6 σ v1 x r τ _ hb (fun y' e => by cases e) (fun y' e => he y' (Sum.inr.inj e))
set_option maxRecDepth 100000 in
set_option maxHeartbeats 4000000 in
theorem w_Splits_doneBy (σ : Sg) (a1 : Int32) (q : Int32) (h : s_Splits_doneBy σ a1 = some q) : Cal M_X7_doneBy 0 [.ref 12, .int a1] σ (some (.int q)) σ := by
  refine Cal.of (M := M_X7_doneBy) (by decide +kernel) (Nat.le_of_ble_eq_true rfl) ?_
  show Ev _ _ _ _ 0 [(0, .ref 12), (1, .int a1)] [] σ
  unfold s_Splits_doneBy at h
  refine Ev_iconst (dt_X7_doneBy.at 0 rfl) ki_0 ?_
  refine Ev_istore_n (dt_X7_doneBy.at 1 rfl) (by decide) (ls' := [(2, .int 0), (0, .ref 12), (1, .int a1)]) rfl ?_
  refine Ev_iload_n 2 (dt_X7_doneBy.at 2 rfl) rfl ?_
  refine Ev_iconst (dt_X7_doneBy.at 3 rfl) ki_3 ?_
  refine Ev_imul (dt_X7_doneBy.at 4 rfl) ?_
  refine Ev_nmI (fun x1 ex1 => ?_)
  replace h := oLt h ex1
  refine Ev_istore_n (dt_X7_doneBy.at 5 rfl) (by decide) (ls' := [(3, .int x1), (2, .int 0), (0, .ref 12), (1, .int a1)]) rfl ?_
  refine Ev_sub [2, 3, 1, 0] (ls' := [(0, .ref 12), (1, .int a1), (2, .int 0), (3, .int x1)]) rfl ?_
  obtain ⟨o7, ho7, h⟩ := oBind h
  refine wl_Splits_doneBy_6 σ a1 _ _ 100000 (0, x1) o7 ho7 (fun y ey => ?_)
  subst ey
  refine Ev_iload_n 0 (dt_X7_doneBy.at 25 rfl) rfl ?_
  exact Ev_iret (dt_X7_doneBy.at 26 rfl) rfl (oRet h)
def b_Splits_firstOfMost_4 (σ : Sg) (x : (Int32 × Int32)) : Option ((Int32 × Int32) ⊕ (Int32 × Int32)) :=
  if (gI σ 12 5) ≤ x.2 then
    some (.inr (x.1, x.2))
  else
    (s_Splits_doneBy σ x.2).bind fun q2 =>
    (s_Splits_doneBy σ x.1).bind fun q3 =>
    if q2 ≤ q3 then
      lt (x.2 + 1 : Int32) fun x5 =>
      some (.inl (x.1, x5))
    else
      lt (x.2 + 1 : Int32) fun x6 =>
      some (.inl (x.2, x6))
def s_Splits_firstOfMost (σ : Sg)  : Option Int32 :=
  (lp (b_Splits_firstOfMost_4 σ) 100000 (0, 1)).bind fun o7 =>
  some o7.1
set_option maxRecDepth 100000 in
set_option maxHeartbeats 4000000 in
theorem wb_Splits_firstOfMost_4 (σ : Sg) (x : (Int32 × Int32)) (r : Option Value) (τ : Sg) (o : ((Int32 × Int32) ⊕ (Int32 × Int32))) (h : (b_Splits_firstOfMost_4 σ x) = some o) (hc : ∀ y : (Int32 × Int32), o = .inl y → Ev M_X7_firstOfMost 1 r τ 4 [(0, .ref 12), (1, .int y.1), (2, .int y.2)] [] σ) (he : ∀ y : (Int32 × Int32), o = .inr y → Ev M_X7_firstOfMost 1 r τ 33 [(1, .int y.1)] [] σ) : Ev M_X7_firstOfMost 1 r τ 4 [(0, .ref 12), (1, .int x.1), (2, .int x.2)] [] σ := by
  unfold b_Splits_firstOfMost_4 at h
  refine Ev_iload_n 2 (dt_X7_firstOfMost.at 4 rfl) rfl ?_
  refine Ev_aload_n 0 (dt_X7_firstOfMost.at 5 rfl) rfl ?_
  refine Ev_get (i := 5) (v := .int (gI σ 12 5)) (dt_X7_firstOfMost.at 6 rfl) ff_X7_32 sk_12 rfl rfl ?_
  refine Ev_icmp_ge (tgt := 33) (dt_X7_firstOfMost.at 7 rfl) (by decide) (fun c1 => ?_) (fun c1 => ?_)
  · replace h := oPos h c1
    refine Ev_sub [1] (ls' := [(1, .int x.1)]) rfl ?_
    exact he (x.1, x.2) (Option.some.inj h).symm
  · replace h := oNeg h c1
    refine Ev_aload_n 0 (dt_X7_firstOfMost.at 8 rfl) rfl ?_
    refine Ev_iload_n 2 (dt_X7_firstOfMost.at 9 rfl) rfl ?_
    obtain ⟨q2, hq2, h⟩ := oBind h
    refine Ev_callV (st := []) (st' := [.int q2]) [.int x.2] (dt_X7_firstOfMost.at 10 rfl) cf_X7_48 (w_Splits_doneBy σ x.2 q2 hq2) (by decide) sk_12 rfl rfl rfl (Nat.le_of_ble_eq_true rfl) rfl ?_
    refine Ev_aload_n 0 (dt_X7_firstOfMost.at 11 rfl) rfl ?_
    refine Ev_iload_n 1 (dt_X7_firstOfMost.at 12 rfl) rfl ?_
    obtain ⟨q3, hq3, h⟩ := oBind h
    refine Ev_callV (st := [.int q2]) (st' := [.int q3, .int q2]) [.int x.1] (dt_X7_firstOfMost.at 13 rfl) cf_X7_48 (w_Splits_doneBy σ x.1 q3 hq3) (by decide) sk_12 rfl rfl rfl (Nat.le_of_ble_eq_true rfl) rfl ?_
    refine Ev_icmp_le (tgt := 27) (dt_X7_firstOfMost.at 14 rfl) (by decide) (fun c4 => ?_) (fun c4 => ?_)
    · replace h := oPos h c4
      obtain ⟨x5, ex5⟩ : ∃ z : Int32, z = x.2 + 1 := ⟨_, rfl⟩
      replace h := oLt h ex5
      refine Ev_iinc (v := x5) 2 (dt_X7_firstOfMost.at 17 rfl) rfl (ex5.trans (congrArg (fun z => x.2 + z) ki_1.symm)) (by decide) (ls' := [(2, .int x5), (0, .ref 12), (1, .int x.1)]) rfl ?_
      refine Ev_goto (tgt := 4) (dt_X7_firstOfMost.at 18 rfl) (by decide) ?_
      refine Ev_sub [1, 2, 0] (ls' := [(0, .ref 12), (1, .int x.1), (2, .int x5)]) rfl ?_
      exact hc (x.1, x5) (Option.some.inj h).symm
    · replace h := oNeg h c4
      refine Ev_iload_n 2 (dt_X7_firstOfMost.at 15 rfl) rfl ?_
      refine Ev_istore_n (dt_X7_firstOfMost.at 16 rfl) (by decide) (ls' := [(1, .int x.2), (0, .ref 12), (2, .int x.2)]) rfl ?_
      obtain ⟨x6, ex6⟩ : ∃ z : Int32, z = x.2 + 1 := ⟨_, rfl⟩
      replace h := oLt h ex6
      refine Ev_iinc (v := x6) 2 (dt_X7_firstOfMost.at 17 rfl) rfl (ex6.trans (congrArg (fun z => x.2 + z) ki_1.symm)) (by decide) (ls' := [(2, .int x6), (1, .int x.2), (0, .ref 12)]) rfl ?_
      refine Ev_goto (tgt := 4) (dt_X7_firstOfMost.at 18 rfl) (by decide) ?_
      refine Ev_sub [2, 1, 0] (ls' := [(0, .ref 12), (1, .int x.2), (2, .int x6)]) rfl ?_
      exact hc (x.2, x6) (Option.some.inj h).symm
set_option maxRecDepth 100000 in
set_option maxHeartbeats 4000000 in
theorem wl_Splits_firstOfMost_4 (σ : Sg) (r : Option Value) (τ : Sg) (n : Nat) (x : (Int32 × Int32)) (z : (Int32 × Int32)) (h : lp (b_Splits_firstOfMost_4 σ) n x = some z) (he : ∀ y : (Int32 × Int32), z = y → Ev M_X7_firstOfMost 1 r τ 33 [(1, .int y.1)] [] σ) : Ev M_X7_firstOfMost 1 r τ 4 [(0, .ref 12), (1, .int x.1), (2, .int x.2)] [] σ := by
  refine lp_ind (E := fun x : (Int32 × Int32) => Ev M_X7_firstOfMost 1 r τ 4 [(0, .ref 12), (1, .int x.1), (2, .int x.2)] [] σ) (fun x => ⟨fun y hb hy => ?_, fun hb => ?_⟩) n x h
  · exact wb_Splits_firstOfMost_4 σ x r τ _ hb (fun y' e => by cases e; exact hy) (fun y' e => by cases e)
  · exact wb_Splits_firstOfMost_4 σ x r τ _ hb (fun y' e => by cases e) (fun y' e => he y' (Sum.inr.inj e))
set_option maxRecDepth 100000 in
set_option maxHeartbeats 4000000 in
theorem w_Splits_firstOfMost (σ : Sg)  (q : Int32) (h : s_Splits_firstOfMost σ  = some q) : Cal M_X7_firstOfMost 1 [.ref 12] σ (some (.int q)) σ := by
  refine Cal.of (M := M_X7_firstOfMost) (by decide +kernel) (Nat.le_of_ble_eq_true rfl) ?_
  show Ev _ _ _ _ 0 [(0, .ref 12)] [] σ
  unfold s_Splits_firstOfMost at h
  refine Ev_iconst (dt_X7_firstOfMost.at 0 rfl) ki_0 ?_
  refine Ev_istore_n (dt_X7_firstOfMost.at 1 rfl) (by decide) (ls' := [(1, .int 0), (0, .ref 12)]) rfl ?_
  refine Ev_iconst (dt_X7_firstOfMost.at 2 rfl) ki_1 ?_
  refine Ev_istore_n (dt_X7_firstOfMost.at 3 rfl) (by decide) (ls' := [(2, .int 1), (1, .int 0), (0, .ref 12)]) rfl ?_
  refine Ev_sub [2, 1, 0] (ls' := [(0, .ref 12), (1, .int 0), (2, .int 1)]) rfl ?_
  obtain ⟨o7, ho7, h⟩ := oBind h
  refine wl_Splits_firstOfMost_4 σ _ _ 100000 (0, 1) o7 ho7 (fun y ey => ?_)
  subst ey
  refine Ev_iload_n 0 (dt_X7_firstOfMost.at 19 rfl) rfl ?_
  exact Ev_iret (dt_X7_firstOfMost.at 20 rfl) rfl (oRet h)
def b_Splits_threeOf_4 (σ : Sg) (v1 : Int32) (v2 : Int32) (x : Int32) : Option (Int32 ⊕ (Int32 ⊕ Int32)) :=
  if ((v1 + 1) * 3) ≤ x then
    some (.inr (.inl x))
  else
    if inB x 840 = true then
      (s_x_isIn (gI σ 16 (Int32.toNatClampNeg x)) v2).bind fun q4 =>
      if q4 = 0 then
        lt (x + 1 : Int32) fun x6 =>
        some (.inl x6)
      else
        if inB x 840 = true then
          some (.inr (.inr (gI σ 16 (Int32.toNatClampNeg x))))
        else none
    else none
def s_Splits_threeOf (σ : Sg) (a1 : Int32) (a2 : Int32) : Option Int32 :=
  lt ((a1 * 3) : Int32) fun x1 =>
  (lp (b_Splits_threeOf_4 σ a1 a2) 100000 x1).bind fun o8 =>
  oElim o8 (fun y9 =>
    some 0) (fun q10 => some q10)
set_option maxRecDepth 100000 in
set_option maxHeartbeats 4000000 in
theorem wb_Splits_threeOf_4 (σ : Sg) (v1 : Int32) (v2 : Int32) (x : Int32) (r : Option Value) (τ : Sg) (o : (Int32 ⊕ (Int32 ⊕ Int32))) (h : (b_Splits_threeOf_4 σ v1 v2 x) = some o) (hc : ∀ y : Int32, o = .inl y → Ev M_X7_threeOf 1 r τ 4 [(0, .ref 12), (1, .int v1), (2, .int v2), (3, .int y)] [] σ) (he : ∀ y : Int32, o = .inr (.inl y) → Ev M_X7_threeOf 1 r τ 39 [] [] σ) (hr : ∀ q : Int32, o = .inr (.inr q) → r = (some (.int q)) ∧ τ = σ) : Ev M_X7_threeOf 1 r τ 4 [(0, .ref 12), (1, .int v1), (2, .int v2), (3, .int x)] [] σ := by
  unfold b_Splits_threeOf_4 at h
  refine Ev_iload_n 3 (dt_X7_threeOf.at 4 rfl) rfl ?_
  refine Ev_iload_n 1 (dt_X7_threeOf.at 5 rfl) rfl ?_
  refine Ev_iconst (dt_X7_threeOf.at 6 rfl) ki_1 ?_
  refine Ev_iadd (dt_X7_threeOf.at 7 rfl) ?_
  refine Ev_iconst (dt_X7_threeOf.at 8 rfl) ki_3 ?_
  refine Ev_imul (dt_X7_threeOf.at 9 rfl) ?_
  refine Ev_icmp_ge (tgt := 39) (dt_X7_threeOf.at 10 rfl) (by decide) (fun c2 => ?_) (fun c2 => ?_)
  · replace h := oPos h c2
    refine Ev_sub [] (ls' := []) rfl ?_
    exact he x (Option.some.inj h).symm
  · replace h := oNeg h c2
    refine Ev_aload_n 0 (dt_X7_threeOf.at 11 rfl) rfl ?_
    refine Ev_get (i := 3) (v := .ref 16) (dt_X7_threeOf.at 12 rfl) ff_X7_22 sk_12 rfl rfl ?_
    refine Ev_iload_n 3 (dt_X7_threeOf.at 13 rfl) rfl ?_
    obtain ⟨g3, h⟩ := oGuard h
    refine Ev_iaload 16 (dt_X7_threeOf.at 14 rfl) sk_16 g3 ?_
    refine Ev_iload_n 2 (dt_X7_threeOf.at 15 rfl) rfl ?_
    obtain ⟨q4, hq4, h⟩ := oBind h
    refine Ev_callS (st := []) (st' := [.int q4]) [.int (gI σ 16 (Int32.toNatClampNeg x)), .int v2] (dt_X7_threeOf.at 16 rfl) cf_X7_52 (w_x_isIn σ (gI σ 16 (Int32.toNatClampNeg x)) v2 q4 hq4) (by decide) rfl rfl (Nat.le_of_ble_eq_true rfl) rfl ?_
    refine Ev_if_eq (tgt := 33) (dt_X7_threeOf.at 17 rfl) (by decide) (fun c5 => ?_) (fun c5 => ?_)
    · replace h := oPos h c5
      obtain ⟨x6, ex6⟩ : ∃ z : Int32, z = x + 1 := ⟨_, rfl⟩
      replace h := oLt h ex6
      refine Ev_iinc (v := x6) 3 (dt_X7_threeOf.at 23 rfl) rfl (ex6.trans (congrArg (fun z => x + z) ki_1.symm)) (by decide) (ls' := [(3, .int x6), (0, .ref 12), (1, .int v1), (2, .int v2)]) rfl ?_
      refine Ev_goto (tgt := 4) (dt_X7_threeOf.at 24 rfl) (by decide) ?_
      refine Ev_sub [1, 2, 3, 0] (ls' := [(0, .ref 12), (1, .int v1), (2, .int v2), (3, .int x6)]) rfl ?_
      exact hc x6 (Option.some.inj h).symm
    · replace h := oNeg h c5
      refine Ev_aload_n 0 (dt_X7_threeOf.at 18 rfl) rfl ?_
      refine Ev_get (i := 3) (v := .ref 16) (dt_X7_threeOf.at 19 rfl) ff_X7_22 sk_12 rfl rfl ?_
      refine Ev_iload_n 3 (dt_X7_threeOf.at 20 rfl) rfl ?_
      obtain ⟨g7, h⟩ := oGuard h
      refine Ev_iaload 16 (dt_X7_threeOf.at 21 rfl) sk_16 g7 ?_
      have hz := hr _ (Option.some.inj h).symm
      rw [hz.1, hz.2]
      exact Ev_iret (dt_X7_threeOf.at 22 rfl) rfl rfl
set_option maxRecDepth 100000 in
set_option maxHeartbeats 4000000 in
theorem wl_Splits_threeOf_4 (σ : Sg) (v1 : Int32) (v2 : Int32) (r : Option Value) (τ : Sg) (n : Nat) (x : Int32) (z : (Int32 ⊕ Int32)) (h : lp (b_Splits_threeOf_4 σ v1 v2) n x = some z) (he : ∀ y : Int32, z = .inl y → Ev M_X7_threeOf 1 r τ 39 [] [] σ) (hr : ∀ q : Int32, z = .inr q → r = (some (.int q)) ∧ τ = σ) : Ev M_X7_threeOf 1 r τ 4 [(0, .ref 12), (1, .int v1), (2, .int v2), (3, .int x)] [] σ := by
  refine lp_ind (E := fun x : Int32 => Ev M_X7_threeOf 1 r τ 4 [(0, .ref 12), (1, .int v1), (2, .int v2), (3, .int x)] [] σ) (fun x => ⟨fun y hb hy => ?_, fun hb => ?_⟩) n x h
  · exact wb_Splits_threeOf_4 σ v1 v2 x r τ _ hb (fun y' e => by cases e; exact hy) (fun y' e => by cases e) (fun y' e => by cases e)
  · exact wb_Splits_threeOf_4 σ v1 v2 x r τ _ hb (fun y' e => by cases e) (fun y' e => he y' (Sum.inr.inj e)) (fun y' e => hr y' (Sum.inr.inj e))
set_option maxRecDepth 100000 in
set_option maxHeartbeats 4000000 in
theorem w_Splits_threeOf (σ : Sg) (a1 : Int32) (a2 : Int32) (q : Int32) (h : s_Splits_threeOf σ a1 a2 = some q) : Cal M_X7_threeOf 1 [.ref 12, .int a1, .int a2] σ (some (.int q)) σ := by
  refine Cal.of (M := M_X7_threeOf) (by decide +kernel) (Nat.le_of_ble_eq_true rfl) ?_
  show Ev _ _ _ _ 0 [(0, .ref 12), (1, .int a1), (2, .int a2)] [] σ
  unfold s_Splits_threeOf at h
  refine Ev_iload_n 1 (dt_X7_threeOf.at 0 rfl) rfl ?_
  refine Ev_iconst (dt_X7_threeOf.at 1 rfl) ki_3 ?_
  refine Ev_imul (dt_X7_threeOf.at 2 rfl) ?_
  refine Ev_nmI (fun x1 ex1 => ?_)
  replace h := oLt h ex1
  refine Ev_istore_n (dt_X7_threeOf.at 3 rfl) (by decide) (ls' := [(3, .int x1), (0, .ref 12), (1, .int a1), (2, .int a2)]) rfl ?_
  refine Ev_sub [1, 2, 3, 0] (ls' := [(0, .ref 12), (1, .int a1), (2, .int a2), (3, .int x1)]) rfl ?_
  obtain ⟨o8, ho8, h⟩ := oBind h
  refine wl_Splits_threeOf_4 σ a1 a2 _ _ 100000 x1 o8 ho8 (fun y9 ey => ?_) (fun q10 eq => ?_)
  · rw [ey] at h
    replace h := oElimL h
    refine Ev_iconst (dt_X7_threeOf.at 25 rfl) ki_0 ?_
    exact Ev_iret (dt_X7_threeOf.at 26 rfl) rfl (oRet h)
  · rw [eq] at h
    replace h := oElimR h
    cases h; exact ⟨rfl, rfl⟩
def j_x_most_26  (σ : Sg) (v1 : Int32) : Option (Int32 × Sg) :=
  (s_x_isAllInThrees σ ).bind fun q2 =>
  if q2 = 0 then
    (s_x_refusedNo σ (-20)).bind fun q10 =>
    some (q10.1, q10.2)
  else
    (s_Splits_list σ (gI σ 19 6)).bind fun q4 =>
    (s_x_walkAllThrees q4 ).bind fun q5 =>
    (s_Splits_firstOfMost q5 ).bind fun q6 =>
    if v1 = (-1) then
      (s_Splits_doneBy q5 q6).bind fun q9 =>
      some (q9, q5)
    else
      (s_Splits_threeOf q5 q6 v1).bind fun q8 =>
      some (q8, q5)
def s_x_most (σ : Sg) (a1 : Int32) : Option (Int32 × Sg) :=
  if a1 = (-1) then
    j_x_most_26  σ a1
  else
    (s_Town_hasPerson σ a1).bind fun q11 =>
    if q11 = 0 then
      (s_x_refusedBad σ (-10)).bind fun q13 =>
      some (q13.1, q13.2)
    else
      j_x_most_26  σ a1
set_option maxRecDepth 100000 in
set_option maxHeartbeats 4000000 in
theorem wj_x_most_26  (σ : Sg) (v1 : Int32) (q : (Int32 × Sg)) (h : (j_x_most_26  σ v1) = some q) : Ev M_X11_most 6 (some (.int q.1)) q.2 26 [(0, .ref 0), (1, .int v1)] [] σ := by
  unfold j_x_most_26 at h
  refine Ev_aload_n 0 (dt_X11_most.at 13 rfl) rfl ?_
  obtain ⟨q2, hq2, h⟩ := oBind h
  refine Ev_callV (st := []) (st' := [.int q2]) [] (dt_X11_most.at 14 rfl) cf_X11_147 (w_x_isAllInThrees σ  q2 hq2) (by decide) sk_0 rfl rfl rfl (Nat.le_of_ble_eq_true rfl) rfl ?_
  refine Ev_if_ne (tgt := 40) (dt_X11_most.at 15 rfl) (by decide) (fun c3 => ?_) (fun c3 => ?_)
  · replace h := oNeg h c3
    refine Ev_aload_n 0 (dt_X11_most.at 20 rfl) rfl ?_
    refine Ev_get (i := 7) (v := .ref 12) (dt_X11_most.at 21 rfl) ff_X11_33 sk_0 rfl rfl ?_
    refine Ev_aload_n 0 (dt_X11_most.at 22 rfl) rfl ?_
    refine Ev_get (i := 0) (v := .ref 25) (dt_X11_most.at 23 rfl) ff_X11_50 sk_0 rfl rfl ?_
    refine Ev_get (i := 0) (v := .ref 19) (dt_X11_most.at 24 rfl) ff_X11_72 sk_25 rfl rfl ?_
    refine Ev_get (i := 6) (v := .int (gI σ 19 6)) (dt_X11_most.at 25 rfl) ff_X11_90 sk_19 rfl rfl ?_
    obtain ⟨q4, hq4, h⟩ := oBind h
    refine Ev_callV (st := []) (st' := []) [.int (gI σ 19 6)] (dt_X11_most.at 26 rfl) cf_X11_151 (w_Splits_list σ (gI σ 19 6) q4 hq4) (by decide) sk_12 rfl rfl rfl (Nat.le_of_ble_eq_true rfl) rfl ?_
    refine Ev_aload_n 0 (dt_X11_most.at 27 rfl) rfl ?_
    obtain ⟨q5, hq5, h⟩ := oBind h
    refine Ev_callV (st := []) (st' := []) [] (dt_X11_most.at 28 rfl) cf_X11_154 (w_x_walkAllThrees q4  q5 hq5) (by decide) sk_0 rfl rfl rfl (Nat.le_of_ble_eq_true rfl) rfl ?_
    refine Ev_aload_n 0 (dt_X11_most.at 29 rfl) rfl ?_
    refine Ev_get (i := 7) (v := .ref 12) (dt_X11_most.at 30 rfl) ff_X11_33 sk_0 rfl rfl ?_
    obtain ⟨q6, hq6, h⟩ := oBind h
    refine Ev_callV (st := []) (st' := [.int q6]) [] (dt_X11_most.at 31 rfl) cf_X11_157 (w_Splits_firstOfMost q5  q6 hq6) (by decide) sk_12 rfl rfl rfl (Nat.le_of_ble_eq_true rfl) rfl ?_
    refine Ev_istore_n (dt_X11_most.at 32 rfl) (by decide) (ls' := [(2, .int q6), (0, .ref 0), (1, .int v1)]) rfl ?_
    refine Ev_iload_n 2 (dt_X11_most.at 33 rfl) rfl ?_
    refine Ev_iconst (dt_X11_most.at 34 rfl) ki_m1 ?_
    refine Ev_icmp_ne (tgt := 85) (dt_X11_most.at 35 rfl) (by decide) (fun c7 => ?_) (fun c7 => ?_)
    · replace h := oNeg h c7
      refine Ev_aload_n 1 (dt_X11_most.at 41 rfl) rfl ?_
      refine Ev_get (i := 7) (v := .ref 12) (dt_X11_most.at 42 rfl) ff_X11_33 sk_0 rfl rfl ?_
      refine Ev_iload_n 0 (dt_X11_most.at 43 rfl) rfl ?_
      refine Ev_iload_n 2 (dt_X11_most.at 44 rfl) rfl ?_
      obtain ⟨q8, hq8, h⟩ := oBind h
      refine Ev_callV (st := []) (st' := [.int q8]) [.int q6, .int v1] (dt_X11_most.at 45 rfl) cf_X11_163 (w_Splits_threeOf q5 q6 v1 q8 hq8) (by decide) sk_12 rfl rfl rfl (Nat.le_of_ble_eq_true rfl) rfl ?_
      exact Ev_iret (dt_X11_most.at 46 rfl) rfl h
    · replace h := oPos h c7
      refine Ev_aload_n 1 (dt_X11_most.at 36 rfl) rfl ?_
      refine Ev_get (i := 7) (v := .ref 12) (dt_X11_most.at 37 rfl) ff_X11_33 sk_0 rfl rfl ?_
      refine Ev_iload_n 0 (dt_X11_most.at 38 rfl) rfl ?_
      obtain ⟨q9, hq9, h⟩ := oBind h
      refine Ev_callV (st := []) (st' := [.int q9]) [.int q6] (dt_X11_most.at 39 rfl) cf_X11_160 (w_Splits_doneBy q5 q6 q9 hq9) (by decide) sk_12 rfl rfl rfl (Nat.le_of_ble_eq_true rfl) rfl ?_
      refine Ev_goto (tgt := 94) (dt_X11_most.at 40 rfl) (by decide) ?_
      exact Ev_iret (dt_X11_most.at 46 rfl) rfl h
  · replace h := oPos h c3
    refine Ev_aload_n 0 (dt_X11_most.at 16 rfl) rfl ?_
    refine Ev_bipush (dt_X11_most.at 17 rfl) kb_m20 ?_
    obtain ⟨q10, hq10, h⟩ := oBind h
    refine Ev_callV (st := []) (st' := [.int q10.1]) [.int (-20)] (dt_X11_most.at 18 rfl) cf_X11_118 (w_x_refusedNo σ (-20) q10 hq10) (by decide) sk_0 rfl rfl rfl (Nat.le_of_ble_eq_true rfl) rfl ?_
    exact Ev_iret (dt_X11_most.at 19 rfl) rfl h
set_option maxRecDepth 100000 in
set_option maxHeartbeats 4000000 in
theorem w_x_most (σ : Sg) (a1 : Int32) (q : (Int32 × Sg)) (h : s_x_most σ a1 = some q) : Cal M_X11_most 6 [.ref 0, .int a1] σ (some (.int q.1)) q.2 := by
  refine Cal.of (M := M_X11_most) (by decide +kernel) (Nat.le_of_ble_eq_true rfl) ?_
  show Ev _ _ _ _ 0 [(0, .ref 0), (1, .int a1)] [] σ
  unfold s_x_most at h
  refine Ev_iload_n 1 (dt_X11_most.at 0 rfl) rfl ?_
  refine Ev_iconst (dt_X11_most.at 1 rfl) ki_m1 ?_
  refine Ev_icmp_eq (tgt := 26) (dt_X11_most.at 2 rfl) (by decide) (fun c1 => ?_) (fun c1 => ?_)
  · replace h := oPos h c1
    refine Ev_sub [0, 1] (ls' := [(0, .ref 0), (1, .int a1)]) rfl ?_
    exact wj_x_most_26  σ a1 q h
  · replace h := oNeg h c1
    refine Ev_aload_n 0 (dt_X11_most.at 3 rfl) rfl ?_
    refine Ev_get (i := 0) (v := .ref 25) (dt_X11_most.at 4 rfl) ff_X11_50 sk_0 rfl rfl ?_
    refine Ev_get (i := 0) (v := .ref 19) (dt_X11_most.at 5 rfl) ff_X11_72 sk_25 rfl rfl ?_
    refine Ev_iload_n 1 (dt_X11_most.at 6 rfl) rfl ?_
    obtain ⟨q11, hq11, h⟩ := oBind h
    refine Ev_callV (st := []) (st' := [.int q11]) [.int a1] (dt_X11_most.at 7 rfl) cf_X11_101 (w_Town_hasPerson σ a1 q11 hq11) (by decide) sk_19 rfl rfl rfl (Nat.le_of_ble_eq_true rfl) rfl ?_
    refine Ev_if_ne (tgt := 26) (dt_X11_most.at 8 rfl) (by decide) (fun c12 => ?_) (fun c12 => ?_)
    · replace h := oNeg h c12
      refine Ev_sub [0, 1] (ls' := [(0, .ref 0), (1, .int a1)]) rfl ?_
      exact wj_x_most_26  σ a1 q h
    · replace h := oPos h c12
      refine Ev_aload_n 0 (dt_X11_most.at 9 rfl) rfl ?_
      refine Ev_bipush (dt_X11_most.at 10 rfl) kb_m10 ?_
      obtain ⟨q13, hq13, h⟩ := oBind h
      refine Ev_callV (st := []) (st' := [.int q13.1]) [.int (-10)] (dt_X11_most.at 11 rfl) cf_X11_68 (w_x_refusedBad σ (-10) q13 hq13) (by decide) sk_0 rfl rfl rfl (Nat.le_of_ble_eq_true rfl) rfl ?_
      exact Ev_iret (dt_X11_most.at 12 rfl) rfl h
def b_x_nthOf_4 (v0 : Int32) (v1 : Int32) (x : (Int32 × Int32)) : Option ((Int32 × Int32) ⊕ ((Int32 × Int32) ⊕ Int32)) :=
  if 9 ≤ x.2 then
    some (.inr (.inl (x.1, x.2)))
  else
    (s_x_isIn v0 x.2).bind fun q2 =>
    if q2 = 0 then
      lt (x.2 + 1 : Int32) fun x4 =>
      some (.inl (x.1, x4))
    else
      if x.1 = v1 then
        some (.inr (.inr ((1 : Int32) <<< (x.2 &&& 31))))
      else
        lt (x.1 + 1 : Int32) fun x6 =>
        lt (x.2 + 1 : Int32) fun x7 =>
        some (.inl (x6, x7))
def s_x_nthOf (a0 : Int32) (a1 : Int32) : Option Int32 :=
  (lp (b_x_nthOf_4 a0 a1) 100000 (0, 0)).bind fun o8 =>
  oElim o8 (fun y9 =>
    some 0) (fun q10 => some q10)
set_option maxRecDepth 100000 in
set_option maxHeartbeats 4000000 in
theorem wb_x_nthOf_4 (v0 : Int32) (v1 : Int32) (σ : Sg) (x : (Int32 × Int32)) (r : Option Value) (τ : Sg) (o : ((Int32 × Int32) ⊕ ((Int32 × Int32) ⊕ Int32))) (h : (b_x_nthOf_4 v0 v1 x) = some o) (hc : ∀ y : (Int32 × Int32), o = .inl y → Ev M_X11_nthOf 1 r τ 4 [(0, .int v0), (1, .int v1), (2, .int y.1), (3, .int y.2)] [] σ) (he : ∀ y : (Int32 × Int32), o = .inr (.inl y) → Ev M_X11_nthOf 1 r τ 36 [] [] σ) (hr : ∀ q : Int32, o = .inr (.inr q) → r = (some (.int q)) ∧ τ = σ) : Ev M_X11_nthOf 1 r τ 4 [(0, .int v0), (1, .int v1), (2, .int x.1), (3, .int x.2)] [] σ := by
  unfold b_x_nthOf_4 at h
  refine Ev_iload_n 3 (dt_X11_nthOf.at 4 rfl) rfl ?_
  refine Ev_bipush (dt_X11_nthOf.at 5 rfl) kb_9 ?_
  refine Ev_icmp_ge (tgt := 36) (dt_X11_nthOf.at 6 rfl) (by decide) (fun c1 => ?_) (fun c1 => ?_)
  · replace h := oPos h c1
    refine Ev_sub [] (ls' := []) rfl ?_
    exact he (x.1, x.2) (Option.some.inj h).symm
  · replace h := oNeg h c1
    refine Ev_iload_n 0 (dt_X11_nthOf.at 7 rfl) rfl ?_
    refine Ev_iload_n 3 (dt_X11_nthOf.at 8 rfl) rfl ?_
    obtain ⟨q2, hq2, h⟩ := oBind h
    refine Ev_callS (st := []) (st' := [.int q2]) [.int v0, .int x.2] (dt_X11_nthOf.at 9 rfl) cf_X11_202 (w_x_isIn σ v0 x.2 q2 hq2) (by decide) rfl rfl (Nat.le_of_ble_eq_true rfl) rfl ?_
    refine Ev_if_eq (tgt := 30) (dt_X11_nthOf.at 10 rfl) (by decide) (fun c3 => ?_) (fun c3 => ?_)
    · replace h := oPos h c3
      obtain ⟨x4, ex4⟩ : ∃ z : Int32, z = x.2 + 1 := ⟨_, rfl⟩
      replace h := oLt h ex4
      refine Ev_iinc (v := x4) 3 (dt_X11_nthOf.at 19 rfl) rfl (ex4.trans (congrArg (fun z => x.2 + z) ki_1.symm)) (by decide) (ls' := [(3, .int x4), (0, .int v0), (1, .int v1), (2, .int x.1)]) rfl ?_
      refine Ev_goto (tgt := 4) (dt_X11_nthOf.at 20 rfl) (by decide) ?_
      refine Ev_sub [1, 2, 3, 0] (ls' := [(0, .int v0), (1, .int v1), (2, .int x.1), (3, .int x4)]) rfl ?_
      exact hc (x.1, x4) (Option.some.inj h).symm
    · replace h := oNeg h c3
      refine Ev_iload_n 2 (dt_X11_nthOf.at 11 rfl) rfl ?_
      refine Ev_iload_n 1 (dt_X11_nthOf.at 12 rfl) rfl ?_
      refine Ev_icmp_ne (tgt := 27) (dt_X11_nthOf.at 13 rfl) (by decide) (fun c5 => ?_) (fun c5 => ?_)
      · replace h := oNeg h c5
        obtain ⟨x6, ex6⟩ : ∃ z : Int32, z = x.1 + 1 := ⟨_, rfl⟩
        replace h := oLt h ex6
        refine Ev_iinc (v := x6) 2 (dt_X11_nthOf.at 18 rfl) rfl (ex6.trans (congrArg (fun z => x.1 + z) ki_1.symm)) (by decide) (ls' := [(2, .int x6), (0, .int v0), (1, .int v1), (3, .int x.2)]) rfl ?_
        obtain ⟨x7, ex7⟩ : ∃ z : Int32, z = x.2 + 1 := ⟨_, rfl⟩
        replace h := oLt h ex7
        refine Ev_iinc (v := x7) 3 (dt_X11_nthOf.at 19 rfl) rfl (ex7.trans (congrArg (fun z => x.2 + z) ki_1.symm)) (by decide) (ls' := [(3, .int x7), (2, .int x6), (0, .int v0), (1, .int v1)]) rfl ?_
        refine Ev_goto (tgt := 4) (dt_X11_nthOf.at 20 rfl) (by decide) ?_
        refine Ev_sub [2, 3, 1, 0] (ls' := [(0, .int v0), (1, .int v1), (2, .int x6), (3, .int x7)]) rfl ?_
        exact hc (x6, x7) (Option.some.inj h).symm
      · replace h := oPos h c5
        refine Ev_iconst (dt_X11_nthOf.at 14 rfl) ki_1 ?_
        refine Ev_iload_n 3 (dt_X11_nthOf.at 15 rfl) rfl ?_
        refine Ev_ishl (dt_X11_nthOf.at 16 rfl) ?_
        have hz := hr _ (Option.some.inj h).symm
        rw [hz.1, hz.2]
        exact Ev_iret (dt_X11_nthOf.at 17 rfl) rfl rfl
set_option maxRecDepth 100000 in
set_option maxHeartbeats 4000000 in
theorem wl_x_nthOf_4 (v0 : Int32) (v1 : Int32) (σ : Sg) (r : Option Value) (τ : Sg) (n : Nat) (x : (Int32 × Int32)) (z : ((Int32 × Int32) ⊕ Int32)) (h : lp (b_x_nthOf_4 v0 v1) n x = some z) (he : ∀ y : (Int32 × Int32), z = .inl y → Ev M_X11_nthOf 1 r τ 36 [] [] σ) (hr : ∀ q : Int32, z = .inr q → r = (some (.int q)) ∧ τ = σ) : Ev M_X11_nthOf 1 r τ 4 [(0, .int v0), (1, .int v1), (2, .int x.1), (3, .int x.2)] [] σ := by
  refine lp_ind (E := fun x : (Int32 × Int32) => Ev M_X11_nthOf 1 r τ 4 [(0, .int v0), (1, .int v1), (2, .int x.1), (3, .int x.2)] [] σ) (fun x => ⟨fun y hb hy => ?_, fun hb => ?_⟩) n x h
  · exact wb_x_nthOf_4 v0 v1 σ x r τ _ hb (fun y' e => by cases e; exact hy) (fun y' e => by cases e) (fun y' e => by cases e)
  · exact wb_x_nthOf_4 v0 v1 σ x r τ _ hb (fun y' e => by cases e) (fun y' e => he y' (Sum.inr.inj e)) (fun y' e => hr y' (Sum.inr.inj e))
set_option maxRecDepth 100000 in
set_option maxHeartbeats 4000000 in
theorem w_x_nthOf (σ : Sg) (a0 : Int32) (a1 : Int32) (q : Int32) (h : s_x_nthOf a0 a1 = some q) : Cal M_X11_nthOf 1 [.int a0, .int a1] σ (some (.int q)) σ := by
  refine Cal.of (M := M_X11_nthOf) (by decide +kernel) (Nat.le_of_ble_eq_true rfl) ?_
  show Ev _ _ _ _ 0 [(0, .int a0), (1, .int a1)] [] σ
  unfold s_x_nthOf at h
  refine Ev_iconst (dt_X11_nthOf.at 0 rfl) ki_0 ?_
  refine Ev_istore_n (dt_X11_nthOf.at 1 rfl) (by decide) (ls' := [(2, .int 0), (0, .int a0), (1, .int a1)]) rfl ?_
  refine Ev_iconst (dt_X11_nthOf.at 2 rfl) ki_0 ?_
  refine Ev_istore_n (dt_X11_nthOf.at 3 rfl) (by decide) (ls' := [(3, .int 0), (2, .int 0), (0, .int a0), (1, .int a1)]) rfl ?_
  refine Ev_sub [2, 3, 1, 0] (ls' := [(0, .int a0), (1, .int a1), (2, .int 0), (3, .int 0)]) rfl ?_
  obtain ⟨o8, ho8, h⟩ := oBind h
  refine wl_x_nthOf_4 a0 a1 σ _ _ 100000 (0, 0) o8 ho8 (fun y9 ey => ?_) (fun q10 eq => ?_)
  · rw [ey] at h
    replace h := oElimL h
    refine Ev_iconst (dt_X11_nthOf.at 21 rfl) ki_0 ?_
    exact Ev_iret (dt_X11_nthOf.at 22 rfl) rfl (oRet h)
  · rw [eq] at h
    replace h := oElimR h
    cases h; exact ⟨rfl, rfl⟩
def j_x_drawLots_98i47 (σ : Sg) (v6 : Int32) (v3 : Int64) (v5 : Int32) (v7 : Int32) (v8 : Int32) (u0 : Int32) : Option ((Int64 × Int32 × Int32 × Int32) ⊕ (Int64 × Int32 × Int32 × Int32)) :=
  lt ((v7 ||| u0) : Int32) fun x11 =>
  lt ((v5 &&& (u0 ^^^ (-1))) : Int32) fun x12 =>
  lt (v8 + 1 : Int32) fun x13 =>
  some (.inl (v3, x12, x11, x13))
def b_x_drawLots_47 (σ : Sg) (v6 : Int32) (x : (Int64 × Int32 × Int32 × Int32)) : Option ((Int64 × Int32 × Int32 × Int32) ⊕ (Int64 × Int32 × Int32 × Int32)) :=
  if 2 ≤ x.2.2.2 then
    some (.inr (x.1, x.2.1, x.2.2.1, x.2.2.2))
  else
    lt ((((x.1 * 1103515245) + 12345) - ((x.1 * 1103515245) + 12345) / 2147483648 * 2147483648) : Int64) fun x6 =>
    (s_Integer_bitCount x.2.1).bind fun q7 =>
    if q7 = 0 then
      j_x_drawLots_98i47 σ v6 x6 x.2.1 x.2.2.1 x.2.2.2 0
    else
      if ¬ (Int32.toInt64 q7) = 0 then
        (s_x_nthOf x.2.1 (Int64.toInt32 ((x6 / 65536) - (x6 / 65536) / (Int32.toInt64 q7) * (Int32.toInt64 q7)))).bind fun q10 =>
        j_x_drawLots_98i47 σ v6 x6 x.2.1 x.2.2.1 x.2.2.2 q10
      else none
def b_x_drawLots_21  (x : (Sg × Int64 × Int32 × Int32)) : Option ((Sg × Int64 × Int32 × Int32) ⊕ (Sg × Int64 × Int32 × Int32)) :=
  if 3 ≤ x.2.2.2 then
    some (.inr (x.1, x.2.1, x.2.2.1, x.2.2.2))
  else
    lt ((x.2.2.1 &&& (-x.2.2.1)) : Int32) fun x3 =>
    lt ((x.2.2.1 &&& (x3 ^^^ (-1))) : Int32) fun x4 =>
    (lp (b_x_drawLots_47 x.1 x.2.2.2) 100000 (x.2.1, x4, x3, 0)).bind fun o14 =>
    if inB x.2.2.2 3 = true then
      lt (pI x.1 18 (Int32.toNatClampNeg x.2.2.2) o14.2.2.1 : Sg) fun s16 =>
      lt (x.2.2.2 + 1 : Int32) fun x17 =>
      some (.inl (s16, o14.1, o14.2.1, x17))
    else none
def s_x_drawLots (σ : Sg) (a1 : Int64) : Option Sg :=
  lt ((((1 : Int32) <<< ((gI σ 19 6) &&& 31)) - 1) : Int32) fun x1 =>
  (lp (b_x_drawLots_21 ) 100000 (σ, a1, x1, 0)).bind fun o18 =>
  some o18.1
set_option maxRecDepth 100000 in
set_option maxHeartbeats 4000000 in
theorem wj_x_drawLots_98i47 (σ : Sg) (v6 : Int32) (v3 : Int64) (v5 : Int32) (v7 : Int32) (v8 : Int32) (u0 : Int32) (r : Option Value) (τ : Sg) (o : ((Int64 × Int32 × Int32 × Int32) ⊕ (Int64 × Int32 × Int32 × Int32))) (h : (j_x_drawLots_98i47 σ v6 v3 v5 v7 v8 u0) = some o) (hc : ∀ y : (Int64 × Int32 × Int32 × Int32), o = .inl y → Ev M_X11_drawLots 2 r τ 47 [(0, .ref 0), (3, .long y.1), (5, .int y.2.1), (6, .int v6), (7, .int y.2.2.1), (8, .int y.2.2.2)] [] σ) (he : ∀ y : (Int64 × Int32 × Int32 × Int32), o = .inr y → Ev M_X11_drawLots 2 r τ 122 [(0, .ref 0), (3, .long y.1), (5, .int y.2.1), (6, .int v6), (7, .int y.2.2.1)] [] σ) : Ev M_X11_drawLots 2 r τ 98 [(0, .ref 0), (3, .long v3), (5, .int v5), (6, .int v6), (7, .int v7), (8, .int v8)] [.int u0] σ := by
  unfold j_x_drawLots_98i47 at h
  refine Ev_istore (dt_X11_drawLots.at 56 rfl) (by decide) (ls' := [(10, .int u0), (0, .ref 0), (3, .long v3), (5, .int v5), (6, .int v6), (7, .int v7), (8, .int v8)]) rfl ?_
  refine Ev_iload 5 (dt_X11_drawLots.at 57 rfl) rfl ?_
  refine Ev_iload 0 (dt_X11_drawLots.at 58 rfl) rfl ?_
  refine Ev_ior (dt_X11_drawLots.at 59 rfl) ?_
  refine Ev_nmI (fun x11 ex11 => ?_)
  replace h := oLt h ex11
  refine Ev_istore (dt_X11_drawLots.at 60 rfl) (by decide) (ls' := [(7, .int x11), (10, .int u0), (0, .ref 0), (3, .long v3), (5, .int v5), (6, .int v6), (8, .int v8)]) rfl ?_
  refine Ev_iload 4 (dt_X11_drawLots.at 61 rfl) rfl ?_
  refine Ev_iload 1 (dt_X11_drawLots.at 62 rfl) rfl ?_
  refine Ev_iconst (dt_X11_drawLots.at 63 rfl) ki_m1 ?_
  refine Ev_ixor (dt_X11_drawLots.at 64 rfl) ?_
  refine Ev_iand (dt_X11_drawLots.at 65 rfl) ?_
  refine Ev_nmI (fun x12 ex12 => ?_)
  replace h := oLt h ex12
  refine Ev_istore (dt_X11_drawLots.at 66 rfl) (by decide) (ls' := [(5, .int x12), (7, .int x11), (10, .int u0), (0, .ref 0), (3, .long v3), (6, .int v6), (8, .int v8)]) rfl ?_
  obtain ⟨x13, ex13⟩ : ∃ z : Int32, z = v8 + 1 := ⟨_, rfl⟩
  replace h := oLt h ex13
  refine Ev_iinc (v := x13) 6 (dt_X11_drawLots.at 67 rfl) rfl (ex13.trans (congrArg (fun z => v8 + z) ki_1.symm)) (by decide) (ls' := [(8, .int x13), (5, .int x12), (7, .int x11), (10, .int u0), (0, .ref 0), (3, .long v3), (6, .int v6)]) rfl ?_
  refine Ev_goto (tgt := 47) (dt_X11_drawLots.at 68 rfl) (by decide) ?_
  refine Ev_sub [4, 5, 1, 6, 2, 0] (ls' := [(0, .ref 0), (3, .long v3), (5, .int x12), (6, .int v6), (7, .int x11), (8, .int x13)]) rfl ?_
  exact hc (v3, x12, x11, x13) (Option.some.inj h).symm
set_option maxRecDepth 100000 in
set_option maxHeartbeats 4000000 in
theorem wb_x_drawLots_47 (σ : Sg) (v6 : Int32) (x : (Int64 × Int32 × Int32 × Int32)) (r : Option Value) (τ : Sg) (o : ((Int64 × Int32 × Int32 × Int32) ⊕ (Int64 × Int32 × Int32 × Int32))) (h : (b_x_drawLots_47 σ v6 x) = some o) (hc : ∀ y : (Int64 × Int32 × Int32 × Int32), o = .inl y → Ev M_X11_drawLots 2 r τ 47 [(0, .ref 0), (3, .long y.1), (5, .int y.2.1), (6, .int v6), (7, .int y.2.2.1), (8, .int y.2.2.2)] [] σ) (he : ∀ y : (Int64 × Int32 × Int32 × Int32), o = .inr y → Ev M_X11_drawLots 2 r τ 122 [(0, .ref 0), (3, .long y.1), (5, .int y.2.1), (6, .int v6), (7, .int y.2.2.1)] [] σ) : Ev M_X11_drawLots 2 r τ 47 [(0, .ref 0), (3, .long x.1), (5, .int x.2.1), (6, .int v6), (7, .int x.2.2.1), (8, .int x.2.2.2)] [] σ := by
  unfold b_x_drawLots_47 at h
  refine Ev_iload 5 (dt_X11_drawLots.at 29 rfl) rfl ?_
  refine Ev_iconst (dt_X11_drawLots.at 30 rfl) ki_2 ?_
  refine Ev_icmp_ge (tgt := 122) (dt_X11_drawLots.at 31 rfl) (by decide) (fun c5 => ?_) (fun c5 => ?_)
  · replace h := oPos h c5
    refine Ev_sub [0, 1, 2, 3, 4] (ls' := [(0, .ref 0), (3, .long x.1), (5, .int x.2.1), (6, .int v6), (7, .int x.2.2.1)]) rfl ?_
    exact he (x.1, x.2.1, x.2.2.1, x.2.2.2) (Option.some.inj h).symm
  · replace h := oNeg h c5
    refine Ev_lload_n 1 (dt_X11_drawLots.at 32 rfl) rfl ?_
    refine Ev_ldc2 (dt_X11_drawLots.at 33 rfl) cl_X11_255 ?_
    refine Ev_lmul (dt_X11_drawLots.at 34 rfl) ?_
    refine Ev_ldc2 (dt_X11_drawLots.at 35 rfl) cl_X11_257 ?_
    refine Ev_ladd (dt_X11_drawLots.at 36 rfl) ?_
    refine Ev_ldc2 (dt_X11_drawLots.at 37 rfl) cl_X11_259 ?_
    refine Ev_lrem (dt_X11_drawLots.at 38 rfl) (by decide) ?_
    refine Ev_nmL (fun x6 ex6 => ?_)
    replace h := oLt h ex6
    refine Ev_lstore_n (dt_X11_drawLots.at 39 rfl) (by decide) (ls' := [(3, .long x6), (0, .ref 0), (5, .int x.2.1), (6, .int v6), (7, .int x.2.2.1), (8, .int x.2.2.2)]) rfl ?_
    refine Ev_iload 2 (dt_X11_drawLots.at 40 rfl) rfl ?_
    obtain ⟨q7, hq7, h⟩ := oBind h
    refine Ev_callS (st := []) (st' := [.int q7]) [.int x.2.1] (dt_X11_drawLots.at 41 rfl) cf_X11_261 (w_Integer_bitCount σ x.2.1 q7 hq7) (by decide) rfl rfl (Nat.le_of_ble_eq_true rfl) rfl ?_
    refine Ev_istore (dt_X11_drawLots.at 42 rfl) (by decide) (ls' := [(9, .int q7), (3, .long x6), (0, .ref 0), (5, .int x.2.1), (6, .int v6), (7, .int x.2.2.1), (8, .int x.2.2.2)]) rfl ?_
    refine Ev_iload 0 (dt_X11_drawLots.at 43 rfl) rfl ?_
    refine Ev_if_ne (tgt := 83) (dt_X11_drawLots.at 44 rfl) (by decide) (fun c8 => ?_) (fun c8 => ?_)
    · replace h := oNeg h c8
      refine Ev_iload 3 (dt_X11_drawLots.at 47 rfl) rfl ?_
      refine Ev_lload_n 1 (dt_X11_drawLots.at 48 rfl) rfl ?_
      refine Ev_ldc2 (dt_X11_drawLots.at 49 rfl) cl_X11_266 ?_
      refine Ev_ldiv (dt_X11_drawLots.at 50 rfl) (by decide) ?_
      refine Ev_iload 0 (dt_X11_drawLots.at 51 rfl) rfl ?_
      refine Ev_i2l (dt_X11_drawLots.at 52 rfl) ?_
      obtain ⟨g9, h⟩ := oGuard h
      refine Ev_lrem (dt_X11_drawLots.at 53 rfl) g9 ?_
      refine Ev_l2i (dt_X11_drawLots.at 54 rfl) ?_
      obtain ⟨q10, hq10, h⟩ := oBind h
      refine Ev_callS (st := []) (st' := [.int q10]) [.int x.2.1, .int (Int64.toInt32 ((x6 / 65536) - (x6 / 65536) / (Int32.toInt64 q7) * (Int32.toInt64 q7)))] (dt_X11_drawLots.at 55 rfl) cf_X11_268 (w_x_nthOf σ x.2.1 (Int64.toInt32 ((x6 / 65536) - (x6 / 65536) / (Int32.toInt64 q7) * (Int32.toInt64 q7))) q10 hq10) (by decide) rfl rfl (Nat.le_of_ble_eq_true rfl) rfl ?_
      refine Ev_sub [2, 1, 3, 4, 5, 6] (ls' := [(0, .ref 0), (3, .long x6), (5, .int x.2.1), (6, .int v6), (7, .int x.2.2.1), (8, .int x.2.2.2)]) rfl ?_
      exact wj_x_drawLots_98i47 σ v6 x6 x.2.1 x.2.2.1 x.2.2.2 q10 _ _ _ h hc he
    · replace h := oPos h c8
      refine Ev_iconst (dt_X11_drawLots.at 45 rfl) ki_0 ?_
      refine Ev_goto (tgt := 98) (dt_X11_drawLots.at 46 rfl) (by decide) ?_
      refine Ev_sub [2, 1, 3, 4, 5, 6] (ls' := [(0, .ref 0), (3, .long x6), (5, .int x.2.1), (6, .int v6), (7, .int x.2.2.1), (8, .int x.2.2.2)]) rfl ?_
      exact wj_x_drawLots_98i47 σ v6 x6 x.2.1 x.2.2.1 x.2.2.2 0 _ _ _ h hc he
set_option maxRecDepth 100000 in
set_option maxHeartbeats 4000000 in
theorem wl_x_drawLots_47 (σ : Sg) (v6 : Int32) (r : Option Value) (τ : Sg) (n : Nat) (x : (Int64 × Int32 × Int32 × Int32)) (z : (Int64 × Int32 × Int32 × Int32)) (h : lp (b_x_drawLots_47 σ v6) n x = some z) (he : ∀ y : (Int64 × Int32 × Int32 × Int32), z = y → Ev M_X11_drawLots 2 r τ 122 [(0, .ref 0), (3, .long y.1), (5, .int y.2.1), (6, .int v6), (7, .int y.2.2.1)] [] σ) : Ev M_X11_drawLots 2 r τ 47 [(0, .ref 0), (3, .long x.1), (5, .int x.2.1), (6, .int v6), (7, .int x.2.2.1), (8, .int x.2.2.2)] [] σ := by
  refine lp_ind (E := fun x : (Int64 × Int32 × Int32 × Int32) => Ev M_X11_drawLots 2 r τ 47 [(0, .ref 0), (3, .long x.1), (5, .int x.2.1), (6, .int v6), (7, .int x.2.2.1), (8, .int x.2.2.2)] [] σ) (fun x => ⟨fun y hb hy => ?_, fun hb => ?_⟩) n x h
  · exact wb_x_drawLots_47 σ v6 x r τ _ hb (fun y' e => by cases e; exact hy) (fun y' e => by cases e)
  · exact wb_x_drawLots_47 σ v6 x r τ _ hb (fun y' e => by cases e) (fun y' e => he y' (Sum.inr.inj e))
set_option maxRecDepth 100000 in
set_option maxHeartbeats 4000000 in
theorem wb_x_drawLots_21  (x : (Sg × Int64 × Int32 × Int32)) (r : Option Value) (τ : Sg) (o : ((Sg × Int64 × Int32 × Int32) ⊕ (Sg × Int64 × Int32 × Int32))) (h : (b_x_drawLots_21  x) = some o) (hc : ∀ y : (Sg × Int64 × Int32 × Int32), o = .inl y → Ev M_X11_drawLots 2 r τ 21 [(0, .ref 0), (3, .long y.2.1), (5, .int y.2.2.1), (6, .int y.2.2.2)] [] y.1) (he : ∀ y : (Sg × Int64 × Int32 × Int32), o = .inr y → Ev M_X11_drawLots 2 r τ 137 [] [] y.1) : Ev M_X11_drawLots 2 r τ 21 [(0, .ref 0), (3, .long x.2.1), (5, .int x.2.2.1), (6, .int x.2.2.2)] [] x.1 := by
  unfold b_x_drawLots_21 at h
  refine Ev_iload 3 (dt_X11_drawLots.at 13 rfl) rfl ?_
  refine Ev_iconst (dt_X11_drawLots.at 14 rfl) ki_3 ?_
  refine Ev_icmp_ge (tgt := 137) (dt_X11_drawLots.at 15 rfl) (by decide) (fun c2 => ?_) (fun c2 => ?_)
  · replace h := oPos h c2
    refine Ev_sub [] (ls' := []) rfl ?_
    exact he (x.1, x.2.1, x.2.2.1, x.2.2.2) (Option.some.inj h).symm
  · replace h := oNeg h c2
    refine Ev_iload 2 (dt_X11_drawLots.at 16 rfl) rfl ?_
    refine Ev_iload 2 (dt_X11_drawLots.at 17 rfl) rfl ?_
    refine Ev_ineg (dt_X11_drawLots.at 18 rfl) ?_
    refine Ev_iand (dt_X11_drawLots.at 19 rfl) ?_
    refine Ev_nmI (fun x3 ex3 => ?_)
    replace h := oLt h ex3
    refine Ev_istore (dt_X11_drawLots.at 20 rfl) (by decide) (ls' := [(7, .int x3), (0, .ref 0), (3, .long x.2.1), (5, .int x.2.2.1), (6, .int x.2.2.2)]) rfl ?_
    refine Ev_iload 3 (dt_X11_drawLots.at 21 rfl) rfl ?_
    refine Ev_iload 0 (dt_X11_drawLots.at 22 rfl) rfl ?_
    refine Ev_iconst (dt_X11_drawLots.at 23 rfl) ki_m1 ?_
    refine Ev_ixor (dt_X11_drawLots.at 24 rfl) ?_
    refine Ev_iand (dt_X11_drawLots.at 25 rfl) ?_
    refine Ev_nmI (fun x4 ex4 => ?_)
    replace h := oLt h ex4
    refine Ev_istore (dt_X11_drawLots.at 26 rfl) (by decide) (ls' := [(5, .int x4), (7, .int x3), (0, .ref 0), (3, .long x.2.1), (6, .int x.2.2.2)]) rfl ?_
    refine Ev_iconst (dt_X11_drawLots.at 27 rfl) ki_0 ?_
    refine Ev_istore (dt_X11_drawLots.at 28 rfl) (by decide) (ls' := [(8, .int 0), (5, .int x4), (7, .int x3), (0, .ref 0), (3, .long x.2.1), (6, .int x.2.2.2)]) rfl ?_
    refine Ev_sub [3, 4, 1, 5, 2, 0] (ls' := [(0, .ref 0), (3, .long x.2.1), (5, .int x4), (6, .int x.2.2.2), (7, .int x3), (8, .int 0)]) rfl ?_
    obtain ⟨o14, ho14, h⟩ := oBind h
    refine wl_x_drawLots_47 x.1 x.2.2.2 _ _ 100000 (x.2.1, x4, x3, 0) o14 ho14 (fun y ey => ?_)
    subst ey
    refine Ev_aload_n 0 (dt_X11_drawLots.at 69 rfl) rfl ?_
    refine Ev_get (i := 8) (v := .ref 18) (dt_X11_drawLots.at 70 rfl) ff_X11_37 sk_0 rfl rfl ?_
    refine Ev_iload 3 (dt_X11_drawLots.at 71 rfl) rfl ?_
    refine Ev_iload 4 (dt_X11_drawLots.at 72 rfl) rfl ?_
    obtain ⟨g15, h⟩ := oGuard h
    refine Ev_iastore 18 (dt_X11_drawLots.at 73 rfl) sk_18 g15 ?_
    refine Ev_nmS (fun s16 es16 => ?_)
    replace h := oLt h es16
    obtain ⟨x17, ex17⟩ : ∃ z : Int32, z = x.2.2.2 + 1 := ⟨_, rfl⟩
    replace h := oLt h ex17
    refine Ev_iinc (v := x17) 3 (dt_X11_drawLots.at 74 rfl) rfl (ex17.trans (congrArg (fun z => x.2.2.2 + z) ki_1.symm)) (by decide) (ls' := [(6, .int x17), (0, .ref 0), (3, .long o14.1), (5, .int o14.2.1), (7, .int o14.2.2.1)]) rfl ?_
    refine Ev_goto (tgt := 21) (dt_X11_drawLots.at 75 rfl) (by decide) ?_
    refine Ev_sub [1, 2, 3, 0] (ls' := [(0, .ref 0), (3, .long o14.1), (5, .int o14.2.1), (6, .int x17)]) rfl ?_
    exact hc (s16, o14.1, o14.2.1, x17) (Option.some.inj h).symm
set_option maxRecDepth 100000 in
set_option maxHeartbeats 4000000 in
theorem wl_x_drawLots_21  (r : Option Value) (τ : Sg) (n : Nat) (x : (Sg × Int64 × Int32 × Int32)) (z : (Sg × Int64 × Int32 × Int32)) (h : lp (b_x_drawLots_21 ) n x = some z) (he : ∀ y : (Sg × Int64 × Int32 × Int32), z = y → Ev M_X11_drawLots 2 r τ 137 [] [] y.1) : Ev M_X11_drawLots 2 r τ 21 [(0, .ref 0), (3, .long x.2.1), (5, .int x.2.2.1), (6, .int x.2.2.2)] [] x.1 := by
  refine lp_ind (E := fun x : (Sg × Int64 × Int32 × Int32) => Ev M_X11_drawLots 2 r τ 21 [(0, .ref 0), (3, .long x.2.1), (5, .int x.2.2.1), (6, .int x.2.2.2)] [] x.1) (fun x => ⟨fun y hb hy => ?_, fun hb => ?_⟩) n x h
  · exact wb_x_drawLots_21  x r τ _ hb (fun y' e => by cases e; exact hy) (fun y' e => by cases e)
  · exact wb_x_drawLots_21  x r τ _ hb (fun y' e => by cases e) (fun y' e => he y' (Sum.inr.inj e))
set_option maxRecDepth 100000 in
set_option maxHeartbeats 4000000 in
theorem w_x_drawLots (σ : Sg) (a1 : Int64) (q : Sg) (h : s_x_drawLots σ a1 = some q) : Cal M_X11_drawLots 2 [.ref 0, .long a1] σ none q := by
  refine Cal.of (M := M_X11_drawLots) (by decide +kernel) (Nat.le_of_ble_eq_true rfl) ?_
  show Ev _ _ _ _ 0 [(0, .ref 0), (1, .long a1)] [] σ
  unfold s_x_drawLots at h
  refine Ev_lload_n 1 (dt_X11_drawLots.at 0 rfl) rfl ?_
  refine Ev_lstore_n (dt_X11_drawLots.at 1 rfl) (by decide) (ls' := [(3, .long a1), (0, .ref 0), (1, .long a1)]) rfl ?_
  refine Ev_iconst (dt_X11_drawLots.at 2 rfl) ki_1 ?_
  refine Ev_aload_n 1 (dt_X11_drawLots.at 3 rfl) rfl ?_
  refine Ev_get (i := 0) (v := .ref 25) (dt_X11_drawLots.at 4 rfl) ff_X11_50 sk_0 rfl rfl ?_
  refine Ev_get (i := 0) (v := .ref 19) (dt_X11_drawLots.at 5 rfl) ff_X11_72 sk_25 rfl rfl ?_
  refine Ev_get (i := 6) (v := .int (gI σ 19 6)) (dt_X11_drawLots.at 6 rfl) ff_X11_90 sk_19 rfl rfl ?_
  refine Ev_ishl (dt_X11_drawLots.at 7 rfl) ?_
  refine Ev_iconst (dt_X11_drawLots.at 8 rfl) ki_1 ?_
  refine Ev_isub (dt_X11_drawLots.at 9 rfl) ?_
  refine Ev_nmI (fun x1 ex1 => ?_)
  replace h := oLt h ex1
  refine Ev_istore (dt_X11_drawLots.at 10 rfl) (by decide) (ls' := [(5, .int x1), (3, .long a1), (0, .ref 0), (1, .long a1)]) rfl ?_
  refine Ev_iconst (dt_X11_drawLots.at 11 rfl) ki_0 ?_
  refine Ev_istore (dt_X11_drawLots.at 12 rfl) (by decide) (ls' := [(6, .int 0), (5, .int x1), (3, .long a1), (0, .ref 0), (1, .long a1)]) rfl ?_
  refine Ev_sub [3, 2, 1, 0] (ls' := [(0, .ref 0), (3, .long a1), (5, .int x1), (6, .int 0)]) rfl ?_
  obtain ⟨o18, ho18, h⟩ := oBind h
  refine wl_x_drawLots_21  _ _ 100000 (σ, a1, x1, 0) o18 ho18 (fun y ey => ?_)
  subst ey
  exact Ev_vret (dt_X11_drawLots.at 76 rfl) rfl h
