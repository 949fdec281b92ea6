def s_m_areThrees (σ : Sg)  : Option Int32 :=
  (s_m_people σ ).bind fun q1 =>
  if q1 = 3 then
    some 1
  else
    (s_m_people σ ).bind fun q3 =>
    if q3 = 6 then
      some 1
    else
      (s_m_people σ ).bind fun q5 =>
      if q5 = 9 then
        some 1
      else
        some 0
set_option maxRecDepth 100000 in
set_option maxHeartbeats 4000000 in
theorem w_m_areThrees (σ : Sg)  (q : Int32) (h : s_m_areThrees σ  = some q) : Cal M_X12_areThrees 1 [.ref 71] σ (some (.int q)) σ := by
  refine Cal.of (M := M_X12_areThrees) (by decide +kernel) (Nat.le_of_ble_eq_true rfl) ?_
  show Ev _ _ _ _ 0 [(0, .ref 71)] [] σ
  unfold s_m_areThrees at h
  refine Ev_aload_n 0 (dt_X12_areThrees.at 0 rfl) rfl ?_
  obtain ⟨q1, hq1, h⟩ := oBind h
  refine Ev_callV (st := []) (st' := [.int q1]) [] (dt_X12_areThrees.at 1 rfl) cf_X12_70 (w_m_people σ  q1 hq1) (by decide) sk_71 rfl rfl rfl (Nat.le_of_ble_eq_true rfl) rfl ?_
  refine Ev_iconst (dt_X12_areThrees.at 2 rfl) ki_3 ?_
  refine Ev_icmp_eq (tgt := 26) (dt_X12_areThrees.at 3 rfl) (by decide) (fun c2 => ?_) (fun c2 => ?_)
  · replace h := oPos h c2
    refine Ev_iconst (dt_X12_areThrees.at 12 rfl) ki_1 ?_
    refine Ev_goto (tgt := 31) (dt_X12_areThrees.at 13 rfl) (by decide) ?_
    exact Ev_zret (dt_X12_areThrees.at 15 rfl) rfl (by decide) (oRet h)
  · replace h := oNeg h c2
    refine Ev_aload_n 0 (dt_X12_areThrees.at 4 rfl) rfl ?_
    obtain ⟨q3, hq3, h⟩ := oBind h
    refine Ev_callV (st := []) (st' := [.int q3]) [] (dt_X12_areThrees.at 5 rfl) cf_X12_70 (w_m_people σ  q3 hq3) (by decide) sk_71 rfl rfl rfl (Nat.le_of_ble_eq_true rfl) rfl ?_
    refine Ev_bipush (dt_X12_areThrees.at 6 rfl) kb_6 ?_
    refine Ev_icmp_eq (tgt := 26) (dt_X12_areThrees.at 7 rfl) (by decide) (fun c4 => ?_) (fun c4 => ?_)
    · replace h := oPos h c4
      refine Ev_iconst (dt_X12_areThrees.at 12 rfl) ki_1 ?_
      refine Ev_goto (tgt := 31) (dt_X12_areThrees.at 13 rfl) (by decide) ?_
      exact Ev_zret (dt_X12_areThrees.at 15 rfl) rfl (by decide) (oRet h)
    · replace h := oNeg h c4
      refine Ev_aload_n 0 (dt_X12_areThrees.at 8 rfl) rfl ?_
      obtain ⟨q5, hq5, h⟩ := oBind h
      refine Ev_callV (st := []) (st' := [.int q5]) [] (dt_X12_areThrees.at 9 rfl) cf_X12_70 (w_m_people σ  q5 hq5) (by decide) sk_71 rfl rfl rfl (Nat.le_of_ble_eq_true rfl) rfl ?_
      refine Ev_bipush (dt_X12_areThrees.at 10 rfl) kb_9 ?_
      refine Ev_icmp_ne (tgt := 30) (dt_X12_areThrees.at 11 rfl) (by decide) (fun c6 => ?_) (fun c6 => ?_)
      · replace h := oNeg h c6
        refine Ev_iconst (dt_X12_areThrees.at 14 rfl) ki_0 ?_
        exact Ev_zret (dt_X12_areThrees.at 15 rfl) rfl (by decide) (oRet h)
      · replace h := oPos h c6
        refine Ev_iconst (dt_X12_areThrees.at 12 rfl) ki_1 ?_
        refine Ev_goto (tgt := 31) (dt_X12_areThrees.at 13 rfl) (by decide) ?_
        exact Ev_zret (dt_X12_areThrees.at 15 rfl) rfl (by decide) (oRet h)
def b_m_noThrees_2  (x : (Sg × Int32)) : Option ((Sg × Int32) ⊕ (Sg × Int32)) :=
  if 3 ≤ x.2 then
    some (.inr (x.1, x.2))
  else
    if inB x.2 3 = true then
      lt (pI x.1 81 (Int32.toNatClampNeg x.2) (-1) : Sg) fun s3 =>
      lt (x.2 + 1 : Int32) fun x4 =>
      some (.inl (s3, x4))
    else none
def s_m_noThrees (σ : Sg)  : Option Sg :=
  (lp (b_m_noThrees_2 ) 100000 (σ, 0)).bind fun o5 =>
  some o5.1
set_option maxRecDepth 100000 in
set_option maxHeartbeats 4000000 in
theorem wb_m_noThrees_2  (x : (Sg × Int32)) (r : Option Value) (τ : Sg) (o : ((Sg × Int32) ⊕ (Sg × Int32))) (h : (b_m_noThrees_2  x) = some o) (hc : ∀ y : (Sg × Int32), o = .inl y → Ev M_X12_noThrees 0 r τ 2 [(0, .ref 71), (1, .int y.2)] [] y.1) (he : ∀ y : (Sg × Int32), o = .inr y → Ev M_X12_noThrees 0 r τ 20 [] [] y.1) : Ev M_X12_noThrees 0 r τ 2 [(0, .ref 71), (1, .int x.2)] [] x.1 := by
  unfold b_m_noThrees_2 at h
  refine Ev_iload_n 1 (dt_X12_noThrees.at 2 rfl) rfl ?_
  refine Ev_iconst (dt_X12_noThrees.at 3 rfl) ki_3 ?_
  refine Ev_icmp_ge (tgt := 20) (dt_X12_noThrees.at 4 rfl) (by decide) (fun c1 => ?_) (fun c1 => ?_)
  · replace h := oPos h c1
    refine Ev_sub [] (ls' := []) rfl ?_
    exact he (x.1, x.2) (Option.some.inj h).symm
  · replace h := oNeg h c1
    refine Ev_aload_n 0 (dt_X12_noThrees.at 5 rfl) rfl ?_
    refine Ev_get (i := 12) (v := .ref 81) (dt_X12_noThrees.at 6 rfl) ff_X12_42 sk_71 rfl rfl ?_
    refine Ev_iload_n 1 (dt_X12_noThrees.at 7 rfl) rfl ?_
    refine Ev_iconst (dt_X12_noThrees.at 8 rfl) ki_m1 ?_
    obtain ⟨g2, h⟩ := oGuard h
    refine Ev_iastore 81 (dt_X12_noThrees.at 9 rfl) sk_81 g2 ?_
    refine Ev_nmS (fun s3 es3 => ?_)
    replace h := oLt h es3
    obtain ⟨x4, ex4⟩ : ∃ z : Int32, z = x.2 + 1 := ⟨_, rfl⟩
    replace h := oLt h ex4
    refine Ev_iinc (v := x4) 1 (dt_X12_noThrees.at 10 rfl) rfl (ex4.trans (congrArg (fun z => x.2 + z) ki_1.symm)) (by decide) (ls' := [(1, .int x4), (0, .ref 71)]) rfl ?_
    refine Ev_goto (tgt := 2) (dt_X12_noThrees.at 11 rfl) (by decide) ?_
    refine Ev_sub [1, 0] (ls' := [(0, .ref 71), (1, .int x4)]) rfl ?_
    exact hc (s3, x4) (Option.some.inj h).symm
set_option maxRecDepth 100000 in
set_option maxHeartbeats 4000000 in
theorem wl_m_noThrees_2  (r : Option Value) (τ : Sg) (n : Nat) (x : (Sg × Int32)) (z : (Sg × Int32)) (h : lp (b_m_noThrees_2 ) n x = some z) (he : ∀ y : (Sg × Int32), z = y → Ev M_X12_noThrees 0 r τ 20 [] [] y.1) : Ev M_X12_noThrees 0 r τ 2 [(0, .ref 71), (1, .int x.2)] [] x.1 := by
  refine lp_ind (E := fun x : (Sg × Int32) => Ev M_X12_noThrees 0 r τ 2 [(0, .ref 71), (1, .int x.2)] [] x.1) (fun x => ⟨fun y hb hy => ?_, fun hb => ?_⟩) n x h
  · exact wb_m_noThrees_2  x r τ _ hb (fun y' e => by cases e; exact hy) (fun y' e => by cases e)
  · exact wb_m_noThrees_2  x r τ _ hb (fun y' e => by cases e) (fun y' e => he y' (Sum.inr.inj e))
set_option maxRecDepth 100000 in
set_option maxHeartbeats 4000000 in
theorem w_m_noThrees (σ : Sg)  (q : Sg) (h : s_m_noThrees σ  = some q) : Cal M_X12_noThrees 0 [.ref 71] σ none q := by
  refine Cal.of (M := M_X12_noThrees) (by decide +kernel) (Nat.le_of_ble_eq_true rfl) ?_
  show Ev _ _ _ _ 0 [(0, .ref 71)] [] σ
  unfold s_m_noThrees at h
  refine Ev_iconst (dt_X12_noThrees.at 0 rfl) ki_0 ?_
  refine Ev_istore_n (dt_X12_noThrees.at 1 rfl) (by decide) (ls' := [(1, .int 0), (0, .ref 71)]) rfl ?_
  refine Ev_sub [1, 0] (ls' := [(0, .ref 71), (1, .int 0)]) rfl ?_
  obtain ⟨o5, ho5, h⟩ := oBind h
  refine wl_m_noThrees_2  _ _ 100000 (σ, 0) o5 ho5 (fun y ey => ?_)
  subst ey
  exact Ev_vret (dt_X12_noThrees.at 12 rfl) rfl h
def b_m_least_2 (v0 : Int32) (x : Int32) : Option (Int32 ⊕ Int32) :=
  if ((v0 >>> (x &&& 31)) &&& 1) = 0 then
    lt (x + 1 : Int32) fun x2 =>
    some (.inl x2)
  else
    some (.inr x)
def s_m_least (a0 : Int32) : Option Int32 :=
  (lp (b_m_least_2 a0) 100000 0).bind fun o3 =>
  some o3
set_option maxRecDepth 100000 in
set_option maxHeartbeats 4000000 in
theorem wb_m_least_2 (v0 : Int32) (σ : Sg) (x : Int32) (r : Option Value) (τ : Sg) (o : (Int32 ⊕ Int32)) (h : (b_m_least_2 v0 x) = some o) (hc : ∀ y : Int32, o = .inl y → Ev M_X12_least 0 r τ 2 [(0, .int v0), (1, .int y)] [] σ) (he : ∀ y : Int32, o = .inr y → Ev M_X12_least 0 r τ 16 [(1, .int y)] [] σ) : Ev M_X12_least 0 r τ 2 [(0, .int v0), (1, .int x)] [] σ := by
  unfold b_m_least_2 at h
  refine Ev_iload_n 0 (dt_X12_least.at 2 rfl) rfl ?_
  refine Ev_iload_n 1 (dt_X12_least.at 3 rfl) rfl ?_
  refine Ev_ishr (dt_X12_least.at 4 rfl) ?_
  refine Ev_iconst (dt_X12_least.at 5 rfl) ki_1 ?_
  refine Ev_iand (dt_X12_least.at 6 rfl) ?_
  refine Ev_if_ne (tgt := 16) (dt_X12_least.at 7 rfl) (by decide) (fun c1 => ?_) (fun c1 => ?_)
  · replace h := oNeg h c1
    refine Ev_sub [1] (ls' := [(1, .int x)]) rfl ?_
    exact he x (Option.some.inj h).symm
  · replace h := oPos h c1
    obtain ⟨x2, ex2⟩ : ∃ z : Int32, z = x + 1 := ⟨_, rfl⟩
    replace h := oLt h ex2
    refine Ev_iinc (v := x2) 1 (dt_X12_least.at 8 rfl) rfl (ex2.trans (congrArg (fun z => x + z) ki_1.symm)) (by decide) (ls' := [(1, .int x2), (0, .int v0)]) rfl ?_
    refine Ev_goto (tgt := 2) (dt_X12_least.at 9 rfl) (by decide) ?_
    refine Ev_sub [1, 0] (ls' := [(0, .int v0), (1, .int x2)]) rfl ?_
    exact hc x2 (Option.some.inj h).symm
set_option maxRecDepth 100000 in
set_option maxHeartbeats 4000000 in
theorem wl_m_least_2 (v0 : Int32) (σ : Sg) (r : Option Value) (τ : Sg) (n : Nat) (x : Int32) (z : Int32) (h : lp (b_m_least_2 v0) n x = some z) (he : ∀ y : Int32, z = y → Ev M_X12_least 0 r τ 16 [(1, .int y)] [] σ) : Ev M_X12_least 0 r τ 2 [(0, .int v0), (1, .int x)] [] σ := by
  refine lp_ind (E := fun x : Int32 => Ev M_X12_least 0 r τ 2 [(0, .int v0), (1, .int x)] [] σ) (fun x => ⟨fun y hb hy => ?_, fun hb => ?_⟩) n x h
  · exact wb_m_least_2 v0 σ x r τ _ hb (fun y' e => by cases e; exact hy) (fun y' e => by cases e)
  · exact wb_m_least_2 v0 σ x r τ _ hb (fun y' e => by cases e) (fun y' e => he y' (Sum.inr.inj e))
set_option maxRecDepth 100000 in
set_option maxHeartbeats 4000000 in
theorem w_m_least (σ : Sg) (a0 : Int32) (q : Int32) (h : s_m_least a0 = some q) : Cal M_X12_least 0 [.int a0] σ (some (.int q)) σ := by
  refine Cal.of (M := M_X12_least) (by decide +kernel) (Nat.le_of_ble_eq_true rfl) ?_
  show Ev _ _ _ _ 0 [(0, .int a0)] [] σ
  unfold s_m_least at h
  refine Ev_iconst (dt_X12_least.at 0 rfl) ki_0 ?_
  refine Ev_istore_n (dt_X12_least.at 1 rfl) (by decide) (ls' := [(1, .int 0), (0, .int a0)]) rfl ?_
  refine Ev_sub [1, 0] (ls' := [(0, .int a0), (1, .int 0)]) rfl ?_
  obtain ⟨o3, ho3, h⟩ := oBind h
  refine wl_m_least_2 a0 σ _ _ 100000 0 o3 ho3 (fun y ey => ?_)
  subst ey
  refine Ev_iload_n 0 (dt_X12_least.at 10 rfl) rfl ?_
  exact Ev_iret (dt_X12_least.at 11 rfl) rfl (oRet h)
def b_m_nextThree_9 (v0 : Int32) (v3 : Int32) (x : Int32) : Option (Int32 ⊕ Int32) :=
  if v0 < x then
    some (.inr x)
  else
    if (x &&& (v0 ^^^ (-1))) = 0 then
      if (x &&& v3) = 0 then
        lt (x + 1 : Int32) fun x7 =>
        some (.inl x7)
      else
        (s_m_bits x).bind fun q8 =>
        if q8 = 3 then
          some (.inr x)
        else
          lt (x + 1 : Int32) fun x10 =>
          some (.inl x10)
    else
      lt (x + 1 : Int32) fun x5 =>
      some (.inl x5)
def j_m_nextThree_42  (v0 : Int32) (v2 : Int32) : Option Int32 :=
  if v0 < v2 then
    some (-1)
  else
    some v2
def s_m_nextThree (a0 : Int32) (a1 : Int32) : Option Int32 :=
  (s_m_least a0).bind fun q1 =>
  lt (((1 : Int32) <<< (q1 &&& 31)) : Int32) fun x2 =>
  (lp (b_m_nextThree_9 a0 x2) 100000 a1).bind fun o11 =>
  j_m_nextThree_42  a0 o11
set_option maxRecDepth 100000 in
set_option maxHeartbeats 4000000 in
theorem wb_m_nextThree_9 (v0 : Int32) (v3 : Int32) (σ : Sg) (x : Int32) (r : Option Value) (τ : Sg) (o : (Int32 ⊕ Int32)) (h : (b_m_nextThree_9 v0 v3 x) = some o) (hc : ∀ y : Int32, o = .inl y → Ev M_X12_nextThree 1 r τ 9 [(0, .int v0), (2, .int y), (3, .int v3)] [] σ) (he : ∀ y : Int32, o = .inr y → Ev M_X12_nextThree 1 r τ 42 [(0, .int v0), (2, .int y)] [] σ) : Ev M_X12_nextThree 1 r τ 9 [(0, .int v0), (2, .int x), (3, .int v3)] [] σ := by
  unfold b_m_nextThree_9 at h
  refine Ev_iload_n 1 (dt_X12_nextThree.at 7 rfl) rfl ?_
  refine Ev_iload_n 0 (dt_X12_nextThree.at 8 rfl) rfl ?_
  refine Ev_icmp_gt (tgt := 42) (dt_X12_nextThree.at 9 rfl) (by decide) (fun c3 => ?_) (fun c3 => ?_)
  · replace h := oPos h c3
    refine Ev_sub [0, 1] (ls' := [(0, .int v0), (2, .int x)]) rfl ?_
    exact he x (Option.some.inj h).symm
  · replace h := oNeg h c3
    refine Ev_iload_n 1 (dt_X12_nextThree.at 10 rfl) rfl ?_
    refine Ev_iload_n 0 (dt_X12_nextThree.at 11 rfl) rfl ?_
    refine Ev_iconst (dt_X12_nextThree.at 12 rfl) ki_m1 ?_
    refine Ev_ixor (dt_X12_nextThree.at 13 rfl) ?_
    refine Ev_iand (dt_X12_nextThree.at 14 rfl) ?_
    refine Ev_if_ne (tgt := 36) (dt_X12_nextThree.at 15 rfl) (by decide) (fun c4 => ?_) (fun c4 => ?_)
    · replace h := oNeg h c4
      obtain ⟨x5, ex5⟩ : ∃ z : Int32, z = x + 1 := ⟨_, rfl⟩
      replace h := oLt h ex5
      refine Ev_iinc (v := x5) 1 (dt_X12_nextThree.at 24 rfl) rfl (ex5.trans (congrArg (fun z => x + z) ki_1.symm)) (by decide) (ls' := [(2, .int x5), (0, .int v0), (3, .int v3)]) rfl ?_
      refine Ev_goto (tgt := 9) (dt_X12_nextThree.at 25 rfl) (by decide) ?_
      refine Ev_sub [1, 0, 2] (ls' := [(0, .int v0), (2, .int x5), (3, .int v3)]) rfl ?_
      exact hc x5 (Option.some.inj h).symm
    · replace h := oPos h c4
      refine Ev_iload_n 1 (dt_X12_nextThree.at 16 rfl) rfl ?_
      refine Ev_iload_n 2 (dt_X12_nextThree.at 17 rfl) rfl ?_
      refine Ev_iand (dt_X12_nextThree.at 18 rfl) ?_
      refine Ev_if_eq (tgt := 36) (dt_X12_nextThree.at 19 rfl) (by decide) (fun c6 => ?_) (fun c6 => ?_)
      · replace h := oPos h c6
        obtain ⟨x7, ex7⟩ : ∃ z : Int32, z = x + 1 := ⟨_, rfl⟩
        replace h := oLt h ex7
        refine Ev_iinc (v := x7) 1 (dt_X12_nextThree.at 24 rfl) rfl (ex7.trans (congrArg (fun z => x + z) ki_1.symm)) (by decide) (ls' := [(2, .int x7), (0, .int v0), (3, .int v3)]) rfl ?_
        refine Ev_goto (tgt := 9) (dt_X12_nextThree.at 25 rfl) (by decide) ?_
        refine Ev_sub [1, 0, 2] (ls' := [(0, .int v0), (2, .int x7), (3, .int v3)]) rfl ?_
        exact hc x7 (Option.some.inj h).symm
      · replace h := oNeg h c6
        refine Ev_iload_n 1 (dt_X12_nextThree.at 20 rfl) rfl ?_
        obtain ⟨q8, hq8, h⟩ := oBind h
        refine Ev_callS (st := []) (st' := [.int q8]) [.int x] (dt_X12_nextThree.at 21 rfl) cf_X12_78 (w_m_bits σ x q8 hq8) (by decide) rfl rfl (Nat.le_of_ble_eq_true rfl) rfl ?_
        refine Ev_iconst (dt_X12_nextThree.at 22 rfl) ki_3 ?_
        refine Ev_icmp_eq (tgt := 42) (dt_X12_nextThree.at 23 rfl) (by decide) (fun c9 => ?_) (fun c9 => ?_)
        · replace h := oPos h c9
          refine Ev_sub [0, 1] (ls' := [(0, .int v0), (2, .int x)]) rfl ?_
          exact he x (Option.some.inj h).symm
        · replace h := oNeg h c9
          obtain ⟨x10, ex10⟩ : ∃ z : Int32, z = x + 1 := ⟨_, rfl⟩
          replace h := oLt h ex10
          refine Ev_iinc (v := x10) 1 (dt_X12_nextThree.at 24 rfl) rfl (ex10.trans (congrArg (fun z => x + z) ki_1.symm)) (by decide) (ls' := [(2, .int x10), (0, .int v0), (3, .int v3)]) rfl ?_
          refine Ev_goto (tgt := 9) (dt_X12_nextThree.at 25 rfl) (by decide) ?_
          refine Ev_sub [1, 0, 2] (ls' := [(0, .int v0), (2, .int x10), (3, .int v3)]) rfl ?_
          exact hc x10 (Option.some.inj h).symm
set_option maxRecDepth 100000 in
set_option maxHeartbeats 4000000 in
theorem wl_m_nextThree_9 (v0 : Int32) (v3 : Int32) (σ : Sg) (r : Option Value) (τ : Sg) (n : Nat) (x : Int32) (z : Int32) (h : lp (b_m_nextThree_9 v0 v3) n x = some z) (he : ∀ y : Int32, z = y → Ev M_X12_nextThree 1 r τ 42 [(0, .int v0), (2, .int y)] [] σ) : Ev M_X12_nextThree 1 r τ 9 [(0, .int v0), (2, .int x), (3, .int v3)] [] σ := by
  refine lp_ind (E := fun x : Int32 => Ev M_X12_nextThree 1 r τ 9 [(0, .int v0), (2, .int x), (3, .int v3)] [] σ) (fun x => ⟨fun y hb hy => ?_, fun hb => ?_⟩) n x h
  · exact wb_m_nextThree_9 v0 v3 σ x r τ _ hb (fun y' e => by cases e; exact hy) (fun y' e => by cases e)
  · exact wb_m_nextThree_9 v0 v3 σ x r τ _ hb (fun y' e => by cases e) (fun y' e => he y' (Sum.inr.inj e))
set_option maxRecDepth 100000 in
set_option maxHeartbeats 4000000 in
theorem wj_m_nextThree_42  (σ : Sg) (v0 : Int32) (v2 : Int32) (q : Int32) (h : (j_m_nextThree_42  v0 v2) = some q) : Ev M_X12_nextThree 1 (some (.int q)) σ 42 [(0, .int v0), (2, .int v2)] [] σ := by
  unfold j_m_nextThree_42 at h
  refine Ev_iload_n 1 (dt_X12_nextThree.at 26 rfl) rfl ?_
  refine Ev_iload_n 0 (dt_X12_nextThree.at 27 rfl) rfl ?_
  refine Ev_icmp_gt (tgt := 51) (dt_X12_nextThree.at 28 rfl) (by decide) (fun c12 => ?_) (fun c12 => ?_)
  · replace h := oPos h c12
    refine Ev_iconst (dt_X12_nextThree.at 31 rfl) ki_m1 ?_
    exact Ev_iret (dt_X12_nextThree.at 32 rfl) rfl (oRet h)
  · replace h := oNeg h c12
    refine Ev_iload_n 1 (dt_X12_nextThree.at 29 rfl) rfl ?_
    refine Ev_goto (tgt := 52) (dt_X12_nextThree.at 30 rfl) (by decide) ?_
    exact Ev_iret (dt_X12_nextThree.at 32 rfl) rfl (oRet h)
set_option maxRecDepth 100000 in
set_option maxHeartbeats 4000000 in
theorem w_m_nextThree (σ : Sg) (a0 : Int32) (a1 : Int32) (q : Int32) (h : s_m_nextThree a0 a1 = some q) : Cal M_X12_nextThree 1 [.int a0, .int a1] σ (some (.int q)) σ := by
  refine Cal.of (M := M_X12_nextThree) (by decide +kernel) (Nat.le_of_ble_eq_true rfl) ?_
  show Ev _ _ _ _ 0 [(0, .int a0), (1, .int a1)] [] σ
  unfold s_m_nextThree at h
  refine Ev_iload_n 1 (dt_X12_nextThree.at 0 rfl) rfl ?_
  refine Ev_istore_n (dt_X12_nextThree.at 1 rfl) (by decide) (ls' := [(2, .int a1), (0, .int a0), (1, .int a1)]) rfl ?_
  refine Ev_iconst (dt_X12_nextThree.at 2 rfl) ki_1 ?_
  refine Ev_iload_n 1 (dt_X12_nextThree.at 3 rfl) rfl ?_
  obtain ⟨q1, hq1, h⟩ := oBind h
  refine Ev_callS (st := [.int 1]) (st' := [.int q1, .int 1]) [.int a0] (dt_X12_nextThree.at 4 rfl) cf_X12_177 (w_m_least σ a0 q1 hq1) (by decide) rfl rfl (Nat.le_of_ble_eq_true rfl) rfl ?_
  refine Ev_ishl (dt_X12_nextThree.at 5 rfl) ?_
  refine Ev_nmI (fun x2 ex2 => ?_)
  replace h := oLt h ex2
  refine Ev_istore_n (dt_X12_nextThree.at 6 rfl) (by decide) (ls' := [(3, .int x2), (2, .int a1), (0, .int a0), (1, .int a1)]) rfl ?_
  refine Ev_sub [2, 1, 0] (ls' := [(0, .int a0), (2, .int a1), (3, .int x2)]) rfl ?_
  obtain ⟨o11, ho11, h⟩ := oBind h
  refine wl_m_nextThree_9 a0 x2 σ _ _ 100000 a1 o11 ho11 (fun y ey => ?_)
  subst ey
  refine Ev_sub [0, 1] (ls' := [(0, .int a0), (2, .int o11)]) rfl ?_
  exact wj_m_nextThree_42  σ a0 o11 q h
def b_m_nextAll_59 (σ : Sg) (v1 : Int32) (v2 : Int32) (v4 : Int32) (x : (Int32 × Int32)) : Option ((Int32 × Int32) ⊕ (Int32 × Int32)) :=
  if v4 ≤ x.2 then
    some (.inr (x.1, x.2))
  else
    if inB x.2 3 = true then
      lt ((x.1 &&& ((gI σ 81 (Int32.toNatClampNeg x.2)) ^^^ (-1))) : Int32) fun x10 =>
      lt (x.2 + 1 : Int32) fun x11 =>
      some (.inl (x10, x11))
    else none
def j_m_nextAll_110i48 (v1 : Int32) (v2 : Int32) (σ : Sg) (v4 : Int32) (v6 : Int32) (u0 : Int32) : Option ((Sg × Int32) ⊕ ((Sg × Int32) ⊕ (Int32 × Sg))) :=
  (s_m_nextThree v6 u0).bind fun q16 =>
  if inB v4 3 = true then
    lt (pI σ 81 (Int32.toNatClampNeg v4) q16 : Sg) fun s18 =>
    if inB v4 3 = true then
      if (gI s18 81 (Int32.toNatClampNeg v4)) = (-1) then
        lt (v4 + (-1) : Int32) fun x25 =>
        some (.inl (s18, x25))
      else
        if v4 = (v2 - 1) then
          some (.inr (.inr (1, s18)))
        else
          lt (v4 + 1 : Int32) fun x22 =>
          if inB x22 3 = true then
            lt (pI s18 81 (Int32.toNatClampNeg x22) (-1) : Sg) fun s24 =>
            some (.inl (s24, x22))
          else none
    else none
  else none
def b_m_nextAll_48 (v1 : Int32) (v2 : Int32) (x : (Sg × Int32)) : Option ((Sg × Int32) ⊕ ((Sg × Int32) ⊕ (Int32 × Sg))) :=
  if x.2 < 0 then
    some (.inr (.inl (x.1, x.2)))
  else
    (lp (b_m_nextAll_59 x.1 v1 v2 x.2) 100000 (v1, 0)).bind fun o12 =>
    if inB x.2 3 = true then
      if (gI x.1 81 (Int32.toNatClampNeg x.2)) = (-1) then
        j_m_nextAll_110i48 v1 v2 x.1 x.2 o12.1 0
      else
        if inB x.2 3 = true then
          j_m_nextAll_110i48 v1 v2 x.1 x.2 o12.1 ((gI x.1 81 (Int32.toNatClampNeg x.2)) + 1)
        else none
    else none
def j_m_nextAll_43  (σ : Sg) (v1 : Int32) (v2 : Int32) (u0 : Int32) : Option (Int32 × Sg) :=
  (lp (b_m_nextAll_48 v1 v2) 100000 (σ, u0)).bind fun o26 =>
  oElim o26 (fun y27 =>
    some (0, y27.1)) (fun q28 => some q28)
def j_m_nextAll_31  (σ : Sg) (v1 : Int32) (v2 : Int32) (u0 : Int32) : Option (Int32 × Sg) :=
  if u0 = 0 then
    j_m_nextAll_43  σ v1 v2 (v2 - 1)
  else
    j_m_nextAll_43  σ v1 v2 0
def s_m_nextAll (σ : Sg)  : Option (Int32 × Sg) :=
  (s_m_people σ ).bind fun q1 =>
  lt ((((1 : Int32) <<< (q1 &&& 31)) - 1) : Int32) fun x2 =>
  (s_m_people σ ).bind fun q3 =>
  lt ((q3 / 3) : Int32) fun x4 =>
  if (gI σ 81 (Int32.toNatClampNeg 0)) = (-1) then
    j_m_nextAll_31  σ x2 x4 1
  else
    j_m_nextAll_31  σ x2 x4 0
set_option maxRecDepth 100000 in
set_option maxHeartbeats 4000000 in
theorem wb_m_nextAll_59 (σ : Sg) (v1 : Int32) (v2 : Int32) (v4 : Int32) (x : (Int32 × Int32)) (r : Option Value) (τ : Sg) (o : ((Int32 × Int32) ⊕ (Int32 × Int32))) (h : (b_m_nextAll_59 σ v1 v2 v4 x) = some o) (hc : ∀ y : (Int32 × Int32), o = .inl y → Ev M_X12_nextAll 2 r τ 59 [(0, .ref 71), (1, .int v1), (2, .int v2), (4, .int v4), (6, .int y.1), (7, .int y.2)] [] σ) (he : ∀ y : (Int32 × Int32), o = .inr y → Ev M_X12_nextAll 2 r τ 86 [(0, .ref 71), (1, .int v1), (2, .int v2), (4, .int v4), (6, .int y.1)] [] σ) : Ev M_X12_nextAll 2 r τ 59 [(0, .ref 71), (1, .int v1), (2, .int v2), (4, .int v4), (6, .int x.1), (7, .int x.2)] [] σ := by
  unfold b_m_nextAll_59 at h
  refine Ev_iload 5 (dt_X12_nextAll.at 38 rfl) rfl ?_
  refine Ev_iload 3 (dt_X12_nextAll.at 39 rfl) rfl ?_
  refine Ev_icmp_ge (tgt := 86) (dt_X12_nextAll.at 40 rfl) (by decide) (fun c8 => ?_) (fun c8 => ?_)
  · replace h := oPos h c8
    refine Ev_sub [0, 1, 2, 3, 4] (ls' := [(0, .ref 71), (1, .int v1), (2, .int v2), (4, .int v4), (6, .int x.1)]) rfl ?_
    exact he (x.1, x.2) (Option.some.inj h).symm
  · replace h := oNeg h c8
    refine Ev_iload 4 (dt_X12_nextAll.at 41 rfl) rfl ?_
    refine Ev_aload_n 0 (dt_X12_nextAll.at 42 rfl) rfl ?_
    refine Ev_get (i := 12) (v := .ref 81) (dt_X12_nextAll.at 43 rfl) ff_X12_42 sk_71 rfl rfl ?_
    refine Ev_iload 5 (dt_X12_nextAll.at 44 rfl) rfl ?_
    obtain ⟨g9, h⟩ := oGuard h
    refine Ev_iaload 81 (dt_X12_nextAll.at 45 rfl) sk_81 g9 ?_
    refine Ev_iconst (dt_X12_nextAll.at 46 rfl) ki_m1 ?_
    refine Ev_ixor (dt_X12_nextAll.at 47 rfl) ?_
    refine Ev_iand (dt_X12_nextAll.at 48 rfl) ?_
    refine Ev_nmI (fun x10 ex10 => ?_)
    replace h := oLt h ex10
    refine Ev_istore (dt_X12_nextAll.at 49 rfl) (by decide) (ls' := [(6, .int x10), (0, .ref 71), (1, .int v1), (2, .int v2), (4, .int v4), (7, .int x.2)]) rfl ?_
    obtain ⟨x11, ex11⟩ : ∃ z : Int32, z = x.2 + 1 := ⟨_, rfl⟩
    replace h := oLt h ex11
    refine Ev_iinc (v := x11) 5 (dt_X12_nextAll.at 50 rfl) rfl (ex11.trans (congrArg (fun z => x.2 + z) ki_1.symm)) (by decide) (ls' := [(7, .int x11), (6, .int x10), (0, .ref 71), (1, .int v1), (2, .int v2), (4, .int v4)]) rfl ?_
    refine Ev_goto (tgt := 59) (dt_X12_nextAll.at 51 rfl) (by decide) ?_
    refine Ev_sub [2, 3, 4, 5, 1, 0] (ls' := [(0, .ref 71), (1, .int v1), (2, .int v2), (4, .int v4), (6, .int x10), (7, .int x11)]) rfl ?_
    exact hc (x10, x11) (Option.some.inj h).symm
set_option maxRecDepth 100000 in
set_option maxHeartbeats 4000000 in
theorem wl_m_nextAll_59 (σ : Sg) (v1 : Int32) (v2 : Int32) (v4 : Int32) (r : Option Value) (τ : Sg) (n : Nat) (x : (Int32 × Int32)) (z : (Int32 × Int32)) (h : lp (b_m_nextAll_59 σ v1 v2 v4) n x = some z) (he : ∀ y : (Int32 × Int32), z = y → Ev M_X12_nextAll 2 r τ 86 [(0, .ref 71), (1, .int v1), (2, .int v2), (4, .int v4), (6, .int y.1)] [] σ) : Ev M_X12_nextAll 2 r τ 59 [(0, .ref 71), (1, .int v1), (2, .int v2), (4, .int v4), (6, .int x.1), (7, .int x.2)] [] σ := by
  refine lp_ind (E := fun x : (Int32 × Int32) => Ev M_X12_nextAll 2 r τ 59 [(0, .ref 71), (1, .int v1), (2, .int v2), (4, .int v4), (6, .int x.1), (7, .int x.2)] [] σ) (fun x => ⟨fun y hb hy => ?_, fun hb => ?_⟩) n x h
  · exact wb_m_nextAll_59 σ v1 v2 v4 x r τ _ hb (fun y' e => by cases e; exact hy) (fun y' e => by cases e)
  · exact wb_m_nextAll_59 σ v1 v2 v4 x r τ _ hb (fun y' e => by cases e) (fun y' e => he y' (Sum.inr.inj e))
set_option maxRecDepth 100000 in
set_option maxHeartbeats 4000000 in
theorem wj_m_nextAll_110i48 (v1 : Int32) (v2 : Int32) (σ : Sg) (v4 : Int32) (v6 : Int32) (u0 : Int32) (r : Option Value) (τ : Sg) (o : ((Sg × Int32) ⊕ ((Sg × Int32) ⊕ (Int32 × Sg)))) (h : (j_m_nextAll_110i48 v1 v2 σ v4 v6 u0) = some o) (hc : ∀ y : (Sg × Int32), o = .inl y → Ev M_X12_nextAll 2 r τ 48 [(0, .ref 71), (1, .int v1), (2, .int v2), (4, .int y.2)] [] y.1) (he : ∀ y : (Sg × Int32), o = .inr (.inl y) → Ev M_X12_nextAll 2 r τ 167 [] [] y.1) (hr : ∀ q : (Int32 × Sg), o = .inr (.inr q) → r = (some (.int q.1)) ∧ τ = q.2) : Ev M_X12_nextAll 2 r τ 110 [(0, .ref 71), (1, .int v1), (2, .int v2), (4, .int v4), (6, .int v6)] [.int u0] σ := by
  unfold j_m_nextAll_110i48 at h
  refine Ev_istore (dt_X12_nextAll.at 66 rfl) (by decide) (ls' := [(5, .int u0), (0, .ref 71), (1, .int v1), (2, .int v2), (4, .int v4), (6, .int v6)]) rfl ?_
  refine Ev_aload_n 1 (dt_X12_nextAll.at 67 rfl) rfl ?_
  refine Ev_get (i := 12) (v := .ref 81) (dt_X12_nextAll.at 68 rfl) ff_X12_42 sk_71 rfl rfl ?_
  refine Ev_iload 4 (dt_X12_nextAll.at 69 rfl) rfl ?_
  refine Ev_iload 5 (dt_X12_nextAll.at 70 rfl) rfl ?_
  refine Ev_iload 0 (dt_X12_nextAll.at 71 rfl) rfl ?_
  obtain ⟨q16, hq16, h⟩ := oBind h
  refine Ev_callS (st := [.int v4, .ref 81]) (st' := [.int q16, .int v4, .ref 81]) [.int v6, .int u0] (dt_X12_nextAll.at 72 rfl) cf_X12_180 (w_m_nextThree σ v6 u0 q16 hq16) (by decide) rfl rfl (Nat.le_of_ble_eq_true rfl) rfl ?_
  obtain ⟨g17, h⟩ := oGuard h
  refine Ev_iastore 81 (dt_X12_nextAll.at 73 rfl) sk_81 g17 ?_
  refine Ev_nmS (fun s18 es18 => ?_)
  replace h := oLt h es18
  refine Ev_aload_n 1 (dt_X12_nextAll.at 74 rfl) rfl ?_
  refine Ev_get (i := 12) (v := .ref 81) (dt_X12_nextAll.at 75 rfl) ff_X12_42 sk_71 rfl rfl ?_
  refine Ev_iload 4 (dt_X12_nextAll.at 76 rfl) rfl ?_
  obtain ⟨g19, h⟩ := oGuard h
  refine Ev_iaload 81 (dt_X12_nextAll.at 77 rfl) sk_81 g19 ?_
  refine Ev_iconst (dt_X12_nextAll.at 78 rfl) ki_m1 ?_
  refine Ev_icmp_ne (tgt := 143) (dt_X12_nextAll.at 79 rfl) (by decide) (fun c20 => ?_) (fun c20 => ?_)
  · replace h := oNeg h c20
    refine Ev_iload 4 (dt_X12_nextAll.at 82 rfl) rfl ?_
    refine Ev_iload_n 3 (dt_X12_nextAll.at 83 rfl) rfl ?_
    refine Ev_iconst (dt_X12_nextAll.at 84 rfl) ki_1 ?_
    refine Ev_isub (dt_X12_nextAll.at 85 rfl) ?_
    refine Ev_icmp_ne (tgt := 153) (dt_X12_nextAll.at 86 rfl) (by decide) (fun c21 => ?_) (fun c21 => ?_)
    · replace h := oNeg h c21
      obtain ⟨x22, ex22⟩ : ∃ z : Int32, z = v4 + 1 := ⟨_, rfl⟩
      replace h := oLt h ex22
      refine Ev_iinc (v := x22) 4 (dt_X12_nextAll.at 89 rfl) rfl (ex22.trans (congrArg (fun z => v4 + z) ki_1.symm)) (by decide) (ls' := [(4, .int x22), (5, .int u0), (0, .ref 71), (1, .int v1), (2, .int v2), (6, .int v6)]) rfl ?_
      refine Ev_aload_n 2 (dt_X12_nextAll.at 90 rfl) rfl ?_
      refine Ev_get (i := 12) (v := .ref 81) (dt_X12_nextAll.at 91 rfl) ff_X12_42 sk_71 rfl rfl ?_
      refine Ev_iload 0 (dt_X12_nextAll.at 92 rfl) rfl ?_
      refine Ev_iconst (dt_X12_nextAll.at 93 rfl) ki_m1 ?_
      obtain ⟨g23, h⟩ := oGuard h
      refine Ev_iastore 81 (dt_X12_nextAll.at 94 rfl) sk_81 g23 ?_
      refine Ev_nmS (fun s24 es24 => ?_)
      replace h := oLt h es24
      refine Ev_goto (tgt := 48) (dt_X12_nextAll.at 95 rfl) (by decide) ?_
      refine Ev_sub [2, 3, 4, 0] (ls' := [(0, .ref 71), (1, .int v1), (2, .int v2), (4, .int x22)]) rfl ?_
      exact hc (s24, x22) (Option.some.inj h).symm
    · replace h := oPos h c21
      refine Ev_iconst (dt_X12_nextAll.at 87 rfl) ki_1 ?_
      have hz := hr _ (Option.some.inj h).symm
      rw [hz.1, hz.2]
      exact Ev_zret (dt_X12_nextAll.at 88 rfl) rfl (by decide) rfl
  · replace h := oPos h c20
    obtain ⟨x25, ex25⟩ : ∃ z : Int32, z = v4 + (-1) := ⟨_, rfl⟩
    replace h := oLt h ex25
    refine Ev_iinc (v := x25) 4 (dt_X12_nextAll.at 80 rfl) rfl (ex25.trans (congrArg (fun z => v4 + z) ki_m1.symm)) (by decide) (ls' := [(4, .int x25), (5, .int u0), (0, .ref 71), (1, .int v1), (2, .int v2), (6, .int v6)]) rfl ?_
    refine Ev_goto (tgt := 164) (dt_X12_nextAll.at 81 rfl) (by decide) ?_
    refine Ev_goto (tgt := 48) (dt_X12_nextAll.at 95 rfl) (by decide) ?_
    refine Ev_sub [2, 3, 4, 0] (ls' := [(0, .ref 71), (1, .int v1), (2, .int v2), (4, .int x25)]) rfl ?_
    exact hc (s18, x25) (Option.some.inj h).symm
set_option maxRecDepth 100000 in
set_option maxHeartbeats 4000000 in
theorem wb_m_nextAll_48 (v1 : Int32) (v2 : Int32) (x : (Sg × Int32)) (r : Option Value) (τ : Sg) (o : ((Sg × Int32) ⊕ ((Sg × Int32) ⊕ (Int32 × Sg)))) (h : (b_m_nextAll_48 v1 v2 x) = some o) (hc : ∀ y : (Sg × Int32), o = .inl y → Ev M_X12_nextAll 2 r τ 48 [(0, .ref 71), (1, .int v1), (2, .int v2), (4, .int y.2)] [] y.1) (he : ∀ y : (Sg × Int32), o = .inr (.inl y) → Ev M_X12_nextAll 2 r τ 167 [] [] y.1) (hr : ∀ q : (Int32 × Sg), o = .inr (.inr q) → r = (some (.int q.1)) ∧ τ = q.2) : Ev M_X12_nextAll 2 r τ 48 [(0, .ref 71), (1, .int v1), (2, .int v2), (4, .int x.2)] [] x.1 := by
  unfold b_m_nextAll_48 at h
  refine Ev_iload 3 (dt_X12_nextAll.at 32 rfl) rfl ?_
  refine Ev_if_lt (tgt := 167) (dt_X12_nextAll.at 33 rfl) (by decide) (fun c7 => ?_) (fun c7 => ?_)
  · replace h := oPos h c7
    refine Ev_sub [] (ls' := []) rfl ?_
    exact he (x.1, x.2) (Option.some.inj h).symm
  · replace h := oNeg h c7
    refine Ev_iload_n 1 (dt_X12_nextAll.at 34 rfl) rfl ?_
    refine Ev_istore (dt_X12_nextAll.at 35 rfl) (by decide) (ls' := [(6, .int v1), (0, .ref 71), (1, .int v1), (2, .int v2), (4, .int x.2)]) rfl ?_
    refine Ev_iconst (dt_X12_nextAll.at 36 rfl) ki_0 ?_
    refine Ev_istore (dt_X12_nextAll.at 37 rfl) (by decide) (ls' := [(7, .int 0), (6, .int v1), (0, .ref 71), (1, .int v1), (2, .int v2), (4, .int x.2)]) rfl ?_
    refine Ev_sub [2, 3, 4, 5, 1, 0] (ls' := [(0, .ref 71), (1, .int v1), (2, .int v2), (4, .int x.2), (6, .int v1), (7, .int 0)]) rfl ?_
    obtain ⟨o12, ho12, h⟩ := oBind h
    refine wl_m_nextAll_59 x.1 v1 v2 x.2 _ _ 100000 (v1, 0) o12 ho12 (fun y ey => ?_)
    subst ey
    refine Ev_aload_n 0 (dt_X12_nextAll.at 52 rfl) rfl ?_
    refine Ev_get (i := 12) (v := .ref 81) (dt_X12_nextAll.at 53 rfl) ff_X12_42 sk_71 rfl rfl ?_
    refine Ev_iload 3 (dt_X12_nextAll.at 54 rfl) rfl ?_
    obtain ⟨g13, h⟩ := oGuard h
    refine Ev_iaload 81 (dt_X12_nextAll.at 55 rfl) sk_81 g13 ?_
    refine Ev_iconst (dt_X12_nextAll.at 56 rfl) ki_m1 ?_
    refine Ev_icmp_ne (tgt := 101) (dt_X12_nextAll.at 57 rfl) (by decide) (fun c14 => ?_) (fun c14 => ?_)
    · replace h := oNeg h c14
      refine Ev_aload_n 0 (dt_X12_nextAll.at 60 rfl) rfl ?_
      refine Ev_get (i := 12) (v := .ref 81) (dt_X12_nextAll.at 61 rfl) ff_X12_42 sk_71 rfl rfl ?_
      refine Ev_iload 3 (dt_X12_nextAll.at 62 rfl) rfl ?_
      obtain ⟨g15, h⟩ := oGuard h
      refine Ev_iaload 81 (dt_X12_nextAll.at 63 rfl) sk_81 g15 ?_
      refine Ev_iconst (dt_X12_nextAll.at 64 rfl) ki_1 ?_
      refine Ev_iadd (dt_X12_nextAll.at 65 rfl) ?_
      refine Ev_sub [0, 1, 2, 3, 4] (ls' := [(0, .ref 71), (1, .int v1), (2, .int v2), (4, .int x.2), (6, .int o12.1)]) rfl ?_
      exact wj_m_nextAll_110i48 v1 v2 x.1 x.2 o12.1 ((gI x.1 81 (Int32.toNatClampNeg x.2)) + 1) _ _ _ h hc he hr
    · replace h := oPos h c14
      refine Ev_iconst (dt_X12_nextAll.at 58 rfl) ki_0 ?_
      refine Ev_goto (tgt := 110) (dt_X12_nextAll.at 59 rfl) (by decide) ?_
      refine Ev_sub [0, 1, 2, 3, 4] (ls' := [(0, .ref 71), (1, .int v1), (2, .int v2), (4, .int x.2), (6, .int o12.1)]) rfl ?_
      exact wj_m_nextAll_110i48 v1 v2 x.1 x.2 o12.1 0 _ _ _ h hc he hr
set_option maxRecDepth 100000 in
set_option maxHeartbeats 4000000 in
theorem wl_m_nextAll_48 (v1 : Int32) (v2 : Int32) (r : Option Value) (τ : Sg) (n : Nat) (x : (Sg × Int32)) (z : ((Sg × Int32) ⊕ (Int32 × Sg))) (h : lp (b_m_nextAll_48 v1 v2) n x = some z) (he : ∀ y : (Sg × Int32), z = .inl y → Ev M_X12_nextAll 2 r τ 167 [] [] y.1) (hr : ∀ q : (Int32 × Sg), z = .inr q → r = (some (.int q.1)) ∧ τ = q.2) : Ev M_X12_nextAll 2 r τ 48 [(0, .ref 71), (1, .int v1), (2, .int v2), (4, .int x.2)] [] x.1 := by
  refine lp_ind (E := fun x : (Sg × Int32) => Ev M_X12_nextAll 2 r τ 48 [(0, .ref 71), (1, .int v1), (2, .int v2), (4, .int x.2)] [] x.1) (fun x => ⟨fun y hb hy => ?_, fun hb => ?_⟩) n x h
  · exact wb_m_nextAll_48 v1 v2 x r τ _ hb (fun y' e => by cases e; exact hy) (fun y' e => by cases e) (fun y' e => by cases e)
  · exact wb_m_nextAll_48 v1 v2 x r τ _ hb (fun y' e => by cases e) (fun y' e => he y' (Sum.inr.inj e)) (fun y' e => hr y' (Sum.inr.inj e))
set_option maxRecDepth 100000 in
set_option maxHeartbeats 4000000 in
theorem wj_m_nextAll_43  (σ : Sg) (v1 : Int32) (v2 : Int32) (u0 : Int32) (q : (Int32 × Sg)) (h : (j_m_nextAll_43  σ v1 v2 u0) = some q) : Ev M_X12_nextAll 2 (some (.int q.1)) q.2 43 [(0, .ref 71), (1, .int v1), (2, .int v2)] [.int u0] σ := by
  unfold j_m_nextAll_43 at h
  refine Ev_istore (dt_X12_nextAll.at 29 rfl) (by decide) (ls' := [(4, .int u0), (0, .ref 71), (1, .int v1), (2, .int v2)]) rfl ?_
  refine Ev_iconst (dt_X12_nextAll.at 30 rfl) ki_0 ?_
  refine Ev_istore (dt_X12_nextAll.at 31 rfl) (by decide) (ls' := [(5, .int 0), (4, .int u0), (0, .ref 71), (1, .int v1), (2, .int v2)]) rfl ?_
  refine Ev_sub [2, 3, 4, 1] (ls' := [(0, .ref 71), (1, .int v1), (2, .int v2), (4, .int u0)]) rfl ?_
  obtain ⟨o26, ho26, h⟩ := oBind h
  refine wl_m_nextAll_48 v1 v2 _ _ 100000 (σ, u0) o26 ho26 (fun y27 ey => ?_) (fun q28 eq => ?_)
  · rw [ey] at h
    replace h := oElimL h
    refine Ev_iconst (dt_X12_nextAll.at 96 rfl) ki_0 ?_
    exact Ev_zret (dt_X12_nextAll.at 97 rfl) rfl (by decide) h
  · rw [eq] at h
    replace h := oElimR h
    cases h; exact ⟨rfl, rfl⟩
set_option maxRecDepth 100000 in
set_option maxHeartbeats 4000000 in
theorem wj_m_nextAll_31  (σ : Sg) (v1 : Int32) (v2 : Int32) (u0 : Int32) (q : (Int32 × Sg)) (h : (j_m_nextAll_31  σ v1 v2 u0) = some q) : Ev M_X12_nextAll 2 (some (.int q.1)) q.2 31 [(0, .ref 71), (1, .int v1), (2, .int v2)] [.int u0] σ := by
  unfold j_m_nextAll_31 at h
  refine Ev_istore_n (dt_X12_nextAll.at 21 rfl) (by decide) (ls' := [(3, .int u0), (0, .ref 71), (1, .int v1), (2, .int v2)]) rfl ?_
  refine Ev_iload_n 0 (dt_X12_nextAll.at 22 rfl) rfl ?_
  refine Ev_if_eq (tgt := 40) (dt_X12_nextAll.at 23 rfl) (by decide) (fun c6 => ?_) (fun c6 => ?_)
  · replace h := oPos h c6
    refine Ev_iload_n 3 (dt_X12_nextAll.at 26 rfl) rfl ?_
    refine Ev_iconst (dt_X12_nextAll.at 27 rfl) ki_1 ?_
    refine Ev_isub (dt_X12_nextAll.at 28 rfl) ?_
    refine Ev_sub [1, 2, 3] (ls' := [(0, .ref 71), (1, .int v1), (2, .int v2)]) rfl ?_
    exact wj_m_nextAll_43  σ v1 v2 (v2 - 1) q h
  · replace h := oNeg h c6
    refine Ev_iconst (dt_X12_nextAll.at 24 rfl) ki_0 ?_
    refine Ev_goto (tgt := 43) (dt_X12_nextAll.at 25 rfl) (by decide) ?_
    refine Ev_sub [1, 2, 3] (ls' := [(0, .ref 71), (1, .int v1), (2, .int v2)]) rfl ?_
    exact wj_m_nextAll_43  σ v1 v2 0 q h
set_option maxRecDepth 100000 in
set_option maxHeartbeats 4000000 in
theorem w_m_nextAll (σ : Sg)  (q : (Int32 × Sg)) (h : s_m_nextAll σ  = some q) : Cal M_X12_nextAll 2 [.ref 71] σ (some (.int q.1)) q.2 := by
  refine Cal.of (M := M_X12_nextAll) (by decide +kernel) (Nat.le_of_ble_eq_true rfl) ?_
  show Ev _ _ _ _ 0 [(0, .ref 71)] [] σ
  unfold s_m_nextAll at h
  refine Ev_iconst (dt_X12_nextAll.at 0 rfl) ki_1 ?_
  refine Ev_aload_n 0 (dt_X12_nextAll.at 1 rfl) rfl ?_
  obtain ⟨q1, hq1, h⟩ := oBind h
  refine Ev_callV (st := [.int 1]) (st' := [.int q1, .int 1]) [] (dt_X12_nextAll.at 2 rfl) cf_X12_70 (w_m_people σ  q1 hq1) (by decide) sk_71 rfl rfl rfl (Nat.le_of_ble_eq_true rfl) rfl ?_
  refine Ev_ishl (dt_X12_nextAll.at 3 rfl) ?_
  refine Ev_iconst (dt_X12_nextAll.at 4 rfl) ki_1 ?_
  refine Ev_isub (dt_X12_nextAll.at 5 rfl) ?_
  refine Ev_nmI (fun x2 ex2 => ?_)
  replace h := oLt h ex2
  refine Ev_istore_n (dt_X12_nextAll.at 6 rfl) (by decide) (ls' := [(1, .int x2), (0, .ref 71)]) rfl ?_
  refine Ev_aload_n 1 (dt_X12_nextAll.at 7 rfl) rfl ?_
  obtain ⟨q3, hq3, h⟩ := oBind h
  refine Ev_callV (st := []) (st' := [.int q3]) [] (dt_X12_nextAll.at 8 rfl) cf_X12_70 (w_m_people σ  q3 hq3) (by decide) sk_71 rfl rfl rfl (Nat.le_of_ble_eq_true rfl) rfl ?_
  refine Ev_iconst (dt_X12_nextAll.at 9 rfl) ki_3 ?_
  refine Ev_idiv (dt_X12_nextAll.at 10 rfl) (by decide) ?_
  refine Ev_nmI (fun x4 ex4 => ?_)
  replace h := oLt h ex4
  refine Ev_istore_n (dt_X12_nextAll.at 11 rfl) (by decide) (ls' := [(2, .int x4), (1, .int x2), (0, .ref 71)]) rfl ?_
  refine Ev_aload_n 2 (dt_X12_nextAll.at 12 rfl) rfl ?_
  refine Ev_get (i := 12) (v := .ref 81) (dt_X12_nextAll.at 13 rfl) ff_X12_42 sk_71 rfl rfl ?_
  refine Ev_iconst (dt_X12_nextAll.at 14 rfl) ki_0 ?_
  refine Ev_iaload 81 (dt_X12_nextAll.at 15 rfl) sk_81 ib_0_3 ?_
  refine Ev_iconst (dt_X12_nextAll.at 16 rfl) ki_m1 ?_
  refine Ev_icmp_ne (tgt := 30) (dt_X12_nextAll.at 17 rfl) (by decide) (fun c5 => ?_) (fun c5 => ?_)
  · replace h := oNeg h c5
    refine Ev_iconst (dt_X12_nextAll.at 20 rfl) ki_0 ?_
    refine Ev_sub [2, 1, 0] (ls' := [(0, .ref 71), (1, .int x2), (2, .int x4)]) rfl ?_
    exact wj_m_nextAll_31  σ x2 x4 0 q h
  · replace h := oPos h c5
    refine Ev_iconst (dt_X12_nextAll.at 18 rfl) ki_1 ?_
    refine Ev_goto (tgt := 31) (dt_X12_nextAll.at 19 rfl) (by decide) ?_
    refine Ev_sub [2, 1, 0] (ls' := [(0, .ref 71), (1, .int x2), (2, .int x4)]) rfl ?_
    exact wj_m_nextAll_31  σ x2 x4 1 q h
