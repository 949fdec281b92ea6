def b_x_knows_41 (σ : Sg) (v2 : Int32) (x : (Int32 × Int32)) : Option ((Int32 × Int32) ⊕ (Int32 × Int32)) :=
  if v2 ≤ x.2 then
    some (.inr (x.1, x.2))
  else
    (s_Scene_toldInWeek σ x.2 x.1).bind fun q8 =>
    lt (x.2 + 1 : Int32) fun x9 =>
    some (.inl (q8, x9))
def s_x_knows (σ : Sg) (a1 : Int32) (a2 : Int32) : Option (Int32 × Sg) :=
  (s_Town_isGroup σ a1).bind fun q1 =>
  if q1 = 0 then
    (s_x_refusedBad σ (-2)).bind fun q3 =>
    some (q3.1, q3.2)
  else
    if a2 < 0 then
      (s_x_refusedBad σ (-2)).bind fun q5 =>
      some (q5.1, q5.2)
    else
      if a2 ≤ (gI σ 25 6) then
        (lp (b_x_knows_41 σ a2) 100000 (a1, 0)).bind fun o10 =>
        some (o10.1, σ)
      else
        (s_x_refusedBad σ (-2)).bind fun q11 =>
        some (q11.1, q11.2)
set_option maxRecDepth 100000 in
set_option maxHeartbeats 4000000 in
theorem wb_x_knows_41 (σ : Sg) (v2 : Int32) (x : (Int32 × Int32)) (r : Option Value) (τ : Sg) (o : ((Int32 × Int32) ⊕ (Int32 × Int32))) (h : (b_x_knows_41 σ v2 x) = some o) (hc : ∀ y : (Int32 × Int32), o = .inl y → Ev M_X11_knows 1 r τ 41 [(0, .ref 0), (2, .int v2), (3, .int y.1), (4, .int y.2)] [] σ) (he : ∀ y : (Int32 × Int32), o = .inr y → Ev M_X11_knows 1 r τ 64 [(3, .int y.1)] [] σ) : Ev M_X11_knows 1 r τ 41 [(0, .ref 0), (2, .int v2), (3, .int x.1), (4, .int x.2)] [] σ := by
  unfold b_x_knows_41 at h
  refine Ev_iload 3 (dt_X11_knows.at 21 rfl) rfl ?_
  refine Ev_iload_n 1 (dt_X11_knows.at 22 rfl) rfl ?_
  refine Ev_icmp_ge (tgt := 64) (dt_X11_knows.at 23 rfl) (by decide) (fun c7 => ?_) (fun c7 => ?_)
  · replace h := oPos h c7
    refine Ev_sub [2] (ls' := [(3, .int x.1)]) rfl ?_
    exact he (x.1, x.2) (Option.some.inj h).symm
  · replace h := oNeg h c7
    refine Ev_aload_n 0 (dt_X11_knows.at 24 rfl) rfl ?_
    refine Ev_get (i := 0) (v := .ref 25) (dt_X11_knows.at 25 rfl) ff_X11_50 sk_0 rfl rfl ?_
    refine Ev_iload 3 (dt_X11_knows.at 26 rfl) rfl ?_
    refine Ev_iload_n 2 (dt_X11_knows.at 27 rfl) rfl ?_
    obtain ⟨q8, hq8, h⟩ := oBind h
    refine Ev_callV (st := []) (st' := [.int q8]) [.int x.2, .int x.1] (dt_X11_knows.at 28 rfl) cf_X11_199 (w_Scene_toldInWeek σ x.2 x.1 q8 hq8) (by decide) sk_25 rfl rfl rfl (Nat.le_of_ble_eq_true rfl) rfl ?_
    refine Ev_istore_n (dt_X11_knows.at 29 rfl) (by decide) (ls' := [(3, .int q8), (0, .ref 0), (2, .int v2), (4, .int x.2)]) rfl ?_
    obtain ⟨x9, ex9⟩ : ∃ z : Int32, z = x.2 + 1 := ⟨_, rfl⟩
    replace h := oLt h ex9
    refine Ev_iinc (v := x9) 3 (dt_X11_knows.at 30 rfl) rfl (ex9.trans (congrArg (fun z => x.2 + z) ki_1.symm)) (by decide) (ls' := [(4, .int x9), (3, .int q8), (0, .ref 0), (2, .int v2)]) rfl ?_
    refine Ev_goto (tgt := 41) (dt_X11_knows.at 31 rfl) (by decide) ?_
    refine Ev_sub [2, 3, 1, 0] (ls' := [(0, .ref 0), (2, .int v2), (3, .int q8), (4, .int x9)]) rfl ?_
    exact hc (q8, x9) (Option.some.inj h).symm
set_option maxRecDepth 100000 in
set_option maxHeartbeats 4000000 in
theorem wl_x_knows_41 (σ : Sg) (v2 : Int32) (r : Option Value) (τ : Sg) (n : Nat) (x : (Int32 × Int32)) (z : (Int32 × Int32)) (h : lp (b_x_knows_41 σ v2) n x = some z) (he : ∀ y : (Int32 × Int32), z = y → Ev M_X11_knows 1 r τ 64 [(3, .int y.1)] [] σ) : Ev M_X11_knows 1 r τ 41 [(0, .ref 0), (2, .int v2), (3, .int x.1), (4, .int x.2)] [] σ := by
  refine lp_ind (E := fun x : (Int32 × Int32) => Ev M_X11_knows 1 r τ 41 [(0, .ref 0), (2, .int v2), (3, .int x.1), (4, .int x.2)] [] σ) (fun x => ⟨fun y hb hy => ?_, fun hb => ?_⟩) n x h
  · exact wb_x_knows_41 σ v2 x r τ _ hb (fun y' e => by cases e; exact hy) (fun y' e => by cases e)
  · exact wb_x_knows_41 σ v2 x r τ _ hb (fun y' e => by cases e) (fun y' e => he y' (Sum.inr.inj e))
set_option maxRecDepth 100000 in
set_option maxHeartbeats 4000000 in
theorem w_x_knows (σ : Sg) (a1 : Int32) (a2 : Int32) (q : (Int32 × Sg)) (h : s_x_knows σ a1 a2 = some q) : Cal M_X11_knows 1 [.ref 0, .int a1, .int a2] σ (some (.int q.1)) q.2 := by
  refine Cal.of (M := M_X11_knows) (by decide +kernel) (Nat.le_of_ble_eq_true rfl) ?_
  show Ev _ _ _ _ 0 [(0, .ref 0), (1, .int a1), (2, .int a2)] [] σ
  unfold s_x_knows at h
  refine Ev_aload_n 0 (dt_X11_knows.at 0 rfl) rfl ?_
  refine Ev_get (i := 0) (v := .ref 25) (dt_X11_knows.at 1 rfl) ff_X11_50 sk_0 rfl rfl ?_
  refine Ev_get (i := 0) (v := .ref 19) (dt_X11_knows.at 2 rfl) ff_X11_72 sk_25 rfl rfl ?_
  refine Ev_iload_n 1 (dt_X11_knows.at 3 rfl) rfl ?_
  obtain ⟨q1, hq1, h⟩ := oBind h
  refine Ev_callV (st := []) (st' := [.int q1]) [.int a1] (dt_X11_knows.at 4 rfl) cf_X11_196 (w_Town_isGroup σ a1 q1 hq1) (by decide) sk_19 rfl rfl rfl (Nat.le_of_ble_eq_true rfl) rfl ?_
  refine Ev_if_eq (tgt := 29) (dt_X11_knows.at 5 rfl) (by decide) (fun c2 => ?_) (fun c2 => ?_)
  · replace h := oPos h c2
    refine Ev_aload_n 0 (dt_X11_knows.at 13 rfl) rfl ?_
    refine Ev_bipush (dt_X11_knows.at 14 rfl) kb_m2 ?_
    obtain ⟨q3, hq3, h⟩ := oBind h
    refine Ev_callV (st := []) (st' := [.int q3.1]) [.int (-2)] (dt_X11_knows.at 15 rfl) cf_X11_68 (w_x_refusedBad σ (-2) q3 hq3) (by decide) sk_0 rfl rfl rfl (Nat.le_of_ble_eq_true rfl) rfl ?_
    exact Ev_iret (dt_X11_knows.at 16 rfl) rfl h
  · replace h := oNeg h c2
    refine Ev_iload_n 2 (dt_X11_knows.at 6 rfl) rfl ?_
    refine Ev_if_lt (tgt := 29) (dt_X11_knows.at 7 rfl) (by decide) (fun c4 => ?_) (fun c4 => ?_)
    · replace h := oPos h c4
      refine Ev_aload_n 0 (dt_X11_knows.at 13 rfl) rfl ?_
      refine Ev_bipush (dt_X11_knows.at 14 rfl) kb_m2 ?_
      obtain ⟨q5, hq5, h⟩ := oBind h
      refine Ev_callV (st := []) (st' := [.int q5.1]) [.int (-2)] (dt_X11_knows.at 15 rfl) cf_X11_68 (w_x_refusedBad σ (-2) q5 hq5) (by decide) sk_0 rfl rfl rfl (Nat.le_of_ble_eq_true rfl) rfl ?_
      exact Ev_iret (dt_X11_knows.at 16 rfl) rfl h
    · replace h := oNeg h c4
      refine Ev_iload_n 2 (dt_X11_knows.at 8 rfl) rfl ?_
      refine Ev_aload_n 0 (dt_X11_knows.at 9 rfl) rfl ?_
      refine Ev_get (i := 0) (v := .ref 25) (dt_X11_knows.at 10 rfl) ff_X11_50 sk_0 rfl rfl ?_
      refine Ev_get (i := 6) (v := .int (gI σ 25 6)) (dt_X11_knows.at 11 rfl) ff_X11_190 sk_25 rfl rfl ?_
      refine Ev_icmp_le (tgt := 36) (dt_X11_knows.at 12 rfl) (by decide) (fun c6 => ?_) (fun c6 => ?_)
      · replace h := oPos h c6
        refine Ev_iload_n 1 (dt_X11_knows.at 17 rfl) rfl ?_
        refine Ev_istore_n (dt_X11_knows.at 18 rfl) (by decide) (ls' := [(3, .int a1), (0, .ref 0), (1, .int a1), (2, .int a2)]) rfl ?_
        refine Ev_iconst (dt_X11_knows.at 19 rfl) ki_0 ?_
        refine Ev_istore (dt_X11_knows.at 20 rfl) (by decide) (ls' := [(4, .int 0), (3, .int a1), (0, .ref 0), (1, .int a1), (2, .int a2)]) rfl ?_
        refine Ev_sub [2, 4, 1, 0] (ls' := [(0, .ref 0), (2, .int a2), (3, .int a1), (4, .int 0)]) rfl ?_
        obtain ⟨o10, ho10, h⟩ := oBind h
        refine wl_x_knows_41 σ a2 _ _ 100000 (a1, 0) o10 ho10 (fun y ey => ?_)
        subst ey
        refine Ev_iload_n 0 (dt_X11_knows.at 32 rfl) rfl ?_
        exact Ev_iret (dt_X11_knows.at 33 rfl) rfl h
      · replace h := oNeg h c6
        refine Ev_aload_n 0 (dt_X11_knows.at 13 rfl) rfl ?_
        refine Ev_bipush (dt_X11_knows.at 14 rfl) kb_m2 ?_
        obtain ⟨q11, hq11, h⟩ := oBind h
        refine Ev_callV (st := []) (st' := [.int q11.1]) [.int (-2)] (dt_X11_knows.at 15 rfl) cf_X11_68 (w_x_refusedBad σ (-2) q11 hq11) (by decide) sk_0 rfl rfl rfl (Nat.le_of_ble_eq_true rfl) rfl ?_
        exact Ev_iret (dt_X11_knows.at 16 rfl) rfl h
def b_x_when_40 (σ : Sg) (v2 : Int32) (x : (Int32 × Int32)) : Option ((Int32 × Int32) ⊕ ((Int32 × Int32) ⊕ (Int32 × Sg))) :=
  if (gI σ 25 6) ≤ x.2 then
    some (.inr (.inl (x.1, x.2)))
  else
    (s_x_isIn x.1 v2).bind fun q7 =>
    if q7 = 0 then
      (s_Scene_toldInWeek σ x.2 x.1).bind fun q9 =>
      lt (x.2 + 1 : Int32) fun x10 =>
      some (.inl (q9, x10))
    else
      some (.inr (.inr (x.2, σ)))
def s_x_when (σ : Sg) (a1 : Int32) (a2 : Int32) : Option (Int32 × Sg) :=
  (s_Town_isGroup σ a1).bind fun q1 =>
  if q1 = 0 then
    (s_x_refusedBad σ (-2)).bind fun q3 =>
    some (q3.1, q3.2)
  else
    (s_Town_hasPerson σ a2).bind fun q4 =>
    if q4 = 0 then
      (s_x_refusedBad σ (-2)).bind fun q16 =>
      some (q16.1, q16.2)
    else
      (lp (b_x_when_40 σ a2) 100000 (a1, 0)).bind fun o11 =>
      oElim o11 (fun y12 =>
        (s_x_isIn y12.1 a2).bind fun q14 =>
        if q14 = 0 then
          some ((-1), σ)
        else
          some ((gI σ 25 6), σ)) (fun q13 => some q13)
set_option maxRecDepth 100000 in
set_option maxHeartbeats 4000000 in
theorem wb_x_when_40 (σ : Sg) (v2 : Int32) (x : (Int32 × Int32)) (r : Option Value) (τ : Sg) (o : ((Int32 × Int32) ⊕ ((Int32 × Int32) ⊕ (Int32 × Sg)))) (h : (b_x_when_40 σ v2 x) = some o) (hc : ∀ y : (Int32 × Int32), o = .inl y → Ev M_X11_when 1 r τ 40 [(0, .ref 0), (2, .int v2), (3, .int y.1), (4, .int y.2)] [] σ) (he : ∀ y : (Int32 × Int32), o = .inr (.inl y) → Ev M_X11_when 1 r τ 80 [(0, .ref 0), (2, .int v2), (3, .int y.1)] [] σ) (hr : ∀ q : (Int32 × Sg), o = .inr (.inr q) → r = (some (.int q.1)) ∧ τ = q.2) : Ev M_X11_when 1 r τ 40 [(0, .ref 0), (2, .int v2), (3, .int x.1), (4, .int x.2)] [] σ := by
  unfold b_x_when_40 at h
  refine Ev_iload 3 (dt_X11_when.at 20 rfl) rfl ?_
  refine Ev_aload_n 0 (dt_X11_when.at 21 rfl) rfl ?_
  refine Ev_get (i := 0) (v := .ref 25) (dt_X11_when.at 22 rfl) ff_X11_50 sk_0 rfl rfl ?_
  refine Ev_get (i := 6) (v := .int (gI σ 25 6)) (dt_X11_when.at 23 rfl) ff_X11_190 sk_25 rfl rfl ?_
  refine Ev_icmp_ge (tgt := 80) (dt_X11_when.at 24 rfl) (by decide) (fun c6 => ?_) (fun c6 => ?_)
  · replace h := oPos h c6
    refine Ev_sub [0, 1, 2] (ls' := [(0, .ref 0), (2, .int v2), (3, .int x.1)]) rfl ?_
    exact he (x.1, x.2) (Option.some.inj h).symm
  · replace h := oNeg h c6
    refine Ev_iload_n 2 (dt_X11_when.at 25 rfl) rfl ?_
    refine Ev_iload_n 1 (dt_X11_when.at 26 rfl) rfl ?_
    obtain ⟨q7, hq7, h⟩ := oBind h
    refine Ev_callS (st := []) (st' := [.int q7]) [.int x.1, .int v2] (dt_X11_when.at 27 rfl) cf_X11_202 (w_x_isIn σ x.1 v2 q7 hq7) (by decide) rfl rfl (Nat.le_of_ble_eq_true rfl) rfl ?_
    refine Ev_if_eq (tgt := 63) (dt_X11_when.at 28 rfl) (by decide) (fun c8 => ?_) (fun c8 => ?_)
    · replace h := oPos h c8
      refine Ev_aload_n 0 (dt_X11_when.at 31 rfl) rfl ?_
      refine Ev_get (i := 0) (v := .ref 25) (dt_X11_when.at 32 rfl) ff_X11_50 sk_0 rfl rfl ?_
      refine Ev_iload 3 (dt_X11_when.at 33 rfl) rfl ?_
      refine Ev_iload_n 2 (dt_X11_when.at 34 rfl) rfl ?_
      obtain ⟨q9, hq9, h⟩ := oBind h
      refine Ev_callV (st := []) (st' := [.int q9]) [.int x.2, .int x.1] (dt_X11_when.at 35 rfl) cf_X11_199 (w_Scene_toldInWeek σ x.2 x.1 q9 hq9) (by decide) sk_25 rfl rfl rfl (Nat.le_of_ble_eq_true rfl) rfl ?_
      refine Ev_istore_n (dt_X11_when.at 36 rfl) (by decide) (ls' := [(3, .int q9), (0, .ref 0), (2, .int v2), (4, .int x.2)]) rfl ?_
      obtain ⟨x10, ex10⟩ : ∃ z : Int32, z = x.2 + 1 := ⟨_, rfl⟩
      replace h := oLt h ex10
      refine Ev_iinc (v := x10) 3 (dt_X11_when.at 37 rfl) rfl (ex10.trans (congrArg (fun z => x.2 + z) ki_1.symm)) (by decide) (ls' := [(4, .int x10), (3, .int q9), (0, .ref 0), (2, .int v2)]) rfl ?_
      refine Ev_goto (tgt := 40) (dt_X11_when.at 38 rfl) (by decide) ?_
      refine Ev_sub [2, 3, 1, 0] (ls' := [(0, .ref 0), (2, .int v2), (3, .int q9), (4, .int x10)]) rfl ?_
      exact hc (q9, x10) (Option.some.inj h).symm
    · replace h := oNeg h c8
      refine Ev_iload 3 (dt_X11_when.at 29 rfl) rfl ?_
      have hz := hr _ (Option.some.inj h).symm
      rw [hz.1, hz.2]
      exact Ev_iret (dt_X11_when.at 30 rfl) rfl rfl
set_option maxRecDepth 100000 in
set_option maxHeartbeats 4000000 in
theorem wl_x_when_40 (σ : Sg) (v2 : Int32) (r : Option Value) (τ : Sg) (n : Nat) (x : (Int32 × Int32)) (z : ((Int32 × Int32) ⊕ (Int32 × Sg))) (h : lp (b_x_when_40 σ v2) n x = some z) (he : ∀ y : (Int32 × Int32), z = .inl y → Ev M_X11_when 1 r τ 80 [(0, .ref 0), (2, .int v2), (3, .int y.1)] [] σ) (hr : ∀ q : (Int32 × Sg), z = .inr q → r = (some (.int q.1)) ∧ τ = q.2) : Ev M_X11_when 1 r τ 40 [(0, .ref 0), (2, .int v2), (3, .int x.1), (4, .int x.2)] [] σ := by
  refine lp_ind (E := fun x : (Int32 × Int32) => Ev M_X11_when 1 r τ 40 [(0, .ref 0), (2, .int v2), (3, .int x.1), (4, .int x.2)] [] σ) (fun x => ⟨fun y hb hy => ?_, fun hb => ?_⟩) n x h
  · exact wb_x_when_40 σ v2 x r τ _ hb (fun y' e => by cases e; exact hy) (fun y' e => by cases e) (fun y' e => by cases e)
  · exact wb_x_when_40 σ v2 x r τ _ hb (fun y' e => by cases e) (fun y' e => he y' (Sum.inr.inj e)) (fun y' e => hr y' (Sum.inr.inj e))
set_option maxRecDepth 100000 in
set_option maxHeartbeats 4000000 in
theorem w_x_when (σ : Sg) (a1 : Int32) (a2 : Int32) (q : (Int32 × Sg)) (h : s_x_when σ a1 a2 = some q) : Cal M_X11_when 1 [.ref 0, .int a1, .int a2] σ (some (.int q.1)) q.2 := by
  refine Cal.of (M := M_X11_when) (by decide +kernel) (Nat.le_of_ble_eq_true rfl) ?_
  show Ev _ _ _ _ 0 [(0, .ref 0), (1, .int a1), (2, .int a2)] [] σ
  unfold s_x_when at h
  refine Ev_aload_n 0 (dt_X11_when.at 0 rfl) rfl ?_
  refine Ev_get (i := 0) (v := .ref 25) (dt_X11_when.at 1 rfl) ff_X11_50 sk_0 rfl rfl ?_
  refine Ev_get (i := 0) (v := .ref 19) (dt_X11_when.at 2 rfl) ff_X11_72 sk_25 rfl rfl ?_
  refine Ev_iload_n 1 (dt_X11_when.at 3 rfl) rfl ?_
  obtain ⟨q1, hq1, h⟩ := oBind h
  refine Ev_callV (st := []) (st' := [.int q1]) [.int a1] (dt_X11_when.at 4 rfl) cf_X11_196 (w_Town_isGroup σ a1 q1 hq1) (by decide) sk_19 rfl rfl rfl (Nat.le_of_ble_eq_true rfl) rfl ?_
  refine Ev_if_eq (tgt := 28) (dt_X11_when.at 5 rfl) (by decide) (fun c2 => ?_) (fun c2 => ?_)
  · replace h := oPos h c2
    refine Ev_aload_n 0 (dt_X11_when.at 12 rfl) rfl ?_
    refine Ev_bipush (dt_X11_when.at 13 rfl) kb_m2 ?_
    obtain ⟨q3, hq3, h⟩ := oBind h
    refine Ev_callV (st := []) (st' := [.int q3.1]) [.int (-2)] (dt_X11_when.at 14 rfl) cf_X11_68 (w_x_refusedBad σ (-2) q3 hq3) (by decide) sk_0 rfl rfl rfl (Nat.le_of_ble_eq_true rfl) rfl ?_
    exact Ev_iret (dt_X11_when.at 15 rfl) rfl h
  · replace h := oNeg h c2
    refine Ev_aload_n 0 (dt_X11_when.at 6 rfl) rfl ?_
    refine Ev_get (i := 0) (v := .ref 25) (dt_X11_when.at 7 rfl) ff_X11_50 sk_0 rfl rfl ?_
    refine Ev_get (i := 0) (v := .ref 19) (dt_X11_when.at 8 rfl) ff_X11_72 sk_25 rfl rfl ?_
    refine Ev_iload_n 2 (dt_X11_when.at 9 rfl) rfl ?_
    obtain ⟨q4, hq4, h⟩ := oBind h
    refine Ev_callV (st := []) (st' := [.int q4]) [.int a2] (dt_X11_when.at 10 rfl) cf_X11_101 (w_Town_hasPerson σ a2 q4 hq4) (by decide) sk_19 rfl rfl rfl (Nat.le_of_ble_eq_true rfl) rfl ?_
    refine Ev_if_ne (tgt := 35) (dt_X11_when.at 11 rfl) (by decide) (fun c5 => ?_) (fun c5 => ?_)
    · replace h := oNeg h c5
      refine Ev_iload_n 1 (dt_X11_when.at 16 rfl) rfl ?_
      refine Ev_istore_n (dt_X11_when.at 17 rfl) (by decide) (ls' := [(3, .int a1), (0, .ref 0), (1, .int a1), (2, .int a2)]) rfl ?_
      refine Ev_iconst (dt_X11_when.at 18 rfl) ki_0 ?_
      refine Ev_istore (dt_X11_when.at 19 rfl) (by decide) (ls' := [(4, .int 0), (3, .int a1), (0, .ref 0), (1, .int a1), (2, .int a2)]) rfl ?_
      refine Ev_sub [2, 4, 1, 0] (ls' := [(0, .ref 0), (2, .int a2), (3, .int a1), (4, .int 0)]) rfl ?_
      obtain ⟨o11, ho11, h⟩ := oBind h
      refine wl_x_when_40 σ a2 _ _ 100000 (a1, 0) o11 ho11 (fun y12 ey => ?_) (fun q13 eq => ?_)
      · rw [ey] at h
        replace h := oElimL h
        refine Ev_iload_n 2 (dt_X11_when.at 39 rfl) rfl ?_
        refine Ev_iload_n 1 (dt_X11_when.at 40 rfl) rfl ?_
        obtain ⟨q14, hq14, h⟩ := oBind h
        refine Ev_callS (st := []) (st' := [.int q14]) [.int y12.1, .int a2] (dt_X11_when.at 41 rfl) cf_X11_202 (w_x_isIn σ y12.1 a2 q14 hq14) (by decide) rfl rfl (Nat.le_of_ble_eq_true rfl) rfl ?_
        refine Ev_if_eq (tgt := 98) (dt_X11_when.at 42 rfl) (by decide) (fun c15 => ?_) (fun c15 => ?_)
        · replace h := oPos h c15
          refine Ev_iconst (dt_X11_when.at 47 rfl) ki_m1 ?_
          exact Ev_iret (dt_X11_when.at 48 rfl) rfl h
        · replace h := oNeg h c15
          refine Ev_aload_n 0 (dt_X11_when.at 43 rfl) rfl ?_
          refine Ev_get (i := 0) (v := .ref 25) (dt_X11_when.at 44 rfl) ff_X11_50 sk_0 rfl rfl ?_
          refine Ev_get (i := 6) (v := .int (gI σ 25 6)) (dt_X11_when.at 45 rfl) ff_X11_190 sk_25 rfl rfl ?_
          refine Ev_goto (tgt := 99) (dt_X11_when.at 46 rfl) (by decide) ?_
          exact Ev_iret (dt_X11_when.at 48 rfl) rfl h
      · rw [eq] at h
        replace h := oElimR h
        cases h; exact ⟨rfl, rfl⟩
    · replace h := oPos h c5
      refine Ev_aload_n 0 (dt_X11_when.at 12 rfl) rfl ?_
      refine Ev_bipush (dt_X11_when.at 13 rfl) kb_m2 ?_
      obtain ⟨q16, hq16, h⟩ := oBind h
      refine Ev_callV (st := []) (st' := [.int q16.1]) [.int (-2)] (dt_X11_when.at 14 rfl) cf_X11_68 (w_x_refusedBad σ (-2) q16 hq16) (by decide) sk_0 rfl rfl rfl (Nat.le_of_ble_eq_true rfl) rfl ?_
      exact Ev_iret (dt_X11_when.at 15 rfl) rfl h
def s_x_isStrength (a0 : Int32) : Option Int32 :=
  if a0 < 1 then
    some 0
  else
    if 60 < a0 then
      some 0
    else
      some 1
set_option maxRecDepth 100000 in
set_option maxHeartbeats 4000000 in
theorem w_x_isStrength (σ : Sg) (a0 : Int32) (q : Int32) (h : s_x_isStrength a0 = some q) : Cal M_X11_isStrength 0 [.int a0] σ (some (.int q)) σ := by
  refine Cal.of (M := M_X11_isStrength) (by decide +kernel) (Nat.le_of_ble_eq_true rfl) ?_
  show Ev _ _ _ _ 0 [(0, .int a0)] [] σ
  unfold s_x_isStrength at h
  refine Ev_iload_n 0 (dt_X11_isStrength.at 0 rfl) rfl ?_
  refine Ev_iconst (dt_X11_isStrength.at 1 rfl) ki_1 ?_
  refine Ev_icmp_lt (tgt := 15) (dt_X11_isStrength.at 2 rfl) (by decide) (fun c1 => ?_) (fun c1 => ?_)
  · replace h := oPos h c1
    refine Ev_iconst (dt_X11_isStrength.at 8 rfl) ki_0 ?_
    exact Ev_zret (dt_X11_isStrength.at 9 rfl) rfl (by decide) (oRet h)
  · replace h := oNeg h c1
    refine Ev_iload_n 0 (dt_X11_isStrength.at 3 rfl) rfl ?_
    refine Ev_bipush (dt_X11_isStrength.at 4 rfl) kb_60 ?_
    refine Ev_icmp_gt (tgt := 15) (dt_X11_isStrength.at 5 rfl) (by decide) (fun c2 => ?_) (fun c2 => ?_)
    · replace h := oPos h c2
      refine Ev_iconst (dt_X11_isStrength.at 8 rfl) ki_0 ?_
      exact Ev_zret (dt_X11_isStrength.at 9 rfl) rfl (by decide) (oRet h)
    · replace h := oNeg h c2
      refine Ev_iconst (dt_X11_isStrength.at 6 rfl) ki_1 ?_
      refine Ev_goto (tgt := 16) (dt_X11_isStrength.at 7 rfl) (by decide) ?_
      exact Ev_zret (dt_X11_isStrength.at 9 rfl) rfl (by decide) (oRet h)
def s_x_pullLoss (a0 : Int32) (a1 : Int32) : Option Int32 :=
  if (a0 - a0 / 2 * 2) = a1 then
    some 1
  else
    some 2
set_option maxRecDepth 100000 in
set_option maxHeartbeats 4000000 in
theorem w_x_pullLoss (σ : Sg) (a0 : Int32) (a1 : Int32) (q : Int32) (h : s_x_pullLoss a0 a1 = some q) : Cal M_X11_pullLoss 0 [.int a0, .int a1] σ (some (.int q)) σ := by
  refine Cal.of (M := M_X11_pullLoss) (by decide +kernel) (Nat.le_of_ble_eq_true rfl) ?_
  show Ev _ _ _ _ 0 [(0, .int a0), (1, .int a1)] [] σ
  unfold s_x_pullLoss at h
  refine Ev_iload_n 0 (dt_X11_pullLoss.at 0 rfl) rfl ?_
  refine Ev_iconst (dt_X11_pullLoss.at 1 rfl) ki_2 ?_
  refine Ev_irem (dt_X11_pullLoss.at 2 rfl) (by decide) ?_
  refine Ev_iload_n 1 (dt_X11_pullLoss.at 3 rfl) rfl ?_
  refine Ev_icmp_ne (tgt := 11) (dt_X11_pullLoss.at 4 rfl) (by decide) (fun c1 => ?_) (fun c1 => ?_)
  · replace h := oNeg h c1
    refine Ev_iconst (dt_X11_pullLoss.at 7 rfl) ki_2 ?_
    exact Ev_iret (dt_X11_pullLoss.at 8 rfl) rfl (oRet h)
  · replace h := oPos h c1
    refine Ev_iconst (dt_X11_pullLoss.at 5 rfl) ki_1 ?_
    refine Ev_goto (tgt := 12) (dt_X11_pullLoss.at 6 rfl) (by decide) ?_
    exact Ev_iret (dt_X11_pullLoss.at 8 rfl) rfl (oRet h)
def b_x_ropeEnd_8 (v2 : Int32) (x : (Int32 × Int32 × Int32)) : Option ((Int32 × Int32 × Int32) ⊕ (Int32 × Int32 × Int32)) :=
  if x.1 ≤ 0 then
    some (.inr (x.1, x.2.1, x.2.2))
  else
    if x.2.1 ≤ 0 then
      some (.inr (x.1, x.2.1, x.2.2))
    else
      if 120 ≤ x.2.2 then
        some (.inr (x.1, x.2.1, x.2.2))
      else
        (s_x_pullLoss x.2.2 0).bind fun q4 =>
        lt ((x.1 - q4) : Int32) fun x5 =>
        (s_x_pullLoss x.2.2 1).bind fun q6 =>
        lt ((x.2.1 - q6) : Int32) fun x7 =>
        lt (x.2.2 + 1 : Int32) fun x8 =>
        some (.inl (x5, x7, x8))
def j_x_ropeEnd_137i77 (v2 : Int32) (v3 : Int32) (v4 : Int32) (v6 : Int32) (v7 : Int32) (v8 : Int32) (v9 : Int32) : Option ((Int32 × Int32 × Int32 × Int32 × Int32 × Int32) ⊕ (Int32 × Int32 × Int32 × Int32 × Int32 × Int32)) :=
  if (v9 - v9 / 2 * 2) = 1 then
    if (v4 - (v4 / 2)) ≤ v7 then
      lt (v9 + (-1) : Int32) fun x23 =>
      some (.inl (v3, v4, v6, v7, v8, x23))
    else
      lt ((v4 - (v4 / 2)) : Int32) fun x24 =>
      lt (v9 + (-1) : Int32) fun x25 =>
      some (.inl (v3, v4, v3, x24, v9, x25))
  else
    lt (v9 + (-1) : Int32) fun x21 =>
    some (.inl (v3, v4, v6, v7, v8, x21))
def b_x_ropeEnd_77 (v2 : Int32) (x : (Int32 × Int32 × Int32 × Int32 × Int32 × Int32)) : Option ((Int32 × Int32 × Int32 × Int32 × Int32 × Int32) ⊕ (Int32 × Int32 × Int32 × Int32 × Int32 × Int32)) :=
  if x.2.2.2.2.2 < 0 then
    some (.inr (x.1, x.2.1, x.2.2.1, x.2.2.2.1, x.2.2.2.2.1, x.2.2.2.2.2))
  else
    (s_x_pullLoss x.2.2.2.2.2 0).bind fun q15 =>
    lt ((x.1 + q15) : Int32) fun x16 =>
    (s_x_pullLoss x.2.2.2.2.2 1).bind fun q17 =>
    lt ((x.2.1 + q17) : Int32) fun x18 =>
    if (x.2.2.2.2.2 - x.2.2.2.2.2 / 2 * 2) = 0 then
      if (x16 - (x16 / 2)) ≤ x.2.2.1 then
        j_x_ropeEnd_137i77 v2 x16 x18 x.2.2.1 x.2.2.2.1 x.2.2.2.2.1 x.2.2.2.2.2
      else
        lt ((x16 - (x16 / 2)) : Int32) fun x27 =>
        lt (x.2.2.2.2.2 + (-1) : Int32) fun x28 =>
        some (.inl (x16, x18, x27, x18, x.2.2.2.2.2, x28))
    else
      j_x_ropeEnd_137i77 v2 x16 x18 x.2.2.1 x.2.2.2.1 x.2.2.2.2.1 x.2.2.2.2.2
def j_x_ropeEnd_50  (v2 : Int32) (v3 : Int32) (v4 : Int32) (v5 : Int32) : Option Int32 :=
  (s_Math_max v3 0).bind fun q10 =>
  (s_Math_max v4 0).bind fun q11 =>
  lt ((v5 - 1) : Int32) fun x12 =>
  lt ((v5 - 1) : Int32) fun x13 =>
  (lp (b_x_ropeEnd_77 v2) 100000 (v3, v4, q10, q11, x12, x13)).bind fun o29 =>
  if v2 = 0 then
    some o29.2.2.1
  else
    if v2 = 1 then
      some o29.2.2.2.1
    else
      some o29.2.2.2.2.1
def s_x_ropeEnd (a0 : Int32) (a1 : Int32) (a2 : Int32) : Option Int32 :=
  (lp (b_x_ropeEnd_8 a2) 100000 (a0, a1, 0)).bind fun o9 =>
  j_x_ropeEnd_50  a2 o9.1 o9.2.1 o9.2.2
set_option maxRecDepth 100000 in
set_option maxHeartbeats 4000000 in
theorem wb_x_ropeEnd_8 (v2 : Int32) (σ : Sg) (x : (Int32 × Int32 × Int32)) (r : Option Value) (τ : Sg) (o : ((Int32 × Int32 × Int32) ⊕ (Int32 × Int32 × Int32))) (h : (b_x_ropeEnd_8 v2 x) = some o) (hc : ∀ y : (Int32 × Int32 × Int32), o = .inl y → Ev M_X11_ropeEnd 1 r τ 8 [(2, .int v2), (3, .int y.1), (4, .int y.2.1), (5, .int y.2.2)] [] σ) (he : ∀ y : (Int32 × Int32 × Int32), o = .inr y → Ev M_X11_ropeEnd 1 r τ 50 [(2, .int v2), (3, .int y.1), (4, .int y.2.1), (5, .int y.2.2)] [] σ) : Ev M_X11_ropeEnd 1 r τ 8 [(2, .int v2), (3, .int x.1), (4, .int x.2.1), (5, .int x.2.2)] [] σ := by
  unfold b_x_ropeEnd_8 at h
  refine Ev_iload_n 1 (dt_X11_ropeEnd.at 6 rfl) rfl ?_
  refine Ev_if_le (tgt := 50) (dt_X11_ropeEnd.at 7 rfl) (by decide) (fun c1 => ?_) (fun c1 => ?_)
  · replace h := oPos h c1
    refine Ev_sub [0, 1, 2, 3] (ls' := [(2, .int v2), (3, .int x.1), (4, .int x.2.1), (5, .int x.2.2)]) rfl ?_
    exact he (x.1, x.2.1, x.2.2) (Option.some.inj h).symm
  · replace h := oNeg h c1
    refine Ev_iload 2 (dt_X11_ropeEnd.at 8 rfl) rfl ?_
    refine Ev_if_le (tgt := 50) (dt_X11_ropeEnd.at 9 rfl) (by decide) (fun c2 => ?_) (fun c2 => ?_)
    · replace h := oPos h c2
      refine Ev_sub [0, 1, 2, 3] (ls' := [(2, .int v2), (3, .int x.1), (4, .int x.2.1), (5, .int x.2.2)]) rfl ?_
      exact he (x.1, x.2.1, x.2.2) (Option.some.inj h).symm
    · replace h := oNeg h c2
      refine Ev_iload 3 (dt_X11_ropeEnd.at 10 rfl) rfl ?_
      refine Ev_bipush (dt_X11_ropeEnd.at 11 rfl) kb_120 ?_
      refine Ev_icmp_ge (tgt := 50) (dt_X11_ropeEnd.at 12 rfl) (by decide) (fun c3 => ?_) (fun c3 => ?_)
      · replace h := oPos h c3
        refine Ev_sub [0, 1, 2, 3] (ls' := [(2, .int v2), (3, .int x.1), (4, .int x.2.1), (5, .int x.2.2)]) rfl ?_
        exact he (x.1, x.2.1, x.2.2) (Option.some.inj h).symm
      · replace h := oNeg h c3
        refine Ev_iload_n 1 (dt_X11_ropeEnd.at 13 rfl) rfl ?_
        refine Ev_iload 3 (dt_X11_ropeEnd.at 14 rfl) rfl ?_
        refine Ev_iconst (dt_X11_ropeEnd.at 15 rfl) ki_0 ?_
        obtain ⟨q4, hq4, h⟩ := oBind h
        refine Ev_callS (st := [.int x.1]) (st' := [.int q4, .int x.1]) [.int x.2.2, .int 0] (dt_X11_ropeEnd.at 16 rfl) cf_X11_271 (w_x_pullLoss σ x.2.2 0 q4 hq4) (by decide) rfl rfl (Nat.le_of_ble_eq_true rfl) rfl ?_
        refine Ev_isub (dt_X11_ropeEnd.at 17 rfl) ?_
        refine Ev_nmI (fun x5 ex5 => ?_)
        replace h := oLt h ex5
        refine Ev_istore_n (dt_X11_ropeEnd.at 18 rfl) (by decide) (ls' := [(3, .int x5), (2, .int v2), (4, .int x.2.1), (5, .int x.2.2)]) rfl ?_
        refine Ev_iload 2 (dt_X11_ropeEnd.at 19 rfl) rfl ?_
        refine Ev_iload 3 (dt_X11_ropeEnd.at 20 rfl) rfl ?_
        refine Ev_iconst (dt_X11_ropeEnd.at 21 rfl) ki_1 ?_
        obtain ⟨q6, hq6, h⟩ := oBind h
        refine Ev_callS (st := [.int x.2.1]) (st' := [.int q6, .int x.2.1]) [.int x.2.2, .int 1] (dt_X11_ropeEnd.at 22 rfl) cf_X11_271 (w_x_pullLoss σ x.2.2 1 q6 hq6) (by decide) rfl rfl (Nat.le_of_ble_eq_true rfl) rfl ?_
        refine Ev_isub (dt_X11_ropeEnd.at 23 rfl) ?_
        refine Ev_nmI (fun x7 ex7 => ?_)
        replace h := oLt h ex7
        refine Ev_istore (dt_X11_ropeEnd.at 24 rfl) (by decide) (ls' := [(4, .int x7), (3, .int x5), (2, .int v2), (5, .int x.2.2)]) rfl ?_
        obtain ⟨x8, ex8⟩ : ∃ z : Int32, z = x.2.2 + 1 := ⟨_, rfl⟩
        replace h := oLt h ex8
        refine Ev_iinc (v := x8) 3 (dt_X11_ropeEnd.at 25 rfl) rfl (ex8.trans (congrArg (fun z => x.2.2 + z) ki_1.symm)) (by decide) (ls' := [(5, .int x8), (4, .int x7), (3, .int x5), (2, .int v2)]) rfl ?_
        refine Ev_goto (tgt := 8) (dt_X11_ropeEnd.at 26 rfl) (by decide) ?_
        refine Ev_sub [3, 2, 1, 0] (ls' := [(2, .int v2), (3, .int x5), (4, .int x7), (5, .int x8)]) rfl ?_
        exact hc (x5, x7, x8) (Option.some.inj h).symm
set_option maxRecDepth 100000 in
set_option maxHeartbeats 4000000 in
theorem wl_x_ropeEnd_8 (v2 : Int32) (σ : Sg) (r : Option Value) (τ : Sg) (n : Nat) (x : (Int32 × Int32 × Int32)) (z : (Int32 × Int32 × Int32)) (h : lp (b_x_ropeEnd_8 v2) n x = some z) (he : ∀ y : (Int32 × Int32 × Int32), z = y → Ev M_X11_ropeEnd 1 r τ 50 [(2, .int v2), (3, .int y.1), (4, .int y.2.1), (5, .int y.2.2)] [] σ) : Ev M_X11_ropeEnd 1 r τ 8 [(2, .int v2), (3, .int x.1), (4, .int x.2.1), (5, .int x.2.2)] [] σ := by
  refine lp_ind (E := fun x : (Int32 × Int32 × Int32) => Ev M_X11_ropeEnd 1 r τ 8 [(2, .int v2), (3, .int x.1), (4, .int x.2.1), (5, .int x.2.2)] [] σ) (fun x => ⟨fun y hb hy => ?_, fun hb => ?_⟩) n x h
  · exact wb_x_ropeEnd_8 v2 σ x r τ _ hb (fun y' e => by cases e; exact hy) (fun y' e => by cases e)
  · exact wb_x_ropeEnd_8 v2 σ x r τ _ hb (fun y' e => by cases e) (fun y' e => he y' (Sum.inr.inj e))
set_option maxRecDepth 100000 in
set_option maxHeartbeats 4000000 in
theorem wj_x_ropeEnd_137i77 (v2 : Int32) (σ : Sg) (v3 : Int32) (v4 : Int32) (v6 : Int32) (v7 : Int32) (v8 : Int32) (v9 : Int32) (r : Option Value) (τ : Sg) (o : ((Int32 × Int32 × Int32 × Int32 × Int32 × Int32) ⊕ (Int32 × Int32 × Int32 × Int32 × Int32 × Int32))) (h : (j_x_ropeEnd_137i77 v2 v3 v4 v6 v7 v8 v9) = some o) (hc : ∀ y : (Int32 × Int32 × Int32 × Int32 × Int32 × Int32), o = .inl y → Ev M_X11_ropeEnd 1 r τ 77 [(2, .int v2), (3, .int y.1), (4, .int y.2.1), (6, .int y.2.2.1), (7, .int y.2.2.2.1), (8, .int y.2.2.2.2.1), (9, .int y.2.2.2.2.2)] [] σ) (he : ∀ y : (Int32 × Int32 × Int32 × Int32 × Int32 × Int32), o = .inr y → Ev M_X11_ropeEnd 1 r τ 179 [(2, .int v2), (6, .int y.2.2.1), (7, .int y.2.2.2.1), (8, .int y.2.2.2.2.1)] [] σ) : Ev M_X11_ropeEnd 1 r τ 137 [(2, .int v2), (3, .int v3), (4, .int v4), (6, .int v6), (7, .int v7), (8, .int v8), (9, .int v9)] [] σ := by
  unfold j_x_ropeEnd_137i77 at h
  refine Ev_iload 6 (dt_X11_ropeEnd.at 79 rfl) rfl ?_
  refine Ev_iconst (dt_X11_ropeEnd.at 80 rfl) ki_2 ?_
  refine Ev_irem (dt_X11_ropeEnd.at 81 rfl) (by decide) ?_
  refine Ev_iconst (dt_X11_ropeEnd.at 82 rfl) ki_1 ?_
  refine Ev_icmp_ne (tgt := 173) (dt_X11_ropeEnd.at 83 rfl) (by decide) (fun c20 => ?_) (fun c20 => ?_)
  · replace h := oNeg h c20
    obtain ⟨x21, ex21⟩ : ∃ z : Int32, z = v9 + (-1) := ⟨_, rfl⟩
    replace h := oLt h ex21
    refine Ev_iinc (v := x21) 6 (dt_X11_ropeEnd.at 101 rfl) rfl (ex21.trans (congrArg (fun z => v9 + z) ki_m1.symm)) (by decide) (ls' := [(9, .int x21), (2, .int v2), (3, .int v3), (4, .int v4), (6, .int v6), (7, .int v7), (8, .int v8)]) rfl ?_
    refine Ev_goto (tgt := 77) (dt_X11_ropeEnd.at 102 rfl) (by decide) ?_
    refine Ev_sub [1, 2, 3, 4, 5, 6, 0] (ls' := [(2, .int v2), (3, .int v3), (4, .int v4), (6, .int v6), (7, .int v7), (8, .int v8), (9, .int x21)]) rfl ?_
    exact hc (v3, v4, v6, v7, v8, x21) (Option.some.inj h).symm
  · replace h := oPos h c20
    refine Ev_iload 2 (dt_X11_ropeEnd.at 84 rfl) rfl ?_
    refine Ev_iload 2 (dt_X11_ropeEnd.at 85 rfl) rfl ?_
    refine Ev_iconst (dt_X11_ropeEnd.at 86 rfl) ki_2 ?_
    refine Ev_idiv (dt_X11_ropeEnd.at 87 rfl) (by decide) ?_
    refine Ev_isub (dt_X11_ropeEnd.at 88 rfl) ?_
    refine Ev_iload 4 (dt_X11_ropeEnd.at 89 rfl) rfl ?_
    refine Ev_icmp_le (tgt := 173) (dt_X11_ropeEnd.at 90 rfl) (by decide) (fun c22 => ?_) (fun c22 => ?_)
    · replace h := oPos h c22
      obtain ⟨x23, ex23⟩ : ∃ z : Int32, z = v9 + (-1) := ⟨_, rfl⟩
      replace h := oLt h ex23
      refine Ev_iinc (v := x23) 6 (dt_X11_ropeEnd.at 101 rfl) rfl (ex23.trans (congrArg (fun z => v9 + z) ki_m1.symm)) (by decide) (ls' := [(9, .int x23), (2, .int v2), (3, .int v3), (4, .int v4), (6, .int v6), (7, .int v7), (8, .int v8)]) rfl ?_
      refine Ev_goto (tgt := 77) (dt_X11_ropeEnd.at 102 rfl) (by decide) ?_
      refine Ev_sub [1, 2, 3, 4, 5, 6, 0] (ls' := [(2, .int v2), (3, .int v3), (4, .int v4), (6, .int v6), (7, .int v7), (8, .int v8), (9, .int x23)]) rfl ?_
      exact hc (v3, v4, v6, v7, v8, x23) (Option.some.inj h).symm
    · replace h := oNeg h c22
      refine Ev_iload_n 1 (dt_X11_ropeEnd.at 91 rfl) rfl ?_
      refine Ev_istore (dt_X11_ropeEnd.at 92 rfl) (by decide) (ls' := [(6, .int v3), (2, .int v2), (3, .int v3), (4, .int v4), (7, .int v7), (8, .int v8), (9, .int v9)]) rfl ?_
      refine Ev_iload 3 (dt_X11_ropeEnd.at 93 rfl) rfl ?_
      refine Ev_iload 3 (dt_X11_ropeEnd.at 94 rfl) rfl ?_
      refine Ev_iconst (dt_X11_ropeEnd.at 95 rfl) ki_2 ?_
      refine Ev_idiv (dt_X11_ropeEnd.at 96 rfl) (by decide) ?_
      refine Ev_isub (dt_X11_ropeEnd.at 97 rfl) ?_
      refine Ev_nmI (fun x24 ex24 => ?_)
      replace h := oLt h ex24
      refine Ev_istore (dt_X11_ropeEnd.at 98 rfl) (by decide) (ls' := [(7, .int x24), (6, .int v3), (2, .int v2), (3, .int v3), (4, .int v4), (8, .int v8), (9, .int v9)]) rfl ?_
      refine Ev_iload 6 (dt_X11_ropeEnd.at 99 rfl) rfl ?_
      refine Ev_istore (dt_X11_ropeEnd.at 100 rfl) (by decide) (ls' := [(8, .int v9), (7, .int x24), (6, .int v3), (2, .int v2), (3, .int v3), (4, .int v4), (9, .int v9)]) rfl ?_
      obtain ⟨x25, ex25⟩ : ∃ z : Int32, z = v9 + (-1) := ⟨_, rfl⟩
      replace h := oLt h ex25
      refine Ev_iinc (v := x25) 6 (dt_X11_ropeEnd.at 101 rfl) rfl (ex25.trans (congrArg (fun z => v9 + z) ki_m1.symm)) (by decide) (ls' := [(9, .int x25), (8, .int v9), (7, .int x24), (6, .int v3), (2, .int v2), (3, .int v3), (4, .int v4)]) rfl ?_
      refine Ev_goto (tgt := 77) (dt_X11_ropeEnd.at 102 rfl) (by decide) ?_
      refine Ev_sub [4, 5, 6, 3, 2, 1, 0] (ls' := [(2, .int v2), (3, .int v3), (4, .int v4), (6, .int v3), (7, .int x24), (8, .int v9), (9, .int x25)]) rfl ?_
      exact hc (v3, v4, v3, x24, v9, x25) (Option.some.inj h).symm
set_option maxRecDepth 100000 in
set_option maxHeartbeats 4000000 in
theorem wb_x_ropeEnd_77 (v2 : Int32) (σ : Sg) (x : (Int32 × Int32 × Int32 × Int32 × Int32 × Int32)) (r : Option Value) (τ : Sg) (o : ((Int32 × Int32 × Int32 × Int32 × Int32 × Int32) ⊕ (Int32 × Int32 × Int32 × Int32 × Int32 × Int32))) (h : (b_x_ropeEnd_77 v2 x) = some o) (hc : ∀ y : (Int32 × Int32 × Int32 × Int32 × Int32 × Int32), o = .inl y → Ev M_X11_ropeEnd 1 r τ 77 [(2, .int v2), (3, .int y.1), (4, .int y.2.1), (6, .int y.2.2.1), (7, .int y.2.2.2.1), (8, .int y.2.2.2.2.1), (9, .int y.2.2.2.2.2)] [] σ) (he : ∀ y : (Int32 × Int32 × Int32 × Int32 × Int32 × Int32), o = .inr y → Ev M_X11_ropeEnd 1 r τ 179 [(2, .int v2), (6, .int y.2.2.1), (7, .int y.2.2.2.1), (8, .int y.2.2.2.2.1)] [] σ) : Ev M_X11_ropeEnd 1 r τ 77 [(2, .int v2), (3, .int x.1), (4, .int x.2.1), (6, .int x.2.2.1), (7, .int x.2.2.2.1), (8, .int x.2.2.2.2.1), (9, .int x.2.2.2.2.2)] [] σ := by
  unfold b_x_ropeEnd_77 at h
  refine Ev_iload 6 (dt_X11_ropeEnd.at 43 rfl) rfl ?_
  refine Ev_if_lt (tgt := 179) (dt_X11_ropeEnd.at 44 rfl) (by decide) (fun c14 => ?_) (fun c14 => ?_)
  · replace h := oPos h c14
    refine Ev_sub [0, 3, 4, 5] (ls' := [(2, .int v2), (6, .int x.2.2.1), (7, .int x.2.2.2.1), (8, .int x.2.2.2.2.1)]) rfl ?_
    exact he (x.1, x.2.1, x.2.2.1, x.2.2.2.1, x.2.2.2.2.1, x.2.2.2.2.2) (Option.some.inj h).symm
  · replace h := oNeg h c14
    refine Ev_iload_n 1 (dt_X11_ropeEnd.at 45 rfl) rfl ?_
    refine Ev_iload 6 (dt_X11_ropeEnd.at 46 rfl) rfl ?_
    refine Ev_iconst (dt_X11_ropeEnd.at 47 rfl) ki_0 ?_
    obtain ⟨q15, hq15, h⟩ := oBind h
    refine Ev_callS (st := [.int x.1]) (st' := [.int q15, .int x.1]) [.int x.2.2.2.2.2, .int 0] (dt_X11_ropeEnd.at 48 rfl) cf_X11_271 (w_x_pullLoss σ x.2.2.2.2.2 0 q15 hq15) (by decide) rfl rfl (Nat.le_of_ble_eq_true rfl) rfl ?_
    refine Ev_iadd (dt_X11_ropeEnd.at 49 rfl) ?_
    refine Ev_nmI (fun x16 ex16 => ?_)
    replace h := oLt h ex16
    refine Ev_istore_n (dt_X11_ropeEnd.at 50 rfl) (by decide) (ls' := [(3, .int x16), (2, .int v2), (4, .int x.2.1), (6, .int x.2.2.1), (7, .int x.2.2.2.1), (8, .int x.2.2.2.2.1), (9, .int x.2.2.2.2.2)]) rfl ?_
    refine Ev_iload 2 (dt_X11_ropeEnd.at 51 rfl) rfl ?_
    refine Ev_iload 6 (dt_X11_ropeEnd.at 52 rfl) rfl ?_
    refine Ev_iconst (dt_X11_ropeEnd.at 53 rfl) ki_1 ?_
    obtain ⟨q17, hq17, h⟩ := oBind h
    refine Ev_callS (st := [.int x.2.1]) (st' := [.int q17, .int x.2.1]) [.int x.2.2.2.2.2, .int 1] (dt_X11_ropeEnd.at 54 rfl) cf_X11_271 (w_x_pullLoss σ x.2.2.2.2.2 1 q17 hq17) (by decide) rfl rfl (Nat.le_of_ble_eq_true rfl) rfl ?_
    refine Ev_iadd (dt_X11_ropeEnd.at 55 rfl) ?_
    refine Ev_nmI (fun x18 ex18 => ?_)
    replace h := oLt h ex18
    refine Ev_istore (dt_X11_ropeEnd.at 56 rfl) (by decide) (ls' := [(4, .int x18), (3, .int x16), (2, .int v2), (6, .int x.2.2.1), (7, .int x.2.2.2.1), (8, .int x.2.2.2.2.1), (9, .int x.2.2.2.2.2)]) rfl ?_
    refine Ev_iload 6 (dt_X11_ropeEnd.at 57 rfl) rfl ?_
    refine Ev_iconst (dt_X11_ropeEnd.at 58 rfl) ki_2 ?_
    refine Ev_irem (dt_X11_ropeEnd.at 59 rfl) (by decide) ?_
    refine Ev_if_ne (tgt := 137) (dt_X11_ropeEnd.at 60 rfl) (by decide) (fun c19 => ?_) (fun c19 => ?_)
    · replace h := oNeg h c19
      refine Ev_sub [2, 1, 0, 3, 4, 5, 6] (ls' := [(2, .int v2), (3, .int x16), (4, .int x18), (6, .int x.2.2.1), (7, .int x.2.2.2.1), (8, .int x.2.2.2.2.1), (9, .int x.2.2.2.2.2)]) rfl ?_
      exact wj_x_ropeEnd_137i77 v2 σ x16 x18 x.2.2.1 x.2.2.2.1 x.2.2.2.2.1 x.2.2.2.2.2 _ _ _ h hc he
    · replace h := oPos h c19
      refine Ev_iload_n 1 (dt_X11_ropeEnd.at 61 rfl) rfl ?_
      refine Ev_iload_n 1 (dt_X11_ropeEnd.at 62 rfl) rfl ?_
      refine Ev_iconst (dt_X11_ropeEnd.at 63 rfl) ki_2 ?_
      refine Ev_idiv (dt_X11_ropeEnd.at 64 rfl) (by decide) ?_
      refine Ev_isub (dt_X11_ropeEnd.at 65 rfl) ?_
      refine Ev_iload 3 (dt_X11_ropeEnd.at 66 rfl) rfl ?_
      refine Ev_icmp_le (tgt := 137) (dt_X11_ropeEnd.at 67 rfl) (by decide) (fun c26 => ?_) (fun c26 => ?_)
      · replace h := oPos h c26
        refine Ev_sub [2, 1, 0, 3, 4, 5, 6] (ls' := [(2, .int v2), (3, .int x16), (4, .int x18), (6, .int x.2.2.1), (7, .int x.2.2.2.1), (8, .int x.2.2.2.2.1), (9, .int x.2.2.2.2.2)]) rfl ?_
        exact wj_x_ropeEnd_137i77 v2 σ x16 x18 x.2.2.1 x.2.2.2.1 x.2.2.2.2.1 x.2.2.2.2.2 _ _ _ h hc he
      · replace h := oNeg h c26
        refine Ev_iload_n 1 (dt_X11_ropeEnd.at 68 rfl) rfl ?_
        refine Ev_iload_n 1 (dt_X11_ropeEnd.at 69 rfl) rfl ?_
        refine Ev_iconst (dt_X11_ropeEnd.at 70 rfl) ki_2 ?_
        refine Ev_idiv (dt_X11_ropeEnd.at 71 rfl) (by decide) ?_
        refine Ev_isub (dt_X11_ropeEnd.at 72 rfl) ?_
        refine Ev_nmI (fun x27 ex27 => ?_)
        replace h := oLt h ex27
        refine Ev_istore (dt_X11_ropeEnd.at 73 rfl) (by decide) (ls' := [(6, .int x27), (4, .int x18), (3, .int x16), (2, .int v2), (7, .int x.2.2.2.1), (8, .int x.2.2.2.2.1), (9, .int x.2.2.2.2.2)]) rfl ?_
        refine Ev_iload 1 (dt_X11_ropeEnd.at 74 rfl) rfl ?_
        refine Ev_istore (dt_X11_ropeEnd.at 75 rfl) (by decide) (ls' := [(7, .int x18), (6, .int x27), (4, .int x18), (3, .int x16), (2, .int v2), (8, .int x.2.2.2.2.1), (9, .int x.2.2.2.2.2)]) rfl ?_
        refine Ev_iload 6 (dt_X11_ropeEnd.at 76 rfl) rfl ?_
        refine Ev_istore (dt_X11_ropeEnd.at 77 rfl) (by decide) (ls' := [(8, .int x.2.2.2.2.2), (7, .int x18), (6, .int x27), (4, .int x18), (3, .int x16), (2, .int v2), (9, .int x.2.2.2.2.2)]) rfl ?_
        refine Ev_goto (tgt := 173) (dt_X11_ropeEnd.at 78 rfl) (by decide) ?_
        obtain ⟨x28, ex28⟩ : ∃ z : Int32, z = x.2.2.2.2.2 + (-1) := ⟨_, rfl⟩
        replace h := oLt h ex28
        refine Ev_iinc (v := x28) 6 (dt_X11_ropeEnd.at 101 rfl) rfl (ex28.trans (congrArg (fun z => x.2.2.2.2.2 + z) ki_m1.symm)) (by decide) (ls' := [(9, .int x28), (8, .int x.2.2.2.2.2), (7, .int x18), (6, .int x27), (4, .int x18), (3, .int x16), (2, .int v2)]) rfl ?_
        refine Ev_goto (tgt := 77) (dt_X11_ropeEnd.at 102 rfl) (by decide) ?_
        refine Ev_sub [6, 5, 4, 3, 2, 1, 0] (ls' := [(2, .int v2), (3, .int x16), (4, .int x18), (6, .int x27), (7, .int x18), (8, .int x.2.2.2.2.2), (9, .int x28)]) rfl ?_
        exact hc (x16, x18, x27, x18, x.2.2.2.2.2, x28) (Option.some.inj h).symm
set_option maxRecDepth 100000 in
set_option maxHeartbeats 4000000 in
theorem wl_x_ropeEnd_77 (v2 : Int32) (σ : Sg) (r : Option Value) (τ : Sg) (n : Nat) (x : (Int32 × Int32 × Int32 × Int32 × Int32 × Int32)) (z : (Int32 × Int32 × Int32 × Int32 × Int32 × Int32)) (h : lp (b_x_ropeEnd_77 v2) n x = some z) (he : ∀ y : (Int32 × Int32 × Int32 × Int32 × Int32 × Int32), z = y → Ev M_X11_ropeEnd 1 r τ 179 [(2, .int v2), (6, .int y.2.2.1), (7, .int y.2.2.2.1), (8, .int y.2.2.2.2.1)] [] σ) : Ev M_X11_ropeEnd 1 r τ 77 [(2, .int v2), (3, .int x.1), (4, .int x.2.1), (6, .int x.2.2.1), (7, .int x.2.2.2.1), (8, .int x.2.2.2.2.1), (9, .int x.2.2.2.2.2)] [] σ := by
  refine lp_ind (E := fun x : (Int32 × Int32 × Int32 × Int32 × Int32 × Int32) => Ev M_X11_ropeEnd 1 r τ 77 [(2, .int v2), (3, .int x.1), (4, .int x.2.1), (6, .int x.2.2.1), (7, .int x.2.2.2.1), (8, .int x.2.2.2.2.1), (9, .int x.2.2.2.2.2)] [] σ) (fun x => ⟨fun y hb hy => ?_, fun hb => ?_⟩) n x h
  · exact wb_x_ropeEnd_77 v2 σ x r τ _ hb (fun y' e => by cases e; exact hy) (fun y' e => by cases e)
  · exact wb_x_ropeEnd_77 v2 σ x r τ _ hb (fun y' e => by cases e) (fun y' e => he y' (Sum.inr.inj e))
set_option maxRecDepth 100000 in
set_option maxHeartbeats 4000000 in
theorem wj_x_ropeEnd_50  (σ : Sg) (v2 : Int32) (v3 : Int32) (v4 : Int32) (v5 : Int32) (q : Int32) (h : (j_x_ropeEnd_50  v2 v3 v4 v5) = some q) : Ev M_X11_ropeEnd 1 (some (.int q)) σ 50 [(2, .int v2), (3, .int v3), (4, .int v4), (5, .int v5)] [] σ := by
  unfold j_x_ropeEnd_50 at h
  refine Ev_iload_n 1 (dt_X11_ropeEnd.at 27 rfl) rfl ?_
  refine Ev_iconst (dt_X11_ropeEnd.at 28 rfl) ki_0 ?_
  obtain ⟨q10, hq10, h⟩ := oBind h
  refine Ev_callS (st := []) (st' := [.int q10]) [.int v3, .int 0] (dt_X11_ropeEnd.at 29 rfl) cf_X11_274 (w_Math_max σ v3 0 q10 hq10) (by decide) rfl rfl (Nat.le_of_ble_eq_true rfl) rfl ?_
  refine Ev_istore (dt_X11_ropeEnd.at 30 rfl) (by decide) (ls' := [(6, .int q10), (2, .int v2), (3, .int v3), (4, .int v4), (5, .int v5)]) rfl ?_
  refine Ev_iload 3 (dt_X11_ropeEnd.at 31 rfl) rfl ?_
  refine Ev_iconst (dt_X11_ropeEnd.at 32 rfl) ki_0 ?_
  obtain ⟨q11, hq11, h⟩ := oBind h
  refine Ev_callS (st := []) (st' := [.int q11]) [.int v4, .int 0] (dt_X11_ropeEnd.at 33 rfl) cf_X11_274 (w_Math_max σ v4 0 q11 hq11) (by decide) rfl rfl (Nat.le_of_ble_eq_true rfl) rfl ?_
  refine Ev_istore (dt_X11_ropeEnd.at 34 rfl) (by decide) (ls' := [(7, .int q11), (6, .int q10), (2, .int v2), (3, .int v3), (4, .int v4), (5, .int v5)]) rfl ?_
  refine Ev_iload 5 (dt_X11_ropeEnd.at 35 rfl) rfl ?_
  refine Ev_iconst (dt_X11_ropeEnd.at 36 rfl) ki_1 ?_
  refine Ev_isub (dt_X11_ropeEnd.at 37 rfl) ?_
  refine Ev_nmI (fun x12 ex12 => ?_)
  replace h := oLt h ex12
  refine Ev_istore (dt_X11_ropeEnd.at 38 rfl) (by decide) (ls' := [(8, .int x12), (7, .int q11), (6, .int q10), (2, .int v2), (3, .int v3), (4, .int v4), (5, .int v5)]) rfl ?_
  refine Ev_iload 6 (dt_X11_ropeEnd.at 39 rfl) rfl ?_
  refine Ev_iconst (dt_X11_ropeEnd.at 40 rfl) ki_1 ?_
  refine Ev_isub (dt_X11_ropeEnd.at 41 rfl) ?_
  refine Ev_nmI (fun x13 ex13 => ?_)
  replace h := oLt h ex13
  refine Ev_istore (dt_X11_ropeEnd.at 42 rfl) (by decide) (ls' := [(9, .int x13), (8, .int x12), (7, .int q11), (6, .int q10), (2, .int v2), (3, .int v3), (4, .int v4), (5, .int v5)]) rfl ?_
  refine Ev_sub [4, 5, 6, 3, 2, 1, 0] (ls' := [(2, .int v2), (3, .int v3), (4, .int v4), (6, .int q10), (7, .int q11), (8, .int x12), (9, .int x13)]) rfl ?_
  obtain ⟨o29, ho29, h⟩ := oBind h
  refine wl_x_ropeEnd_77 v2 σ _ _ 100000 (v3, v4, q10, q11, x12, x13) o29 ho29 (fun y ey => ?_)
  subst ey
  refine Ev_iload_n 0 (dt_X11_ropeEnd.at 103 rfl) rfl ?_
  refine Ev_if_ne (tgt := 188) (dt_X11_ropeEnd.at 104 rfl) (by decide) (fun c30 => ?_) (fun c30 => ?_)
  · replace h := oNeg h c30
    refine Ev_iload_n 0 (dt_X11_ropeEnd.at 107 rfl) rfl ?_
    refine Ev_iconst (dt_X11_ropeEnd.at 108 rfl) ki_1 ?_
    refine Ev_icmp_ne (tgt := 198) (dt_X11_ropeEnd.at 109 rfl) (by decide) (fun c31 => ?_) (fun c31 => ?_)
    · replace h := oNeg h c31
      refine Ev_iload 3 (dt_X11_ropeEnd.at 112 rfl) rfl ?_
      exact Ev_iret (dt_X11_ropeEnd.at 113 rfl) rfl (oRet h)
    · replace h := oPos h c31
      refine Ev_iload 2 (dt_X11_ropeEnd.at 110 rfl) rfl ?_
      refine Ev_goto (tgt := 200) (dt_X11_ropeEnd.at 111 rfl) (by decide) ?_
      exact Ev_iret (dt_X11_ropeEnd.at 113 rfl) rfl (oRet h)
  · replace h := oPos h c30
    refine Ev_iload 1 (dt_X11_ropeEnd.at 105 rfl) rfl ?_
    refine Ev_goto (tgt := 200) (dt_X11_ropeEnd.at 106 rfl) (by decide) ?_
    exact Ev_iret (dt_X11_ropeEnd.at 113 rfl) rfl (oRet h)
set_option maxRecDepth 100000 in
set_option maxHeartbeats 4000000 in
theorem w_x_ropeEnd (σ : Sg) (a0 : Int32) (a1 : Int32) (a2 : Int32) (q : Int32) (h : s_x_ropeEnd a0 a1 a2 = some q) : Cal M_X11_ropeEnd 1 [.int a0, .int a1, .int a2] σ (some (.int q)) σ := by
  refine Cal.of (M := M_X11_ropeEnd) (by decide +kernel) (Nat.le_of_ble_eq_true rfl) ?_
  show Ev _ _ _ _ 0 [(0, .int a0), (1, .int a1), (2, .int a2)] [] σ
  unfold s_x_ropeEnd at h
  refine Ev_iload_n 0 (dt_X11_ropeEnd.at 0 rfl) rfl ?_
  refine Ev_istore_n (dt_X11_ropeEnd.at 1 rfl) (by decide) (ls' := [(3, .int a0), (0, .int a0), (1, .int a1), (2, .int a2)]) rfl ?_
  refine Ev_iload_n 2 (dt_X11_ropeEnd.at 2 rfl) rfl ?_
  refine Ev_istore (dt_X11_ropeEnd.at 3 rfl) (by decide) (ls' := [(4, .int a1), (3, .int a0), (0, .int a0), (1, .int a1), (2, .int a2)]) rfl ?_
  refine Ev_iconst (dt_X11_ropeEnd.at 4 rfl) ki_0 ?_
  refine Ev_istore (dt_X11_ropeEnd.at 5 rfl) (by decide) (ls' := [(5, .int 0), (4, .int a1), (3, .int a0), (0, .int a0), (1, .int a1), (2, .int a2)]) rfl ?_
  refine Ev_sub [5, 2, 1, 0] (ls' := [(2, .int a2), (3, .int a0), (4, .int a1), (5, .int 0)]) rfl ?_
  obtain ⟨o9, ho9, h⟩ := oBind h
  refine wl_x_ropeEnd_8 a2 σ _ _ 100000 (a0, a1, 0) o9 ho9 (fun y ey => ?_)
  subst ey
  refine Ev_sub [0, 1, 2, 3] (ls' := [(2, .int a2), (3, .int o9.1), (4, .int o9.2.1), (5, .int o9.2.2)]) rfl ?_
  exact wj_x_ropeEnd_50  σ a2 o9.1 o9.2.1 o9.2.2 q h
