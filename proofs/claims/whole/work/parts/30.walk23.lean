def b_m_firstOpen_2 (σ : Sg) (v1 : Int32) (v2 : Int32) (x : Int32) : Option (Int32 ⊕ (Int32 ⊕ Int32)) :=
  if inB v1 3 = true then
    (s_m_of σ (gI σ 76 (Int32.toNatClampNeg v1)) 2).bind fun q2 =>
    if q2 ≤ x then
      some (.inr (.inl x))
    else
      (s_m_isOpen σ v1 x v2).bind fun q4 =>
      if q4 = 0 then
        lt (x + 1 : Int32) fun x6 =>
        some (.inl x6)
      else
        some (.inr (.inr x))
  else none
def s_m_firstOpen (σ : Sg) (a1 : Int32) (a2 : Int32) : Option Int32 :=
  (lp (b_m_firstOpen_2 σ a1 a2) 100000 0).bind fun o7 =>
  oElim o7 (fun y8 =>
    some (-1)) (fun q9 => some q9)
set_option maxRecDepth 100000 in
set_option maxHeartbeats 4000000 in
theorem wb_m_firstOpen_2 (σ : Sg) (v1 : Int32) (v2 : Int32) (x : Int32) (r : Option Value) (τ : Sg) (o : (Int32 ⊕ (Int32 ⊕ Int32))) (h : (b_m_firstOpen_2 σ v1 v2 x) = some o) (hc : ∀ y : Int32, o = .inl y → Ev M_X12_firstOpen 3 r τ 2 [(0, .ref 71), (1, .int v1), (2, .int v2), (3, .int y)] [] σ) (he : ∀ y : Int32, o = .inr (.inl y) → Ev M_X12_firstOpen 3 r τ 35 [] [] σ) (hr : ∀ q : Int32, o = .inr (.inr q) → r = (some (.int q)) ∧ τ = σ) : Ev M_X12_firstOpen 3 r τ 2 [(0, .ref 71), (1, .int v1), (2, .int v2), (3, .int x)] [] σ := by
  unfold b_m_firstOpen_2 at h
  refine Ev_iload_n 3 (dt_X12_firstOpen.at 2 rfl) rfl ?_
  refine Ev_aload_n 0 (dt_X12_firstOpen.at 3 rfl) rfl ?_
  refine Ev_aload_n 0 (dt_X12_firstOpen.at 4 rfl) rfl ?_
  refine Ev_get (i := 6) (v := .ref 76) (dt_X12_firstOpen.at 5 rfl) ff_X12_27 sk_71 rfl rfl ?_
  refine Ev_iload_n 1 (dt_X12_firstOpen.at 6 rfl) rfl ?_
  obtain ⟨g1, h⟩ := oGuard h
  refine Ev_iaload 76 (dt_X12_firstOpen.at 7 rfl) sk_76 g1 ?_
  refine Ev_iconst (dt_X12_firstOpen.at 8 rfl) ki_2 ?_
  obtain ⟨q2, hq2, h⟩ := oBind h
  refine Ev_callV (st := [.int x]) (st' := [.int q2, .int x]) [.int (gI σ 76 (Int32.toNatClampNeg v1)), .int 2] (dt_X12_firstOpen.at 9 rfl) cf_X12_82 (w_m_of σ (gI σ 76 (Int32.toNatClampNeg v1)) 2 q2 hq2) (by decide) sk_71 rfl rfl rfl (Nat.le_of_ble_eq_true rfl) rfl ?_
  refine Ev_icmp_ge (tgt := 35) (dt_X12_firstOpen.at 10 rfl) (by decide) (fun c3 => ?_) (fun c3 => ?_)
  · replace h := oPos h c3
    refine Ev_sub [] (ls' := []) rfl ?_
    exact he x (Option.some.inj h).symm
  · replace h := oNeg h c3
    refine Ev_aload_n 0 (dt_X12_firstOpen.at 11 rfl) rfl ?_
    refine Ev_iload_n 1 (dt_X12_firstOpen.at 12 rfl) rfl ?_
    refine Ev_iload_n 3 (dt_X12_firstOpen.at 13 rfl) rfl ?_
    refine Ev_iload_n 2 (dt_X12_firstOpen.at 14 rfl) rfl ?_
    obtain ⟨q4, hq4, h⟩ := oBind h
    refine Ev_callV (st := []) (st' := [.int q4]) [.int v1, .int x, .int v2] (dt_X12_firstOpen.at 15 rfl) cf_X12_123 (w_m_isOpen σ v1 x v2 q4 hq4) (by decide) sk_71 rfl rfl rfl (Nat.le_of_ble_eq_true rfl) rfl ?_
    refine Ev_if_eq (tgt := 29) (dt_X12_firstOpen.at 16 rfl) (by decide) (fun c5 => ?_) (fun c5 => ?_)
    · replace h := oPos h c5
      obtain ⟨x6, ex6⟩ : ∃ z : Int32, z = x + 1 := ⟨_, rfl⟩
      replace h := oLt h ex6
      refine Ev_iinc (v := x6) 3 (dt_X12_firstOpen.at 19 rfl) rfl (ex6.trans (congrArg (fun z => x + z) ki_1.symm)) (by decide) (ls' := [(3, .int x6), (0, .ref 71), (1, .int v1), (2, .int v2)]) rfl ?_
      refine Ev_goto (tgt := 2) (dt_X12_firstOpen.at 20 rfl) (by decide) ?_
      refine Ev_sub [1, 2, 3, 0] (ls' := [(0, .ref 71), (1, .int v1), (2, .int v2), (3, .int x6)]) rfl ?_
      exact hc x6 (Option.some.inj h).symm
    · replace h := oNeg h c5
      refine Ev_iload_n 3 (dt_X12_firstOpen.at 17 rfl) rfl ?_
      have hz := hr _ (Option.some.inj h).symm
      rw [hz.1, hz.2]
      exact Ev_iret (dt_X12_firstOpen.at 18 rfl) rfl rfl
set_option maxRecDepth 100000 in
set_option maxHeartbeats 4000000 in
theorem wl_m_firstOpen_2 (σ : Sg) (v1 : Int32) (v2 : Int32) (r : Option Value) (τ : Sg) (n : Nat) (x : Int32) (z : (Int32 ⊕ Int32)) (h : lp (b_m_firstOpen_2 σ v1 v2) n x = some z) (he : ∀ y : Int32, z = .inl y → Ev M_X12_firstOpen 3 r τ 35 [] [] σ) (hr : ∀ q : Int32, z = .inr q → r = (some (.int q)) ∧ τ = σ) : Ev M_X12_firstOpen 3 r τ 2 [(0, .ref 71), (1, .int v1), (2, .int v2), (3, .int x)] [] σ := by
  refine lp_ind (E := fun x : Int32 => Ev M_X12_firstOpen 3 r τ 2 [(0, .ref 71), (1, .int v1), (2, .int v2), (3, .int x)] [] σ) (fun x => ⟨fun y hb hy => ?_, fun hb => ?_⟩) n x h
  · exact wb_m_firstOpen_2 σ v1 v2 x r τ _ hb (fun y' e => by cases e; exact hy) (fun y' e => by cases e) (fun y' e => by cases e)
  · exact wb_m_firstOpen_2 σ v1 v2 x r τ _ hb (fun y' e => by cases e) (fun y' e => he y' (Sum.inr.inj e)) (fun y' e => hr y' (Sum.inr.inj e))
set_option maxRecDepth 100000 in
set_option maxHeartbeats 4000000 in
theorem w_m_firstOpen (σ : Sg) (a1 : Int32) (a2 : Int32) (q : Int32) (h : s_m_firstOpen σ a1 a2 = some q) : Cal M_X12_firstOpen 3 [.ref 71, .int a1, .int a2] σ (some (.int q)) σ := by
  refine Cal.of (M := M_X12_firstOpen) (by decide +kernel) (Nat.le_of_ble_eq_true rfl) ?_
  show Ev _ _ _ _ 0 [(0, .ref 71), (1, .int a1), (2, .int a2)] [] σ
  unfold s_m_firstOpen at h
  refine Ev_iconst (dt_X12_firstOpen.at 0 rfl) ki_0 ?_
  refine Ev_istore_n (dt_X12_firstOpen.at 1 rfl) (by decide) (ls' := [(3, .int 0), (0, .ref 71), (1, .int a1), (2, .int a2)]) rfl ?_
  refine Ev_sub [1, 2, 3, 0] (ls' := [(0, .ref 71), (1, .int a1), (2, .int a2), (3, .int 0)]) rfl ?_
  obtain ⟨o7, ho7, h⟩ := oBind h
  refine wl_m_firstOpen_2 σ a1 a2 _ _ 100000 0 o7 ho7 (fun y8 ey => ?_) (fun q9 eq => ?_)
  · rw [ey] at h
    replace h := oElimL h
    refine Ev_iconst (dt_X12_firstOpen.at 21 rfl) ki_m1 ?_
    exact Ev_iret (dt_X12_firstOpen.at 22 rfl) rfl (oRet h)
  · rw [eq] at h
    replace h := oElimR h
    cases h; exact ⟨rfl, rfl⟩
def s_m_plainVote (σ : Sg) (a1 : Int32) (a2 : Int32) : Option Int32 :=
  (s_m_firstOpen σ a1 a2).bind fun q1 =>
  if q1 = (-1) then
    some (gI σ 71 9)
  else
    if inB a1 3 = true then
      (s_m_placeOf σ (gI σ 76 (Int32.toNatClampNeg a1)) q1).bind fun q4 =>
      some q4
    else none
set_option maxRecDepth 100000 in
set_option maxHeartbeats 4000000 in
theorem w_m_plainVote (σ : Sg) (a1 : Int32) (a2 : Int32) (q : Int32) (h : s_m_plainVote σ a1 a2 = some q) : Cal M_X12_plainVote 4 [.ref 71, .int a1, .int a2] σ (some (.int q)) σ := by
  refine Cal.of (M := M_X12_plainVote) (by decide +kernel) (Nat.le_of_ble_eq_true rfl) ?_
  show Ev _ _ _ _ 0 [(0, .ref 71), (1, .int a1), (2, .int a2)] [] σ
  unfold s_m_plainVote at h
  refine Ev_aload_n 0 (dt_X12_plainVote.at 0 rfl) rfl ?_
  refine Ev_iload_n 1 (dt_X12_plainVote.at 1 rfl) rfl ?_
  refine Ev_iload_n 2 (dt_X12_plainVote.at 2 rfl) rfl ?_
  obtain ⟨q1, hq1, h⟩ := oBind h
  refine Ev_callV (st := []) (st' := [.int q1]) [.int a1, .int a2] (dt_X12_plainVote.at 3 rfl) cf_X12_127 (w_m_firstOpen σ a1 a2 q1 hq1) (by decide) sk_71 rfl rfl rfl (Nat.le_of_ble_eq_true rfl) rfl ?_
  refine Ev_istore_n (dt_X12_plainVote.at 4 rfl) (by decide) (ls' := [(3, .int q1), (0, .ref 71), (1, .int a1), (2, .int a2)]) rfl ?_
  refine Ev_iload_n 0 (dt_X12_plainVote.at 5 rfl) rfl ?_
  refine Ev_iconst (dt_X12_plainVote.at 6 rfl) ki_m1 ?_
  refine Ev_icmp_ne (tgt := 19) (dt_X12_plainVote.at 7 rfl) (by decide) (fun c2 => ?_) (fun c2 => ?_)
  · replace h := oNeg h c2
    refine Ev_aload_n 1 (dt_X12_plainVote.at 11 rfl) rfl ?_
    refine Ev_aload_n 1 (dt_X12_plainVote.at 12 rfl) rfl ?_
    refine Ev_get (i := 6) (v := .ref 76) (dt_X12_plainVote.at 13 rfl) ff_X12_27 sk_71 rfl rfl ?_
    refine Ev_iload_n 2 (dt_X12_plainVote.at 14 rfl) rfl ?_
    obtain ⟨g3, h⟩ := oGuard h
    refine Ev_iaload 76 (dt_X12_plainVote.at 15 rfl) sk_76 g3 ?_
    refine Ev_iload_n 0 (dt_X12_plainVote.at 16 rfl) rfl ?_
    obtain ⟨q4, hq4, h⟩ := oBind h
    refine Ev_callV (st := []) (st' := [.int q4]) [.int (gI σ 76 (Int32.toNatClampNeg a1)), .int q1] (dt_X12_plainVote.at 17 rfl) cf_X12_130 (w_m_placeOf σ (gI σ 76 (Int32.toNatClampNeg a1)) q1 q4 hq4) (by decide) sk_71 rfl rfl rfl (Nat.le_of_ble_eq_true rfl) rfl ?_
    exact Ev_iret (dt_X12_plainVote.at 18 rfl) rfl (oRet h)
  · replace h := oPos h c2
    refine Ev_aload_n 1 (dt_X12_plainVote.at 8 rfl) rfl ?_
    refine Ev_get (i := 9) (v := .int (gI σ 71 9)) (dt_X12_plainVote.at 9 rfl) ff_X12_116 sk_71 rfl rfl ?_
    refine Ev_goto (tgt := 30) (dt_X12_plainVote.at 10 rfl) (by decide) ?_
    exact Ev_iret (dt_X12_plainVote.at 18 rfl) rfl (oRet h)
def s_m_kindVote (σ : Sg) (a1 : Int32) (a2 : Int32) : Option Int32 :=
  (s_m_firstOpen σ a1 a2).bind fun q1 =>
  if q1 = (-1) then
    if a1 = 0 then
      (s_m_plainVote σ 1 a2).bind fun q5 =>
      some q5
    else
      (s_m_plainVote σ 0 a2).bind fun q4 =>
      some q4
  else
    (s_m_plainVote σ a1 a2).bind fun q6 =>
    some q6
set_option maxRecDepth 100000 in
set_option maxHeartbeats 4000000 in
theorem w_m_kindVote (σ : Sg) (a1 : Int32) (a2 : Int32) (q : Int32) (h : s_m_kindVote σ a1 a2 = some q) : Cal M_X12_kindVote 5 [.ref 71, .int a1, .int a2] σ (some (.int q)) σ := by
  refine Cal.of (M := M_X12_kindVote) (by decide +kernel) (Nat.le_of_ble_eq_true rfl) ?_
  show Ev _ _ _ _ 0 [(0, .ref 71), (1, .int a1), (2, .int a2)] [] σ
  unfold s_m_kindVote at h
  refine Ev_aload_n 0 (dt_X12_kindVote.at 0 rfl) rfl ?_
  refine Ev_aload_n 0 (dt_X12_kindVote.at 1 rfl) rfl ?_
  refine Ev_iload_n 1 (dt_X12_kindVote.at 2 rfl) rfl ?_
  refine Ev_iload_n 2 (dt_X12_kindVote.at 3 rfl) rfl ?_
  obtain ⟨q1, hq1, h⟩ := oBind h
  refine Ev_callV (st := [.ref 71]) (st' := [.int q1, .ref 71]) [.int a1, .int a2] (dt_X12_kindVote.at 4 rfl) cf_X12_127 (w_m_firstOpen σ a1 a2 q1 hq1) (by decide) sk_71 rfl rfl rfl (Nat.le_of_ble_eq_true rfl) rfl ?_
  refine Ev_iconst (dt_X12_kindVote.at 5 rfl) ki_m1 ?_
  refine Ev_icmp_eq (tgt := 15) (dt_X12_kindVote.at 6 rfl) (by decide) (fun c2 => ?_) (fun c2 => ?_)
  · replace h := oPos h c2
    refine Ev_iload_n 1 (dt_X12_kindVote.at 9 rfl) rfl ?_
    refine Ev_if_ne (tgt := 23) (dt_X12_kindVote.at 10 rfl) (by decide) (fun c3 => ?_) (fun c3 => ?_)
    · replace h := oNeg h c3
      refine Ev_iconst (dt_X12_kindVote.at 13 rfl) ki_0 ?_
      refine Ev_iload_n 2 (dt_X12_kindVote.at 14 rfl) rfl ?_
      obtain ⟨q4, hq4, h⟩ := oBind h
      refine Ev_callV (st := []) (st' := [.int q4]) [.int 0, .int a2] (dt_X12_kindVote.at 15 rfl) cf_X12_133 (w_m_plainVote σ 0 a2 q4 hq4) (by decide) sk_71 rfl rfl rfl (Nat.le_of_ble_eq_true rfl) rfl ?_
      exact Ev_iret (dt_X12_kindVote.at 16 rfl) rfl (oRet h)
    · replace h := oPos h c3
      refine Ev_iconst (dt_X12_kindVote.at 11 rfl) ki_1 ?_
      refine Ev_goto (tgt := 24) (dt_X12_kindVote.at 12 rfl) (by decide) ?_
      refine Ev_iload_n 2 (dt_X12_kindVote.at 14 rfl) rfl ?_
      obtain ⟨q5, hq5, h⟩ := oBind h
      refine Ev_callV (st := []) (st' := [.int q5]) [.int 1, .int a2] (dt_X12_kindVote.at 15 rfl) cf_X12_133 (w_m_plainVote σ 1 a2 q5 hq5) (by decide) sk_71 rfl rfl rfl (Nat.le_of_ble_eq_true rfl) rfl ?_
      exact Ev_iret (dt_X12_kindVote.at 16 rfl) rfl (oRet h)
  · replace h := oNeg h c2
    refine Ev_iload_n 1 (dt_X12_kindVote.at 7 rfl) rfl ?_
    refine Ev_goto (tgt := 24) (dt_X12_kindVote.at 8 rfl) (by decide) ?_
    refine Ev_iload_n 2 (dt_X12_kindVote.at 14 rfl) rfl ?_
    obtain ⟨q6, hq6, h⟩ := oBind h
    refine Ev_callV (st := []) (st' := [.int q6]) [.int a1, .int a2] (dt_X12_kindVote.at 15 rfl) cf_X12_133 (w_m_plainVote σ a1 a2 q6 hq6) (by decide) sk_71 rfl rfl rfl (Nat.le_of_ble_eq_true rfl) rfl ?_
    exact Ev_iret (dt_X12_kindVote.at 16 rfl) rfl (oRet h)
def s_m_vote (σ : Sg) (a1 : Int32) (a2 : Int32) : Option Int32 :=
  if inB a1 3 = true then
    (s_m_of σ (gI σ 76 (Int32.toNatClampNeg a1)) 0).bind fun q2 =>
    if q2 = 1 then
      (s_m_hastyVote σ a1 a2).bind fun q4 =>
      some q4
    else
      if q2 = 2 then
        if inB a1 3 = true then
          (s_m_of σ (gI σ 76 (Int32.toNatClampNeg a1)) 2).bind fun q7 =>
          if q7 ≤ 0 then
            (s_m_plainVote σ a1 a2).bind fun q9 =>
            some q9
          else
            if inB a1 3 = true then
              if ((gI σ 77 (Int32.toNatClampNeg a1)) &&& 1) = 0 then
                if inB a1 3 = true then
                  (s_m_placeOf σ (gI σ 76 (Int32.toNatClampNeg a1)) 0).bind fun q14 =>
                  some q14
                else none
              else
                (s_m_plainVote σ a1 a2).bind fun q12 =>
                some q12
            else none
        else none
      else
        if q2 = 3 then
          (s_m_kindVote σ a1 a2).bind fun q16 =>
          some q16
        else
          if q2 = 4 then
            if (a2 - a2 / 2 * 2) = 0 then
              some (gI σ 71 9)
            else
              (s_m_kindVote σ a1 a2).bind fun q19 =>
              some q19
          else
            (s_m_plainVote σ a1 a2).bind fun q20 =>
            some q20
  else none
set_option maxRecDepth 100000 in
set_option maxHeartbeats 4000000 in
theorem w_m_vote (σ : Sg) (a1 : Int32) (a2 : Int32) (q : Int32) (h : s_m_vote σ a1 a2 = some q) : Cal M_X12_vote 6 [.ref 71, .int a1, .int a2] σ (some (.int q)) σ := by
  refine Cal.of (M := M_X12_vote) (by decide +kernel) (Nat.le_of_ble_eq_true rfl) ?_
  show Ev _ _ _ _ 0 [(0, .ref 71), (1, .int a1), (2, .int a2)] [] σ
  unfold s_m_vote at h
  refine Ev_aload_n 0 (dt_X12_vote.at 0 rfl) rfl ?_
  refine Ev_aload_n 0 (dt_X12_vote.at 1 rfl) rfl ?_
  refine Ev_get (i := 6) (v := .ref 76) (dt_X12_vote.at 2 rfl) ff_X12_27 sk_71 rfl rfl ?_
  refine Ev_iload_n 1 (dt_X12_vote.at 3 rfl) rfl ?_
  obtain ⟨g1, h⟩ := oGuard h
  refine Ev_iaload 76 (dt_X12_vote.at 4 rfl) sk_76 g1 ?_
  refine Ev_iconst (dt_X12_vote.at 5 rfl) ki_0 ?_
  obtain ⟨q2, hq2, h⟩ := oBind h
  refine Ev_callV (st := []) (st' := [.int q2]) [.int (gI σ 76 (Int32.toNatClampNeg a1)), .int 0] (dt_X12_vote.at 6 rfl) cf_X12_82 (w_m_of σ (gI σ 76 (Int32.toNatClampNeg a1)) 0 q2 hq2) (by decide) sk_71 rfl rfl rfl (Nat.le_of_ble_eq_true rfl) rfl ?_
  by_cases c3 : q2 = 1
  · replace h := oPos h c3
    refine Ev_tblIn (tgt := 40) (off := 29) (dt_X12_vote.at 7 rfl) (by rw [c3]; decide) (by rw [c3]; decide) (by rw [c3]; decide) (by decide) ?_
    refine Ev_aload_n 0 (dt_X12_vote.at 8 rfl) rfl ?_
    refine Ev_iload_n 1 (dt_X12_vote.at 9 rfl) rfl ?_
    refine Ev_iload_n 2 (dt_X12_vote.at 10 rfl) rfl ?_
    obtain ⟨q4, hq4, h⟩ := oBind h
    refine Ev_callV (st := []) (st' := [.int q4]) [.int a1, .int a2] (dt_X12_vote.at 11 rfl) cf_X12_136 (w_m_hastyVote σ a1 a2 q4 hq4) (by decide) sk_71 rfl rfl rfl (Nat.le_of_ble_eq_true rfl) rfl ?_
    exact Ev_iret (dt_X12_vote.at 12 rfl) rfl (oRet h)
  replace h := oNeg h c3
  by_cases c5 : q2 = 2
  · replace h := oPos h c5
    refine Ev_tblIn (tgt := 47) (off := 36) (dt_X12_vote.at 7 rfl) (by rw [c5]; decide) (by rw [c5]; decide) (by rw [c5]; decide) (by decide) ?_
    refine Ev_aload_n 0 (dt_X12_vote.at 13 rfl) rfl ?_
    refine Ev_aload_n 0 (dt_X12_vote.at 14 rfl) rfl ?_
    refine Ev_get (i := 6) (v := .ref 76) (dt_X12_vote.at 15 rfl) ff_X12_27 sk_71 rfl rfl ?_
    refine Ev_iload_n 1 (dt_X12_vote.at 16 rfl) rfl ?_
    obtain ⟨g6, h⟩ := oGuard h
    refine Ev_iaload 76 (dt_X12_vote.at 17 rfl) sk_76 g6 ?_
    refine Ev_iconst (dt_X12_vote.at 18 rfl) ki_2 ?_
    obtain ⟨q7, hq7, h⟩ := oBind h
    refine Ev_callV (st := []) (st' := [.int q7]) [.int (gI σ 76 (Int32.toNatClampNeg a1)), .int 2] (dt_X12_vote.at 19 rfl) cf_X12_82 (w_m_of σ (gI σ 76 (Int32.toNatClampNeg a1)) 2 q7 hq7) (by decide) sk_71 rfl rfl rfl (Nat.le_of_ble_eq_true rfl) rfl ?_
    refine Ev_if_le (tgt := 86) (dt_X12_vote.at 20 rfl) (by decide) (fun c8 => ?_) (fun c8 => ?_)
    · replace h := oPos h c8
      refine Ev_aload_n 0 (dt_X12_vote.at 36 rfl) rfl ?_
      refine Ev_iload_n 1 (dt_X12_vote.at 37 rfl) rfl ?_
      refine Ev_iload_n 2 (dt_X12_vote.at 38 rfl) rfl ?_
      obtain ⟨q9, hq9, h⟩ := oBind h
      refine Ev_callV (st := []) (st' := [.int q9]) [.int a1, .int a2] (dt_X12_vote.at 39 rfl) cf_X12_133 (w_m_plainVote σ a1 a2 q9 hq9) (by decide) sk_71 rfl rfl rfl (Nat.le_of_ble_eq_true rfl) rfl ?_
      exact Ev_iret (dt_X12_vote.at 40 rfl) rfl (oRet h)
    · replace h := oNeg h c8
      refine Ev_aload_n 0 (dt_X12_vote.at 21 rfl) rfl ?_
      refine Ev_get (i := 7) (v := .ref 77) (dt_X12_vote.at 22 rfl) ff_X12_30 sk_71 rfl rfl ?_
      refine Ev_iload_n 1 (dt_X12_vote.at 23 rfl) rfl ?_
      obtain ⟨g10, h⟩ := oGuard h
      refine Ev_iaload 77 (dt_X12_vote.at 24 rfl) sk_77 g10 ?_
      refine Ev_iconst (dt_X12_vote.at 25 rfl) ki_1 ?_
      refine Ev_iand (dt_X12_vote.at 26 rfl) ?_
      refine Ev_if_ne (tgt := 86) (dt_X12_vote.at 27 rfl) (by decide) (fun c11 => ?_) (fun c11 => ?_)
      · replace h := oNeg h c11
        refine Ev_aload_n 0 (dt_X12_vote.at 36 rfl) rfl ?_
        refine Ev_iload_n 1 (dt_X12_vote.at 37 rfl) rfl ?_
        refine Ev_iload_n 2 (dt_X12_vote.at 38 rfl) rfl ?_
        obtain ⟨q12, hq12, h⟩ := oBind h
        refine Ev_callV (st := []) (st' := [.int q12]) [.int a1, .int a2] (dt_X12_vote.at 39 rfl) cf_X12_133 (w_m_plainVote σ a1 a2 q12 hq12) (by decide) sk_71 rfl rfl rfl (Nat.le_of_ble_eq_true rfl) rfl ?_
        exact Ev_iret (dt_X12_vote.at 40 rfl) rfl (oRet h)
      · replace h := oPos h c11
        refine Ev_aload_n 0 (dt_X12_vote.at 28 rfl) rfl ?_
        refine Ev_aload_n 0 (dt_X12_vote.at 29 rfl) rfl ?_
        refine Ev_get (i := 6) (v := .ref 76) (dt_X12_vote.at 30 rfl) ff_X12_27 sk_71 rfl rfl ?_
        refine Ev_iload_n 1 (dt_X12_vote.at 31 rfl) rfl ?_
        obtain ⟨g13, h⟩ := oGuard h
        refine Ev_iaload 76 (dt_X12_vote.at 32 rfl) sk_76 g13 ?_
        refine Ev_iconst (dt_X12_vote.at 33 rfl) ki_0 ?_
        obtain ⟨q14, hq14, h⟩ := oBind h
        refine Ev_callV (st := []) (st' := [.int q14]) [.int (gI σ 76 (Int32.toNatClampNeg a1)), .int 0] (dt_X12_vote.at 34 rfl) cf_X12_130 (w_m_placeOf σ (gI σ 76 (Int32.toNatClampNeg a1)) 0 q14 hq14) (by decide) sk_71 rfl rfl rfl (Nat.le_of_ble_eq_true rfl) rfl ?_
        refine Ev_goto (tgt := 92) (dt_X12_vote.at 35 rfl) (by decide) ?_
        exact Ev_iret (dt_X12_vote.at 40 rfl) rfl (oRet h)
  replace h := oNeg h c5
  by_cases c15 : q2 = 3
  · replace h := oPos h c15
    refine Ev_tblIn (tgt := 93) (off := 82) (dt_X12_vote.at 7 rfl) (by rw [c15]; decide) (by rw [c15]; decide) (by rw [c15]; decide) (by decide) ?_
    refine Ev_aload_n 0 (dt_X12_vote.at 41 rfl) rfl ?_
    refine Ev_iload_n 1 (dt_X12_vote.at 42 rfl) rfl ?_
    refine Ev_iload_n 2 (dt_X12_vote.at 43 rfl) rfl ?_
    obtain ⟨q16, hq16, h⟩ := oBind h
    refine Ev_callV (st := []) (st' := [.int q16]) [.int a1, .int a2] (dt_X12_vote.at 44 rfl) cf_X12_139 (w_m_kindVote σ a1 a2 q16 hq16) (by decide) sk_71 rfl rfl rfl (Nat.le_of_ble_eq_true rfl) rfl ?_
    exact Ev_iret (dt_X12_vote.at 45 rfl) rfl (oRet h)
  replace h := oNeg h c15
  by_cases c17 : q2 = 4
  · replace h := oPos h c17
    refine Ev_tblIn (tgt := 100) (off := 89) (dt_X12_vote.at 7 rfl) (by rw [c17]; decide) (by rw [c17]; decide) (by rw [c17]; decide) (by decide) ?_
    refine Ev_iload_n 2 (dt_X12_vote.at 46 rfl) rfl ?_
    refine Ev_iconst (dt_X12_vote.at 47 rfl) ki_2 ?_
    refine Ev_irem (dt_X12_vote.at 48 rfl) (by decide) ?_
    refine Ev_if_ne (tgt := 113) (dt_X12_vote.at 49 rfl) (by decide) (fun c18 => ?_) (fun c18 => ?_)
    · replace h := oNeg h c18
      refine Ev_aload_n 0 (dt_X12_vote.at 53 rfl) rfl ?_
      refine Ev_iload_n 1 (dt_X12_vote.at 54 rfl) rfl ?_
      refine Ev_iload_n 2 (dt_X12_vote.at 55 rfl) rfl ?_
      obtain ⟨q19, hq19, h⟩ := oBind h
      refine Ev_callV (st := []) (st' := [.int q19]) [.int a1, .int a2] (dt_X12_vote.at 56 rfl) cf_X12_139 (w_m_kindVote σ a1 a2 q19 hq19) (by decide) sk_71 rfl rfl rfl (Nat.le_of_ble_eq_true rfl) rfl ?_
      exact Ev_iret (dt_X12_vote.at 57 rfl) rfl (oRet h)
    · replace h := oPos h c18
      refine Ev_aload_n 0 (dt_X12_vote.at 50 rfl) rfl ?_
      refine Ev_get (i := 9) (v := .int (gI σ 71 9)) (dt_X12_vote.at 51 rfl) ff_X12_116 sk_71 rfl rfl ?_
      refine Ev_goto (tgt := 119) (dt_X12_vote.at 52 rfl) (by decide) ?_
      exact Ev_iret (dt_X12_vote.at 57 rfl) rfl (oRet h)
  replace h := oNeg h c17
  refine Ev_tblOut (tgt := 120) (dt_X12_vote.at 7 rfl) (by have zc3 := i32_ne (k := 1) c3 (by decide); have zc5 := i32_ne (k := 2) c5 (by decide); have zc15 := i32_ne (k := 3) c15 (by decide); have zc17 := i32_ne (k := 4) c17 (by decide); omega) (by decide) ?_
  refine Ev_aload_n 0 (dt_X12_vote.at 58 rfl) rfl ?_
  refine Ev_iload_n 1 (dt_X12_vote.at 59 rfl) rfl ?_
  refine Ev_iload_n 2 (dt_X12_vote.at 60 rfl) rfl ?_
  obtain ⟨q20, hq20, h⟩ := oBind h
  refine Ev_callV (st := []) (st' := [.int q20]) [.int a1, .int a2] (dt_X12_vote.at 61 rfl) cf_X12_133 (w_m_plainVote σ a1 a2 q20 hq20) (by decide) sk_71 rfl rfl rfl (Nat.le_of_ble_eq_true rfl) rfl ?_
  exact Ev_iret (dt_X12_vote.at 62 rfl) rfl (oRet h)
def s_m_stepTo (σ : Sg) (a1 : Int32) : Option Sg :=
  (s_m_ring σ ).bind fun q1 =>
  (s_m_ring σ ).bind fun q2 =>
  if ¬ q2 = 0 then
    lt ((((a1 - (gI σ 71 9)) + q1) - ((a1 - (gI σ 71 9)) + q1) / q2 * q2) : Int32) fun x4 =>
    if x4 ≤ 0 then
      some σ
    else
      (s_m_ring σ ).bind fun q6 =>
      if q6 < (2 * x4) then
        (s_m_ring σ ).bind fun q8 =>
        (s_m_ring σ ).bind fun q9 =>
        if ¬ q9 = 0 then
          lt (pI σ 71 9 ((((gI σ 71 9) - 1) + q8) - (((gI σ 71 9) - 1) + q8) / q9 * q9) : Sg) fun s11 =>
          some s11
        else none
      else
        (s_m_ring σ ).bind fun q12 =>
        if ¬ q12 = 0 then
          lt (pI σ 71 9 (((gI σ 71 9) + 1) - ((gI σ 71 9) + 1) / q12 * q12) : Sg) fun s14 =>
          some s14
        else none
  else none
set_option maxRecDepth 100000 in
set_option maxHeartbeats 4000000 in
theorem w_m_stepTo (σ : Sg) (a1 : Int32) (q : Sg) (h : s_m_stepTo σ a1 = some q) : Cal M_X12_stepTo 1 [.ref 71, .int a1] σ none q := by
  refine Cal.of (M := M_X12_stepTo) (by decide +kernel) (Nat.le_of_ble_eq_true rfl) ?_
  show Ev _ _ _ _ 0 [(0, .ref 71), (1, .int a1)] [] σ
  unfold s_m_stepTo at h
  refine Ev_iload_n 1 (dt_X12_stepTo.at 0 rfl) rfl ?_
  refine Ev_aload_n 0 (dt_X12_stepTo.at 1 rfl) rfl ?_
  refine Ev_get (i := 9) (v := .int (gI σ 71 9)) (dt_X12_stepTo.at 2 rfl) ff_X12_116 sk_71 rfl rfl ?_
  refine Ev_isub (dt_X12_stepTo.at 3 rfl) ?_
  refine Ev_aload_n 0 (dt_X12_stepTo.at 4 rfl) rfl ?_
  obtain ⟨q1, hq1, h⟩ := oBind h
  refine Ev_callV (st := [.int (a1 - (gI σ 71 9))]) (st' := [.int q1, .int (a1 - (gI σ 71 9))]) [] (dt_X12_stepTo.at 5 rfl) cf_X12_91 (w_m_ring σ  q1 hq1) (by decide) sk_71 rfl rfl rfl (Nat.le_of_ble_eq_true rfl) rfl ?_
  refine Ev_iadd (dt_X12_stepTo.at 6 rfl) ?_
  refine Ev_aload_n 0 (dt_X12_stepTo.at 7 rfl) rfl ?_
  obtain ⟨q2, hq2, h⟩ := oBind h
  refine Ev_callV (st := [.int ((a1 - (gI σ 71 9)) + q1)]) (st' := [.int q2, .int ((a1 - (gI σ 71 9)) + q1)]) [] (dt_X12_stepTo.at 8 rfl) cf_X12_91 (w_m_ring σ  q2 hq2) (by decide) sk_71 rfl rfl rfl (Nat.le_of_ble_eq_true rfl) rfl ?_
  obtain ⟨g3, h⟩ := oGuard h
  refine Ev_irem (dt_X12_stepTo.at 9 rfl) g3 ?_
  refine Ev_nmI (fun x4 ex4 => ?_)
  replace h := oLt h ex4
  refine Ev_istore_n (dt_X12_stepTo.at 10 rfl) (by decide) (ls' := [(2, .int x4), (0, .ref 71), (1, .int a1)]) rfl ?_
  refine Ev_iload_n 0 (dt_X12_stepTo.at 11 rfl) rfl ?_
  refine Ev_if_le (tgt := 65) (dt_X12_stepTo.at 12 rfl) (by decide) (fun c5 => ?_) (fun c5 => ?_)
  · replace h := oPos h c5
    exact Ev_vret (dt_X12_stepTo.at 39 rfl) rfl h
  · replace h := oNeg h c5
    refine Ev_aload_n 1 (dt_X12_stepTo.at 13 rfl) rfl ?_
    refine Ev_iconst (dt_X12_stepTo.at 14 rfl) ki_2 ?_
    refine Ev_iload_n 0 (dt_X12_stepTo.at 15 rfl) rfl ?_
    refine Ev_imul (dt_X12_stepTo.at 16 rfl) ?_
    refine Ev_aload_n 1 (dt_X12_stepTo.at 17 rfl) rfl ?_
    obtain ⟨q6, hq6, h⟩ := oBind h
    refine Ev_callV (st := [.int (2 * x4), .ref 71]) (st' := [.int q6, .int (2 * x4), .ref 71]) [] (dt_X12_stepTo.at 18 rfl) cf_X12_91 (w_m_ring σ  q6 hq6) (by decide) sk_71 rfl rfl rfl (Nat.le_of_ble_eq_true rfl) rfl ?_
    refine Ev_icmp_gt (tgt := 46) (dt_X12_stepTo.at 19 rfl) (by decide) (fun c7 => ?_) (fun c7 => ?_)
    · replace h := oPos h c7
      refine Ev_aload_n 1 (dt_X12_stepTo.at 28 rfl) rfl ?_
      refine Ev_get (i := 9) (v := .int (gI σ 71 9)) (dt_X12_stepTo.at 29 rfl) ff_X12_116 sk_71 rfl rfl ?_
      refine Ev_iconst (dt_X12_stepTo.at 30 rfl) ki_1 ?_
      refine Ev_isub (dt_X12_stepTo.at 31 rfl) ?_
      refine Ev_aload_n 1 (dt_X12_stepTo.at 32 rfl) rfl ?_
      obtain ⟨q8, hq8, h⟩ := oBind h
      refine Ev_callV (st := [.int ((gI σ 71 9) - 1), .ref 71]) (st' := [.int q8, .int ((gI σ 71 9) - 1), .ref 71]) [] (dt_X12_stepTo.at 33 rfl) cf_X12_91 (w_m_ring σ  q8 hq8) (by decide) sk_71 rfl rfl rfl (Nat.le_of_ble_eq_true rfl) rfl ?_
      refine Ev_iadd (dt_X12_stepTo.at 34 rfl) ?_
      refine Ev_aload_n 1 (dt_X12_stepTo.at 35 rfl) rfl ?_
      obtain ⟨q9, hq9, h⟩ := oBind h
      refine Ev_callV (st := [.int (((gI σ 71 9) - 1) + q8), .ref 71]) (st' := [.int q9, .int (((gI σ 71 9) - 1) + q8), .ref 71]) [] (dt_X12_stepTo.at 36 rfl) cf_X12_91 (w_m_ring σ  q9 hq9) (by decide) sk_71 rfl rfl rfl (Nat.le_of_ble_eq_true rfl) rfl ?_
      obtain ⟨g10, h⟩ := oGuard h
      refine Ev_irem (dt_X12_stepTo.at 37 rfl) g10 ?_
      refine Ev_putI (dt_X12_stepTo.at 38 rfl) ff_X12_116 fw_12_9 sk_71 rfl ?_
      refine Ev_nmS (fun s11 es11 => ?_)
      replace h := oLt h es11
      exact Ev_vret (dt_X12_stepTo.at 39 rfl) rfl h
    · replace h := oNeg h c7
      refine Ev_aload_n 1 (dt_X12_stepTo.at 20 rfl) rfl ?_
      refine Ev_get (i := 9) (v := .int (gI σ 71 9)) (dt_X12_stepTo.at 21 rfl) ff_X12_116 sk_71 rfl rfl ?_
      refine Ev_iconst (dt_X12_stepTo.at 22 rfl) ki_1 ?_
      refine Ev_iadd (dt_X12_stepTo.at 23 rfl) ?_
      refine Ev_aload_n 1 (dt_X12_stepTo.at 24 rfl) rfl ?_
      obtain ⟨q12, hq12, h⟩ := oBind h
      refine Ev_callV (st := [.int ((gI σ 71 9) + 1), .ref 71]) (st' := [.int q12, .int ((gI σ 71 9) + 1), .ref 71]) [] (dt_X12_stepTo.at 25 rfl) cf_X12_91 (w_m_ring σ  q12 hq12) (by decide) sk_71 rfl rfl rfl (Nat.le_of_ble_eq_true rfl) rfl ?_
      obtain ⟨g13, h⟩ := oGuard h
      refine Ev_irem (dt_X12_stepTo.at 26 rfl) g13 ?_
      refine Ev_goto (tgt := 62) (dt_X12_stepTo.at 27 rfl) (by decide) ?_
      refine Ev_putI (dt_X12_stepTo.at 38 rfl) ff_X12_116 fw_12_9 sk_71 rfl ?_
      refine Ev_nmS (fun s14 es14 => ?_)
      replace h := oLt h es14
      exact Ev_vret (dt_X12_stepTo.at 39 rfl) rfl h
def s_m_isFast (σ : Sg)  : Option Int32 :=
  (s_m_of σ (gI σ 76 (Int32.toNatClampNeg 0)) 1).bind fun q1 =>
  if q1 < 5 then
    some 0
  else
    (s_m_of σ (gI σ 76 (Int32.toNatClampNeg 1)) 1).bind fun q3 =>
    if q3 < 5 then
      some 0
    else
      (s_m_of σ (gI σ 76 (Int32.toNatClampNeg 2)) 1).bind fun q5 =>
      if q5 < 5 then
        some 0
      else
        some 1
set_option maxRecDepth 100000 in
set_option maxHeartbeats 4000000 in
theorem w_m_isFast (σ : Sg)  (q : Int32) (h : s_m_isFast σ  = some q) : Cal M_X12_isFast 1 [.ref 71] σ (some (.int q)) σ := by
  refine Cal.of (M := M_X12_isFast) (by decide +kernel) (Nat.le_of_ble_eq_true rfl) ?_
  show Ev _ _ _ _ 0 [(0, .ref 71)] [] σ
  unfold s_m_isFast at h
  refine Ev_aload_n 0 (dt_X12_isFast.at 0 rfl) rfl ?_
  refine Ev_aload_n 0 (dt_X12_isFast.at 1 rfl) rfl ?_
  refine Ev_get (i := 6) (v := .ref 76) (dt_X12_isFast.at 2 rfl) ff_X12_27 sk_71 rfl rfl ?_
  refine Ev_iconst (dt_X12_isFast.at 3 rfl) ki_0 ?_
  refine Ev_iaload 76 (dt_X12_isFast.at 4 rfl) sk_76 ib_0_3 ?_
  refine Ev_iconst (dt_X12_isFast.at 5 rfl) ki_1 ?_
  obtain ⟨q1, hq1, h⟩ := oBind h
  refine Ev_callV (st := []) (st' := [.int q1]) [.int (gI σ 76 (Int32.toNatClampNeg 0)), .int 1] (dt_X12_isFast.at 6 rfl) cf_X12_82 (w_m_of σ (gI σ 76 (Int32.toNatClampNeg 0)) 1 q1 hq1) (by decide) sk_71 rfl rfl rfl (Nat.le_of_ble_eq_true rfl) rfl ?_
  refine Ev_iconst (dt_X12_isFast.at 7 rfl) ki_5 ?_
  refine Ev_icmp_lt (tgt := 49) (dt_X12_isFast.at 8 rfl) (by decide) (fun c2 => ?_) (fun c2 => ?_)
  · replace h := oPos h c2
    refine Ev_iconst (dt_X12_isFast.at 29 rfl) ki_0 ?_
    exact Ev_zret (dt_X12_isFast.at 30 rfl) rfl (by decide) (oRet h)
  · replace h := oNeg h c2
    refine Ev_aload_n 0 (dt_X12_isFast.at 9 rfl) rfl ?_
    refine Ev_aload_n 0 (dt_X12_isFast.at 10 rfl) rfl ?_
    refine Ev_get (i := 6) (v := .ref 76) (dt_X12_isFast.at 11 rfl) ff_X12_27 sk_71 rfl rfl ?_
    refine Ev_iconst (dt_X12_isFast.at 12 rfl) ki_1 ?_
    refine Ev_iaload 76 (dt_X12_isFast.at 13 rfl) sk_76 ib_1_3 ?_
    refine Ev_iconst (dt_X12_isFast.at 14 rfl) ki_1 ?_
    obtain ⟨q3, hq3, h⟩ := oBind h
    refine Ev_callV (st := []) (st' := [.int q3]) [.int (gI σ 76 (Int32.toNatClampNeg 1)), .int 1] (dt_X12_isFast.at 15 rfl) cf_X12_82 (w_m_of σ (gI σ 76 (Int32.toNatClampNeg 1)) 1 q3 hq3) (by decide) sk_71 rfl rfl rfl (Nat.le_of_ble_eq_true rfl) rfl ?_
    refine Ev_iconst (dt_X12_isFast.at 16 rfl) ki_5 ?_
    refine Ev_icmp_lt (tgt := 49) (dt_X12_isFast.at 17 rfl) (by decide) (fun c4 => ?_) (fun c4 => ?_)
    · replace h := oPos h c4
      refine Ev_iconst (dt_X12_isFast.at 29 rfl) ki_0 ?_
      exact Ev_zret (dt_X12_isFast.at 30 rfl) rfl (by decide) (oRet h)
    · replace h := oNeg h c4
      refine Ev_aload_n 0 (dt_X12_isFast.at 18 rfl) rfl ?_
      refine Ev_aload_n 0 (dt_X12_isFast.at 19 rfl) rfl ?_
      refine Ev_get (i := 6) (v := .ref 76) (dt_X12_isFast.at 20 rfl) ff_X12_27 sk_71 rfl rfl ?_
      refine Ev_iconst (dt_X12_isFast.at 21 rfl) ki_2 ?_
      refine Ev_iaload 76 (dt_X12_isFast.at 22 rfl) sk_76 ib_2_3 ?_
      refine Ev_iconst (dt_X12_isFast.at 23 rfl) ki_1 ?_
      obtain ⟨q5, hq5, h⟩ := oBind h
      refine Ev_callV (st := []) (st' := [.int q5]) [.int (gI σ 76 (Int32.toNatClampNeg 2)), .int 1] (dt_X12_isFast.at 24 rfl) cf_X12_82 (w_m_of σ (gI σ 76 (Int32.toNatClampNeg 2)) 1 q5 hq5) (by decide) sk_71 rfl rfl rfl (Nat.le_of_ble_eq_true rfl) rfl ?_
      refine Ev_iconst (dt_X12_isFast.at 25 rfl) ki_5 ?_
      refine Ev_icmp_lt (tgt := 49) (dt_X12_isFast.at 26 rfl) (by decide) (fun c6 => ?_) (fun c6 => ?_)
      · replace h := oPos h c6
        refine Ev_iconst (dt_X12_isFast.at 29 rfl) ki_0 ?_
        exact Ev_zret (dt_X12_isFast.at 30 rfl) rfl (by decide) (oRet h)
      · replace h := oNeg h c6
        refine Ev_iconst (dt_X12_isFast.at 27 rfl) ki_1 ?_
        refine Ev_goto (tgt := 50) (dt_X12_isFast.at 28 rfl) (by decide) ?_
        exact Ev_zret (dt_X12_isFast.at 30 rfl) rfl (by decide) (oRet h)
