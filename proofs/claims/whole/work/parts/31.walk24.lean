def b_m_doAll_12 (v1 : Int32) (v3 : Int32) (x : (Sg × Int32 × Int32)) : Option ((Sg × Int32 × Int32) ⊕ (Sg × Int32 × Int32)) :=
  if inB v3 3 = true then
    (s_m_of x.1 (gI x.1 76 (Int32.toNatClampNeg v3)) 2).bind fun q3 =>
    if q3 ≤ x.2.2 then
      some (.inr (x.1, x.2.1, x.2.2))
    else
      (s_m_isOpen x.1 v3 x.2.2 v1).bind fun q5 =>
      if q5 = 0 then
        lt (x.2.2 + 1 : Int32) fun x7 =>
        some (.inl (x.1, x.2.1, x7))
      else
        if inB v3 3 = true then
          (s_m_placeOf x.1 (gI x.1 76 (Int32.toNatClampNeg v3)) x.2.2).bind fun q9 =>
          if q9 = (gI x.1 71 9) then
            if inB v3 3 = true then
              if inB v3 3 = true then
                lt (pI x.1 77 (Int32.toNatClampNeg v3) ((gI x.1 77 (Int32.toNatClampNeg v3)) ||| ((1 : Int32) <<< (x.2.2 &&& 31))) : Sg) fun s14 =>
                lt (x.2.1 + 1 : Int32) fun x15 =>
                lt (x.2.2 + 1 : Int32) fun x16 =>
                some (.inl (s14, x15, x16))
              else none
            else none
          else
            lt (x.2.2 + 1 : Int32) fun x11 =>
            some (.inl (x.1, x.2.1, x11))
        else none
  else none
def b_m_doAll_4 (v1 : Int32) (x : (Sg × Int32 × Int32)) : Option ((Sg × Int32 × Int32) ⊕ (Sg × Int32 × Int32)) :=
  if 3 ≤ x.2.2 then
    some (.inr (x.1, x.2.1, x.2.2))
  else
    (lp (b_m_doAll_12 v1 x.2.2) 100000 (x.1, x.2.1, 0)).bind fun o17 =>
    lt (x.2.2 + 1 : Int32) fun x18 =>
    some (.inl (o17.1, o17.2.1, x18))
def s_m_doAll (σ : Sg) (a1 : Int32) : Option (Int32 × Sg) :=
  (lp (b_m_doAll_4 a1) 100000 (σ, 0, 0)).bind fun o19 =>
  some (o19.2.1, o19.1)
set_option maxRecDepth 100000 in
set_option maxHeartbeats 4000000 in
theorem wb_m_doAll_12 (v1 : Int32) (v3 : Int32) (x : (Sg × Int32 × Int32)) (r : Option Value) (τ : Sg) (o : ((Sg × Int32 × Int32) ⊕ (Sg × Int32 × Int32))) (h : (b_m_doAll_12 v1 v3 x) = some o) (hc : ∀ y : (Sg × Int32 × Int32), o = .inl y → Ev M_X12_doAll 3 r τ 12 [(0, .ref 71), (1, .int v1), (2, .int y.2.1), (3, .int v3), (4, .int y.2.2)] [] y.1) (he : ∀ y : (Sg × Int32 × Int32), o = .inr y → Ev M_X12_doAll 3 r τ 80 [(0, .ref 71), (1, .int v1), (2, .int y.2.1), (3, .int v3)] [] y.1) : Ev M_X12_doAll 3 r τ 12 [(0, .ref 71), (1, .int v1), (2, .int x.2.1), (3, .int v3), (4, .int x.2.2)] [] x.1 := by
  unfold b_m_doAll_12 at h
  refine Ev_iload 4 (dt_X12_doAll.at 9 rfl) rfl ?_
  refine Ev_aload_n 0 (dt_X12_doAll.at 10 rfl) rfl ?_
  refine Ev_aload_n 0 (dt_X12_doAll.at 11 rfl) rfl ?_
  refine Ev_get (i := 6) (v := .ref 76) (dt_X12_doAll.at 12 rfl) ff_X12_27 sk_71 rfl rfl ?_
  refine Ev_iload_n 3 (dt_X12_doAll.at 13 rfl) rfl ?_
  obtain ⟨g2, h⟩ := oGuard h
  refine Ev_iaload 76 (dt_X12_doAll.at 14 rfl) sk_76 g2 ?_
  refine Ev_iconst (dt_X12_doAll.at 15 rfl) ki_2 ?_
  obtain ⟨q3, hq3, h⟩ := oBind h
  refine Ev_callV (st := [.int x.2.2]) (st' := [.int q3, .int x.2.2]) [.int (gI x.1 76 (Int32.toNatClampNeg v3)), .int 2] (dt_X12_doAll.at 16 rfl) cf_X12_82 (w_m_of x.1 (gI x.1 76 (Int32.toNatClampNeg v3)) 2 q3 hq3) (by decide) sk_71 rfl rfl rfl (Nat.le_of_ble_eq_true rfl) rfl ?_
  refine Ev_icmp_ge (tgt := 80) (dt_X12_doAll.at 17 rfl) (by decide) (fun c4 => ?_) (fun c4 => ?_)
  · replace h := oPos h c4
    refine Ev_sub [0, 1, 2, 3] (ls' := [(0, .ref 71), (1, .int v1), (2, .int x.2.1), (3, .int v3)]) rfl ?_
    exact he (x.1, x.2.1, x.2.2) (Option.some.inj h).symm
  · replace h := oNeg h c4
    refine Ev_aload_n 0 (dt_X12_doAll.at 18 rfl) rfl ?_
    refine Ev_iload_n 3 (dt_X12_doAll.at 19 rfl) rfl ?_
    refine Ev_iload 4 (dt_X12_doAll.at 20 rfl) rfl ?_
    refine Ev_iload_n 1 (dt_X12_doAll.at 21 rfl) rfl ?_
    obtain ⟨q5, hq5, h⟩ := oBind h
    refine Ev_callV (st := []) (st' := [.int q5]) [.int v3, .int x.2.2, .int v1] (dt_X12_doAll.at 22 rfl) cf_X12_123 (w_m_isOpen x.1 v3 x.2.2 v1 q5 hq5) (by decide) sk_71 rfl rfl rfl (Nat.le_of_ble_eq_true rfl) rfl ?_
    refine Ev_if_eq (tgt := 74) (dt_X12_doAll.at 23 rfl) (by decide) (fun c6 => ?_) (fun c6 => ?_)
    · replace h := oPos h c6
      obtain ⟨x7, ex7⟩ : ∃ z : Int32, z = x.2.2 + 1 := ⟨_, rfl⟩
      replace h := oLt h ex7
      refine Ev_iinc (v := x7) 4 (dt_X12_doAll.at 45 rfl) rfl (ex7.trans (congrArg (fun z => x.2.2 + z) ki_1.symm)) (by decide) (ls' := [(4, .int x7), (0, .ref 71), (1, .int v1), (2, .int x.2.1), (3, .int v3)]) rfl ?_
      refine Ev_goto (tgt := 12) (dt_X12_doAll.at 46 rfl) (by decide) ?_
      refine Ev_sub [1, 2, 3, 4, 0] (ls' := [(0, .ref 71), (1, .int v1), (2, .int x.2.1), (3, .int v3), (4, .int x7)]) rfl ?_
      exact hc (x.1, x.2.1, x7) (Option.some.inj h).symm
    · replace h := oNeg h c6
      refine Ev_aload_n 0 (dt_X12_doAll.at 24 rfl) rfl ?_
      refine Ev_aload_n 0 (dt_X12_doAll.at 25 rfl) rfl ?_
      refine Ev_get (i := 6) (v := .ref 76) (dt_X12_doAll.at 26 rfl) ff_X12_27 sk_71 rfl rfl ?_
      refine Ev_iload_n 3 (dt_X12_doAll.at 27 rfl) rfl ?_
      obtain ⟨g8, h⟩ := oGuard h
      refine Ev_iaload 76 (dt_X12_doAll.at 28 rfl) sk_76 g8 ?_
      refine Ev_iload 4 (dt_X12_doAll.at 29 rfl) rfl ?_
      obtain ⟨q9, hq9, h⟩ := oBind h
      refine Ev_callV (st := []) (st' := [.int q9]) [.int (gI x.1 76 (Int32.toNatClampNeg v3)), .int x.2.2] (dt_X12_doAll.at 30 rfl) cf_X12_130 (w_m_placeOf x.1 (gI x.1 76 (Int32.toNatClampNeg v3)) x.2.2 q9 hq9) (by decide) sk_71 rfl rfl rfl (Nat.le_of_ble_eq_true rfl) rfl ?_
      refine Ev_aload_n 0 (dt_X12_doAll.at 31 rfl) rfl ?_
      refine Ev_get (i := 9) (v := .int (gI x.1 71 9)) (dt_X12_doAll.at 32 rfl) ff_X12_116 sk_71 rfl rfl ?_
      refine Ev_icmp_ne (tgt := 74) (dt_X12_doAll.at 33 rfl) (by decide) (fun c10 => ?_) (fun c10 => ?_)
      · replace h := oNeg h c10
        obtain ⟨x11, ex11⟩ : ∃ z : Int32, z = x.2.2 + 1 := ⟨_, rfl⟩
        replace h := oLt h ex11
        refine Ev_iinc (v := x11) 4 (dt_X12_doAll.at 45 rfl) rfl (ex11.trans (congrArg (fun z => x.2.2 + z) ki_1.symm)) (by decide) (ls' := [(4, .int x11), (0, .ref 71), (1, .int v1), (2, .int x.2.1), (3, .int v3)]) rfl ?_
        refine Ev_goto (tgt := 12) (dt_X12_doAll.at 46 rfl) (by decide) ?_
        refine Ev_sub [1, 2, 3, 4, 0] (ls' := [(0, .ref 71), (1, .int v1), (2, .int x.2.1), (3, .int v3), (4, .int x11)]) rfl ?_
        exact hc (x.1, x.2.1, x11) (Option.some.inj h).symm
      · replace h := oPos h c10
        refine Ev_aload_n 0 (dt_X12_doAll.at 34 rfl) rfl ?_
        refine Ev_get (i := 7) (v := .ref 77) (dt_X12_doAll.at 35 rfl) ff_X12_30 sk_71 rfl rfl ?_
        refine Ev_iload_n 3 (dt_X12_doAll.at 36 rfl) rfl ?_
        refine Ev_dup2 (dt_X12_doAll.at 37 rfl) rfl rfl ?_
        obtain ⟨g12, h⟩ := oGuard h
        refine Ev_iaload 77 (dt_X12_doAll.at 38 rfl) sk_77 g12 ?_
        refine Ev_iconst (dt_X12_doAll.at 39 rfl) ki_1 ?_
        refine Ev_iload 4 (dt_X12_doAll.at 40 rfl) rfl ?_
        refine Ev_ishl (dt_X12_doAll.at 41 rfl) ?_
        refine Ev_ior (dt_X12_doAll.at 42 rfl) ?_
        obtain ⟨g13, h⟩ := oGuard h
        refine Ev_iastore 77 (dt_X12_doAll.at 43 rfl) sk_77 g13 ?_
        refine Ev_nmS (fun s14 es14 => ?_)
        replace h := oLt h es14
        obtain ⟨x15, ex15⟩ : ∃ z : Int32, z = x.2.1 + 1 := ⟨_, rfl⟩
        replace h := oLt h ex15
        refine Ev_iinc (v := x15) 2 (dt_X12_doAll.at 44 rfl) rfl (ex15.trans (congrArg (fun z => x.2.1 + z) ki_1.symm)) (by decide) (ls' := [(2, .int x15), (0, .ref 71), (1, .int v1), (3, .int v3), (4, .int x.2.2)]) rfl ?_
        obtain ⟨x16, ex16⟩ : ∃ z : Int32, z = x.2.2 + 1 := ⟨_, rfl⟩
        replace h := oLt h ex16
        refine Ev_iinc (v := x16) 4 (dt_X12_doAll.at 45 rfl) rfl (ex16.trans (congrArg (fun z => x.2.2 + z) ki_1.symm)) (by decide) (ls' := [(4, .int x16), (2, .int x15), (0, .ref 71), (1, .int v1), (3, .int v3)]) rfl ?_
        refine Ev_goto (tgt := 12) (dt_X12_doAll.at 46 rfl) (by decide) ?_
        refine Ev_sub [2, 3, 1, 4, 0] (ls' := [(0, .ref 71), (1, .int v1), (2, .int x15), (3, .int v3), (4, .int x16)]) rfl ?_
        exact hc (s14, x15, x16) (Option.some.inj h).symm
set_option maxRecDepth 100000 in
set_option maxHeartbeats 4000000 in
theorem wl_m_doAll_12 (v1 : Int32) (v3 : Int32) (r : Option Value) (τ : Sg) (n : Nat) (x : (Sg × Int32 × Int32)) (z : (Sg × Int32 × Int32)) (h : lp (b_m_doAll_12 v1 v3) n x = some z) (he : ∀ y : (Sg × Int32 × Int32), z = y → Ev M_X12_doAll 3 r τ 80 [(0, .ref 71), (1, .int v1), (2, .int y.2.1), (3, .int v3)] [] y.1) : Ev M_X12_doAll 3 r τ 12 [(0, .ref 71), (1, .int v1), (2, .int x.2.1), (3, .int v3), (4, .int x.2.2)] [] x.1 := by
  refine lp_ind (E := fun x : (Sg × Int32 × Int32) => Ev M_X12_doAll 3 r τ 12 [(0, .ref 71), (1, .int v1), (2, .int x.2.1), (3, .int v3), (4, .int x.2.2)] [] x.1) (fun x => ⟨fun y hb hy => ?_, fun hb => ?_⟩) n x h
  · exact wb_m_doAll_12 v1 v3 x r τ _ hb (fun y' e => by cases e; exact hy) (fun y' e => by cases e)
  · exact wb_m_doAll_12 v1 v3 x r τ _ hb (fun y' e => by cases e) (fun y' e => he y' (Sum.inr.inj e))
set_option maxRecDepth 100000 in
set_option maxHeartbeats 4000000 in
theorem wb_m_doAll_4 (v1 : Int32) (x : (Sg × Int32 × Int32)) (r : Option Value) (τ : Sg) (o : ((Sg × Int32 × Int32) ⊕ (Sg × Int32 × Int32))) (h : (b_m_doAll_4 v1 x) = some o) (hc : ∀ y : (Sg × Int32 × Int32), o = .inl y → Ev M_X12_doAll 3 r τ 4 [(0, .ref 71), (1, .int v1), (2, .int y.2.1), (3, .int y.2.2)] [] y.1) (he : ∀ y : (Sg × Int32 × Int32), o = .inr y → Ev M_X12_doAll 3 r τ 86 [(2, .int y.2.1)] [] y.1) : Ev M_X12_doAll 3 r τ 4 [(0, .ref 71), (1, .int v1), (2, .int x.2.1), (3, .int x.2.2)] [] x.1 := by
  unfold b_m_doAll_4 at h
  refine Ev_iload_n 3 (dt_X12_doAll.at 4 rfl) rfl ?_
  refine Ev_iconst (dt_X12_doAll.at 5 rfl) ki_3 ?_
  refine Ev_icmp_ge (tgt := 86) (dt_X12_doAll.at 6 rfl) (by decide) (fun c1 => ?_) (fun c1 => ?_)
  · replace h := oPos h c1
    refine Ev_sub [2] (ls' := [(2, .int x.2.1)]) rfl ?_
    exact he (x.1, x.2.1, x.2.2) (Option.some.inj h).symm
  · replace h := oNeg h c1
    refine Ev_iconst (dt_X12_doAll.at 7 rfl) ki_0 ?_
    refine Ev_istore (dt_X12_doAll.at 8 rfl) (by decide) (ls' := [(4, .int 0), (0, .ref 71), (1, .int v1), (2, .int x.2.1), (3, .int x.2.2)]) rfl ?_
    refine Ev_sub [1, 2, 3, 4, 0] (ls' := [(0, .ref 71), (1, .int v1), (2, .int x.2.1), (3, .int x.2.2), (4, .int 0)]) rfl ?_
    obtain ⟨o17, ho17, h⟩ := oBind h
    refine wl_m_doAll_12 v1 x.2.2 _ _ 100000 (x.1, x.2.1, 0) o17 ho17 (fun y ey => ?_)
    subst ey
    obtain ⟨x18, ex18⟩ : ∃ z : Int32, z = x.2.2 + 1 := ⟨_, rfl⟩
    replace h := oLt h ex18
    refine Ev_iinc (v := x18) 3 (dt_X12_doAll.at 47 rfl) rfl (ex18.trans (congrArg (fun z => x.2.2 + z) ki_1.symm)) (by decide) (ls' := [(3, .int x18), (0, .ref 71), (1, .int v1), (2, .int o17.2.1)]) rfl ?_
    refine Ev_goto (tgt := 4) (dt_X12_doAll.at 48 rfl) (by decide) ?_
    refine Ev_sub [1, 2, 3, 0] (ls' := [(0, .ref 71), (1, .int v1), (2, .int o17.2.1), (3, .int x18)]) rfl ?_
    exact hc (o17.1, o17.2.1, x18) (Option.some.inj h).symm
set_option maxRecDepth 100000 in
set_option maxHeartbeats 4000000 in
theorem wl_m_doAll_4 (v1 : Int32) (r : Option Value) (τ : Sg) (n : Nat) (x : (Sg × Int32 × Int32)) (z : (Sg × Int32 × Int32)) (h : lp (b_m_doAll_4 v1) n x = some z) (he : ∀ y : (Sg × Int32 × Int32), z = y → Ev M_X12_doAll 3 r τ 86 [(2, .int y.2.1)] [] y.1) : Ev M_X12_doAll 3 r τ 4 [(0, .ref 71), (1, .int v1), (2, .int x.2.1), (3, .int x.2.2)] [] x.1 := by
  refine lp_ind (E := fun x : (Sg × Int32 × Int32) => Ev M_X12_doAll 3 r τ 4 [(0, .ref 71), (1, .int v1), (2, .int x.2.1), (3, .int x.2.2)] [] x.1) (fun x => ⟨fun y hb hy => ?_, fun hb => ?_⟩) n x h
  · exact wb_m_doAll_4 v1 x r τ _ hb (fun y' e => by cases e; exact hy) (fun y' e => by cases e)
  · exact wb_m_doAll_4 v1 x r τ _ hb (fun y' e => by cases e) (fun y' e => he y' (Sum.inr.inj e))
set_option maxRecDepth 100000 in
set_option maxHeartbeats 4000000 in
theorem w_m_doAll (σ : Sg) (a1 : Int32) (q : (Int32 × Sg)) (h : s_m_doAll σ a1 = some q) : Cal M_X12_doAll 3 [.ref 71, .int a1] σ (some (.int q.1)) q.2 := by
  refine Cal.of (M := M_X12_doAll) (by decide +kernel) (Nat.le_of_ble_eq_true rfl) ?_
  show Ev _ _ _ _ 0 [(0, .ref 71), (1, .int a1)] [] σ
  unfold s_m_doAll at h
  refine Ev_iconst (dt_X12_doAll.at 0 rfl) ki_0 ?_
  refine Ev_istore_n (dt_X12_doAll.at 1 rfl) (by decide) (ls' := [(2, .int 0), (0, .ref 71), (1, .int a1)]) rfl ?_
  refine Ev_iconst (dt_X12_doAll.at 2 rfl) ki_0 ?_
  refine Ev_istore_n (dt_X12_doAll.at 3 rfl) (by decide) (ls' := [(3, .int 0), (2, .int 0), (0, .ref 71), (1, .int a1)]) rfl ?_
  refine Ev_sub [2, 3, 1, 0] (ls' := [(0, .ref 71), (1, .int a1), (2, .int 0), (3, .int 0)]) rfl ?_
  obtain ⟨o19, ho19, h⟩ := oBind h
  refine wl_m_doAll_4 a1 _ _ 100000 (σ, 0, 0) o19 ho19 (fun y ey => ?_)
  subst ey
  refine Ev_iload_n 0 (dt_X12_doAll.at 49 rfl) rfl ?_
  exact Ev_iret (dt_X12_doAll.at 50 rfl) rfl h
def j_m_goDay_74i9  (σ : Sg) (v2 : Int32) (v3 : Int32) : Option ((Sg × Int32 × Int32) ⊕ (Sg × Int32 × Int32)) :=
  (s_m_doAll σ v3).bind fun q10 =>
  lt ((v2 + q10.1) : Int32) fun x11 =>
  if inB v3 10 = true then
    lt (pI q10.2 78 (Int32.toNatClampNeg v3) (gI q10.2 71 9) : Sg) fun s13 =>
    lt (v3 + 1 : Int32) fun x14 =>
    some (.inl (s13, x11, x14))
  else none
def j_m_goDay_53i9  (σ : Sg) (v2 : Int32) (v3 : Int32) (u0 : Int32) : Option ((Sg × Int32 × Int32) ⊕ (Sg × Int32 × Int32)) :=
  (s_m_stepTo σ u0).bind fun q7 =>
  (s_m_isFast q7 ).bind fun q8 =>
  if q8 = 0 then
    j_m_goDay_74i9  q7 v2 v3
  else
    (s_m_stepTo q7 u0).bind fun q15 =>
    j_m_goDay_74i9  q15 v2 v3
def b_m_goDay_9  (x : (Sg × Int32 × Int32)) : Option ((Sg × Int32 × Int32) ⊕ (Sg × Int32 × Int32)) :=
  if 10 ≤ x.2.2 then
    some (.inr (x.1, x.2.1, x.2.2))
  else
    (s_m_vote x.1 0 x.2.2).bind fun q3 =>
    (s_m_vote x.1 1 x.2.2).bind fun q4 =>
    (s_m_vote x.1 2 x.2.2).bind fun q5 =>
    if q4 = q5 then
      j_m_goDay_53i9  x.1 x.2.1 x.2.2 q4
    else
      j_m_goDay_53i9  x.1 x.2.1 x.2.2 q3
def s_m_goDay (σ : Sg) (a1 : Int32) : Option (Int32 × Sg) :=
  (s_m_takeThree σ a1).bind fun q1 =>
  (lp (b_m_goDay_9 ) 100000 (q1, 0, 0)).bind fun o16 =>
  some (o16.2.1, o16.1)
set_option maxRecDepth 100000 in
set_option maxHeartbeats 4000000 in
theorem wj_m_goDay_74i9  (σ : Sg) (v2 : Int32) (v3 : Int32) (r : Option Value) (τ : Sg) (o : ((Sg × Int32 × Int32) ⊕ (Sg × Int32 × Int32))) (h : (j_m_goDay_74i9  σ v2 v3) = some o) (hc : ∀ y : (Sg × Int32 × Int32), o = .inl y → Ev M_X12_goDay 7 r τ 9 [(0, .ref 71), (2, .int y.2.1), (3, .int y.2.2)] [] y.1) (he : ∀ y : (Sg × Int32 × Int32), o = .inr y → Ev M_X12_goDay 7 r τ 98 [(2, .int y.2.1)] [] y.1) : Ev M_X12_goDay 7 r τ 74 [(0, .ref 71), (2, .int v2), (3, .int v3)] [] σ := by
  unfold j_m_goDay_74i9 at h
  refine Ev_iload_n 1 (dt_X12_goDay.at 41 rfl) rfl ?_
  refine Ev_aload_n 0 (dt_X12_goDay.at 42 rfl) rfl ?_
  refine Ev_iload_n 2 (dt_X12_goDay.at 43 rfl) rfl ?_
  obtain ⟨q10, hq10, h⟩ := oBind h
  refine Ev_callV (st := [.int v2]) (st' := [.int q10.1, .int v2]) [.int v3] (dt_X12_goDay.at 44 rfl) cf_X12_156 (w_m_doAll σ v3 q10 hq10) (by decide) sk_71 rfl rfl rfl (Nat.le_of_ble_eq_true rfl) rfl ?_
  refine Ev_iadd (dt_X12_goDay.at 45 rfl) ?_
  refine Ev_nmI (fun x11 ex11 => ?_)
  replace h := oLt h ex11
  refine Ev_istore_n (dt_X12_goDay.at 46 rfl) (by decide) (ls' := [(2, .int x11), (0, .ref 71), (3, .int v3)]) rfl ?_
  refine Ev_aload_n 1 (dt_X12_goDay.at 47 rfl) rfl ?_
  refine Ev_get (i := 8) (v := .ref 78) (dt_X12_goDay.at 48 rfl) ff_X12_33 sk_71 rfl rfl ?_
  refine Ev_iload_n 2 (dt_X12_goDay.at 49 rfl) rfl ?_
  refine Ev_aload_n 1 (dt_X12_goDay.at 50 rfl) rfl ?_
  refine Ev_get (i := 9) (v := .int (gI q10.2 71 9)) (dt_X12_goDay.at 51 rfl) ff_X12_116 sk_71 rfl rfl ?_
  obtain ⟨g12, h⟩ := oGuard h
  refine Ev_iastore 78 (dt_X12_goDay.at 52 rfl) sk_78 g12 ?_
  refine Ev_nmS (fun s13 es13 => ?_)
  replace h := oLt h es13
  obtain ⟨x14, ex14⟩ : ∃ z : Int32, z = v3 + 1 := ⟨_, rfl⟩
  replace h := oLt h ex14
  refine Ev_iinc (v := x14) 2 (dt_X12_goDay.at 53 rfl) rfl (ex14.trans (congrArg (fun z => v3 + z) ki_1.symm)) (by decide) (ls' := [(3, .int x14), (2, .int x11), (0, .ref 71)]) rfl ?_
  refine Ev_goto (tgt := 9) (dt_X12_goDay.at 54 rfl) (by decide) ?_
  refine Ev_sub [2, 1, 0] (ls' := [(0, .ref 71), (2, .int x11), (3, .int x14)]) rfl ?_
  exact hc (s13, x11, x14) (Option.some.inj h).symm
set_option maxRecDepth 100000 in
set_option maxHeartbeats 4000000 in
theorem wj_m_goDay_53i9  (σ : Sg) (v2 : Int32) (v3 : Int32) (u0 : Int32) (r : Option Value) (τ : Sg) (o : ((Sg × Int32 × Int32) ⊕ (Sg × Int32 × Int32))) (h : (j_m_goDay_53i9  σ v2 v3 u0) = some o) (hc : ∀ y : (Sg × Int32 × Int32), o = .inl y → Ev M_X12_goDay 7 r τ 9 [(0, .ref 71), (2, .int y.2.1), (3, .int y.2.2)] [] y.1) (he : ∀ y : (Sg × Int32 × Int32), o = .inr y → Ev M_X12_goDay 7 r τ 98 [(2, .int y.2.1)] [] y.1) : Ev M_X12_goDay 7 r τ 53 [(0, .ref 71), (2, .int v2), (3, .int v3)] [.int u0] σ := by
  unfold j_m_goDay_53i9 at h
  refine Ev_istore (dt_X12_goDay.at 31 rfl) (by decide) (ls' := [(7, .int u0), (0, .ref 71), (2, .int v2), (3, .int v3)]) rfl ?_
  refine Ev_aload_n 1 (dt_X12_goDay.at 32 rfl) rfl ?_
  refine Ev_iload 0 (dt_X12_goDay.at 33 rfl) rfl ?_
  obtain ⟨q7, hq7, h⟩ := oBind h
  refine Ev_callV (st := []) (st' := []) [.int u0] (dt_X12_goDay.at 34 rfl) cf_X12_149 (w_m_stepTo σ u0 q7 hq7) (by decide) sk_71 rfl rfl rfl (Nat.le_of_ble_eq_true rfl) rfl ?_
  refine Ev_aload_n 1 (dt_X12_goDay.at 35 rfl) rfl ?_
  obtain ⟨q8, hq8, h⟩ := oBind h
  refine Ev_callV (st := []) (st' := [.int q8]) [] (dt_X12_goDay.at 36 rfl) cf_X12_152 (w_m_isFast q7  q8 hq8) (by decide) sk_71 rfl rfl rfl (Nat.le_of_ble_eq_true rfl) rfl ?_
  refine Ev_if_eq (tgt := 74) (dt_X12_goDay.at 37 rfl) (by decide) (fun c9 => ?_) (fun c9 => ?_)
  · replace h := oPos h c9
    refine Ev_sub [1, 2, 3] (ls' := [(0, .ref 71), (2, .int v2), (3, .int v3)]) rfl ?_
    exact wj_m_goDay_74i9  q7 v2 v3 _ _ _ h hc he
  · replace h := oNeg h c9
    refine Ev_aload_n 1 (dt_X12_goDay.at 38 rfl) rfl ?_
    refine Ev_iload 0 (dt_X12_goDay.at 39 rfl) rfl ?_
    obtain ⟨q15, hq15, h⟩ := oBind h
    refine Ev_callV (st := []) (st' := []) [.int u0] (dt_X12_goDay.at 40 rfl) cf_X12_149 (w_m_stepTo q7 u0 q15 hq15) (by decide) sk_71 rfl rfl rfl (Nat.le_of_ble_eq_true rfl) rfl ?_
    refine Ev_sub [1, 2, 3] (ls' := [(0, .ref 71), (2, .int v2), (3, .int v3)]) rfl ?_
    exact wj_m_goDay_74i9  q15 v2 v3 _ _ _ h hc he
set_option maxRecDepth 100000 in
set_option maxHeartbeats 4000000 in
theorem wb_m_goDay_9  (x : (Sg × Int32 × Int32)) (r : Option Value) (τ : Sg) (o : ((Sg × Int32 × Int32) ⊕ (Sg × Int32 × Int32))) (h : (b_m_goDay_9  x) = some o) (hc : ∀ y : (Sg × Int32 × Int32), o = .inl y → Ev M_X12_goDay 7 r τ 9 [(0, .ref 71), (2, .int y.2.1), (3, .int y.2.2)] [] y.1) (he : ∀ y : (Sg × Int32 × Int32), o = .inr y → Ev M_X12_goDay 7 r τ 98 [(2, .int y.2.1)] [] y.1) : Ev M_X12_goDay 7 r τ 9 [(0, .ref 71), (2, .int x.2.1), (3, .int x.2.2)] [] x.1 := by
  unfold b_m_goDay_9 at h
  refine Ev_iload_n 2 (dt_X12_goDay.at 7 rfl) rfl ?_
  refine Ev_bipush (dt_X12_goDay.at 8 rfl) kb_10 ?_
  refine Ev_icmp_ge (tgt := 98) (dt_X12_goDay.at 9 rfl) (by decide) (fun c2 => ?_) (fun c2 => ?_)
  · replace h := oPos h c2
    refine Ev_sub [1] (ls' := [(2, .int x.2.1)]) rfl ?_
    exact he (x.1, x.2.1, x.2.2) (Option.some.inj h).symm
  · replace h := oNeg h c2
    refine Ev_aload_n 0 (dt_X12_goDay.at 10 rfl) rfl ?_
    refine Ev_iconst (dt_X12_goDay.at 11 rfl) ki_0 ?_
    refine Ev_iload_n 2 (dt_X12_goDay.at 12 rfl) rfl ?_
    obtain ⟨q3, hq3, h⟩ := oBind h
    refine Ev_callV (st := []) (st' := [.int q3]) [.int 0, .int x.2.2] (dt_X12_goDay.at 13 rfl) cf_X12_146 (w_m_vote x.1 0 x.2.2 q3 hq3) (by decide) sk_71 rfl rfl rfl (Nat.le_of_ble_eq_true rfl) rfl ?_
    refine Ev_istore (dt_X12_goDay.at 14 rfl) (by decide) (ls' := [(4, .int q3), (0, .ref 71), (2, .int x.2.1), (3, .int x.2.2)]) rfl ?_
    refine Ev_aload_n 1 (dt_X12_goDay.at 15 rfl) rfl ?_
    refine Ev_iconst (dt_X12_goDay.at 16 rfl) ki_1 ?_
    refine Ev_iload_n 3 (dt_X12_goDay.at 17 rfl) rfl ?_
    obtain ⟨q4, hq4, h⟩ := oBind h
    refine Ev_callV (st := []) (st' := [.int q4]) [.int 1, .int x.2.2] (dt_X12_goDay.at 18 rfl) cf_X12_146 (w_m_vote x.1 1 x.2.2 q4 hq4) (by decide) sk_71 rfl rfl rfl (Nat.le_of_ble_eq_true rfl) rfl ?_
    refine Ev_istore (dt_X12_goDay.at 19 rfl) (by decide) (ls' := [(5, .int q4), (4, .int q3), (0, .ref 71), (2, .int x.2.1), (3, .int x.2.2)]) rfl ?_
    refine Ev_aload_n 2 (dt_X12_goDay.at 20 rfl) rfl ?_
    refine Ev_iconst (dt_X12_goDay.at 21 rfl) ki_2 ?_
    refine Ev_iload_n 4 (dt_X12_goDay.at 22 rfl) rfl ?_
    obtain ⟨q5, hq5, h⟩ := oBind h
    refine Ev_callV (st := []) (st' := [.int q5]) [.int 2, .int x.2.2] (dt_X12_goDay.at 23 rfl) cf_X12_146 (w_m_vote x.1 2 x.2.2 q5 hq5) (by decide) sk_71 rfl rfl rfl (Nat.le_of_ble_eq_true rfl) rfl ?_
    refine Ev_istore (dt_X12_goDay.at 24 rfl) (by decide) (ls' := [(6, .int q5), (5, .int q4), (4, .int q3), (0, .ref 71), (2, .int x.2.1), (3, .int x.2.2)]) rfl ?_
    refine Ev_iload 1 (dt_X12_goDay.at 25 rfl) rfl ?_
    refine Ev_iload 0 (dt_X12_goDay.at 26 rfl) rfl ?_
    refine Ev_icmp_ne (tgt := 51) (dt_X12_goDay.at 27 rfl) (by decide) (fun c6 => ?_) (fun c6 => ?_)
    · replace h := oNeg h c6
      refine Ev_iload 2 (dt_X12_goDay.at 30 rfl) rfl ?_
      refine Ev_sub [3, 4, 5] (ls' := [(0, .ref 71), (2, .int x.2.1), (3, .int x.2.2)]) rfl ?_
      exact wj_m_goDay_53i9  x.1 x.2.1 x.2.2 q3 _ _ _ h hc he
    · replace h := oPos h c6
      refine Ev_iload 1 (dt_X12_goDay.at 28 rfl) rfl ?_
      refine Ev_goto (tgt := 53) (dt_X12_goDay.at 29 rfl) (by decide) ?_
      refine Ev_sub [3, 4, 5] (ls' := [(0, .ref 71), (2, .int x.2.1), (3, .int x.2.2)]) rfl ?_
      exact wj_m_goDay_53i9  x.1 x.2.1 x.2.2 q4 _ _ _ h hc he
set_option maxRecDepth 100000 in
set_option maxHeartbeats 4000000 in
theorem wl_m_goDay_9  (r : Option Value) (τ : Sg) (n : Nat) (x : (Sg × Int32 × Int32)) (z : (Sg × Int32 × Int32)) (h : lp (b_m_goDay_9 ) n x = some z) (he : ∀ y : (Sg × Int32 × Int32), z = y → Ev M_X12_goDay 7 r τ 98 [(2, .int y.2.1)] [] y.1) : Ev M_X12_goDay 7 r τ 9 [(0, .ref 71), (2, .int x.2.1), (3, .int x.2.2)] [] x.1 := by
  refine lp_ind (E := fun x : (Sg × Int32 × Int32) => Ev M_X12_goDay 7 r τ 9 [(0, .ref 71), (2, .int x.2.1), (3, .int x.2.2)] [] x.1) (fun x => ⟨fun y hb hy => ?_, fun hb => ?_⟩) n x h
  · exact wb_m_goDay_9  x r τ _ hb (fun y' e => by cases e; exact hy) (fun y' e => by cases e)
  · exact wb_m_goDay_9  x r τ _ hb (fun y' e => by cases e) (fun y' e => he y' (Sum.inr.inj e))
set_option maxRecDepth 100000 in
set_option maxHeartbeats 4000000 in
theorem w_m_goDay (σ : Sg) (a1 : Int32) (q : (Int32 × Sg)) (h : s_m_goDay σ a1 = some q) : Cal M_X12_goDay 7 [.ref 71, .int a1] σ (some (.int q.1)) q.2 := by
  refine Cal.of (M := M_X12_goDay) (by decide +kernel) (Nat.le_of_ble_eq_true rfl) ?_
  show Ev _ _ _ _ 0 [(0, .ref 71), (1, .int a1)] [] σ
  unfold s_m_goDay at h
  refine Ev_aload_n 0 (dt_X12_goDay.at 0 rfl) rfl ?_
  refine Ev_iload_n 1 (dt_X12_goDay.at 1 rfl) rfl ?_
  obtain ⟨q1, hq1, h⟩ := oBind h
  refine Ev_callV (st := []) (st' := []) [.int a1] (dt_X12_goDay.at 2 rfl) cf_X12_142 (w_m_takeThree σ a1 q1 hq1) (by decide) sk_71 rfl rfl rfl (Nat.le_of_ble_eq_true rfl) rfl ?_
  refine Ev_iconst (dt_X12_goDay.at 3 rfl) ki_0 ?_
  refine Ev_istore_n (dt_X12_goDay.at 4 rfl) (by decide) (ls' := [(2, .int 0), (0, .ref 71), (1, .int a1)]) rfl ?_
  refine Ev_iconst (dt_X12_goDay.at 5 rfl) ki_0 ?_
  refine Ev_istore_n (dt_X12_goDay.at 6 rfl) (by decide) (ls' := [(3, .int 0), (2, .int 0), (0, .ref 71), (1, .int a1)]) rfl ?_
  refine Ev_sub [2, 1, 0] (ls' := [(0, .ref 71), (2, .int 0), (3, .int 0)]) rfl ?_
  obtain ⟨o16, ho16, h⟩ := oBind h
  refine wl_m_goDay_9  _ _ 100000 (q1, 0, 0) o16 ho16 (fun y ey => ?_)
  subst ey
  refine Ev_iload_n 0 (dt_X12_goDay.at 55 rfl) rfl ?_
  exact Ev_iret (dt_X12_goDay.at 56 rfl) rfl h
def s_m_day (σ : Sg) (a1 : Int32) (a2 : Int32) : Option (Int32 × Sg) :=
  (s_m_isThree σ a1).bind fun q1 =>
  if q1 = 0 then
    (s_m_bad σ (-10)).bind fun q3 =>
    some (q3.1, q3.2)
  else
    (s_m_in (Int32.toInt64 a2) (-1) 9).bind fun q4 =>
    if q4 = 0 then
      (s_m_bad σ (-10)).bind fun q9 =>
      some (q9.1, q9.2)
    else
      (s_m_goDay σ a1).bind fun q6 =>
      if a2 = (-1) then
        some (q6.1, q6.2)
      else
        if inB a2 10 = true then
          some ((gI q6.2 78 (Int32.toNatClampNeg a2)), q6.2)
        else none
set_option maxRecDepth 100000 in
set_option maxHeartbeats 4000000 in
theorem w_m_day (σ : Sg) (a1 : Int32) (a2 : Int32) (q : (Int32 × Sg)) (h : s_m_day σ a1 a2 = some q) : Cal M_X12_day 8 [.ref 71, .int a1, .int a2] σ (some (.int q.1)) q.2 := by
  refine Cal.of (M := M_X12_day) (by decide +kernel) (Nat.le_of_ble_eq_true rfl) ?_
  show Ev _ _ _ _ 0 [(0, .ref 71), (1, .int a1), (2, .int a2)] [] σ
  unfold s_m_day at h
  refine Ev_aload_n 0 (dt_X12_day.at 0 rfl) rfl ?_
  refine Ev_iload_n 1 (dt_X12_day.at 1 rfl) rfl ?_
  obtain ⟨q1, hq1, h⟩ := oBind h
  refine Ev_callV (st := []) (st' := [.int q1]) [.int a1] (dt_X12_day.at 2 rfl) cf_X12_159 (w_m_isThree σ a1 q1 hq1) (by decide) sk_71 rfl rfl rfl (Nat.le_of_ble_eq_true rfl) rfl ?_
  refine Ev_if_eq (tgt := 22) (dt_X12_day.at 3 rfl) (by decide) (fun c2 => ?_) (fun c2 => ?_)
  · replace h := oPos h c2
    refine Ev_aload_n 0 (dt_X12_day.at 10 rfl) rfl ?_
    refine Ev_bipush (dt_X12_day.at 11 rfl) kb_m10 ?_
    obtain ⟨q3, hq3, h⟩ := oBind h
    refine Ev_callV (st := []) (st' := [.int q3.1]) [.int (-10)] (dt_X12_day.at 12 rfl) cf_X12_88 (w_m_bad σ (-10) q3 hq3) (by decide) sk_71 rfl rfl rfl (Nat.le_of_ble_eq_true rfl) rfl ?_
    exact Ev_iret (dt_X12_day.at 13 rfl) rfl h
  · replace h := oNeg h c2
    refine Ev_iload_n 2 (dt_X12_day.at 4 rfl) rfl ?_
    refine Ev_i2l (dt_X12_day.at 5 rfl) ?_
    refine Ev_ldc2 (dt_X12_day.at 6 rfl) cl_X12_162 ?_
    refine Ev_ldc2 (dt_X12_day.at 7 rfl) cl_X12_96 ?_
    obtain ⟨q4, hq4, h⟩ := oBind h
    refine Ev_callS (st := []) (st' := [.int q4]) [.long (Int32.toInt64 a2), .long (-1), .long 9] (dt_X12_day.at 8 rfl) cf_X12_74 (w_m_in σ (Int32.toInt64 a2) (-1) 9 q4 hq4) (by decide) rfl rfl (Nat.le_of_ble_eq_true rfl) rfl ?_
    refine Ev_if_ne (tgt := 29) (dt_X12_day.at 9 rfl) (by decide) (fun c5 => ?_) (fun c5 => ?_)
    · replace h := oNeg h c5
      refine Ev_aload_n 0 (dt_X12_day.at 14 rfl) rfl ?_
      refine Ev_iload_n 1 (dt_X12_day.at 15 rfl) rfl ?_
      obtain ⟨q6, hq6, h⟩ := oBind h
      refine Ev_callV (st := []) (st' := [.int q6.1]) [.int a1] (dt_X12_day.at 16 rfl) cf_X12_164 (w_m_goDay σ a1 q6 hq6) (by decide) sk_71 rfl rfl rfl (Nat.le_of_ble_eq_true rfl) rfl ?_
      refine Ev_istore_n (dt_X12_day.at 17 rfl) (by decide) (ls' := [(3, .int q6.1), (0, .ref 71), (1, .int a1), (2, .int a2)]) rfl ?_
      refine Ev_iload_n 3 (dt_X12_day.at 18 rfl) rfl ?_
      refine Ev_iconst (dt_X12_day.at 19 rfl) ki_m1 ?_
      refine Ev_icmp_ne (tgt := 44) (dt_X12_day.at 20 rfl) (by decide) (fun c7 => ?_) (fun c7 => ?_)
      · replace h := oNeg h c7
        refine Ev_aload_n 1 (dt_X12_day.at 23 rfl) rfl ?_
        refine Ev_get (i := 8) (v := .ref 78) (dt_X12_day.at 24 rfl) ff_X12_33 sk_71 rfl rfl ?_
        refine Ev_iload_n 3 (dt_X12_day.at 25 rfl) rfl ?_
        obtain ⟨g8, h⟩ := oGuard h
        refine Ev_iaload 78 (dt_X12_day.at 26 rfl) sk_78 g8 ?_
        exact Ev_iret (dt_X12_day.at 27 rfl) rfl h
      · replace h := oPos h c7
        refine Ev_iload_n 0 (dt_X12_day.at 21 rfl) rfl ?_
        refine Ev_goto (tgt := 50) (dt_X12_day.at 22 rfl) (by decide) ?_
        exact Ev_iret (dt_X12_day.at 27 rfl) rfl h
    · replace h := oPos h c5
      refine Ev_aload_n 0 (dt_X12_day.at 10 rfl) rfl ?_
      refine Ev_bipush (dt_X12_day.at 11 rfl) kb_m10 ?_
      obtain ⟨q9, hq9, h⟩ := oBind h
      refine Ev_callV (st := []) (st' := [.int q9.1]) [.int (-10)] (dt_X12_day.at 12 rfl) cf_X12_88 (w_m_bad σ (-10) q9 hq9) (by decide) sk_71 rfl rfl rfl (Nat.le_of_ble_eq_true rfl) rfl ?_
      exact Ev_iret (dt_X12_day.at 13 rfl) rfl h
def s_m_takeDone (σ : Sg) (a1 : Int32) : Option Sg :=
  lt (pI σ 77 (Int32.toNatClampNeg 0) (a1 &&& 15) : Sg) fun s1 =>
  lt (pI s1 77 (Int32.toNatClampNeg 1) ((a1 >>> ((4 : Int32) &&& 31)) &&& 15) : Sg) fun s2 =>
  lt (pI s2 77 (Int32.toNatClampNeg 2) ((a1 >>> ((8 : Int32) &&& 31)) &&& 15) : Sg) fun s3 =>
  some s3
set_option maxRecDepth 100000 in
set_option maxHeartbeats 4000000 in
theorem w_m_takeDone (σ : Sg) (a1 : Int32) (q : Sg) (h : s_m_takeDone σ a1 = some q) : Cal M_X12_takeDone 0 [.ref 71, .int a1] σ none q := by
  refine Cal.of (M := M_X12_takeDone) (by decide +kernel) (Nat.le_of_ble_eq_true rfl) ?_
  show Ev _ _ _ _ 0 [(0, .ref 71), (1, .int a1)] [] σ
  unfold s_m_takeDone at h
  refine Ev_aload_n 0 (dt_X12_takeDone.at 0 rfl) rfl ?_
  refine Ev_get (i := 7) (v := .ref 77) (dt_X12_takeDone.at 1 rfl) ff_X12_30 sk_71 rfl rfl ?_
  refine Ev_iconst (dt_X12_takeDone.at 2 rfl) ki_0 ?_
  refine Ev_iload_n 1 (dt_X12_takeDone.at 3 rfl) rfl ?_
  refine Ev_bipush (dt_X12_takeDone.at 4 rfl) kb_15 ?_
  refine Ev_iand (dt_X12_takeDone.at 5 rfl) ?_
  refine Ev_iastore 77 (dt_X12_takeDone.at 6 rfl) sk_77 ib_0_3 ?_
  refine Ev_nmS (fun s1 es1 => ?_)
  replace h := oLt h es1
  refine Ev_aload_n 0 (dt_X12_takeDone.at 7 rfl) rfl ?_
  refine Ev_get (i := 7) (v := .ref 77) (dt_X12_takeDone.at 8 rfl) ff_X12_30 sk_71 rfl rfl ?_
  refine Ev_iconst (dt_X12_takeDone.at 9 rfl) ki_1 ?_
  refine Ev_iload_n 1 (dt_X12_takeDone.at 10 rfl) rfl ?_
  refine Ev_iconst (dt_X12_takeDone.at 11 rfl) ki_4 ?_
  refine Ev_ishr (dt_X12_takeDone.at 12 rfl) ?_
  refine Ev_bipush (dt_X12_takeDone.at 13 rfl) kb_15 ?_
  refine Ev_iand (dt_X12_takeDone.at 14 rfl) ?_
  refine Ev_iastore 77 (dt_X12_takeDone.at 15 rfl) sk_77 ib_1_3 ?_
  refine Ev_nmS (fun s2 es2 => ?_)
  replace h := oLt h es2
  refine Ev_aload_n 0 (dt_X12_takeDone.at 16 rfl) rfl ?_
  refine Ev_get (i := 7) (v := .ref 77) (dt_X12_takeDone.at 17 rfl) ff_X12_30 sk_71 rfl rfl ?_
  refine Ev_iconst (dt_X12_takeDone.at 18 rfl) ki_2 ?_
  refine Ev_iload_n 1 (dt_X12_takeDone.at 19 rfl) rfl ?_
  refine Ev_bipush (dt_X12_takeDone.at 20 rfl) kb_8 ?_
  refine Ev_ishr (dt_X12_takeDone.at 21 rfl) ?_
  refine Ev_bipush (dt_X12_takeDone.at 22 rfl) kb_15 ?_
  refine Ev_iand (dt_X12_takeDone.at 23 rfl) ?_
  refine Ev_iastore 77 (dt_X12_takeDone.at 24 rfl) sk_77 ib_2_3 ?_
  refine Ev_nmS (fun s3 es3 => ?_)
  replace h := oLt h es3
  exact Ev_vret (dt_X12_takeDone.at 25 rfl) rfl h
