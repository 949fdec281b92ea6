def b_Town_isQuick_2 (σ : Sg) (v1 : Int32) (x : Int32) : Option (Int32 ⊕ (Int32 ⊕ Int32)) :=
  if (gI σ 19 6) ≤ x then
    some (.inr (.inl x))
  else
    (s_x_isIn v1 x).bind fun q2 =>
    if q2 = 0 then
      lt (x + 1 : Int32) fun x4 =>
      some (.inl x4)
    else
      if inB x 9 = true then
        if 5 ≤ (gI σ 21 (Int32.toNatClampNeg x)) then
          lt (x + 1 : Int32) fun x7 =>
          some (.inl x7)
        else
          some (.inr (.inr 0))
      else none
def s_Town_isQuick (σ : Sg) (a1 : Int32) : Option Int32 :=
  (lp (b_Town_isQuick_2 σ a1) 100000 0).bind fun o8 =>
  oElim o8 (fun y9 =>
    some 1) (fun q10 => some q10)
set_option maxRecDepth 100000 in
set_option maxHeartbeats 4000000 in
theorem wb_Town_isQuick_2 (σ : Sg) (v1 : Int32) (x : Int32) (r : Option Value) (τ : Sg) (o : (Int32 ⊕ (Int32 ⊕ Int32))) (h : (b_Town_isQuick_2 σ v1 x) = some o) (hc : ∀ y : Int32, o = .inl y → Ev M_X9_isQuick 1 r τ 2 [(0, .ref 19), (1, .int v1), (2, .int y)] [] σ) (he : ∀ y : Int32, o = .inr (.inl y) → Ev M_X9_isQuick 1 r τ 36 [] [] σ) (hr : ∀ q : Int32, o = .inr (.inr q) → r = (some (.int q)) ∧ τ = σ) : Ev M_X9_isQuick 1 r τ 2 [(0, .ref 19), (1, .int v1), (2, .int x)] [] σ := by
  unfold b_Town_isQuick_2 at h
  refine Ev_iload_n 2 (dt_X9_isQuick.at 2 rfl) rfl ?_
  refine Ev_aload_n 0 (dt_X9_isQuick.at 3 rfl) rfl ?_
  refine Ev_get (i := 6) (v := .int (gI σ 19 6)) (dt_X9_isQuick.at 4 rfl) ff_X9_31 sk_19 rfl rfl ?_
  refine Ev_icmp_ge (tgt := 36) (dt_X9_isQuick.at 5 rfl) (by decide) (fun c1 => ?_) (fun c1 => ?_)
  · replace h := oPos h c1
    refine Ev_sub [] (ls' := []) rfl ?_
    exact he x (Option.some.inj h).symm
  · replace h := oNeg h c1
    refine Ev_iload_n 1 (dt_X9_isQuick.at 6 rfl) rfl ?_
    refine Ev_iload_n 2 (dt_X9_isQuick.at 7 rfl) rfl ?_
    obtain ⟨q2, hq2, h⟩ := oBind h
    refine Ev_callS (st := []) (st' := [.int q2]) [.int v1, .int x] (dt_X9_isQuick.at 8 rfl) cf_X9_50 (w_x_isIn σ v1 x q2 hq2) (by decide) rfl rfl (Nat.le_of_ble_eq_true rfl) rfl ?_
    refine Ev_if_eq (tgt := 30) (dt_X9_isQuick.at 9 rfl) (by decide) (fun c3 => ?_) (fun c3 => ?_)
    · replace h := oPos h c3
      obtain ⟨x4, ex4⟩ : ∃ z : Int32, z = x + 1 := ⟨_, rfl⟩
      replace h := oLt h ex4
      refine Ev_iinc (v := x4) 2 (dt_X9_isQuick.at 18 rfl) rfl (ex4.trans (congrArg (fun z => x + z) ki_1.symm)) (by decide) (ls' := [(2, .int x4), (0, .ref 19), (1, .int v1)]) rfl ?_
      refine Ev_goto (tgt := 2) (dt_X9_isQuick.at 19 rfl) (by decide) ?_
      refine Ev_sub [1, 2, 0] (ls' := [(0, .ref 19), (1, .int v1), (2, .int x4)]) rfl ?_
      exact hc x4 (Option.some.inj h).symm
    · replace h := oNeg h c3
      refine Ev_aload_n 0 (dt_X9_isQuick.at 10 rfl) rfl ?_
      refine Ev_get (i := 1) (v := .ref 21) (dt_X9_isQuick.at 11 rfl) ff_X9_15 sk_19 rfl rfl ?_
      refine Ev_iload_n 2 (dt_X9_isQuick.at 12 rfl) rfl ?_
      obtain ⟨g5, h⟩ := oGuard h
      refine Ev_iaload 21 (dt_X9_isQuick.at 13 rfl) sk_21 g5 ?_
      refine Ev_iconst (dt_X9_isQuick.at 14 rfl) ki_5 ?_
      refine Ev_icmp_ge (tgt := 30) (dt_X9_isQuick.at 15 rfl) (by decide) (fun c6 => ?_) (fun c6 => ?_)
      · replace h := oPos h c6
        obtain ⟨x7, ex7⟩ : ∃ z : Int32, z = x + 1 := ⟨_, rfl⟩
        replace h := oLt h ex7
        refine Ev_iinc (v := x7) 2 (dt_X9_isQuick.at 18 rfl) rfl (ex7.trans (congrArg (fun z => x + z) ki_1.symm)) (by decide) (ls' := [(2, .int x7), (0, .ref 19), (1, .int v1)]) rfl ?_
        refine Ev_goto (tgt := 2) (dt_X9_isQuick.at 19 rfl) (by decide) ?_
        refine Ev_sub [1, 2, 0] (ls' := [(0, .ref 19), (1, .int v1), (2, .int x7)]) rfl ?_
        exact hc x7 (Option.some.inj h).symm
      · replace h := oNeg h c6
        refine Ev_iconst (dt_X9_isQuick.at 16 rfl) ki_0 ?_
        have hz := hr _ (Option.some.inj h).symm
        rw [hz.1, hz.2]
        exact Ev_zret (dt_X9_isQuick.at 17 rfl) rfl (by decide) rfl
set_option maxRecDepth 100000 in
set_option maxHeartbeats 4000000 in
theorem wl_Town_isQuick_2 (σ : Sg) (v1 : Int32) (r : Option Value) (τ : Sg) (n : Nat) (x : Int32) (z : (Int32 ⊕ Int32)) (h : lp (b_Town_isQuick_2 σ v1) n x = some z) (he : ∀ y : Int32, z = .inl y → Ev M_X9_isQuick 1 r τ 36 [] [] σ) (hr : ∀ q : Int32, z = .inr q → r = (some (.int q)) ∧ τ = σ) : Ev M_X9_isQuick 1 r τ 2 [(0, .ref 19), (1, .int v1), (2, .int x)] [] σ := by
  refine lp_ind (E := fun x : Int32 => Ev M_X9_isQuick 1 r τ 2 [(0, .ref 19), (1, .int v1), (2, .int x)] [] σ) (fun x => ⟨fun y hb hy => ?_, fun hb => ?_⟩) n x h
  · exact wb_Town_isQuick_2 σ v1 x r τ _ hb (fun y' e => by cases e; exact hy) (fun y' e => by cases e) (fun y' e => by cases e)
  · exact wb_Town_isQuick_2 σ v1 x r τ _ hb (fun y' e => by cases e) (fun y' e => he y' (Sum.inr.inj e)) (fun y' e => hr y' (Sum.inr.inj e))
set_option maxRecDepth 100000 in
set_option maxHeartbeats 4000000 in
theorem w_Town_isQuick (σ : Sg) (a1 : Int32) (q : Int32) (h : s_Town_isQuick σ a1 = some q) : Cal M_X9_isQuick 1 [.ref 19, .int a1] σ (some (.int q)) σ := by
  refine Cal.of (M := M_X9_isQuick) (by decide +kernel) (Nat.le_of_ble_eq_true rfl) ?_
  show Ev _ _ _ _ 0 [(0, .ref 19), (1, .int a1)] [] σ
  unfold s_Town_isQuick at h
  refine Ev_iconst (dt_X9_isQuick.at 0 rfl) ki_0 ?_
  refine Ev_istore_n (dt_X9_isQuick.at 1 rfl) (by decide) (ls' := [(2, .int 0), (0, .ref 19), (1, .int a1)]) rfl ?_
  refine Ev_sub [1, 2, 0] (ls' := [(0, .ref 19), (1, .int a1), (2, .int 0)]) rfl ?_
  obtain ⟨o8, ho8, h⟩ := oBind h
  refine wl_Town_isQuick_2 σ a1 _ _ 100000 0 o8 ho8 (fun y9 ey => ?_) (fun q10 eq => ?_)
  · rw [ey] at h
    replace h := oElimL h
    refine Ev_iconst (dt_X9_isQuick.at 20 rfl) ki_1 ?_
    exact Ev_zret (dt_X9_isQuick.at 21 rfl) rfl (by decide) (oRet h)
  · rw [eq] at h
    replace h := oElimR h
    cases h; exact ⟨rfl, rfl⟩
def s_Day_isOpen (σ : Sg) (a1 : Int32) : Option Int32 :=
  if inB a1 36 = true then
    if (gI σ 36 (Int32.toNatClampNeg a1)) = 0 then
      if inB a1 36 = true then
        if (gI σ 24 (Int32.toNatClampNeg a1)) < (gI σ 31 7) then
          some 0
        else
          some 1
      else none
    else
      some 0
  else none
set_option maxRecDepth 100000 in
set_option maxHeartbeats 4000000 in
theorem w_Day_isOpen (σ : Sg) (a1 : Int32) (q : Int32) (h : s_Day_isOpen σ a1 = some q) : Cal M_X0_isOpen 0 [.ref 31, .int a1] σ (some (.int q)) σ := by
  refine Cal.of (M := M_X0_isOpen) (by decide +kernel) (Nat.le_of_ble_eq_true rfl) ?_
  show Ev _ _ _ _ 0 [(0, .ref 31), (1, .int a1)] [] σ
  unfold s_Day_isOpen at h
  refine Ev_aload_n 0 (dt_X0_isOpen.at 0 rfl) rfl ?_
  refine Ev_get (i := 5) (v := .ref 36) (dt_X0_isOpen.at 1 rfl) ff_X0_28 sk_31 rfl rfl ?_
  refine Ev_iload_n 1 (dt_X0_isOpen.at 2 rfl) rfl ?_
  obtain ⟨g1, h⟩ := oGuard h
  refine Ev_baload 36 (dt_X0_isOpen.at 3 rfl) sk_36 g1 ?_
  refine Ev_if_ne (tgt := 29) (dt_X0_isOpen.at 4 rfl) (by decide) (fun c2 => ?_) (fun c2 => ?_)
  · replace h := oNeg h c2
    refine Ev_iconst (dt_X0_isOpen.at 15 rfl) ki_0 ?_
    exact Ev_zret (dt_X0_isOpen.at 16 rfl) rfl (by decide) (oRet h)
  · replace h := oPos h c2
    refine Ev_aload_n 0 (dt_X0_isOpen.at 5 rfl) rfl ?_
    refine Ev_get (i := 0) (v := .ref 19) (dt_X0_isOpen.at 6 rfl) ff_X0_34 sk_31 rfl rfl ?_
    refine Ev_get (i := 4) (v := .ref 24) (dt_X0_isOpen.at 7 rfl) ff_X0_91 sk_19 rfl rfl ?_
    refine Ev_iload_n 1 (dt_X0_isOpen.at 8 rfl) rfl ?_
    obtain ⟨g3, h⟩ := oGuard h
    refine Ev_iaload 24 (dt_X0_isOpen.at 9 rfl) sk_24 g3 ?_
    refine Ev_aload_n 0 (dt_X0_isOpen.at 10 rfl) rfl ?_
    refine Ev_get (i := 7) (v := .int (gI σ 31 7)) (dt_X0_isOpen.at 11 rfl) ff_X0_61 sk_31 rfl rfl ?_
    refine Ev_icmp_lt (tgt := 29) (dt_X0_isOpen.at 12 rfl) (by decide) (fun c4 => ?_) (fun c4 => ?_)
    · replace h := oPos h c4
      refine Ev_iconst (dt_X0_isOpen.at 15 rfl) ki_0 ?_
      exact Ev_zret (dt_X0_isOpen.at 16 rfl) rfl (by decide) (oRet h)
    · replace h := oNeg h c4
      refine Ev_iconst (dt_X0_isOpen.at 13 rfl) ki_1 ?_
      refine Ev_goto (tgt := 30) (dt_X0_isOpen.at 14 rfl) (by decide) ?_
      exact Ev_zret (dt_X0_isOpen.at 16 rfl) rfl (by decide) (oRet h)
def b_Day_lookAround_35 (v1 : Int32) (v2 : Int32) (x : (Sg × Int32)) : Option ((Sg × Int32) ⊕ (Sg × Int32)) :=
  if inB v1 3 = true then
    if inB (gI x.1 33 (Int32.toNatClampNeg v1)) 9 = true then
      if (v2 + (gI x.1 22 (Int32.toNatClampNeg (gI x.1 33 (Int32.toNatClampNeg v1))))) ≤ x.2 then
        some (.inr (x.1, x.2))
      else
        if inB v1 3 = true then
          if (gI x.1 35 (Int32.toNatClampNeg v1)) = 0 then
            (s_Day_isOpen x.1 x.2).bind fun q13 =>
            if q13 = 0 then
              lt (x.2 + 1 : Int32) fun x15 =>
              some (.inl (x.1, x15))
            else
              if inB x.2 36 = true then
                if inB v1 3 = true then
                  lt (pI x.1 34 (Int32.toNatClampNeg v1) (gI x.1 23 (Int32.toNatClampNeg x.2)) : Sg) fun s18 =>
                  if inB v1 3 = true then
                    lt (pI s18 35 (Int32.toNatClampNeg v1) (1 &&& 1) : Sg) fun s20 =>
                    lt (x.2 + 1 : Int32) fun x21 =>
                    some (.inl (s20, x21))
                  else none
                else none
              else none
          else
            some (.inr (x.1, x.2))
        else none
    else none
  else none
def b_Day_lookAround_2  (x : (Sg × Int32)) : Option ((Sg × Int32) ⊕ (Sg × Int32)) :=
  if 3 ≤ x.2 then
    some (.inr (x.1, x.2))
  else
    if inB x.2 3 = true then
      lt (((gI x.1 33 (Int32.toNatClampNeg x.2)) * 4) : Int32) fun x3 =>
      if inB x.2 3 = true then
        lt (pI x.1 34 (Int32.toNatClampNeg x.2) (gI x.1 31 8) : Sg) fun s5 =>
        if inB x.2 3 = true then
          lt (pI s5 35 (Int32.toNatClampNeg x.2) (0 &&& 1) : Sg) fun s7 =>
          (lp (b_Day_lookAround_35 x.2 x3) 100000 (s7, x3)).bind fun o22 =>
          lt (x.2 + 1 : Int32) fun x23 =>
          some (.inl (o22.1, x23))
        else none
      else none
    else none
def s_Day_lookAround (σ : Sg)  : Option Sg :=
  (lp (b_Day_lookAround_2 ) 100000 (σ, 0)).bind fun o24 =>
  some o24.1
set_option maxRecDepth 100000 in
set_option maxHeartbeats 4000000 in
theorem wb_Day_lookAround_35 (v1 : Int32) (v2 : Int32) (x : (Sg × Int32)) (r : Option Value) (τ : Sg) (o : ((Sg × Int32) ⊕ (Sg × Int32))) (h : (b_Day_lookAround_35 v1 v2 x) = some o) (hc : ∀ y : (Sg × Int32), o = .inl y → Ev M_X0_lookAround 1 r τ 35 [(0, .ref 31), (1, .int v1), (2, .int v2), (3, .int y.2)] [] y.1) (he : ∀ y : (Sg × Int32), o = .inr y → Ev M_X0_lookAround 1 r τ 100 [(0, .ref 31), (1, .int v1)] [] y.1) : Ev M_X0_lookAround 1 r τ 35 [(0, .ref 31), (1, .int v1), (2, .int v2), (3, .int x.2)] [] x.1 := by
  unfold b_Day_lookAround_35 at h
  refine Ev_iload_n 3 (dt_X0_lookAround.at 25 rfl) rfl ?_
  refine Ev_iload_n 2 (dt_X0_lookAround.at 26 rfl) rfl ?_
  refine Ev_aload_n 0 (dt_X0_lookAround.at 27 rfl) rfl ?_
  refine Ev_get (i := 0) (v := .ref 19) (dt_X0_lookAround.at 28 rfl) ff_X0_34 sk_31 rfl rfl ?_
  refine Ev_get (i := 2) (v := .ref 22) (dt_X0_lookAround.at 29 rfl) ff_X0_93 sk_19 rfl rfl ?_
  refine Ev_aload_n 0 (dt_X0_lookAround.at 30 rfl) rfl ?_
  refine Ev_get (i := 2) (v := .ref 33) (dt_X0_lookAround.at 31 rfl) ff_X0_17 sk_31 rfl rfl ?_
  refine Ev_iload_n 1 (dt_X0_lookAround.at 32 rfl) rfl ?_
  obtain ⟨g8, h⟩ := oGuard h
  refine Ev_iaload 33 (dt_X0_lookAround.at 33 rfl) sk_33 g8 ?_
  obtain ⟨g9, h⟩ := oGuard h
  refine Ev_iaload 22 (dt_X0_lookAround.at 34 rfl) sk_22 g9 ?_
  refine Ev_iadd (dt_X0_lookAround.at 35 rfl) ?_
  refine Ev_icmp_ge (tgt := 100) (dt_X0_lookAround.at 36 rfl) (by decide) (fun c10 => ?_) (fun c10 => ?_)
  · replace h := oPos h c10
    refine Ev_sub [0, 1] (ls' := [(0, .ref 31), (1, .int v1)]) rfl ?_
    exact he (x.1, x.2) (Option.some.inj h).symm
  · replace h := oNeg h c10
    refine Ev_aload_n 0 (dt_X0_lookAround.at 37 rfl) rfl ?_
    refine Ev_get (i := 4) (v := .ref 35) (dt_X0_lookAround.at 38 rfl) ff_X0_24 sk_31 rfl rfl ?_
    refine Ev_iload_n 1 (dt_X0_lookAround.at 39 rfl) rfl ?_
    obtain ⟨g11, h⟩ := oGuard h
    refine Ev_baload 35 (dt_X0_lookAround.at 40 rfl) sk_35 g11 ?_
    refine Ev_if_ne (tgt := 100) (dt_X0_lookAround.at 41 rfl) (by decide) (fun c12 => ?_) (fun c12 => ?_)
    · replace h := oNeg h c12
      refine Ev_sub [0, 1] (ls' := [(0, .ref 31), (1, .int v1)]) rfl ?_
      exact he (x.1, x.2) (Option.some.inj h).symm
    · replace h := oPos h c12
      refine Ev_aload_n 0 (dt_X0_lookAround.at 42 rfl) rfl ?_
      refine Ev_iload_n 3 (dt_X0_lookAround.at 43 rfl) rfl ?_
      obtain ⟨q13, hq13, h⟩ := oBind h
      refine Ev_callV (st := []) (st' := [.int q13]) [.int x.2] (dt_X0_lookAround.at 44 rfl) cf_X0_96 (w_Day_isOpen x.1 x.2 q13 hq13) (by decide) sk_31 rfl rfl rfl (Nat.le_of_ble_eq_true rfl) rfl ?_
      refine Ev_if_eq (tgt := 94) (dt_X0_lookAround.at 45 rfl) (by decide) (fun c14 => ?_) (fun c14 => ?_)
      · replace h := oPos h c14
        obtain ⟨x15, ex15⟩ : ∃ z : Int32, z = x.2 + 1 := ⟨_, rfl⟩
        replace h := oLt h ex15
        refine Ev_iinc (v := x15) 3 (dt_X0_lookAround.at 60 rfl) rfl (ex15.trans (congrArg (fun z => x.2 + z) ki_1.symm)) (by decide) (ls' := [(3, .int x15), (0, .ref 31), (1, .int v1), (2, .int v2)]) rfl ?_
        refine Ev_goto (tgt := 35) (dt_X0_lookAround.at 61 rfl) (by decide) ?_
        refine Ev_sub [1, 2, 3, 0] (ls' := [(0, .ref 31), (1, .int v1), (2, .int v2), (3, .int x15)]) rfl ?_
        exact hc (x.1, x15) (Option.some.inj h).symm
      · replace h := oNeg h c14
        refine Ev_aload_n 0 (dt_X0_lookAround.at 46 rfl) rfl ?_
        refine Ev_get (i := 3) (v := .ref 34) (dt_X0_lookAround.at 47 rfl) ff_X0_21 sk_31 rfl rfl ?_
        refine Ev_iload_n 1 (dt_X0_lookAround.at 48 rfl) rfl ?_
        refine Ev_aload_n 0 (dt_X0_lookAround.at 49 rfl) rfl ?_
        refine Ev_get (i := 0) (v := .ref 19) (dt_X0_lookAround.at 50 rfl) ff_X0_34 sk_31 rfl rfl ?_
        refine Ev_get (i := 3) (v := .ref 23) (dt_X0_lookAround.at 51 rfl) ff_X0_99 sk_19 rfl rfl ?_
        refine Ev_iload_n 3 (dt_X0_lookAround.at 52 rfl) rfl ?_
        obtain ⟨g16, h⟩ := oGuard h
        refine Ev_iaload 23 (dt_X0_lookAround.at 53 rfl) sk_23 g16 ?_
        obtain ⟨g17, h⟩ := oGuard h
        refine Ev_iastore 34 (dt_X0_lookAround.at 54 rfl) sk_34 g17 ?_
        refine Ev_nmS (fun s18 es18 => ?_)
        replace h := oLt h es18
        refine Ev_aload_n 0 (dt_X0_lookAround.at 55 rfl) rfl ?_
        refine Ev_get (i := 4) (v := .ref 35) (dt_X0_lookAround.at 56 rfl) ff_X0_24 sk_31 rfl rfl ?_
        refine Ev_iload_n 1 (dt_X0_lookAround.at 57 rfl) rfl ?_
        refine Ev_iconst (dt_X0_lookAround.at 58 rfl) ki_1 ?_
        obtain ⟨g19, h⟩ := oGuard h
        refine Ev_bastore 35 (dt_X0_lookAround.at 59 rfl) sk_35 g19 ?_
        refine Ev_nmS (fun s20 es20 => ?_)
        replace h := oLt h es20
        obtain ⟨x21, ex21⟩ : ∃ z : Int32, z = x.2 + 1 := ⟨_, rfl⟩
        replace h := oLt h ex21
        refine Ev_iinc (v := x21) 3 (dt_X0_lookAround.at 60 rfl) rfl (ex21.trans (congrArg (fun z => x.2 + z) ki_1.symm)) (by decide) (ls' := [(3, .int x21), (0, .ref 31), (1, .int v1), (2, .int v2)]) rfl ?_
        refine Ev_goto (tgt := 35) (dt_X0_lookAround.at 61 rfl) (by decide) ?_
        refine Ev_sub [1, 2, 3, 0] (ls' := [(0, .ref 31), (1, .int v1), (2, .int v2), (3, .int x21)]) rfl ?_
        exact hc (s20, x21) (Option.some.inj h).symm
set_option maxRecDepth 100000 in
set_option maxHeartbeats 4000000 in
theorem wl_Day_lookAround_35 (v1 : Int32) (v2 : Int32) (r : Option Value) (τ : Sg) (n : Nat) (x : (Sg × Int32)) (z : (Sg × Int32)) (h : lp (b_Day_lookAround_35 v1 v2) n x = some z) (he : ∀ y : (Sg × Int32), z = y → Ev M_X0_lookAround 1 r τ 100 [(0, .ref 31), (1, .int v1)] [] y.1) : Ev M_X0_lookAround 1 r τ 35 [(0, .ref 31), (1, .int v1), (2, .int v2), (3, .int x.2)] [] x.1 := by
  refine lp_ind (E := fun x : (Sg × Int32) => Ev M_X0_lookAround 1 r τ 35 [(0, .ref 31), (1, .int v1), (2, .int v2), (3, .int x.2)] [] x.1) (fun x => ⟨fun y hb hy => ?_, fun hb => ?_⟩) n x h
  · exact wb_Day_lookAround_35 v1 v2 x r τ _ hb (fun y' e => by cases e; exact hy) (fun y' e => by cases e)
  · exact wb_Day_lookAround_35 v1 v2 x r τ _ hb (fun y' e => by cases e) (fun y' e => he y' (Sum.inr.inj e))
set_option maxRecDepth 100000 in
set_option maxHeartbeats 4000000 in
theorem wb_Day_lookAround_2  (x : (Sg × Int32)) (r : Option Value) (τ : Sg) (o : ((Sg × Int32) ⊕ (Sg × Int32))) (h : (b_Day_lookAround_2  x) = some o) (hc : ∀ y : (Sg × Int32), o = .inl y → Ev M_X0_lookAround 1 r τ 2 [(0, .ref 31), (1, .int y.2)] [] y.1) (he : ∀ y : (Sg × Int32), o = .inr y → Ev M_X0_lookAround 1 r τ 106 [] [] y.1) : Ev M_X0_lookAround 1 r τ 2 [(0, .ref 31), (1, .int x.2)] [] x.1 := by
  unfold b_Day_lookAround_2 at h
  refine Ev_iload_n 1 (dt_X0_lookAround.at 2 rfl) rfl ?_
  refine Ev_iconst (dt_X0_lookAround.at 3 rfl) ki_3 ?_
  refine Ev_icmp_ge (tgt := 106) (dt_X0_lookAround.at 4 rfl) (by decide) (fun c1 => ?_) (fun c1 => ?_)
  · replace h := oPos h c1
    refine Ev_sub [] (ls' := []) rfl ?_
    exact he (x.1, x.2) (Option.some.inj h).symm
  · replace h := oNeg h c1
    refine Ev_aload_n 0 (dt_X0_lookAround.at 5 rfl) rfl ?_
    refine Ev_get (i := 2) (v := .ref 33) (dt_X0_lookAround.at 6 rfl) ff_X0_17 sk_31 rfl rfl ?_
    refine Ev_iload_n 1 (dt_X0_lookAround.at 7 rfl) rfl ?_
    obtain ⟨g2, h⟩ := oGuard h
    refine Ev_iaload 33 (dt_X0_lookAround.at 8 rfl) sk_33 g2 ?_
    refine Ev_iconst (dt_X0_lookAround.at 9 rfl) ki_4 ?_
    refine Ev_imul (dt_X0_lookAround.at 10 rfl) ?_
    refine Ev_nmI (fun x3 ex3 => ?_)
    replace h := oLt h ex3
    refine Ev_istore_n (dt_X0_lookAround.at 11 rfl) (by decide) (ls' := [(2, .int x3), (0, .ref 31), (1, .int x.2)]) rfl ?_
    refine Ev_aload_n 1 (dt_X0_lookAround.at 12 rfl) rfl ?_
    refine Ev_get (i := 3) (v := .ref 34) (dt_X0_lookAround.at 13 rfl) ff_X0_21 sk_31 rfl rfl ?_
    refine Ev_iload_n 2 (dt_X0_lookAround.at 14 rfl) rfl ?_
    refine Ev_aload_n 1 (dt_X0_lookAround.at 15 rfl) rfl ?_
    refine Ev_get (i := 8) (v := .int (gI x.1 31 8)) (dt_X0_lookAround.at 16 rfl) ff_X0_78 sk_31 rfl rfl ?_
    obtain ⟨g4, h⟩ := oGuard h
    refine Ev_iastore 34 (dt_X0_lookAround.at 17 rfl) sk_34 g4 ?_
    refine Ev_nmS (fun s5 es5 => ?_)
    replace h := oLt h es5
    refine Ev_aload_n 1 (dt_X0_lookAround.at 18 rfl) rfl ?_
    refine Ev_get (i := 4) (v := .ref 35) (dt_X0_lookAround.at 19 rfl) ff_X0_24 sk_31 rfl rfl ?_
    refine Ev_iload_n 2 (dt_X0_lookAround.at 20 rfl) rfl ?_
    refine Ev_iconst (dt_X0_lookAround.at 21 rfl) ki_0 ?_
    obtain ⟨g6, h⟩ := oGuard h
    refine Ev_bastore 35 (dt_X0_lookAround.at 22 rfl) sk_35 g6 ?_
    refine Ev_nmS (fun s7 es7 => ?_)
    replace h := oLt h es7
    refine Ev_iload_n 0 (dt_X0_lookAround.at 23 rfl) rfl ?_
    refine Ev_istore_n (dt_X0_lookAround.at 24 rfl) (by decide) (ls' := [(3, .int x3), (2, .int x3), (0, .ref 31), (1, .int x.2)]) rfl ?_
    refine Ev_sub [2, 3, 1, 0] (ls' := [(0, .ref 31), (1, .int x.2), (2, .int x3), (3, .int x3)]) rfl ?_
    obtain ⟨o22, ho22, h⟩ := oBind h
    refine wl_Day_lookAround_35 x.2 x3 _ _ 100000 (s7, x3) o22 ho22 (fun y ey => ?_)
    subst ey
    obtain ⟨x23, ex23⟩ : ∃ z : Int32, z = x.2 + 1 := ⟨_, rfl⟩
    replace h := oLt h ex23
    refine Ev_iinc (v := x23) 1 (dt_X0_lookAround.at 62 rfl) rfl (ex23.trans (congrArg (fun z => x.2 + z) ki_1.symm)) (by decide) (ls' := [(1, .int x23), (0, .ref 31)]) rfl ?_
    refine Ev_goto (tgt := 2) (dt_X0_lookAround.at 63 rfl) (by decide) ?_
    refine Ev_sub [1, 0] (ls' := [(0, .ref 31), (1, .int x23)]) rfl ?_
    exact hc (o22.1, x23) (Option.some.inj h).symm
set_option maxRecDepth 100000 in
set_option maxHeartbeats 4000000 in
theorem wl_Day_lookAround_2  (r : Option Value) (τ : Sg) (n : Nat) (x : (Sg × Int32)) (z : (Sg × Int32)) (h : lp (b_Day_lookAround_2 ) n x = some z) (he : ∀ y : (Sg × Int32), z = y → Ev M_X0_lookAround 1 r τ 106 [] [] y.1) : Ev M_X0_lookAround 1 r τ 2 [(0, .ref 31), (1, .int x.2)] [] x.1 := by
  refine lp_ind (E := fun x : (Sg × Int32) => Ev M_X0_lookAround 1 r τ 2 [(0, .ref 31), (1, .int x.2)] [] x.1) (fun x => ⟨fun y hb hy => ?_, fun hb => ?_⟩) n x h
  · exact wb_Day_lookAround_2  x r τ _ hb (fun y' e => by cases e; exact hy) (fun y' e => by cases e)
  · exact wb_Day_lookAround_2  x r τ _ hb (fun y' e => by cases e) (fun y' e => he y' (Sum.inr.inj e))
set_option maxRecDepth 100000 in
set_option maxHeartbeats 4000000 in
theorem w_Day_lookAround (σ : Sg)  (q : Sg) (h : s_Day_lookAround σ  = some q) : Cal M_X0_lookAround 1 [.ref 31] σ none q := by
  refine Cal.of (M := M_X0_lookAround) (by decide +kernel) (Nat.le_of_ble_eq_true rfl) ?_
  show Ev _ _ _ _ 0 [(0, .ref 31)] [] σ
  unfold s_Day_lookAround at h
  refine Ev_iconst (dt_X0_lookAround.at 0 rfl) ki_0 ?_
  refine Ev_istore_n (dt_X0_lookAround.at 1 rfl) (by decide) (ls' := [(1, .int 0), (0, .ref 31)]) rfl ?_
  refine Ev_sub [1, 0] (ls' := [(0, .ref 31), (1, .int 0)]) rfl ?_
  obtain ⟨o24, ho24, h⟩ := oBind h
  refine wl_Day_lookAround_2  _ _ 100000 (σ, 0) o24 ho24 (fun y ey => ?_)
  subst ey
  exact Ev_vret (dt_X0_lookAround.at 64 rfl) rfl h
def s_Person_vote (σ : Sg) (a2 : Int32) : Option Int32 :=
  if inB a2 3 = true then
    some (gI σ 34 (Int32.toNatClampNeg a2))
  else none
set_option maxRecDepth 100000 in
set_option maxHeartbeats 4000000 in
theorem w_Person_vote (σ : Sg) (a2 : Int32) (q : Int32) (h : s_Person_vote σ a2 = some q) : Cal M_X5_vote 0 [.ref 38, .ref 31, .int a2] σ (some (.int q)) σ := by
  refine Cal.of (M := M_X5_vote) (by decide +kernel) (Nat.le_of_ble_eq_true rfl) ?_
  show Ev _ _ _ _ 0 [(0, .ref 38), (1, .ref 31), (2, .int a2)] [] σ
  unfold s_Person_vote at h
  refine Ev_aload_n 1 (dt_X5_vote.at 0 rfl) rfl ?_
  refine Ev_get (i := 3) (v := .ref 34) (dt_X5_vote.at 1 rfl) ff_X5_7 sk_31 rfl rfl ?_
  refine Ev_iload_n 2 (dt_X5_vote.at 2 rfl) rfl ?_
  obtain ⟨g1, h⟩ := oGuard h
  refine Ev_iaload 34 (dt_X5_vote.at 3 rfl) sk_34 g1 ?_
  exact Ev_iret (dt_X5_vote.at 4 rfl) rfl (oRet h)
def b_Day_mostPressing_21 (σ : Sg) (v1 : Int32) (v2 : Int32) (x : (Int32 × Int32 × Int32)) : Option ((Int32 × Int32 × Int32) ⊕ (Int32 × Int32 × Int32)) :=
  if inB v1 3 = true then
    if inB (gI σ 33 (Int32.toNatClampNeg v1)) 9 = true then
      if (v2 + (gI σ 22 (Int32.toNatClampNeg (gI σ 33 (Int32.toNatClampNeg v1))))) ≤ x.2.2 then
        some (.inr (x.1, x.2.1, x.2.2))
      else
        (s_Day_isOpen σ x.2.2).bind fun q7 =>
        if q7 = 0 then
          lt (x.2.2 + 1 : Int32) fun x9 =>
          some (.inl (x.1, x.2.1, x9))
        else
          if inB x.2.2 36 = true then
            if x.2.1 ≤ (gI σ 24 (Int32.toNatClampNeg x.2.2)) then
              lt (x.2.2 + 1 : Int32) fun x12 =>
              some (.inl (x.1, x.2.1, x12))
            else
              if inB x.2.2 36 = true then
                lt ((gI σ 24 (Int32.toNatClampNeg x.2.2)) : Int32) fun x14 =>
                if inB x.2.2 36 = true then
                  lt ((gI σ 23 (Int32.toNatClampNeg x.2.2)) : Int32) fun x16 =>
                  lt (x.2.2 + 1 : Int32) fun x17 =>
                  some (.inl (x16, x14, x17))
                else none
              else none
          else none
    else none
  else none
def s_Day_mostPressing (σ : Sg) (a1 : Int32) : Option Int32 :=
  if inB a1 3 = true then
    lt (((gI σ 33 (Int32.toNatClampNeg a1)) * 4) : Int32) fun x2 =>
    lt ((gI σ 31 8) : Int32) fun x3 =>
    (lp (b_Day_mostPressing_21 σ a1 x2) 100000 (x3, 10, x2)).bind fun o18 =>
    some o18.1
  else none
set_option maxRecDepth 100000 in
set_option maxHeartbeats 4000000 in
theorem wb_Day_mostPressing_21 (σ : Sg) (v1 : Int32) (v2 : Int32) (x : (Int32 × Int32 × Int32)) (r : Option Value) (τ : Sg) (o : ((Int32 × Int32 × Int32) ⊕ (Int32 × Int32 × Int32))) (h : (b_Day_mostPressing_21 σ v1 v2 x) = some o) (hc : ∀ y : (Int32 × Int32 × Int32), o = .inl y → Ev M_X0_mostPressing 1 r τ 21 [(0, .ref 31), (1, .int v1), (2, .int v2), (3, .int y.1), (4, .int y.2.1), (5, .int y.2.2)] [] σ) (he : ∀ y : (Int32 × Int32 × Int32), o = .inr y → Ev M_X0_mostPressing 1 r τ 95 [(3, .int y.1)] [] σ) : Ev M_X0_mostPressing 1 r τ 21 [(0, .ref 31), (1, .int v1), (2, .int v2), (3, .int x.1), (4, .int x.2.1), (5, .int x.2.2)] [] σ := by
  unfold b_Day_mostPressing_21 at h
  refine Ev_iload 5 (dt_X0_mostPressing.at 14 rfl) rfl ?_
  refine Ev_iload_n 2 (dt_X0_mostPressing.at 15 rfl) rfl ?_
  refine Ev_aload_n 0 (dt_X0_mostPressing.at 16 rfl) rfl ?_
  refine Ev_get (i := 0) (v := .ref 19) (dt_X0_mostPressing.at 17 rfl) ff_X0_34 sk_31 rfl rfl ?_
  refine Ev_get (i := 2) (v := .ref 22) (dt_X0_mostPressing.at 18 rfl) ff_X0_93 sk_19 rfl rfl ?_
  refine Ev_aload_n 0 (dt_X0_mostPressing.at 19 rfl) rfl ?_
  refine Ev_get (i := 2) (v := .ref 33) (dt_X0_mostPressing.at 20 rfl) ff_X0_17 sk_31 rfl rfl ?_
  refine Ev_iload_n 1 (dt_X0_mostPressing.at 21 rfl) rfl ?_
  obtain ⟨g4, h⟩ := oGuard h
  refine Ev_iaload 33 (dt_X0_mostPressing.at 22 rfl) sk_33 g4 ?_
  obtain ⟨g5, h⟩ := oGuard h
  refine Ev_iaload 22 (dt_X0_mostPressing.at 23 rfl) sk_22 g5 ?_
  refine Ev_iadd (dt_X0_mostPressing.at 24 rfl) ?_
  refine Ev_icmp_ge (tgt := 95) (dt_X0_mostPressing.at 25 rfl) (by decide) (fun c6 => ?_) (fun c6 => ?_)
  · replace h := oPos h c6
    refine Ev_sub [3] (ls' := [(3, .int x.1)]) rfl ?_
    exact he (x.1, x.2.1, x.2.2) (Option.some.inj h).symm
  · replace h := oNeg h c6
    refine Ev_aload_n 0 (dt_X0_mostPressing.at 26 rfl) rfl ?_
    refine Ev_iload 5 (dt_X0_mostPressing.at 27 rfl) rfl ?_
    obtain ⟨q7, hq7, h⟩ := oBind h
    refine Ev_callV (st := []) (st' := [.int q7]) [.int x.2.2] (dt_X0_mostPressing.at 28 rfl) cf_X0_96 (w_Day_isOpen σ x.2.2 q7 hq7) (by decide) sk_31 rfl rfl rfl (Nat.le_of_ble_eq_true rfl) rfl ?_
    refine Ev_if_eq (tgt := 89) (dt_X0_mostPressing.at 29 rfl) (by decide) (fun c8 => ?_) (fun c8 => ?_)
    · replace h := oPos h c8
      obtain ⟨x9, ex9⟩ : ∃ z : Int32, z = x.2.2 + 1 := ⟨_, rfl⟩
      replace h := oLt h ex9
      refine Ev_iinc (v := x9) 5 (dt_X0_mostPressing.at 49 rfl) rfl (ex9.trans (congrArg (fun z => x.2.2 + z) ki_1.symm)) (by decide) (ls' := [(5, .int x9), (0, .ref 31), (1, .int v1), (2, .int v2), (3, .int x.1), (4, .int x.2.1)]) rfl ?_
      refine Ev_goto (tgt := 21) (dt_X0_mostPressing.at 50 rfl) (by decide) ?_
      refine Ev_sub [1, 2, 3, 4, 5, 0] (ls' := [(0, .ref 31), (1, .int v1), (2, .int v2), (3, .int x.1), (4, .int x.2.1), (5, .int x9)]) rfl ?_
      exact hc (x.1, x.2.1, x9) (Option.some.inj h).symm
    · replace h := oNeg h c8
      refine Ev_aload_n 0 (dt_X0_mostPressing.at 30 rfl) rfl ?_
      refine Ev_get (i := 0) (v := .ref 19) (dt_X0_mostPressing.at 31 rfl) ff_X0_34 sk_31 rfl rfl ?_
      refine Ev_get (i := 4) (v := .ref 24) (dt_X0_mostPressing.at 32 rfl) ff_X0_91 sk_19 rfl rfl ?_
      refine Ev_iload 5 (dt_X0_mostPressing.at 33 rfl) rfl ?_
      obtain ⟨g10, h⟩ := oGuard h
      refine Ev_iaload 24 (dt_X0_mostPressing.at 34 rfl) sk_24 g10 ?_
      refine Ev_iload 4 (dt_X0_mostPressing.at 35 rfl) rfl ?_
      refine Ev_icmp_ge (tgt := 89) (dt_X0_mostPressing.at 36 rfl) (by decide) (fun c11 => ?_) (fun c11 => ?_)
      · replace h := oPos h c11
        obtain ⟨x12, ex12⟩ : ∃ z : Int32, z = x.2.2 + 1 := ⟨_, rfl⟩
        replace h := oLt h ex12
        refine Ev_iinc (v := x12) 5 (dt_X0_mostPressing.at 49 rfl) rfl (ex12.trans (congrArg (fun z => x.2.2 + z) ki_1.symm)) (by decide) (ls' := [(5, .int x12), (0, .ref 31), (1, .int v1), (2, .int v2), (3, .int x.1), (4, .int x.2.1)]) rfl ?_
        refine Ev_goto (tgt := 21) (dt_X0_mostPressing.at 50 rfl) (by decide) ?_
        refine Ev_sub [1, 2, 3, 4, 5, 0] (ls' := [(0, .ref 31), (1, .int v1), (2, .int v2), (3, .int x.1), (4, .int x.2.1), (5, .int x12)]) rfl ?_
        exact hc (x.1, x.2.1, x12) (Option.some.inj h).symm
      · replace h := oNeg h c11
        refine Ev_aload_n 0 (dt_X0_mostPressing.at 37 rfl) rfl ?_
        refine Ev_get (i := 0) (v := .ref 19) (dt_X0_mostPressing.at 38 rfl) ff_X0_34 sk_31 rfl rfl ?_
        refine Ev_get (i := 4) (v := .ref 24) (dt_X0_mostPressing.at 39 rfl) ff_X0_91 sk_19 rfl rfl ?_
        refine Ev_iload 5 (dt_X0_mostPressing.at 40 rfl) rfl ?_
        obtain ⟨g13, h⟩ := oGuard h
        refine Ev_iaload 24 (dt_X0_mostPressing.at 41 rfl) sk_24 g13 ?_
        refine Ev_nmI (fun x14 ex14 => ?_)
        replace h := oLt h ex14
        refine Ev_istore (dt_X0_mostPressing.at 42 rfl) (by decide) (ls' := [(4, .int x14), (0, .ref 31), (1, .int v1), (2, .int v2), (3, .int x.1), (5, .int x.2.2)]) rfl ?_
        refine Ev_aload_n 1 (dt_X0_mostPressing.at 43 rfl) rfl ?_
        refine Ev_get (i := 0) (v := .ref 19) (dt_X0_mostPressing.at 44 rfl) ff_X0_34 sk_31 rfl rfl ?_
        refine Ev_get (i := 3) (v := .ref 23) (dt_X0_mostPressing.at 45 rfl) ff_X0_99 sk_19 rfl rfl ?_
        refine Ev_iload 5 (dt_X0_mostPressing.at 46 rfl) rfl ?_
        obtain ⟨g15, h⟩ := oGuard h
        refine Ev_iaload 23 (dt_X0_mostPressing.at 47 rfl) sk_23 g15 ?_
        refine Ev_nmI (fun x16 ex16 => ?_)
        replace h := oLt h ex16
        refine Ev_istore_n (dt_X0_mostPressing.at 48 rfl) (by decide) (ls' := [(3, .int x16), (4, .int x14), (0, .ref 31), (1, .int v1), (2, .int v2), (5, .int x.2.2)]) rfl ?_
        obtain ⟨x17, ex17⟩ : ∃ z : Int32, z = x.2.2 + 1 := ⟨_, rfl⟩
        replace h := oLt h ex17
        refine Ev_iinc (v := x17) 5 (dt_X0_mostPressing.at 49 rfl) rfl (ex17.trans (congrArg (fun z => x.2.2 + z) ki_1.symm)) (by decide) (ls' := [(5, .int x17), (3, .int x16), (4, .int x14), (0, .ref 31), (1, .int v1), (2, .int v2)]) rfl ?_
        refine Ev_goto (tgt := 21) (dt_X0_mostPressing.at 50 rfl) (by decide) ?_
        refine Ev_sub [3, 4, 5, 1, 2, 0] (ls' := [(0, .ref 31), (1, .int v1), (2, .int v2), (3, .int x16), (4, .int x14), (5, .int x17)]) rfl ?_
        exact hc (x16, x14, x17) (Option.some.inj h).symm
set_option maxRecDepth 100000 in
set_option maxHeartbeats 4000000 in
theorem wl_Day_mostPressing_21 (σ : Sg) (v1 : Int32) (v2 : Int32) (r : Option Value) (τ : Sg) (n : Nat) (x : (Int32 × Int32 × Int32)) (z : (Int32 × Int32 × Int32)) (h : lp (b_Day_mostPressing_21 σ v1 v2) n x = some z) (he : ∀ y : (Int32 × Int32 × Int32), z = y → Ev M_X0_mostPressing 1 r τ 95 [(3, .int y.1)] [] σ) : Ev M_X0_mostPressing 1 r τ 21 [(0, .ref 31), (1, .int v1), (2, .int v2), (3, .int x.1), (4, .int x.2.1), (5, .int x.2.2)] [] σ := by
  refine lp_ind (E := fun x : (Int32 × Int32 × Int32) => Ev M_X0_mostPressing 1 r τ 21 [(0, .ref 31), (1, .int v1), (2, .int v2), (3, .int x.1), (4, .int x.2.1), (5, .int x.2.2)] [] σ) (fun x => ⟨fun y hb hy => ?_, fun hb => ?_⟩) n x h
  · exact wb_Day_mostPressing_21 σ v1 v2 x r τ _ hb (fun y' e => by cases e; exact hy) (fun y' e => by cases e)
  · exact wb_Day_mostPressing_21 σ v1 v2 x r τ _ hb (fun y' e => by cases e) (fun y' e => he y' (Sum.inr.inj e))
set_option maxRecDepth 100000 in
set_option maxHeartbeats 4000000 in
theorem w_Day_mostPressing (σ : Sg) (a1 : Int32) (q : Int32) (h : s_Day_mostPressing σ a1 = some q) : Cal M_X0_mostPressing 1 [.ref 31, .int a1] σ (some (.int q)) σ := by
  refine Cal.of (M := M_X0_mostPressing) (by decide +kernel) (Nat.le_of_ble_eq_true rfl) ?_
  show Ev _ _ _ _ 0 [(0, .ref 31), (1, .int a1)] [] σ
  unfold s_Day_mostPressing at h
  refine Ev_aload_n 0 (dt_X0_mostPressing.at 0 rfl) rfl ?_
  refine Ev_get (i := 2) (v := .ref 33) (dt_X0_mostPressing.at 1 rfl) ff_X0_17 sk_31 rfl rfl ?_
  refine Ev_iload_n 1 (dt_X0_mostPressing.at 2 rfl) rfl ?_
  obtain ⟨g1, h⟩ := oGuard h
  refine Ev_iaload 33 (dt_X0_mostPressing.at 3 rfl) sk_33 g1 ?_
  refine Ev_iconst (dt_X0_mostPressing.at 4 rfl) ki_4 ?_
  refine Ev_imul (dt_X0_mostPressing.at 5 rfl) ?_
  refine Ev_nmI (fun x2 ex2 => ?_)
  replace h := oLt h ex2
  refine Ev_istore_n (dt_X0_mostPressing.at 6 rfl) (by decide) (ls' := [(2, .int x2), (0, .ref 31), (1, .int a1)]) rfl ?_
  refine Ev_aload_n 1 (dt_X0_mostPressing.at 7 rfl) rfl ?_
  refine Ev_get (i := 8) (v := .int (gI σ 31 8)) (dt_X0_mostPressing.at 8 rfl) ff_X0_78 sk_31 rfl rfl ?_
  refine Ev_nmI (fun x3 ex3 => ?_)
  replace h := oLt h ex3
  refine Ev_istore_n (dt_X0_mostPressing.at 9 rfl) (by decide) (ls' := [(3, .int x3), (2, .int x2), (0, .ref 31), (1, .int a1)]) rfl ?_
  refine Ev_bipush (dt_X0_mostPressing.at 10 rfl) kb_10 ?_
  refine Ev_istore (dt_X0_mostPressing.at 11 rfl) (by decide) (ls' := [(4, .int 10), (3, .int x3), (2, .int x2), (0, .ref 31), (1, .int a1)]) rfl ?_
  refine Ev_iload_n 2 (dt_X0_mostPressing.at 12 rfl) rfl ?_
  refine Ev_istore (dt_X0_mostPressing.at 13 rfl) (by decide) (ls' := [(5, .int x2), (4, .int 10), (3, .int x3), (2, .int x2), (0, .ref 31), (1, .int a1)]) rfl ?_
  refine Ev_sub [4, 5, 3, 2, 1, 0] (ls' := [(0, .ref 31), (1, .int a1), (2, .int x2), (3, .int x3), (4, .int 10), (5, .int x2)]) rfl ?_
  obtain ⟨o18, ho18, h⟩ := oBind h
  refine wl_Day_mostPressing_21 σ a1 x2 _ _ 100000 (x3, 10, x2) o18 ho18 (fun y ey => ?_)
  subst ey
  refine Ev_iload_n 0 (dt_X0_mostPressing.at 51 rfl) rfl ?_
  exact Ev_iret (dt_X0_mostPressing.at 52 rfl) rfl (oRet h)
