def s_x_count (σ : Sg) (a1 : Int32) : Option (Int32 × Sg) :=
  if a1 < 0 then
    (s_x_refusedBad σ (-2)).bind fun q2 =>
    some (q2.1, q2.2)
  else
    if a1 ≤ 5 then
      (s_x_howMany σ a1).bind fun q4 =>
      some (q4, σ)
    else
      (s_x_refusedBad σ (-2)).bind fun q5 =>
      some (q5.1, q5.2)
set_option maxRecDepth 100000 in
set_option maxHeartbeats 4000000 in
theorem w_x_count (σ : Sg) (a1 : Int32) (q : (Int32 × Sg)) (h : s_x_count σ a1 = some q) : Cal M_X11_count 2 [.ref 0, .int a1] σ (some (.int q.1)) q.2 := by
  refine Cal.of (M := M_X11_count) (by decide +kernel) (Nat.le_of_ble_eq_true rfl) ?_
  show Ev _ _ _ _ 0 [(0, .ref 0), (1, .int a1)] [] σ
  unfold s_x_count at h
  refine Ev_iload_n 1 (dt_X11_count.at 0 rfl) rfl ?_
  refine Ev_if_lt (tgt := 9) (dt_X11_count.at 1 rfl) (by decide) (fun c1 => ?_) (fun c1 => ?_)
  · replace h := oPos h c1
    refine Ev_aload_n 0 (dt_X11_count.at 5 rfl) rfl ?_
    refine Ev_bipush (dt_X11_count.at 6 rfl) kb_m2 ?_
    obtain ⟨q2, hq2, h⟩ := oBind h
    refine Ev_callV (st := []) (st' := [.int q2.1]) [.int (-2)] (dt_X11_count.at 7 rfl) cf_X11_68 (w_x_refusedBad σ (-2) q2 hq2) (by decide) sk_0 rfl rfl rfl (Nat.le_of_ble_eq_true rfl) rfl ?_
    refine Ev_goto (tgt := 23) (dt_X11_count.at 8 rfl) (by decide) ?_
    exact Ev_iret (dt_X11_count.at 12 rfl) rfl h
  · replace h := oNeg h c1
    refine Ev_iload_n 1 (dt_X11_count.at 2 rfl) rfl ?_
    refine Ev_iconst (dt_X11_count.at 3 rfl) ki_5 ?_
    refine Ev_icmp_le (tgt := 18) (dt_X11_count.at 4 rfl) (by decide) (fun c3 => ?_) (fun c3 => ?_)
    · replace h := oPos h c3
      refine Ev_aload_n 0 (dt_X11_count.at 9 rfl) rfl ?_
      refine Ev_iload_n 1 (dt_X11_count.at 10 rfl) rfl ?_
      obtain ⟨q4, hq4, h⟩ := oBind h
      refine Ev_callV (st := []) (st' := [.int q4]) [.int a1] (dt_X11_count.at 11 rfl) cf_X11_241 (w_x_howMany σ a1 q4 hq4) (by decide) sk_0 rfl rfl rfl (Nat.le_of_ble_eq_true rfl) rfl ?_
      exact Ev_iret (dt_X11_count.at 12 rfl) rfl h
    · replace h := oNeg h c3
      refine Ev_aload_n 0 (dt_X11_count.at 5 rfl) rfl ?_
      refine Ev_bipush (dt_X11_count.at 6 rfl) kb_m2 ?_
      obtain ⟨q5, hq5, h⟩ := oBind h
      refine Ev_callV (st := []) (st' := [.int q5.1]) [.int (-2)] (dt_X11_count.at 7 rfl) cf_X11_68 (w_x_refusedBad σ (-2) q5 hq5) (by decide) sk_0 rfl rfl rfl (Nat.le_of_ble_eq_true rfl) rfl ?_
      refine Ev_goto (tgt := 23) (dt_X11_count.at 8 rfl) (by decide) ?_
      exact Ev_iret (dt_X11_count.at 12 rfl) rfl h
def b_Town_digested_62 (σ : Sg) (v5 : Int32) (x : (Int64 × Int32)) : Option ((Int64 × Int32) ⊕ (Int64 × Int32)) :=
  if inB v5 9 = true then
    if (gI σ 22 (Int32.toNatClampNeg v5)) ≤ x.2 then
      some (.inr (x.1, x.2))
    else
      if inB ((v5 * 4) + x.2) 36 = true then
        lt (((31 * x.1) + (Int32.toInt64 (gI σ 23 (Int32.toNatClampNeg ((v5 * 4) + x.2))))) : Int64) fun x11 =>
        if inB ((v5 * 4) + x.2) 36 = true then
          lt (((31 * x11) + (Int32.toInt64 (gI σ 24 (Int32.toNatClampNeg ((v5 * 4) + x.2))))) : Int64) fun x13 =>
          lt (x.2 + 1 : Int32) fun x14 =>
          some (.inl (x13, x14))
        else none
      else none
  else none
def b_Town_digested_5 (σ : Sg) (x : (Int64 × Int32)) : Option ((Int64 × Int32) ⊕ (Int64 × Int32)) :=
  if (gI σ 19 6) ≤ x.2 then
    some (.inr (x.1, x.2))
  else
    if inB x.2 9 = true then
      lt (((31 * x.1) + (Int32.toInt64 (gI σ 20 (Int32.toNatClampNeg x.2)))) : Int64) fun x3 =>
      if inB x.2 9 = true then
        lt (((31 * x3) + (Int32.toInt64 (gI σ 21 (Int32.toNatClampNeg x.2)))) : Int64) fun x5 =>
        if inB x.2 9 = true then
          lt (((31 * x5) + (Int32.toInt64 (gI σ 22 (Int32.toNatClampNeg x.2)))) : Int64) fun x7 =>
          (lp (b_Town_digested_62 σ x.2) 100000 (x7, 0)).bind fun o15 =>
          lt (x.2 + 1 : Int32) fun x16 =>
          some (.inl (o15.1, x16))
        else none
      else none
    else none
def s_Town_digested (σ : Sg) (a1 : Int64) : Option Int64 :=
  (lp (b_Town_digested_5 σ) 100000 (a1, 0)).bind fun o17 =>
  some o17.1
set_option maxRecDepth 100000 in
set_option maxHeartbeats 4000000 in
theorem wb_Town_digested_62 (σ : Sg) (v5 : Int32) (x : (Int64 × Int32)) (r : Option Value) (τ : Sg) (o : ((Int64 × Int32) ⊕ (Int64 × Int32))) (h : (b_Town_digested_62 σ v5 x) = some o) (hc : ∀ y : (Int64 × Int32), o = .inl y → Ev M_X9_digested 0 r τ 62 [(0, .ref 19), (3, .long y.1), (5, .int v5), (6, .int y.2)] [] σ) (he : ∀ y : (Int64 × Int32), o = .inr y → Ev M_X9_digested 0 r τ 120 [(0, .ref 19), (3, .long y.1), (5, .int v5)] [] σ) : Ev M_X9_digested 0 r τ 62 [(0, .ref 19), (3, .long x.1), (5, .int v5), (6, .int x.2)] [] σ := by
  unfold b_Town_digested_62 at h
  refine Ev_iload 3 (dt_X9_digested.at 40 rfl) rfl ?_
  refine Ev_aload_n 0 (dt_X9_digested.at 41 rfl) rfl ?_
  refine Ev_get (i := 2) (v := .ref 22) (dt_X9_digested.at 42 rfl) ff_X9_18 sk_19 rfl rfl ?_
  refine Ev_iload 2 (dt_X9_digested.at 43 rfl) rfl ?_
  obtain ⟨g8, h⟩ := oGuard h
  refine Ev_iaload 22 (dt_X9_digested.at 44 rfl) sk_22 g8 ?_
  refine Ev_icmp_ge (tgt := 120) (dt_X9_digested.at 45 rfl) (by decide) (fun c9 => ?_) (fun c9 => ?_)
  · replace h := oPos h c9
    refine Ev_sub [0, 1, 2] (ls' := [(0, .ref 19), (3, .long x.1), (5, .int v5)]) rfl ?_
    exact he (x.1, x.2) (Option.some.inj h).symm
  · replace h := oNeg h c9
    refine Ev_ldc2 (dt_X9_digested.at 46 rfl) cl_X9_66 ?_
    refine Ev_lload_n 1 (dt_X9_digested.at 47 rfl) rfl ?_
    refine Ev_lmul (dt_X9_digested.at 48 rfl) ?_
    refine Ev_aload_n 0 (dt_X9_digested.at 49 rfl) rfl ?_
    refine Ev_get (i := 3) (v := .ref 23) (dt_X9_digested.at 50 rfl) ff_X9_21 sk_19 rfl rfl ?_
    refine Ev_iload 2 (dt_X9_digested.at 51 rfl) rfl ?_
    refine Ev_iconst (dt_X9_digested.at 52 rfl) ki_4 ?_
    refine Ev_imul (dt_X9_digested.at 53 rfl) ?_
    refine Ev_iload 3 (dt_X9_digested.at 54 rfl) rfl ?_
    refine Ev_iadd (dt_X9_digested.at 55 rfl) ?_
    obtain ⟨g10, h⟩ := oGuard h
    refine Ev_iaload 23 (dt_X9_digested.at 56 rfl) sk_23 g10 ?_
    refine Ev_i2l (dt_X9_digested.at 57 rfl) ?_
    refine Ev_ladd (dt_X9_digested.at 58 rfl) ?_
    refine Ev_nmL (fun x11 ex11 => ?_)
    replace h := oLt h ex11
    refine Ev_lstore_n (dt_X9_digested.at 59 rfl) (by decide) (ls' := [(3, .long x11), (0, .ref 19), (5, .int v5), (6, .int x.2)]) rfl ?_
    refine Ev_ldc2 (dt_X9_digested.at 60 rfl) cl_X9_66 ?_
    refine Ev_lload_n 0 (dt_X9_digested.at 61 rfl) rfl ?_
    refine Ev_lmul (dt_X9_digested.at 62 rfl) ?_
    refine Ev_aload_n 1 (dt_X9_digested.at 63 rfl) rfl ?_
    refine Ev_get (i := 4) (v := .ref 24) (dt_X9_digested.at 64 rfl) ff_X9_24 sk_19 rfl rfl ?_
    refine Ev_iload 2 (dt_X9_digested.at 65 rfl) rfl ?_
    refine Ev_iconst (dt_X9_digested.at 66 rfl) ki_4 ?_
    refine Ev_imul (dt_X9_digested.at 67 rfl) ?_
    refine Ev_iload 3 (dt_X9_digested.at 68 rfl) rfl ?_
    refine Ev_iadd (dt_X9_digested.at 69 rfl) ?_
    obtain ⟨g12, h⟩ := oGuard h
    refine Ev_iaload 24 (dt_X9_digested.at 70 rfl) sk_24 g12 ?_
    refine Ev_i2l (dt_X9_digested.at 71 rfl) ?_
    refine Ev_ladd (dt_X9_digested.at 72 rfl) ?_
    refine Ev_nmL (fun x13 ex13 => ?_)
    replace h := oLt h ex13
    refine Ev_lstore_n (dt_X9_digested.at 73 rfl) (by decide) (ls' := [(3, .long x13), (0, .ref 19), (5, .int v5), (6, .int x.2)]) rfl ?_
    obtain ⟨x14, ex14⟩ : ∃ z : Int32, z = x.2 + 1 := ⟨_, rfl⟩
    replace h := oLt h ex14
    refine Ev_iinc (v := x14) 3 (dt_X9_digested.at 74 rfl) rfl (ex14.trans (congrArg (fun z => x.2 + z) ki_1.symm)) (by decide) (ls' := [(6, .int x14), (3, .long x13), (0, .ref 19), (5, .int v5)]) rfl ?_
    refine Ev_goto (tgt := 62) (dt_X9_digested.at 75 rfl) (by decide) ?_
    refine Ev_sub [2, 1, 3, 0] (ls' := [(0, .ref 19), (3, .long x13), (5, .int v5), (6, .int x14)]) rfl ?_
    exact hc (x13, x14) (Option.some.inj h).symm
set_option maxRecDepth 100000 in
set_option maxHeartbeats 4000000 in
theorem wl_Town_digested_62 (σ : Sg) (v5 : Int32) (r : Option Value) (τ : Sg) (n : Nat) (x : (Int64 × Int32)) (z : (Int64 × Int32)) (h : lp (b_Town_digested_62 σ v5) n x = some z) (he : ∀ y : (Int64 × Int32), z = y → Ev M_X9_digested 0 r τ 120 [(0, .ref 19), (3, .long y.1), (5, .int v5)] [] σ) : Ev M_X9_digested 0 r τ 62 [(0, .ref 19), (3, .long x.1), (5, .int v5), (6, .int x.2)] [] σ := by
  refine lp_ind (E := fun x : (Int64 × Int32) => Ev M_X9_digested 0 r τ 62 [(0, .ref 19), (3, .long x.1), (5, .int v5), (6, .int x.2)] [] σ) (fun x => ⟨fun y hb hy => ?_, fun hb => ?_⟩) n x h
  · exact wb_Town_digested_62 σ v5 x r τ _ hb (fun y' e => by cases e; exact hy) (fun y' e => by cases e)
  · exact wb_Town_digested_62 σ v5 x r τ _ hb (fun y' e => by cases e) (fun y' e => he y' (Sum.inr.inj e))
set_option maxRecDepth 100000 in
set_option maxHeartbeats 4000000 in
theorem wb_Town_digested_5 (σ : Sg) (x : (Int64 × Int32)) (r : Option Value) (τ : Sg) (o : ((Int64 × Int32) ⊕ (Int64 × Int32))) (h : (b_Town_digested_5 σ x) = some o) (hc : ∀ y : (Int64 × Int32), o = .inl y → Ev M_X9_digested 0 r τ 5 [(0, .ref 19), (3, .long y.1), (5, .int y.2)] [] σ) (he : ∀ y : (Int64 × Int32), o = .inr y → Ev M_X9_digested 0 r τ 126 [(3, .long y.1)] [] σ) : Ev M_X9_digested 0 r τ 5 [(0, .ref 19), (3, .long x.1), (5, .int x.2)] [] σ := by
  unfold b_Town_digested_5 at h
  refine Ev_iload 2 (dt_X9_digested.at 4 rfl) rfl ?_
  refine Ev_aload_n 0 (dt_X9_digested.at 5 rfl) rfl ?_
  refine Ev_get (i := 6) (v := .int (gI σ 19 6)) (dt_X9_digested.at 6 rfl) ff_X9_31 sk_19 rfl rfl ?_
  refine Ev_icmp_ge (tgt := 126) (dt_X9_digested.at 7 rfl) (by decide) (fun c1 => ?_) (fun c1 => ?_)
  · replace h := oPos h c1
    refine Ev_sub [1] (ls' := [(3, .long x.1)]) rfl ?_
    exact he (x.1, x.2) (Option.some.inj h).symm
  · replace h := oNeg h c1
    refine Ev_ldc2 (dt_X9_digested.at 8 rfl) cl_X9_66 ?_
    refine Ev_lload_n 1 (dt_X9_digested.at 9 rfl) rfl ?_
    refine Ev_lmul (dt_X9_digested.at 10 rfl) ?_
    refine Ev_aload_n 0 (dt_X9_digested.at 11 rfl) rfl ?_
    refine Ev_get (i := 0) (v := .ref 20) (dt_X9_digested.at 12 rfl) ff_X9_9 sk_19 rfl rfl ?_
    refine Ev_iload 2 (dt_X9_digested.at 13 rfl) rfl ?_
    obtain ⟨g2, h⟩ := oGuard h
    refine Ev_iaload 20 (dt_X9_digested.at 14 rfl) sk_20 g2 ?_
    refine Ev_i2l (dt_X9_digested.at 15 rfl) ?_
    refine Ev_ladd (dt_X9_digested.at 16 rfl) ?_
    refine Ev_nmL (fun x3 ex3 => ?_)
    replace h := oLt h ex3
    refine Ev_lstore_n (dt_X9_digested.at 17 rfl) (by decide) (ls' := [(3, .long x3), (0, .ref 19), (5, .int x.2)]) rfl ?_
    refine Ev_ldc2 (dt_X9_digested.at 18 rfl) cl_X9_66 ?_
    refine Ev_lload_n 0 (dt_X9_digested.at 19 rfl) rfl ?_
    refine Ev_lmul (dt_X9_digested.at 20 rfl) ?_
    refine Ev_aload_n 1 (dt_X9_digested.at 21 rfl) rfl ?_
    refine Ev_get (i := 1) (v := .ref 21) (dt_X9_digested.at 22 rfl) ff_X9_15 sk_19 rfl rfl ?_
    refine Ev_iload 2 (dt_X9_digested.at 23 rfl) rfl ?_
    obtain ⟨g4, h⟩ := oGuard h
    refine Ev_iaload 21 (dt_X9_digested.at 24 rfl) sk_21 g4 ?_
    refine Ev_i2l (dt_X9_digested.at 25 rfl) ?_
    refine Ev_ladd (dt_X9_digested.at 26 rfl) ?_
    refine Ev_nmL (fun x5 ex5 => ?_)
    replace h := oLt h ex5
    refine Ev_lstore_n (dt_X9_digested.at 27 rfl) (by decide) (ls' := [(3, .long x5), (0, .ref 19), (5, .int x.2)]) rfl ?_
    refine Ev_ldc2 (dt_X9_digested.at 28 rfl) cl_X9_66 ?_
    refine Ev_lload_n 0 (dt_X9_digested.at 29 rfl) rfl ?_
    refine Ev_lmul (dt_X9_digested.at 30 rfl) ?_
    refine Ev_aload_n 1 (dt_X9_digested.at 31 rfl) rfl ?_
    refine Ev_get (i := 2) (v := .ref 22) (dt_X9_digested.at 32 rfl) ff_X9_18 sk_19 rfl rfl ?_
    refine Ev_iload 2 (dt_X9_digested.at 33 rfl) rfl ?_
    obtain ⟨g6, h⟩ := oGuard h
    refine Ev_iaload 22 (dt_X9_digested.at 34 rfl) sk_22 g6 ?_
    refine Ev_i2l (dt_X9_digested.at 35 rfl) ?_
    refine Ev_ladd (dt_X9_digested.at 36 rfl) ?_
    refine Ev_nmL (fun x7 ex7 => ?_)
    replace h := oLt h ex7
    refine Ev_lstore_n (dt_X9_digested.at 37 rfl) (by decide) (ls' := [(3, .long x7), (0, .ref 19), (5, .int x.2)]) rfl ?_
    refine Ev_iconst (dt_X9_digested.at 38 rfl) ki_0 ?_
    refine Ev_istore (dt_X9_digested.at 39 rfl) (by decide) (ls' := [(6, .int 0), (3, .long x7), (0, .ref 19), (5, .int x.2)]) rfl ?_
    refine Ev_sub [2, 1, 3, 0] (ls' := [(0, .ref 19), (3, .long x7), (5, .int x.2), (6, .int 0)]) rfl ?_
    obtain ⟨o15, ho15, h⟩ := oBind h
    refine wl_Town_digested_62 σ x.2 _ _ 100000 (x7, 0) o15 ho15 (fun y ey => ?_)
    subst ey
    obtain ⟨x16, ex16⟩ : ∃ z : Int32, z = x.2 + 1 := ⟨_, rfl⟩
    replace h := oLt h ex16
    refine Ev_iinc (v := x16) 2 (dt_X9_digested.at 76 rfl) rfl (ex16.trans (congrArg (fun z => x.2 + z) ki_1.symm)) (by decide) (ls' := [(5, .int x16), (0, .ref 19), (3, .long o15.1)]) rfl ?_
    refine Ev_goto (tgt := 5) (dt_X9_digested.at 77 rfl) (by decide) ?_
    refine Ev_sub [1, 2, 0] (ls' := [(0, .ref 19), (3, .long o15.1), (5, .int x16)]) rfl ?_
    exact hc (o15.1, x16) (Option.some.inj h).symm
set_option maxRecDepth 100000 in
set_option maxHeartbeats 4000000 in
theorem wl_Town_digested_5 (σ : Sg) (r : Option Value) (τ : Sg) (n : Nat) (x : (Int64 × Int32)) (z : (Int64 × Int32)) (h : lp (b_Town_digested_5 σ) n x = some z) (he : ∀ y : (Int64 × Int32), z = y → Ev M_X9_digested 0 r τ 126 [(3, .long y.1)] [] σ) : Ev M_X9_digested 0 r τ 5 [(0, .ref 19), (3, .long x.1), (5, .int x.2)] [] σ := by
  refine lp_ind (E := fun x : (Int64 × Int32) => Ev M_X9_digested 0 r τ 5 [(0, .ref 19), (3, .long x.1), (5, .int x.2)] [] σ) (fun x => ⟨fun y hb hy => ?_, fun hb => ?_⟩) n x h
  · exact wb_Town_digested_5 σ x r τ _ hb (fun y' e => by cases e; exact hy) (fun y' e => by cases e)
  · exact wb_Town_digested_5 σ x r τ _ hb (fun y' e => by cases e) (fun y' e => he y' (Sum.inr.inj e))
set_option maxRecDepth 100000 in
set_option maxHeartbeats 4000000 in
theorem w_Town_digested (σ : Sg) (a1 : Int64) (q : Int64) (h : s_Town_digested σ a1 = some q) : Cal M_X9_digested 0 [.ref 19, .long a1] σ (some (.long q)) σ := by
  refine Cal.of (M := M_X9_digested) (by decide +kernel) (Nat.le_of_ble_eq_true rfl) ?_
  show Ev _ _ _ _ 0 [(0, .ref 19), (1, .long a1)] [] σ
  unfold s_Town_digested at h
  refine Ev_lload_n 1 (dt_X9_digested.at 0 rfl) rfl ?_
  refine Ev_lstore_n (dt_X9_digested.at 1 rfl) (by decide) (ls' := [(3, .long a1), (0, .ref 19), (1, .long a1)]) rfl ?_
  refine Ev_iconst (dt_X9_digested.at 2 rfl) ki_0 ?_
  refine Ev_istore (dt_X9_digested.at 3 rfl) (by decide) (ls' := [(5, .int 0), (3, .long a1), (0, .ref 19), (1, .long a1)]) rfl ?_
  refine Ev_sub [2, 1, 0] (ls' := [(0, .ref 19), (3, .long a1), (5, .int 0)]) rfl ?_
  obtain ⟨o17, ho17, h⟩ := oBind h
  refine wl_Town_digested_5 σ _ _ 100000 (a1, 0) o17 ho17 (fun y ey => ?_)
  subst ey
  refine Ev_lload_n 0 (dt_X9_digested.at 78 rfl) rfl ?_
  exact Ev_lret (dt_X9_digested.at 79 rfl) rfl (oRet h)
def b_Scene_digested_12 (σ : Sg) (x : (Int64 × Int32)) : Option ((Int64 × Int32) ⊕ (Int64 × Int32)) :=
  if 7 < x.2 then
    some (.inr (x.1, x.2))
  else
    if inB x.2 8 = true then
      lt (((31 * x.1) + (Int32.toInt64 (gI σ 26 (Int32.toNatClampNeg x.2)))) : Int64) fun x4 =>
      lt (x.2 + 1 : Int32) fun x5 =>
      some (.inl (x4, x5))
    else none
def b_Scene_digested_43 (σ : Sg) (x : (Int64 × Int32)) : Option ((Int64 × Int32) ⊕ (Int64 × Int32)) :=
  if ((gI σ 25 6) * 3) ≤ x.2 then
    some (.inr (x.1, x.2))
  else
    if inB x.2 18 = true then
      lt (((31 * x.1) + (Int32.toInt64 (gI σ 27 (Int32.toNatClampNeg x.2)))) : Int64) fun x9 =>
      lt (x.2 + 1 : Int32) fun x10 =>
      some (.inl (x9, x10))
    else none
def b_Scene_digested_78 (σ : Sg) (x : (Int64 × Int32)) : Option ((Int64 × Int32) ⊕ (Int64 × Int32)) :=
  if (gI σ 25 7) ≤ x.2 then
    some (.inr (x.1, x.2))
  else
    if inB x.2 5 = true then
      lt (((31 * x.1) + (Int32.toInt64 (gI σ 28 (Int32.toNatClampNeg x.2)))) : Int64) fun x14 =>
      if inB x.2 5 = true then
        lt (((31 * x14) + (Int32.toInt64 (gI σ 29 (Int32.toNatClampNeg x.2)))) : Int64) fun x16 =>
        if inB x.2 5 = true then
          lt (((31 * x16) + (Int32.toInt64 (gI σ 30 (Int32.toNatClampNeg x.2)))) : Int64) fun x18 =>
          lt (x.2 + 1 : Int32) fun x19 =>
          some (.inl (x18, x19))
        else none
      else none
    else none
def s_Scene_digested (σ : Sg) (a1 : Int64) : Option Int64 :=
  (s_Town_digested σ a1).bind fun q1 =>
  (lp (b_Scene_digested_12 σ) 100000 (q1, 1)).bind fun o6 =>
  (lp (b_Scene_digested_43 σ) 100000 (o6.1, 0)).bind fun o11 =>
  (lp (b_Scene_digested_78 σ) 100000 (o11.1, 0)).bind fun o20 =>
  some o20.1
set_option maxRecDepth 100000 in
set_option maxHeartbeats 4000000 in
theorem wb_Scene_digested_12 (σ : Sg) (x : (Int64 × Int32)) (r : Option Value) (τ : Sg) (o : ((Int64 × Int32) ⊕ (Int64 × Int32))) (h : (b_Scene_digested_12 σ x) = some o) (hc : ∀ y : (Int64 × Int32), o = .inl y → Ev M_X6_digested 1 r τ 12 [(0, .ref 25), (3, .long y.1), (5, .int y.2)] [] σ) (he : ∀ y : (Int64 × Int32), o = .inr y → Ev M_X6_digested 1 r τ 40 [(0, .ref 25), (3, .long y.1)] [] σ) : Ev M_X6_digested 1 r τ 12 [(0, .ref 25), (3, .long x.1), (5, .int x.2)] [] σ := by
  unfold b_Scene_digested_12 at h
  refine Ev_iload 2 (dt_X6_digested.at 7 rfl) rfl ?_
  refine Ev_bipush (dt_X6_digested.at 8 rfl) kb_7 ?_
  refine Ev_icmp_gt (tgt := 40) (dt_X6_digested.at 9 rfl) (by decide) (fun c2 => ?_) (fun c2 => ?_)
  · replace h := oPos h c2
    refine Ev_sub [0, 1] (ls' := [(0, .ref 25), (3, .long x.1)]) rfl ?_
    exact he (x.1, x.2) (Option.some.inj h).symm
  · replace h := oNeg h c2
    refine Ev_ldc2 (dt_X6_digested.at 10 rfl) cl_X6_54 ?_
    refine Ev_lload_n 1 (dt_X6_digested.at 11 rfl) rfl ?_
    refine Ev_lmul (dt_X6_digested.at 12 rfl) ?_
    refine Ev_aload_n 0 (dt_X6_digested.at 13 rfl) rfl ?_
    refine Ev_get (i := 1) (v := .ref 26) (dt_X6_digested.at 14 rfl) ff_X6_9 sk_25 rfl rfl ?_
    refine Ev_iload 2 (dt_X6_digested.at 15 rfl) rfl ?_
    obtain ⟨g3, h⟩ := oGuard h
    refine Ev_iaload 26 (dt_X6_digested.at 16 rfl) sk_26 g3 ?_
    refine Ev_i2l (dt_X6_digested.at 17 rfl) ?_
    refine Ev_ladd (dt_X6_digested.at 18 rfl) ?_
    refine Ev_nmL (fun x4 ex4 => ?_)
    replace h := oLt h ex4
    refine Ev_lstore_n (dt_X6_digested.at 19 rfl) (by decide) (ls' := [(3, .long x4), (0, .ref 25), (5, .int x.2)]) rfl ?_
    obtain ⟨x5, ex5⟩ : ∃ z : Int32, z = x.2 + 1 := ⟨_, rfl⟩
    replace h := oLt h ex5
    refine Ev_iinc (v := x5) 2 (dt_X6_digested.at 20 rfl) rfl (ex5.trans (congrArg (fun z => x.2 + z) ki_1.symm)) (by decide) (ls' := [(5, .int x5), (3, .long x4), (0, .ref 25)]) rfl ?_
    refine Ev_goto (tgt := 12) (dt_X6_digested.at 21 rfl) (by decide) ?_
    refine Ev_sub [2, 1, 0] (ls' := [(0, .ref 25), (3, .long x4), (5, .int x5)]) rfl ?_
    exact hc (x4, x5) (Option.some.inj h).symm
set_option maxRecDepth 100000 in
set_option maxHeartbeats 4000000 in
theorem wl_Scene_digested_12 (σ : Sg) (r : Option Value) (τ : Sg) (n : Nat) (x : (Int64 × Int32)) (z : (Int64 × Int32)) (h : lp (b_Scene_digested_12 σ) n x = some z) (he : ∀ y : (Int64 × Int32), z = y → Ev M_X6_digested 1 r τ 40 [(0, .ref 25), (3, .long y.1)] [] σ) : Ev M_X6_digested 1 r τ 12 [(0, .ref 25), (3, .long x.1), (5, .int x.2)] [] σ := by
  refine lp_ind (E := fun x : (Int64 × Int32) => Ev M_X6_digested 1 r τ 12 [(0, .ref 25), (3, .long x.1), (5, .int x.2)] [] σ) (fun x => ⟨fun y hb hy => ?_, fun hb => ?_⟩) n x h
  · exact wb_Scene_digested_12 σ x r τ _ hb (fun y' e => by cases e; exact hy) (fun y' e => by cases e)
  · exact wb_Scene_digested_12 σ x r τ _ hb (fun y' e => by cases e) (fun y' e => he y' (Sum.inr.inj e))
set_option maxRecDepth 100000 in
set_option maxHeartbeats 4000000 in
theorem wb_Scene_digested_43 (σ : Sg) (x : (Int64 × Int32)) (r : Option Value) (τ : Sg) (o : ((Int64 × Int32) ⊕ (Int64 × Int32))) (h : (b_Scene_digested_43 σ x) = some o) (hc : ∀ y : (Int64 × Int32), o = .inl y → Ev M_X6_digested 1 r τ 43 [(0, .ref 25), (3, .long y.1), (5, .int y.2)] [] σ) (he : ∀ y : (Int64 × Int32), o = .inr y → Ev M_X6_digested 1 r τ 75 [(0, .ref 25), (3, .long y.1)] [] σ) : Ev M_X6_digested 1 r τ 43 [(0, .ref 25), (3, .long x.1), (5, .int x.2)] [] σ := by
  unfold b_Scene_digested_43 at h
  refine Ev_iload 2 (dt_X6_digested.at 24 rfl) rfl ?_
  refine Ev_aload_n 0 (dt_X6_digested.at 25 rfl) rfl ?_
  refine Ev_get (i := 6) (v := .int (gI σ 25 6)) (dt_X6_digested.at 26 rfl) ff_X6_31 sk_25 rfl rfl ?_
  refine Ev_iconst (dt_X6_digested.at 27 rfl) ki_3 ?_
  refine Ev_imul (dt_X6_digested.at 28 rfl) ?_
  refine Ev_icmp_ge (tgt := 75) (dt_X6_digested.at 29 rfl) (by decide) (fun c7 => ?_) (fun c7 => ?_)
  · replace h := oPos h c7
    refine Ev_sub [0, 1] (ls' := [(0, .ref 25), (3, .long x.1)]) rfl ?_
    exact he (x.1, x.2) (Option.some.inj h).symm
  · replace h := oNeg h c7
    refine Ev_ldc2 (dt_X6_digested.at 30 rfl) cl_X6_54 ?_
    refine Ev_lload_n 1 (dt_X6_digested.at 31 rfl) rfl ?_
    refine Ev_lmul (dt_X6_digested.at 32 rfl) ?_
    refine Ev_aload_n 0 (dt_X6_digested.at 33 rfl) rfl ?_
    refine Ev_get (i := 2) (v := .ref 27) (dt_X6_digested.at 34 rfl) ff_X6_15 sk_25 rfl rfl ?_
    refine Ev_iload 2 (dt_X6_digested.at 35 rfl) rfl ?_
    obtain ⟨g8, h⟩ := oGuard h
    refine Ev_iaload 27 (dt_X6_digested.at 36 rfl) sk_27 g8 ?_
    refine Ev_i2l (dt_X6_digested.at 37 rfl) ?_
    refine Ev_ladd (dt_X6_digested.at 38 rfl) ?_
    refine Ev_nmL (fun x9 ex9 => ?_)
    replace h := oLt h ex9
    refine Ev_lstore_n (dt_X6_digested.at 39 rfl) (by decide) (ls' := [(3, .long x9), (0, .ref 25), (5, .int x.2)]) rfl ?_
    obtain ⟨x10, ex10⟩ : ∃ z : Int32, z = x.2 + 1 := ⟨_, rfl⟩
    replace h := oLt h ex10
    refine Ev_iinc (v := x10) 2 (dt_X6_digested.at 40 rfl) rfl (ex10.trans (congrArg (fun z => x.2 + z) ki_1.symm)) (by decide) (ls' := [(5, .int x10), (3, .long x9), (0, .ref 25)]) rfl ?_
    refine Ev_goto (tgt := 43) (dt_X6_digested.at 41 rfl) (by decide) ?_
    refine Ev_sub [2, 1, 0] (ls' := [(0, .ref 25), (3, .long x9), (5, .int x10)]) rfl ?_
    exact hc (x9, x10) (Option.some.inj h).symm
set_option maxRecDepth 100000 in
set_option maxHeartbeats 4000000 in
theorem wl_Scene_digested_43 (σ : Sg) (r : Option Value) (τ : Sg) (n : Nat) (x : (Int64 × Int32)) (z : (Int64 × Int32)) (h : lp (b_Scene_digested_43 σ) n x = some z) (he : ∀ y : (Int64 × Int32), z = y → Ev M_X6_digested 1 r τ 75 [(0, .ref 25), (3, .long y.1)] [] σ) : Ev M_X6_digested 1 r τ 43 [(0, .ref 25), (3, .long x.1), (5, .int x.2)] [] σ := by
  refine lp_ind (E := fun x : (Int64 × Int32) => Ev M_X6_digested 1 r τ 43 [(0, .ref 25), (3, .long x.1), (5, .int x.2)] [] σ) (fun x => ⟨fun y hb hy => ?_, fun hb => ?_⟩) n x h
  · exact wb_Scene_digested_43 σ x r τ _ hb (fun y' e => by cases e; exact hy) (fun y' e => by cases e)
  · exact wb_Scene_digested_43 σ x r τ _ hb (fun y' e => by cases e) (fun y' e => he y' (Sum.inr.inj e))
set_option maxRecDepth 100000 in
set_option maxHeartbeats 4000000 in
theorem wb_Scene_digested_78 (σ : Sg) (x : (Int64 × Int32)) (r : Option Value) (τ : Sg) (o : ((Int64 × Int32) ⊕ (Int64 × Int32))) (h : (b_Scene_digested_78 σ x) = some o) (hc : ∀ y : (Int64 × Int32), o = .inl y → Ev M_X6_digested 1 r τ 78 [(0, .ref 25), (3, .long y.1), (5, .int y.2)] [] σ) (he : ∀ y : (Int64 × Int32), o = .inr y → Ev M_X6_digested 1 r τ 138 [(3, .long y.1)] [] σ) : Ev M_X6_digested 1 r τ 78 [(0, .ref 25), (3, .long x.1), (5, .int x.2)] [] σ := by
  unfold b_Scene_digested_78 at h
  refine Ev_iload 2 (dt_X6_digested.at 44 rfl) rfl ?_
  refine Ev_aload_n 0 (dt_X6_digested.at 45 rfl) rfl ?_
  refine Ev_get (i := 7) (v := .int (gI σ 25 7)) (dt_X6_digested.at 46 rfl) ff_X6_35 sk_25 rfl rfl ?_
  refine Ev_icmp_ge (tgt := 138) (dt_X6_digested.at 47 rfl) (by decide) (fun c12 => ?_) (fun c12 => ?_)
  · replace h := oPos h c12
    refine Ev_sub [1] (ls' := [(3, .long x.1)]) rfl ?_
    exact he (x.1, x.2) (Option.some.inj h).symm
  · replace h := oNeg h c12
    refine Ev_ldc2 (dt_X6_digested.at 48 rfl) cl_X6_54 ?_
    refine Ev_lload_n 1 (dt_X6_digested.at 49 rfl) rfl ?_
    refine Ev_lmul (dt_X6_digested.at 50 rfl) ?_
    refine Ev_aload_n 0 (dt_X6_digested.at 51 rfl) rfl ?_
    refine Ev_get (i := 3) (v := .ref 28) (dt_X6_digested.at 52 rfl) ff_X6_18 sk_25 rfl rfl ?_
    refine Ev_iload 2 (dt_X6_digested.at 53 rfl) rfl ?_
    obtain ⟨g13, h⟩ := oGuard h
    refine Ev_iaload 28 (dt_X6_digested.at 54 rfl) sk_28 g13 ?_
    refine Ev_i2l (dt_X6_digested.at 55 rfl) ?_
    refine Ev_ladd (dt_X6_digested.at 56 rfl) ?_
    refine Ev_nmL (fun x14 ex14 => ?_)
    replace h := oLt h ex14
    refine Ev_lstore_n (dt_X6_digested.at 57 rfl) (by decide) (ls' := [(3, .long x14), (0, .ref 25), (5, .int x.2)]) rfl ?_
    refine Ev_ldc2 (dt_X6_digested.at 58 rfl) cl_X6_54 ?_
    refine Ev_lload_n 0 (dt_X6_digested.at 59 rfl) rfl ?_
    refine Ev_lmul (dt_X6_digested.at 60 rfl) ?_
    refine Ev_aload_n 1 (dt_X6_digested.at 61 rfl) rfl ?_
    refine Ev_get (i := 4) (v := .ref 29) (dt_X6_digested.at 62 rfl) ff_X6_21 sk_25 rfl rfl ?_
    refine Ev_iload 2 (dt_X6_digested.at 63 rfl) rfl ?_
    obtain ⟨g15, h⟩ := oGuard h
    refine Ev_iaload 29 (dt_X6_digested.at 64 rfl) sk_29 g15 ?_
    refine Ev_i2l (dt_X6_digested.at 65 rfl) ?_
    refine Ev_ladd (dt_X6_digested.at 66 rfl) ?_
    refine Ev_nmL (fun x16 ex16 => ?_)
    replace h := oLt h ex16
    refine Ev_lstore_n (dt_X6_digested.at 67 rfl) (by decide) (ls' := [(3, .long x16), (0, .ref 25), (5, .int x.2)]) rfl ?_
    refine Ev_ldc2 (dt_X6_digested.at 68 rfl) cl_X6_54 ?_
    refine Ev_lload_n 0 (dt_X6_digested.at 69 rfl) rfl ?_
    refine Ev_lmul (dt_X6_digested.at 70 rfl) ?_
    refine Ev_aload_n 1 (dt_X6_digested.at 71 rfl) rfl ?_
    refine Ev_get (i := 5) (v := .ref 30) (dt_X6_digested.at 72 rfl) ff_X6_24 sk_25 rfl rfl ?_
    refine Ev_iload 2 (dt_X6_digested.at 73 rfl) rfl ?_
    obtain ⟨g17, h⟩ := oGuard h
    refine Ev_iaload 30 (dt_X6_digested.at 74 rfl) sk_30 g17 ?_
    refine Ev_i2l (dt_X6_digested.at 75 rfl) ?_
    refine Ev_ladd (dt_X6_digested.at 76 rfl) ?_
    refine Ev_nmL (fun x18 ex18 => ?_)
    replace h := oLt h ex18
    refine Ev_lstore_n (dt_X6_digested.at 77 rfl) (by decide) (ls' := [(3, .long x18), (0, .ref 25), (5, .int x.2)]) rfl ?_
    obtain ⟨x19, ex19⟩ : ∃ z : Int32, z = x.2 + 1 := ⟨_, rfl⟩
    replace h := oLt h ex19
    refine Ev_iinc (v := x19) 2 (dt_X6_digested.at 78 rfl) rfl (ex19.trans (congrArg (fun z => x.2 + z) ki_1.symm)) (by decide) (ls' := [(5, .int x19), (3, .long x18), (0, .ref 25)]) rfl ?_
    refine Ev_goto (tgt := 78) (dt_X6_digested.at 79 rfl) (by decide) ?_
    refine Ev_sub [2, 1, 0] (ls' := [(0, .ref 25), (3, .long x18), (5, .int x19)]) rfl ?_
    exact hc (x18, x19) (Option.some.inj h).symm
set_option maxRecDepth 100000 in
set_option maxHeartbeats 4000000 in
theorem wl_Scene_digested_78 (σ : Sg) (r : Option Value) (τ : Sg) (n : Nat) (x : (Int64 × Int32)) (z : (Int64 × Int32)) (h : lp (b_Scene_digested_78 σ) n x = some z) (he : ∀ y : (Int64 × Int32), z = y → Ev M_X6_digested 1 r τ 138 [(3, .long y.1)] [] σ) : Ev M_X6_digested 1 r τ 78 [(0, .ref 25), (3, .long x.1), (5, .int x.2)] [] σ := by
  refine lp_ind (E := fun x : (Int64 × Int32) => Ev M_X6_digested 1 r τ 78 [(0, .ref 25), (3, .long x.1), (5, .int x.2)] [] σ) (fun x => ⟨fun y hb hy => ?_, fun hb => ?_⟩) n x h
  · exact wb_Scene_digested_78 σ x r τ _ hb (fun y' e => by cases e; exact hy) (fun y' e => by cases e)
  · exact wb_Scene_digested_78 σ x r τ _ hb (fun y' e => by cases e) (fun y' e => he y' (Sum.inr.inj e))
set_option maxRecDepth 100000 in
set_option maxHeartbeats 4000000 in
theorem w_Scene_digested (σ : Sg) (a1 : Int64) (q : Int64) (h : s_Scene_digested σ a1 = some q) : Cal M_X6_digested 1 [.ref 25, .long a1] σ (some (.long q)) σ := by
  refine Cal.of (M := M_X6_digested) (by decide +kernel) (Nat.le_of_ble_eq_true rfl) ?_
  show Ev _ _ _ _ 0 [(0, .ref 25), (1, .long a1)] [] σ
  unfold s_Scene_digested at h
  refine Ev_aload_n 0 (dt_X6_digested.at 0 rfl) rfl ?_
  refine Ev_get (i := 0) (v := .ref 19) (dt_X6_digested.at 1 rfl) ff_X6_27 sk_25 rfl rfl ?_
  refine Ev_lload_n 1 (dt_X6_digested.at 2 rfl) rfl ?_
  obtain ⟨q1, hq1, h⟩ := oBind h
  refine Ev_callV (st := []) (st' := [.long q1]) [.long a1] (dt_X6_digested.at 3 rfl) cf_X6_50 (w_Town_digested σ a1 q1 hq1) (by decide) sk_19 rfl rfl rfl (Nat.le_of_ble_eq_true rfl) rfl ?_
  refine Ev_lstore_n (dt_X6_digested.at 4 rfl) (by decide) (ls' := [(3, .long q1), (0, .ref 25), (1, .long a1)]) rfl ?_
  refine Ev_iconst (dt_X6_digested.at 5 rfl) ki_1 ?_
  refine Ev_istore (dt_X6_digested.at 6 rfl) (by decide) (ls' := [(5, .int 1), (3, .long q1), (0, .ref 25), (1, .long a1)]) rfl ?_
  refine Ev_sub [2, 1, 0] (ls' := [(0, .ref 25), (3, .long q1), (5, .int 1)]) rfl ?_
  obtain ⟨o6, ho6, h⟩ := oBind h
  refine wl_Scene_digested_12 σ _ _ 100000 (q1, 1) o6 ho6 (fun y ey => ?_)
  subst ey
  refine Ev_iconst (dt_X6_digested.at 22 rfl) ki_0 ?_
  refine Ev_istore (dt_X6_digested.at 23 rfl) (by decide) (ls' := [(5, .int 0), (0, .ref 25), (3, .long o6.1)]) rfl ?_
  refine Ev_sub [1, 2, 0] (ls' := [(0, .ref 25), (3, .long o6.1), (5, .int 0)]) rfl ?_
  obtain ⟨o11, ho11, h⟩ := oBind h
  refine wl_Scene_digested_43 σ _ _ 100000 (o6.1, 0) o11 ho11 (fun y ey => ?_)
  subst ey
  refine Ev_iconst (dt_X6_digested.at 42 rfl) ki_0 ?_
  refine Ev_istore (dt_X6_digested.at 43 rfl) (by decide) (ls' := [(5, .int 0), (0, .ref 25), (3, .long o11.1)]) rfl ?_
  refine Ev_sub [1, 2, 0] (ls' := [(0, .ref 25), (3, .long o11.1), (5, .int 0)]) rfl ?_
  obtain ⟨o20, ho20, h⟩ := oBind h
  refine wl_Scene_digested_78 σ _ _ 100000 (o11.1, 0) o20 ho20 (fun y ey => ?_)
  subst ey
  refine Ev_lload_n 0 (dt_X6_digested.at 80 rfl) rfl ?_
  exact Ev_lret (dt_X6_digested.at 81 rfl) rfl (oRet h)
def b_x_digest_6 (σ : Sg) (x : (Int64 × Int32)) : Option ((Int64 × Int32) ⊕ (Int64 × Int32)) :=
  if 5 < x.2 then
    some (.inr (x.1, x.2))
  else
    (s_x_howMany σ x.2).bind fun q2 =>
    lt (((31 * x.1) + (Int32.toInt64 q2)) : Int64) fun x3 =>
    lt (x.2 + 1 : Int32) fun x4 =>
    some (.inl (x3, x4))
def s_x_digest (σ : Sg)  : Option Int64 :=
  (lp (b_x_digest_6 σ) 100000 (769, 0)).bind fun o5 =>
  (s_Scene_digested σ o5.1).bind fun q6 =>
  lt (((31 * q6) + (Int32.toInt64 (gI σ 0 10))) : Int64) fun x7 =>
  some ((31 * x7) + (Int32.toInt64 (gI σ 0 11)))
set_option maxRecDepth 100000 in
set_option maxHeartbeats 4000000 in
theorem wb_x_digest_6 (σ : Sg) (x : (Int64 × Int32)) (r : Option Value) (τ : Sg) (o : ((Int64 × Int32) ⊕ (Int64 × Int32))) (h : (b_x_digest_6 σ x) = some o) (hc : ∀ y : (Int64 × Int32), o = .inl y → Ev M_X11_digest 2 r τ 6 [(0, .ref 0), (1, .long y.1), (3, .int y.2)] [] σ) (he : ∀ y : (Int64 × Int32), o = .inr y → Ev M_X11_digest 2 r τ 30 [(0, .ref 0), (1, .long y.1)] [] σ) : Ev M_X11_digest 2 r τ 6 [(0, .ref 0), (1, .long x.1), (3, .int x.2)] [] σ := by
  unfold b_x_digest_6 at h
  refine Ev_iload_n 2 (dt_X11_digest.at 4 rfl) rfl ?_
  refine Ev_iconst (dt_X11_digest.at 5 rfl) ki_5 ?_
  refine Ev_icmp_gt (tgt := 30) (dt_X11_digest.at 6 rfl) (by decide) (fun c1 => ?_) (fun c1 => ?_)
  · replace h := oPos h c1
    refine Ev_sub [0, 1] (ls' := [(0, .ref 0), (1, .long x.1)]) rfl ?_
    exact he (x.1, x.2) (Option.some.inj h).symm
  · replace h := oNeg h c1
    refine Ev_ldc2 (dt_X11_digest.at 7 rfl) cl_X11_246 ?_
    refine Ev_lload_n 1 (dt_X11_digest.at 8 rfl) rfl ?_
    refine Ev_lmul (dt_X11_digest.at 9 rfl) ?_
    refine Ev_aload_n 0 (dt_X11_digest.at 10 rfl) rfl ?_
    refine Ev_iload_n 2 (dt_X11_digest.at 11 rfl) rfl ?_
    obtain ⟨q2, hq2, h⟩ := oBind h
    refine Ev_callV (st := [.long (31 * x.1)]) (st' := [.int q2, .long (31 * x.1)]) [.int x.2] (dt_X11_digest.at 12 rfl) cf_X11_241 (w_x_howMany σ x.2 q2 hq2) (by decide) sk_0 rfl rfl rfl (Nat.le_of_ble_eq_true rfl) rfl ?_
    refine Ev_i2l (dt_X11_digest.at 13 rfl) ?_
    refine Ev_ladd (dt_X11_digest.at 14 rfl) ?_
    refine Ev_nmL (fun x3 ex3 => ?_)
    replace h := oLt h ex3
    refine Ev_lstore_n (dt_X11_digest.at 15 rfl) (by decide) (ls' := [(1, .long x3), (0, .ref 0), (3, .int x.2)]) rfl ?_
    obtain ⟨x4, ex4⟩ : ∃ z : Int32, z = x.2 + 1 := ⟨_, rfl⟩
    replace h := oLt h ex4
    refine Ev_iinc (v := x4) 2 (dt_X11_digest.at 16 rfl) rfl (ex4.trans (congrArg (fun z => x.2 + z) ki_1.symm)) (by decide) (ls' := [(3, .int x4), (1, .long x3), (0, .ref 0)]) rfl ?_
    refine Ev_goto (tgt := 6) (dt_X11_digest.at 17 rfl) (by decide) ?_
    refine Ev_sub [2, 1, 0] (ls' := [(0, .ref 0), (1, .long x3), (3, .int x4)]) rfl ?_
    exact hc (x3, x4) (Option.some.inj h).symm
set_option maxRecDepth 100000 in
set_option maxHeartbeats 4000000 in
theorem wl_x_digest_6 (σ : Sg) (r : Option Value) (τ : Sg) (n : Nat) (x : (Int64 × Int32)) (z : (Int64 × Int32)) (h : lp (b_x_digest_6 σ) n x = some z) (he : ∀ y : (Int64 × Int32), z = y → Ev M_X11_digest 2 r τ 30 [(0, .ref 0), (1, .long y.1)] [] σ) : Ev M_X11_digest 2 r τ 6 [(0, .ref 0), (1, .long x.1), (3, .int x.2)] [] σ := by
  refine lp_ind (E := fun x : (Int64 × Int32) => Ev M_X11_digest 2 r τ 6 [(0, .ref 0), (1, .long x.1), (3, .int x.2)] [] σ) (fun x => ⟨fun y hb hy => ?_, fun hb => ?_⟩) n x h
  · exact wb_x_digest_6 σ x r τ _ hb (fun y' e => by cases e; exact hy) (fun y' e => by cases e)
  · exact wb_x_digest_6 σ x r τ _ hb (fun y' e => by cases e) (fun y' e => he y' (Sum.inr.inj e))
set_option maxRecDepth 100000 in
set_option maxHeartbeats 4000000 in
theorem w_x_digest (σ : Sg)  (q : Int64) (h : s_x_digest σ  = some q) : Cal M_X11_digest 2 [.ref 0] σ (some (.long q)) σ := by
  refine Cal.of (M := M_X11_digest) (by decide +kernel) (Nat.le_of_ble_eq_true rfl) ?_
  show Ev _ _ _ _ 0 [(0, .ref 0)] [] σ
  unfold s_x_digest at h
  refine Ev_ldc2 (dt_X11_digest.at 0 rfl) cl_X11_244 ?_
  refine Ev_lstore_n (dt_X11_digest.at 1 rfl) (by decide) (ls' := [(1, .long 769), (0, .ref 0)]) rfl ?_
  refine Ev_iconst (dt_X11_digest.at 2 rfl) ki_0 ?_
  refine Ev_istore_n (dt_X11_digest.at 3 rfl) (by decide) (ls' := [(3, .int 0), (1, .long 769), (0, .ref 0)]) rfl ?_
  refine Ev_sub [2, 1, 0] (ls' := [(0, .ref 0), (1, .long 769), (3, .int 0)]) rfl ?_
  obtain ⟨o5, ho5, h⟩ := oBind h
  refine wl_x_digest_6 σ _ _ 100000 (769, 0) o5 ho5 (fun y ey => ?_)
  subst ey
  refine Ev_aload_n 0 (dt_X11_digest.at 18 rfl) rfl ?_
  refine Ev_get (i := 0) (v := .ref 25) (dt_X11_digest.at 19 rfl) ff_X11_50 sk_0 rfl rfl ?_
  refine Ev_lload_n 1 (dt_X11_digest.at 20 rfl) rfl ?_
  obtain ⟨q6, hq6, h⟩ := oBind h
  refine Ev_callV (st := []) (st' := [.long q6]) [.long o5.1] (dt_X11_digest.at 21 rfl) cf_X11_248 (w_Scene_digested σ o5.1 q6 hq6) (by decide) sk_25 rfl rfl rfl (Nat.le_of_ble_eq_true rfl) rfl ?_
  refine Ev_lstore_n (dt_X11_digest.at 22 rfl) (by decide) (ls' := [(1, .long q6), (0, .ref 0)]) rfl ?_
  refine Ev_ldc2 (dt_X11_digest.at 23 rfl) cl_X11_246 ?_
  refine Ev_lload_n 0 (dt_X11_digest.at 24 rfl) rfl ?_
  refine Ev_lmul (dt_X11_digest.at 25 rfl) ?_
  refine Ev_aload_n 1 (dt_X11_digest.at 26 rfl) rfl ?_
  refine Ev_get (i := 10) (v := .int (gI σ 0 10)) (dt_X11_digest.at 27 rfl) ff_X11_223 sk_0 rfl rfl ?_
  refine Ev_i2l (dt_X11_digest.at 28 rfl) ?_
  refine Ev_ladd (dt_X11_digest.at 29 rfl) ?_
  refine Ev_nmL (fun x7 ex7 => ?_)
  replace h := oLt h ex7
  refine Ev_lstore_n (dt_X11_digest.at 30 rfl) (by decide) (ls' := [(1, .long x7), (0, .ref 0)]) rfl ?_
  refine Ev_ldc2 (dt_X11_digest.at 31 rfl) cl_X11_246 ?_
  refine Ev_lload_n 0 (dt_X11_digest.at 32 rfl) rfl ?_
  refine Ev_lmul (dt_X11_digest.at 33 rfl) ?_
  refine Ev_aload_n 1 (dt_X11_digest.at 34 rfl) rfl ?_
  refine Ev_get (i := 11) (v := .int (gI σ 0 11)) (dt_X11_digest.at 35 rfl) ff_X11_40 sk_0 rfl rfl ?_
  refine Ev_i2l (dt_X11_digest.at 36 rfl) ?_
  refine Ev_ladd (dt_X11_digest.at 37 rfl) ?_
  exact Ev_lret (dt_X11_digest.at 38 rfl) rfl (oRet h)
