def s_x_refusedNo (σ : Sg) (a1 : Int32) : Option (Int32 × Sg) :=
  lt (pI σ 0 13 ((gI σ 0 13) + 1) : Sg) fun s1 =>
  some (a1, s1)
set_option maxRecDepth 100000 in
set_option maxHeartbeats 4000000 in
theorem w_x_refusedNo (σ : Sg) (a1 : Int32) (q : (Int32 × Sg)) (h : s_x_refusedNo σ a1 = some q) : Cal M_X11_refusedNo 0 [.ref 0, .int a1] σ (some (.int q.1)) q.2 := by
  refine Cal.of (M := M_X11_refusedNo) (by decide +kernel) (Nat.le_of_ble_eq_true rfl) ?_
  show Ev _ _ _ _ 0 [(0, .ref 0), (1, .int a1)] [] σ
  unfold s_x_refusedNo at h
  refine Ev_aload_n 0 (dt_X11_refusedNo.at 0 rfl) rfl ?_
  refine Ev_dup (dt_X11_refusedNo.at 1 rfl) rfl ?_
  refine Ev_get (i := 13) (v := .int (gI σ 0 13)) (dt_X11_refusedNo.at 2 rfl) ff_X11_235 sk_0 rfl rfl ?_
  refine Ev_iconst (dt_X11_refusedNo.at 3 rfl) ki_1 ?_
  refine Ev_iadd (dt_X11_refusedNo.at 4 rfl) ?_
  refine Ev_putI (dt_X11_refusedNo.at 5 rfl) ff_X11_235 fw_11_13 sk_0 rfl ?_
  refine Ev_nmS (fun s1 es1 => ?_)
  replace h := oLt h es1
  refine Ev_iload_n 1 (dt_X11_refusedNo.at 6 rfl) rfl ?_
  exact Ev_iret (dt_X11_refusedNo.at 7 rfl) rfl h
def s_x_drop (σ : Sg) (a1 : Int32) : Option (Int32 × Sg) :=
  (s_Town_hasPerson σ a1).bind fun q1 =>
  if q1 = 0 then
    (s_x_refusedBad σ (-2)).bind fun q10 =>
    some (q10.1, q10.2)
  else
    if inB a1 9 = true then
      if (gI σ 22 (Int32.toNatClampNeg a1)) = 0 then
        (s_x_refusedNo σ (-3)).bind fun q9 =>
        some (q9.1, q9.2)
      else
        if inB a1 9 = true then
          if inB a1 9 = true then
            lt (pI σ 22 (Int32.toNatClampNeg a1) ((gI σ 22 (Int32.toNatClampNeg a1)) - 1) : Sg) fun s7 =>
            if inB a1 9 = true then
              some ((gI s7 22 (Int32.toNatClampNeg a1)), s7)
            else none
          else none
        else none
    else none
set_option maxRecDepth 100000 in
set_option maxHeartbeats 4000000 in
theorem w_x_drop (σ : Sg) (a1 : Int32) (q : (Int32 × Sg)) (h : s_x_drop σ a1 = some q) : Cal M_X11_drop 1 [.ref 0, .int a1] σ (some (.int q.1)) q.2 := by
  refine Cal.of (M := M_X11_drop) (by decide +kernel) (Nat.le_of_ble_eq_true rfl) ?_
  show Ev _ _ _ _ 0 [(0, .ref 0), (1, .int a1)] [] σ
  unfold s_x_drop at h
  refine Ev_aload_n 0 (dt_X11_drop.at 0 rfl) rfl ?_
  refine Ev_get (i := 0) (v := .ref 25) (dt_X11_drop.at 1 rfl) ff_X11_50 sk_0 rfl rfl ?_
  refine Ev_get (i := 0) (v := .ref 19) (dt_X11_drop.at 2 rfl) ff_X11_72 sk_25 rfl rfl ?_
  refine Ev_astore_n (dt_X11_drop.at 3 rfl) (by decide) (ls' := [(2, .ref 19), (0, .ref 0), (1, .int a1)]) rfl ?_
  refine Ev_aload_n 0 (dt_X11_drop.at 4 rfl) rfl ?_
  refine Ev_iload_n 2 (dt_X11_drop.at 5 rfl) rfl ?_
  obtain ⟨q1, hq1, h⟩ := oBind h
  refine Ev_callV (st := []) (st' := [.int q1]) [.int a1] (dt_X11_drop.at 6 rfl) cf_X11_101 (w_Town_hasPerson σ a1 q1 hq1) (by decide) sk_19 rfl rfl rfl (Nat.le_of_ble_eq_true rfl) rfl ?_
  refine Ev_if_ne (tgt := 23) (dt_X11_drop.at 7 rfl) (by decide) (fun c2 => ?_) (fun c2 => ?_)
  · replace h := oNeg h c2
    refine Ev_aload_n 0 (dt_X11_drop.at 12 rfl) rfl ?_
    refine Ev_get (i := 2) (v := .ref 22) (dt_X11_drop.at 13 rfl) ff_X11_111 sk_19 rfl rfl ?_
    refine Ev_iload_n 2 (dt_X11_drop.at 14 rfl) rfl ?_
    obtain ⟨g3, h⟩ := oGuard h
    refine Ev_iaload 22 (dt_X11_drop.at 15 rfl) sk_22 g3 ?_
    refine Ev_if_ne (tgt := 39) (dt_X11_drop.at 16 rfl) (by decide) (fun c4 => ?_) (fun c4 => ?_)
    · replace h := oNeg h c4
      refine Ev_aload_n 0 (dt_X11_drop.at 21 rfl) rfl ?_
      refine Ev_get (i := 2) (v := .ref 22) (dt_X11_drop.at 22 rfl) ff_X11_111 sk_19 rfl rfl ?_
      refine Ev_iload_n 2 (dt_X11_drop.at 23 rfl) rfl ?_
      refine Ev_dup2 (dt_X11_drop.at 24 rfl) rfl rfl ?_
      obtain ⟨g5, h⟩ := oGuard h
      refine Ev_iaload 22 (dt_X11_drop.at 25 rfl) sk_22 g5 ?_
      refine Ev_iconst (dt_X11_drop.at 26 rfl) ki_1 ?_
      refine Ev_isub (dt_X11_drop.at 27 rfl) ?_
      obtain ⟨g6, h⟩ := oGuard h
      refine Ev_iastore 22 (dt_X11_drop.at 28 rfl) sk_22 g6 ?_
      refine Ev_nmS (fun s7 es7 => ?_)
      replace h := oLt h es7
      refine Ev_aload_n 0 (dt_X11_drop.at 29 rfl) rfl ?_
      refine Ev_get (i := 2) (v := .ref 22) (dt_X11_drop.at 30 rfl) ff_X11_111 sk_19 rfl rfl ?_
      refine Ev_iload_n 2 (dt_X11_drop.at 31 rfl) rfl ?_
      obtain ⟨g8, h⟩ := oGuard h
      refine Ev_iaload 22 (dt_X11_drop.at 32 rfl) sk_22 g8 ?_
      exact Ev_iret (dt_X11_drop.at 33 rfl) rfl h
    · replace h := oPos h c4
      refine Ev_aload_n 1 (dt_X11_drop.at 17 rfl) rfl ?_
      refine Ev_bipush (dt_X11_drop.at 18 rfl) kb_m3 ?_
      obtain ⟨q9, hq9, h⟩ := oBind h
      refine Ev_callV (st := []) (st' := [.int q9.1]) [.int (-3)] (dt_X11_drop.at 19 rfl) cf_X11_118 (w_x_refusedNo σ (-3) q9 hq9) (by decide) sk_0 rfl rfl rfl (Nat.le_of_ble_eq_true rfl) rfl ?_
      exact Ev_iret (dt_X11_drop.at 20 rfl) rfl h
  · replace h := oPos h c2
    refine Ev_aload_n 1 (dt_X11_drop.at 8 rfl) rfl ?_
    refine Ev_bipush (dt_X11_drop.at 9 rfl) kb_m2 ?_
    obtain ⟨q10, hq10, h⟩ := oBind h
    refine Ev_callV (st := []) (st' := [.int q10.1]) [.int (-2)] (dt_X11_drop.at 10 rfl) cf_X11_68 (w_x_refusedBad σ (-2) q10 hq10) (by decide) sk_0 rfl rfl rfl (Nat.le_of_ble_eq_true rfl) rfl ?_
    exact Ev_iret (dt_X11_drop.at 11 rfl) rfl h
def b_x_type_40 (v1 : Int64) (x : (Sg × Int32)) : Option ((Sg × Int32) ⊕ (Sg × Int32)) :=
  if x.2 < 0 then
    some (.inr (x.1, x.2))
  else
    if inB (gI x.1 0 9) 250 = true then
      lt (pI x.1 3 (Int32.toNatClampNeg (gI x.1 0 9)) ((Int64.toInt32 ((Int64.toUInt64 v1 >>> (Int64.toUInt64 (Int32.toInt64 (8 * x.2)) &&& Int64.toUInt64 63)).toInt64)) &&& 255) : Sg) fun s8 =>
      lt (pI s8 0 9 ((gI s8 0 9) + 1) : Sg) fun s9 =>
      lt (x.2 + (-1) : Int32) fun x10 =>
      some (.inl (s9, x10))
    else none
def s_x_type (σ : Sg) (a1 : Int64) (a3 : Int32) : Option (Int32 × Sg) :=
  if a3 < 1 then
    (s_x_refusedBad σ (-2)).bind fun q2 =>
    some (q2.1, q2.2)
  else
    if a3 ≤ 8 then
      if ((gI σ 0 9) + a3) ≤ 250 then
        lt ((a3 - 1) : Int32) fun x5 =>
        (lp (b_x_type_40 a1) 100000 (σ, x5)).bind fun o11 =>
        some ((gI o11.1 0 9), o11.1)
      else
        (s_x_refusedFull σ ).bind fun q12 =>
        some (q12.1, q12.2)
    else
      (s_x_refusedBad σ (-2)).bind fun q13 =>
      some (q13.1, q13.2)
set_option maxRecDepth 100000 in
set_option maxHeartbeats 4000000 in
theorem wb_x_type_40 (v1 : Int64) (x : (Sg × Int32)) (r : Option Value) (τ : Sg) (o : ((Sg × Int32) ⊕ (Sg × Int32))) (h : (b_x_type_40 v1 x) = some o) (hc : ∀ y : (Sg × Int32), o = .inl y → Ev M_X11_type 1 r τ 40 [(0, .ref 0), (1, .long v1), (4, .int y.2)] [] y.1) (he : ∀ y : (Sg × Int32), o = .inr y → Ev M_X11_type 1 r τ 82 [(0, .ref 0)] [] y.1) : Ev M_X11_type 1 r τ 40 [(0, .ref 0), (1, .long v1), (4, .int x.2)] [] x.1 := by
  unfold b_x_type_40 at h
  refine Ev_iload 2 (dt_X11_type.at 23 rfl) rfl ?_
  refine Ev_if_lt (tgt := 82) (dt_X11_type.at 24 rfl) (by decide) (fun c6 => ?_) (fun c6 => ?_)
  · replace h := oPos h c6
    refine Ev_sub [0] (ls' := [(0, .ref 0)]) rfl ?_
    exact he (x.1, x.2) (Option.some.inj h).symm
  · replace h := oNeg h c6
    refine Ev_aload_n 0 (dt_X11_type.at 25 rfl) rfl ?_
    refine Ev_get (i := 3) (v := .ref 3) (dt_X11_type.at 26 rfl) ff_X11_19 sk_0 rfl rfl ?_
    refine Ev_aload_n 0 (dt_X11_type.at 27 rfl) rfl ?_
    refine Ev_get (i := 9) (v := .int (gI x.1 0 9)) (dt_X11_type.at 28 rfl) ff_X11_121 sk_0 rfl rfl ?_
    refine Ev_lload_n 1 (dt_X11_type.at 29 rfl) rfl ?_
    refine Ev_bipush (dt_X11_type.at 30 rfl) kb_8 ?_
    refine Ev_iload 2 (dt_X11_type.at 31 rfl) rfl ?_
    refine Ev_imul (dt_X11_type.at 32 rfl) ?_
    refine Ev_lushr (dt_X11_type.at 33 rfl) ?_
    refine Ev_l2i (dt_X11_type.at 34 rfl) ?_
    refine Ev_sipush (dt_X11_type.at 35 rfl) ks_255 ?_
    refine Ev_iand (dt_X11_type.at 36 rfl) ?_
    obtain ⟨g7, h⟩ := oGuard h
    refine Ev_iastore 3 (dt_X11_type.at 37 rfl) sk_3 g7 ?_
    refine Ev_nmS (fun s8 es8 => ?_)
    replace h := oLt h es8
    refine Ev_aload_n 0 (dt_X11_type.at 38 rfl) rfl ?_
    refine Ev_dup (dt_X11_type.at 39 rfl) rfl ?_
    refine Ev_get (i := 9) (v := .int (gI s8 0 9)) (dt_X11_type.at 40 rfl) ff_X11_121 sk_0 rfl rfl ?_
    refine Ev_iconst (dt_X11_type.at 41 rfl) ki_1 ?_
    refine Ev_iadd (dt_X11_type.at 42 rfl) ?_
    refine Ev_putI (dt_X11_type.at 43 rfl) ff_X11_121 fw_11_9 sk_0 rfl ?_
    refine Ev_nmS (fun s9 es9 => ?_)
    replace h := oLt h es9
    obtain ⟨x10, ex10⟩ : ∃ z : Int32, z = x.2 + (-1) := ⟨_, rfl⟩
    replace h := oLt h ex10
    refine Ev_iinc (v := x10) 2 (dt_X11_type.at 44 rfl) rfl (ex10.trans (congrArg (fun z => x.2 + z) ki_m1.symm)) (by decide) (ls' := [(4, .int x10), (0, .ref 0), (1, .long v1)]) rfl ?_
    refine Ev_goto (tgt := 40) (dt_X11_type.at 45 rfl) (by decide) ?_
    refine Ev_sub [1, 2, 0] (ls' := [(0, .ref 0), (1, .long v1), (4, .int x10)]) rfl ?_
    exact hc (s9, x10) (Option.some.inj h).symm
set_option maxRecDepth 100000 in
set_option maxHeartbeats 4000000 in
theorem wl_x_type_40 (v1 : Int64) (r : Option Value) (τ : Sg) (n : Nat) (x : (Sg × Int32)) (z : (Sg × Int32)) (h : lp (b_x_type_40 v1) n x = some z) (he : ∀ y : (Sg × Int32), z = y → Ev M_X11_type 1 r τ 82 [(0, .ref 0)] [] y.1) : Ev M_X11_type 1 r τ 40 [(0, .ref 0), (1, .long v1), (4, .int x.2)] [] x.1 := by
  refine lp_ind (E := fun x : (Sg × Int32) => Ev M_X11_type 1 r τ 40 [(0, .ref 0), (1, .long v1), (4, .int x.2)] [] x.1) (fun x => ⟨fun y hb hy => ?_, fun hb => ?_⟩) n x h
  · exact wb_x_type_40 v1 x r τ _ hb (fun y' e => by cases e; exact hy) (fun y' e => by cases e)
  · exact wb_x_type_40 v1 x r τ _ hb (fun y' e => by cases e) (fun y' e => he y' (Sum.inr.inj e))
set_option maxRecDepth 100000 in
set_option maxHeartbeats 4000000 in
theorem w_x_type (σ : Sg) (a1 : Int64) (a3 : Int32) (q : (Int32 × Sg)) (h : s_x_type σ a1 a3 = some q) : Cal M_X11_type 1 [.ref 0, .long a1, .int a3] σ (some (.int q.1)) q.2 := by
  refine Cal.of (M := M_X11_type) (by decide +kernel) (Nat.le_of_ble_eq_true rfl) ?_
  show Ev _ _ _ _ 0 [(0, .ref 0), (1, .long a1), (3, .int a3)] [] σ
  unfold s_x_type at h
  refine Ev_iload_n 2 (dt_X11_type.at 0 rfl) rfl ?_
  refine Ev_iconst (dt_X11_type.at 1 rfl) ki_1 ?_
  refine Ev_icmp_lt (tgt := 11) (dt_X11_type.at 2 rfl) (by decide) (fun c1 => ?_) (fun c1 => ?_)
  · replace h := oPos h c1
    refine Ev_aload_n 0 (dt_X11_type.at 6 rfl) rfl ?_
    refine Ev_bipush (dt_X11_type.at 7 rfl) kb_m2 ?_
    obtain ⟨q2, hq2, h⟩ := oBind h
    refine Ev_callV (st := []) (st' := [.int q2.1]) [.int (-2)] (dt_X11_type.at 8 rfl) cf_X11_68 (w_x_refusedBad σ (-2) q2 hq2) (by decide) sk_0 rfl rfl rfl (Nat.le_of_ble_eq_true rfl) rfl ?_
    exact Ev_iret (dt_X11_type.at 9 rfl) rfl h
  · replace h := oNeg h c1
    refine Ev_iload_n 2 (dt_X11_type.at 3 rfl) rfl ?_
    refine Ev_bipush (dt_X11_type.at 4 rfl) kb_8 ?_
    refine Ev_icmp_le (tgt := 18) (dt_X11_type.at 5 rfl) (by decide) (fun c3 => ?_) (fun c3 => ?_)
    · replace h := oPos h c3
      refine Ev_aload_n 0 (dt_X11_type.at 10 rfl) rfl ?_
      refine Ev_get (i := 9) (v := .int (gI σ 0 9)) (dt_X11_type.at 11 rfl) ff_X11_121 sk_0 rfl rfl ?_
      refine Ev_iload_n 2 (dt_X11_type.at 12 rfl) rfl ?_
      refine Ev_iadd (dt_X11_type.at 13 rfl) ?_
      refine Ev_sipush (dt_X11_type.at 14 rfl) ks_250 ?_
      refine Ev_icmp_le (tgt := 35) (dt_X11_type.at 15 rfl) (by decide) (fun c4 => ?_) (fun c4 => ?_)
      · replace h := oPos h c4
        refine Ev_iload_n 2 (dt_X11_type.at 19 rfl) rfl ?_
        refine Ev_iconst (dt_X11_type.at 20 rfl) ki_1 ?_
        refine Ev_isub (dt_X11_type.at 21 rfl) ?_
        refine Ev_nmI (fun x5 ex5 => ?_)
        replace h := oLt h ex5
        refine Ev_istore (dt_X11_type.at 22 rfl) (by decide) (ls' := [(4, .int x5), (0, .ref 0), (1, .long a1), (3, .int a3)]) rfl ?_
        refine Ev_sub [1, 2, 0] (ls' := [(0, .ref 0), (1, .long a1), (4, .int x5)]) rfl ?_
        obtain ⟨o11, ho11, h⟩ := oBind h
        refine wl_x_type_40 a1 _ _ 100000 (σ, x5) o11 ho11 (fun y ey => ?_)
        subst ey
        refine Ev_aload_n 0 (dt_X11_type.at 46 rfl) rfl ?_
        refine Ev_get (i := 9) (v := .int (gI o11.1 0 9)) (dt_X11_type.at 47 rfl) ff_X11_121 sk_0 rfl rfl ?_
        exact Ev_iret (dt_X11_type.at 48 rfl) rfl h
      · replace h := oNeg h c4
        refine Ev_aload_n 0 (dt_X11_type.at 16 rfl) rfl ?_
        obtain ⟨q12, hq12, h⟩ := oBind h
        refine Ev_callV (st := []) (st' := [.int q12.1]) [] (dt_X11_type.at 17 rfl) cf_X11_93 (w_x_refusedFull σ  q12 hq12) (by decide) sk_0 rfl rfl rfl (Nat.le_of_ble_eq_true rfl) rfl ?_
        exact Ev_iret (dt_X11_type.at 18 rfl) rfl h
    · replace h := oNeg h c3
      refine Ev_aload_n 0 (dt_X11_type.at 6 rfl) rfl ?_
      refine Ev_bipush (dt_X11_type.at 7 rfl) kb_m2 ?_
      obtain ⟨q13, hq13, h⟩ := oBind h
      refine Ev_callV (st := []) (st' := [.int q13.1]) [.int (-2)] (dt_X11_type.at 8 rfl) cf_X11_68 (w_x_refusedBad σ (-2) q13 hq13) (by decide) sk_0 rfl rfl rfl (Nat.le_of_ble_eq_true rfl) rfl ?_
      exact Ev_iret (dt_X11_type.at 9 rfl) rfl h
def s_x_clear (σ : Sg)  : Option (Int32 × Sg) :=
  lt ((gI σ 0 9) : Int32) fun x1 =>
  lt (pI σ 0 9 0 : Sg) fun s2 =>
  some (x1, s2)
set_option maxRecDepth 100000 in
set_option maxHeartbeats 4000000 in
theorem w_x_clear (σ : Sg)  (q : (Int32 × Sg)) (h : s_x_clear σ  = some q) : Cal M_X11_clear 0 [.ref 0] σ (some (.int q.1)) q.2 := by
  refine Cal.of (M := M_X11_clear) (by decide +kernel) (Nat.le_of_ble_eq_true rfl) ?_
  show Ev _ _ _ _ 0 [(0, .ref 0)] [] σ
  unfold s_x_clear at h
  refine Ev_aload_n 0 (dt_X11_clear.at 0 rfl) rfl ?_
  refine Ev_get (i := 9) (v := .int (gI σ 0 9)) (dt_X11_clear.at 1 rfl) ff_X11_121 sk_0 rfl rfl ?_
  refine Ev_nmI (fun x1 ex1 => ?_)
  replace h := oLt h ex1
  refine Ev_istore_n (dt_X11_clear.at 2 rfl) (by decide) (ls' := [(1, .int x1), (0, .ref 0)]) rfl ?_
  refine Ev_aload_n 1 (dt_X11_clear.at 3 rfl) rfl ?_
  refine Ev_iconst (dt_X11_clear.at 4 rfl) ki_0 ?_
  refine Ev_putI (dt_X11_clear.at 5 rfl) ff_X11_121 fw_11_9 sk_0 rfl ?_
  refine Ev_nmS (fun s2 es2 => ?_)
  replace h := oLt h es2
  refine Ev_iload_n 0 (dt_X11_clear.at 6 rfl) rfl ?_
  exact Ev_iret (dt_X11_clear.at 7 rfl) rfl h
def s_Town_isGroup (σ : Sg) (a1 : Int32) : Option Int32 :=
  if a1 < 0 then
    some 0
  else
    if ((1 : Int32) <<< ((gI σ 19 6) &&& 31)) ≤ a1 then
      some 0
    else
      some 1
set_option maxRecDepth 100000 in
set_option maxHeartbeats 4000000 in
theorem w_Town_isGroup (σ : Sg) (a1 : Int32) (q : Int32) (h : s_Town_isGroup σ a1 = some q) : Cal M_X9_isGroup 0 [.ref 19, .int a1] σ (some (.int q)) σ := by
  refine Cal.of (M := M_X9_isGroup) (by decide +kernel) (Nat.le_of_ble_eq_true rfl) ?_
  show Ev _ _ _ _ 0 [(0, .ref 19), (1, .int a1)] [] σ
  unfold s_Town_isGroup at h
  refine Ev_iload_n 1 (dt_X9_isGroup.at 0 rfl) rfl ?_
  refine Ev_if_lt (tgt := 18) (dt_X9_isGroup.at 1 rfl) (by decide) (fun c1 => ?_) (fun c1 => ?_)
  · replace h := oPos h c1
    refine Ev_iconst (dt_X9_isGroup.at 10 rfl) ki_0 ?_
    exact Ev_zret (dt_X9_isGroup.at 11 rfl) rfl (by decide) (oRet h)
  · replace h := oNeg h c1
    refine Ev_iload_n 1 (dt_X9_isGroup.at 2 rfl) rfl ?_
    refine Ev_iconst (dt_X9_isGroup.at 3 rfl) ki_1 ?_
    refine Ev_aload_n 0 (dt_X9_isGroup.at 4 rfl) rfl ?_
    refine Ev_get (i := 6) (v := .int (gI σ 19 6)) (dt_X9_isGroup.at 5 rfl) ff_X9_31 sk_19 rfl rfl ?_
    refine Ev_ishl (dt_X9_isGroup.at 6 rfl) ?_
    refine Ev_icmp_ge (tgt := 18) (dt_X9_isGroup.at 7 rfl) (by decide) (fun c2 => ?_) (fun c2 => ?_)
    · replace h := oPos h c2
      refine Ev_iconst (dt_X9_isGroup.at 10 rfl) ki_0 ?_
      exact Ev_zret (dt_X9_isGroup.at 11 rfl) rfl (by decide) (oRet h)
    · replace h := oNeg h c2
      refine Ev_iconst (dt_X9_isGroup.at 8 rfl) ki_1 ?_
      refine Ev_goto (tgt := 19) (dt_X9_isGroup.at 9 rfl) (by decide) ?_
      exact Ev_zret (dt_X9_isGroup.at 11 rfl) rfl (by decide) (oRet h)
def s_Integer_bitCount (a0 : Int32) : Option Int32 :=
  lt ((a0 - (((a0.toUInt32 >>> (Int32.toUInt32 1 &&& Int32.toUInt32 31)).toInt32) &&& 1431655765)) : Int32) fun x1 =>
  lt (((x1 &&& 858993459) + (((x1.toUInt32 >>> (Int32.toUInt32 2 &&& Int32.toUInt32 31)).toInt32) &&& 858993459)) : Int32) fun x2 =>
  lt (((x2 + ((x2.toUInt32 >>> (Int32.toUInt32 4 &&& Int32.toUInt32 31)).toInt32)) &&& 252645135) : Int32) fun x3 =>
  lt ((x3 + ((x3.toUInt32 >>> (Int32.toUInt32 8 &&& Int32.toUInt32 31)).toInt32)) : Int32) fun x4 =>
  lt ((x4 + ((x4.toUInt32 >>> (Int32.toUInt32 16 &&& Int32.toUInt32 31)).toInt32)) : Int32) fun x5 =>
  some (x5 &&& 63)
set_option maxRecDepth 100000 in
set_option maxHeartbeats 4000000 in
theorem w_Integer_bitCount (σ : Sg) (a0 : Int32) (q : Int32) (h : s_Integer_bitCount a0 = some q) : Cal M_J6_bitCount 0 [.int a0] σ (some (.int q)) σ := by
  refine Cal.of (M := M_J6_bitCount) (by decide +kernel) (Nat.le_of_ble_eq_true rfl) ?_
  show Ev _ _ _ _ 0 [(0, .int a0)] [] σ
  unfold s_Integer_bitCount at h
  refine Ev_iload_n 0 (dt_J6_bitCount.at 0 rfl) rfl ?_
  refine Ev_iload_n 0 (dt_J6_bitCount.at 1 rfl) rfl ?_
  refine Ev_iconst (dt_J6_bitCount.at 2 rfl) ki_1 ?_
  refine Ev_iushr (dt_J6_bitCount.at 3 rfl) ?_
  refine Ev_ldc_w (dt_J6_bitCount.at 4 rfl) ci_J6_265 ?_
  refine Ev_iand (dt_J6_bitCount.at 5 rfl) ?_
  refine Ev_isub (dt_J6_bitCount.at 6 rfl) ?_
  refine Ev_nmI (fun x1 ex1 => ?_)
  replace h := oLt h ex1
  refine Ev_istore_n (dt_J6_bitCount.at 7 rfl) (by decide) (ls' := [(0, .int x1)]) rfl ?_
  refine Ev_iload_n 0 (dt_J6_bitCount.at 8 rfl) rfl ?_
  refine Ev_ldc_w (dt_J6_bitCount.at 9 rfl) ci_J6_266 ?_
  refine Ev_iand (dt_J6_bitCount.at 10 rfl) ?_
  refine Ev_iload_n 0 (dt_J6_bitCount.at 11 rfl) rfl ?_
  refine Ev_iconst (dt_J6_bitCount.at 12 rfl) ki_2 ?_
  refine Ev_iushr (dt_J6_bitCount.at 13 rfl) ?_
  refine Ev_ldc_w (dt_J6_bitCount.at 14 rfl) ci_J6_266 ?_
  refine Ev_iand (dt_J6_bitCount.at 15 rfl) ?_
  refine Ev_iadd (dt_J6_bitCount.at 16 rfl) ?_
  refine Ev_nmI (fun x2 ex2 => ?_)
  replace h := oLt h ex2
  refine Ev_istore_n (dt_J6_bitCount.at 17 rfl) (by decide) (ls' := [(0, .int x2)]) rfl ?_
  refine Ev_iload_n 0 (dt_J6_bitCount.at 18 rfl) rfl ?_
  refine Ev_iload_n 0 (dt_J6_bitCount.at 19 rfl) rfl ?_
  refine Ev_iconst (dt_J6_bitCount.at 20 rfl) ki_4 ?_
  refine Ev_iushr (dt_J6_bitCount.at 21 rfl) ?_
  refine Ev_iadd (dt_J6_bitCount.at 22 rfl) ?_
  refine Ev_ldc_w (dt_J6_bitCount.at 23 rfl) ci_J6_267 ?_
  refine Ev_iand (dt_J6_bitCount.at 24 rfl) ?_
  refine Ev_nmI (fun x3 ex3 => ?_)
  replace h := oLt h ex3
  refine Ev_istore_n (dt_J6_bitCount.at 25 rfl) (by decide) (ls' := [(0, .int x3)]) rfl ?_
  refine Ev_iload_n 0 (dt_J6_bitCount.at 26 rfl) rfl ?_
  refine Ev_iload_n 0 (dt_J6_bitCount.at 27 rfl) rfl ?_
  refine Ev_bipush (dt_J6_bitCount.at 28 rfl) kb_8 ?_
  refine Ev_iushr (dt_J6_bitCount.at 29 rfl) ?_
  refine Ev_iadd (dt_J6_bitCount.at 30 rfl) ?_
  refine Ev_nmI (fun x4 ex4 => ?_)
  replace h := oLt h ex4
  refine Ev_istore_n (dt_J6_bitCount.at 31 rfl) (by decide) (ls' := [(0, .int x4)]) rfl ?_
  refine Ev_iload_n 0 (dt_J6_bitCount.at 32 rfl) rfl ?_
  refine Ev_iload_n 0 (dt_J6_bitCount.at 33 rfl) rfl ?_
  refine Ev_bipush (dt_J6_bitCount.at 34 rfl) kb_16 ?_
  refine Ev_iushr (dt_J6_bitCount.at 35 rfl) ?_
  refine Ev_iadd (dt_J6_bitCount.at 36 rfl) ?_
  refine Ev_nmI (fun x5 ex5 => ?_)
  replace h := oLt h ex5
  refine Ev_istore_n (dt_J6_bitCount.at 37 rfl) (by decide) (ls' := [(0, .int x5)]) rfl ?_
  refine Ev_iload_n 0 (dt_J6_bitCount.at 38 rfl) rfl ?_
  refine Ev_bipush (dt_J6_bitCount.at 39 rfl) kb_63 ?_
  refine Ev_iand (dt_J6_bitCount.at 40 rfl) ?_
  exact Ev_iret (dt_J6_bitCount.at 41 rfl) rfl (oRet h)
def s_Town_isThree (σ : Sg) (a1 : Int32) : Option Int32 :=
  (s_Town_isGroup σ a1).bind fun q1 =>
  if q1 = 0 then
    some 0
  else
    (s_Integer_bitCount a1).bind fun q3 =>
    if q3 = 3 then
      some 1
    else
      some 0
set_option maxRecDepth 100000 in
set_option maxHeartbeats 4000000 in
theorem w_Town_isThree (σ : Sg) (a1 : Int32) (q : Int32) (h : s_Town_isThree σ a1 = some q) : Cal M_X9_isThree 1 [.ref 19, .int a1] σ (some (.int q)) σ := by
  refine Cal.of (M := M_X9_isThree) (by decide +kernel) (Nat.le_of_ble_eq_true rfl) ?_
  show Ev _ _ _ _ 0 [(0, .ref 19), (1, .int a1)] [] σ
  unfold s_Town_isThree at h
  refine Ev_aload_n 0 (dt_X9_isThree.at 0 rfl) rfl ?_
  refine Ev_iload_n 1 (dt_X9_isThree.at 1 rfl) rfl ?_
  obtain ⟨q1, hq1, h⟩ := oBind h
  refine Ev_callV (st := []) (st' := [.int q1]) [.int a1] (dt_X9_isThree.at 2 rfl) cf_X9_34 (w_Town_isGroup σ a1 q1 hq1) (by decide) sk_19 rfl rfl rfl (Nat.le_of_ble_eq_true rfl) rfl ?_
  refine Ev_if_eq (tgt := 20) (dt_X9_isThree.at 3 rfl) (by decide) (fun c2 => ?_) (fun c2 => ?_)
  · replace h := oPos h c2
    refine Ev_iconst (dt_X9_isThree.at 10 rfl) ki_0 ?_
    exact Ev_zret (dt_X9_isThree.at 11 rfl) rfl (by decide) (oRet h)
  · replace h := oNeg h c2
    refine Ev_iload_n 1 (dt_X9_isThree.at 4 rfl) rfl ?_
    obtain ⟨q3, hq3, h⟩ := oBind h
    refine Ev_callS (st := []) (st' := [.int q3]) [.int a1] (dt_X9_isThree.at 5 rfl) cf_X9_38 (w_Integer_bitCount σ a1 q3 hq3) (by decide) rfl rfl (Nat.le_of_ble_eq_true rfl) rfl ?_
    refine Ev_iconst (dt_X9_isThree.at 6 rfl) ki_3 ?_
    refine Ev_icmp_ne (tgt := 20) (dt_X9_isThree.at 7 rfl) (by decide) (fun c4 => ?_) (fun c4 => ?_)
    · replace h := oNeg h c4
      refine Ev_iconst (dt_X9_isThree.at 10 rfl) ki_0 ?_
      exact Ev_zret (dt_X9_isThree.at 11 rfl) rfl (by decide) (oRet h)
    · replace h := oPos h c4
      refine Ev_iconst (dt_X9_isThree.at 8 rfl) ki_1 ?_
      refine Ev_goto (tgt := 21) (dt_X9_isThree.at 9 rfl) (by decide) ?_
      exact Ev_zret (dt_X9_isThree.at 11 rfl) rfl (by decide) (oRet h)
def s_x_isIn (a0 : Int32) (a1 : Int32) : Option Int32 :=
  if ((a0 >>> (a1 &&& 31)) &&& 1) = 1 then
    some 1
  else
    some 0
set_option maxRecDepth 100000 in
set_option maxHeartbeats 4000000 in
theorem w_x_isIn (σ : Sg) (a0 : Int32) (a1 : Int32) (q : Int32) (h : s_x_isIn a0 a1 = some q) : Cal M_X11_isIn 0 [.int a0, .int a1] σ (some (.int q)) σ := by
  refine Cal.of (M := M_X11_isIn) (by decide +kernel) (Nat.le_of_ble_eq_true rfl) ?_
  show Ev _ _ _ _ 0 [(0, .int a0), (1, .int a1)] [] σ
  unfold s_x_isIn at h
  refine Ev_iload_n 0 (dt_X11_isIn.at 0 rfl) rfl ?_
  refine Ev_iload_n 1 (dt_X11_isIn.at 1 rfl) rfl ?_
  refine Ev_ishr (dt_X11_isIn.at 2 rfl) ?_
  refine Ev_iconst (dt_X11_isIn.at 3 rfl) ki_1 ?_
  refine Ev_iand (dt_X11_isIn.at 4 rfl) ?_
  refine Ev_iconst (dt_X11_isIn.at 5 rfl) ki_1 ?_
  refine Ev_icmp_ne (tgt := 13) (dt_X11_isIn.at 6 rfl) (by decide) (fun c1 => ?_) (fun c1 => ?_)
  · replace h := oNeg h c1
    refine Ev_iconst (dt_X11_isIn.at 9 rfl) ki_0 ?_
    exact Ev_zret (dt_X11_isIn.at 10 rfl) rfl (by decide) (oRet h)
  · replace h := oPos h c1
    refine Ev_iconst (dt_X11_isIn.at 7 rfl) ki_1 ?_
    refine Ev_goto (tgt := 14) (dt_X11_isIn.at 8 rfl) (by decide) ?_
    exact Ev_zret (dt_X11_isIn.at 10 rfl) rfl (by decide) (oRet h)
def b_Day_begin_14 (v1 : Int32) (x : (Sg × Int32 × Int32)) : Option ((Sg × Int32 × Int32) ⊕ (Sg × Int32 × Int32)) :=
  if (gI x.1 19 6) ≤ x.2.2 then
    some (.inr (x.1, x.2.1, x.2.2))
  else
    if 3 ≤ x.2.1 then
      some (.inr (x.1, x.2.1, x.2.2))
    else
      (s_x_isIn v1 x.2.2).bind fun q5 =>
      if q5 = 0 then
        lt (x.2.2 + 1 : Int32) fun x7 =>
        some (.inl (x.1, x.2.1, x7))
      else
        if inB x.2.1 3 = true then
          lt (pI x.1 33 (Int32.toNatClampNeg x.2.1) x.2.2 : Sg) fun s9 =>
          lt (x.2.1 + 1 : Int32) fun x10 =>
          lt (x.2.2 + 1 : Int32) fun x11 =>
          some (.inl (s9, x10, x11))
        else none
def b_Day_begin_56  (x : (Sg × Int32)) : Option ((Sg × Int32) ⊕ (Sg × Int32)) :=
  if 36 ≤ x.2 then
    some (.inr (x.1, x.2))
  else
    if inB x.2 36 = true then
      lt (pI x.1 36 (Int32.toNatClampNeg x.2) (0 &&& 1) : Sg) fun s15 =>
      lt (x.2 + 1 : Int32) fun x16 =>
      some (.inl (s15, x16))
    else none
def j_Day_begin_54  (σ : Sg) : Option Sg :=
  (lp (b_Day_begin_56 ) 100000 (σ, 0)).bind fun o17 =>
  some o17.1
def s_Day_begin (σ : Sg) (a1 : Int32) : Option Sg :=
  lt (pI σ 31 8 0 : Sg) fun s1 =>
  lt (pI s1 31 9 0 : Sg) fun s2 =>
  (lp (b_Day_begin_14 a1) 100000 (s2, 0, 0)).bind fun o12 =>
  j_Day_begin_54  o12.1
set_option maxRecDepth 100000 in
set_option maxHeartbeats 4000000 in
theorem wb_Day_begin_14 (v1 : Int32) (x : (Sg × Int32 × Int32)) (r : Option Value) (τ : Sg) (o : ((Sg × Int32 × Int32) ⊕ (Sg × Int32 × Int32))) (h : (b_Day_begin_14 v1 x) = some o) (hc : ∀ y : (Sg × Int32 × Int32), o = .inl y → Ev M_X0_begin 1 r τ 14 [(0, .ref 31), (1, .int v1), (2, .int y.2.1), (3, .int y.2.2)] [] y.1) (he : ∀ y : (Sg × Int32 × Int32), o = .inr y → Ev M_X0_begin 1 r τ 54 [(0, .ref 31)] [] y.1) : Ev M_X0_begin 1 r τ 14 [(0, .ref 31), (1, .int v1), (2, .int x.2.1), (3, .int x.2.2)] [] x.1 := by
  unfold b_Day_begin_14 at h
  refine Ev_iload_n 3 (dt_X0_begin.at 10 rfl) rfl ?_
  refine Ev_aload_n 0 (dt_X0_begin.at 11 rfl) rfl ?_
  refine Ev_get (i := 0) (v := .ref 19) (dt_X0_begin.at 12 rfl) ff_X0_34 sk_31 rfl rfl ?_
  refine Ev_get (i := 6) (v := .int (gI x.1 19 6)) (dt_X0_begin.at 13 rfl) ff_X0_84 sk_19 rfl rfl ?_
  refine Ev_icmp_ge (tgt := 54) (dt_X0_begin.at 14 rfl) (by decide) (fun c3 => ?_) (fun c3 => ?_)
  · replace h := oPos h c3
    refine Ev_sub [0] (ls' := [(0, .ref 31)]) rfl ?_
    exact he (x.1, x.2.1, x.2.2) (Option.some.inj h).symm
  · replace h := oNeg h c3
    refine Ev_iload_n 2 (dt_X0_begin.at 15 rfl) rfl ?_
    refine Ev_iconst (dt_X0_begin.at 16 rfl) ki_3 ?_
    refine Ev_icmp_ge (tgt := 54) (dt_X0_begin.at 17 rfl) (by decide) (fun c4 => ?_) (fun c4 => ?_)
    · replace h := oPos h c4
      refine Ev_sub [0] (ls' := [(0, .ref 31)]) rfl ?_
      exact he (x.1, x.2.1, x.2.2) (Option.some.inj h).symm
    · replace h := oNeg h c4
      refine Ev_iload_n 1 (dt_X0_begin.at 18 rfl) rfl ?_
      refine Ev_iload_n 3 (dt_X0_begin.at 19 rfl) rfl ?_
      obtain ⟨q5, hq5, h⟩ := oBind h
      refine Ev_callS (st := []) (st' := [.int q5]) [.int v1, .int x.2.2] (dt_X0_begin.at 20 rfl) cf_X0_87 (w_x_isIn x.1 v1 x.2.2 q5 hq5) (by decide) rfl rfl (Nat.le_of_ble_eq_true rfl) rfl ?_
      refine Ev_if_eq (tgt := 48) (dt_X0_begin.at 21 rfl) (by decide) (fun c6 => ?_) (fun c6 => ?_)
      · replace h := oPos h c6
        obtain ⟨x7, ex7⟩ : ∃ z : Int32, z = x.2.2 + 1 := ⟨_, rfl⟩
        replace h := oLt h ex7
        refine Ev_iinc (v := x7) 3 (dt_X0_begin.at 28 rfl) rfl (ex7.trans (congrArg (fun z => x.2.2 + z) ki_1.symm)) (by decide) (ls' := [(3, .int x7), (0, .ref 31), (1, .int v1), (2, .int x.2.1)]) rfl ?_
        refine Ev_goto (tgt := 14) (dt_X0_begin.at 29 rfl) (by decide) ?_
        refine Ev_sub [1, 2, 3, 0] (ls' := [(0, .ref 31), (1, .int v1), (2, .int x.2.1), (3, .int x7)]) rfl ?_
        exact hc (x.1, x.2.1, x7) (Option.some.inj h).symm
      · replace h := oNeg h c6
        refine Ev_aload_n 0 (dt_X0_begin.at 22 rfl) rfl ?_
        refine Ev_get (i := 2) (v := .ref 33) (dt_X0_begin.at 23 rfl) ff_X0_17 sk_31 rfl rfl ?_
        refine Ev_iload_n 2 (dt_X0_begin.at 24 rfl) rfl ?_
        refine Ev_iload_n 3 (dt_X0_begin.at 25 rfl) rfl ?_
        obtain ⟨g8, h⟩ := oGuard h
        refine Ev_iastore 33 (dt_X0_begin.at 26 rfl) sk_33 g8 ?_
        refine Ev_nmS (fun s9 es9 => ?_)
        replace h := oLt h es9
        obtain ⟨x10, ex10⟩ : ∃ z : Int32, z = x.2.1 + 1 := ⟨_, rfl⟩
        replace h := oLt h ex10
        refine Ev_iinc (v := x10) 2 (dt_X0_begin.at 27 rfl) rfl (ex10.trans (congrArg (fun z => x.2.1 + z) ki_1.symm)) (by decide) (ls' := [(2, .int x10), (0, .ref 31), (1, .int v1), (3, .int x.2.2)]) rfl ?_
        obtain ⟨x11, ex11⟩ : ∃ z : Int32, z = x.2.2 + 1 := ⟨_, rfl⟩
        replace h := oLt h ex11
        refine Ev_iinc (v := x11) 3 (dt_X0_begin.at 28 rfl) rfl (ex11.trans (congrArg (fun z => x.2.2 + z) ki_1.symm)) (by decide) (ls' := [(3, .int x11), (2, .int x10), (0, .ref 31), (1, .int v1)]) rfl ?_
        refine Ev_goto (tgt := 14) (dt_X0_begin.at 29 rfl) (by decide) ?_
        refine Ev_sub [2, 3, 1, 0] (ls' := [(0, .ref 31), (1, .int v1), (2, .int x10), (3, .int x11)]) rfl ?_
        exact hc (s9, x10, x11) (Option.some.inj h).symm
set_option maxRecDepth 100000 in
set_option maxHeartbeats 4000000 in
theorem wl_Day_begin_14 (v1 : Int32) (r : Option Value) (τ : Sg) (n : Nat) (x : (Sg × Int32 × Int32)) (z : (Sg × Int32 × Int32)) (h : lp (b_Day_begin_14 v1) n x = some z) (he : ∀ y : (Sg × Int32 × Int32), z = y → Ev M_X0_begin 1 r τ 54 [(0, .ref 31)] [] y.1) : Ev M_X0_begin 1 r τ 14 [(0, .ref 31), (1, .int v1), (2, .int x.2.1), (3, .int x.2.2)] [] x.1 := by
  refine lp_ind (E := fun x : (Sg × Int32 × Int32) => Ev M_X0_begin 1 r τ 14 [(0, .ref 31), (1, .int v1), (2, .int x.2.1), (3, .int x.2.2)] [] x.1) (fun x => ⟨fun y hb hy => ?_, fun hb => ?_⟩) n x h
  · exact wb_Day_begin_14 v1 x r τ _ hb (fun y' e => by cases e; exact hy) (fun y' e => by cases e)
  · exact wb_Day_begin_14 v1 x r τ _ hb (fun y' e => by cases e) (fun y' e => he y' (Sum.inr.inj e))
set_option maxRecDepth 100000 in
set_option maxHeartbeats 4000000 in
theorem wb_Day_begin_56  (x : (Sg × Int32)) (r : Option Value) (τ : Sg) (o : ((Sg × Int32) ⊕ (Sg × Int32))) (h : (b_Day_begin_56  x) = some o) (hc : ∀ y : (Sg × Int32), o = .inl y → Ev M_X0_begin 1 r τ 56 [(0, .ref 31), (3, .int y.2)] [] y.1) (he : ∀ y : (Sg × Int32), o = .inr y → Ev M_X0_begin 1 r τ 75 [] [] y.1) : Ev M_X0_begin 1 r τ 56 [(0, .ref 31), (3, .int x.2)] [] x.1 := by
  unfold b_Day_begin_56 at h
  refine Ev_iload_n 1 (dt_X0_begin.at 32 rfl) rfl ?_
  refine Ev_bipush (dt_X0_begin.at 33 rfl) kb_36 ?_
  refine Ev_icmp_ge (tgt := 75) (dt_X0_begin.at 34 rfl) (by decide) (fun c13 => ?_) (fun c13 => ?_)
  · replace h := oPos h c13
    refine Ev_sub [] (ls' := []) rfl ?_
    exact he (x.1, x.2) (Option.some.inj h).symm
  · replace h := oNeg h c13
    refine Ev_aload_n 0 (dt_X0_begin.at 35 rfl) rfl ?_
    refine Ev_get (i := 5) (v := .ref 36) (dt_X0_begin.at 36 rfl) ff_X0_28 sk_31 rfl rfl ?_
    refine Ev_iload_n 1 (dt_X0_begin.at 37 rfl) rfl ?_
    refine Ev_iconst (dt_X0_begin.at 38 rfl) ki_0 ?_
    obtain ⟨g14, h⟩ := oGuard h
    refine Ev_bastore 36 (dt_X0_begin.at 39 rfl) sk_36 g14 ?_
    refine Ev_nmS (fun s15 es15 => ?_)
    replace h := oLt h es15
    obtain ⟨x16, ex16⟩ : ∃ z : Int32, z = x.2 + 1 := ⟨_, rfl⟩
    replace h := oLt h ex16
    refine Ev_iinc (v := x16) 1 (dt_X0_begin.at 40 rfl) rfl (ex16.trans (congrArg (fun z => x.2 + z) ki_1.symm)) (by decide) (ls' := [(3, .int x16), (0, .ref 31)]) rfl ?_
    refine Ev_goto (tgt := 56) (dt_X0_begin.at 41 rfl) (by decide) ?_
    refine Ev_sub [1, 0] (ls' := [(0, .ref 31), (3, .int x16)]) rfl ?_
    exact hc (s15, x16) (Option.some.inj h).symm
set_option maxRecDepth 100000 in
set_option maxHeartbeats 4000000 in
theorem wl_Day_begin_56  (r : Option Value) (τ : Sg) (n : Nat) (x : (Sg × Int32)) (z : (Sg × Int32)) (h : lp (b_Day_begin_56 ) n x = some z) (he : ∀ y : (Sg × Int32), z = y → Ev M_X0_begin 1 r τ 75 [] [] y.1) : Ev M_X0_begin 1 r τ 56 [(0, .ref 31), (3, .int x.2)] [] x.1 := by
  refine lp_ind (E := fun x : (Sg × Int32) => Ev M_X0_begin 1 r τ 56 [(0, .ref 31), (3, .int x.2)] [] x.1) (fun x => ⟨fun y hb hy => ?_, fun hb => ?_⟩) n x h
  · exact wb_Day_begin_56  x r τ _ hb (fun y' e => by cases e; exact hy) (fun y' e => by cases e)
  · exact wb_Day_begin_56  x r τ _ hb (fun y' e => by cases e) (fun y' e => he y' (Sum.inr.inj e))
set_option maxRecDepth 100000 in
set_option maxHeartbeats 4000000 in
theorem wj_Day_begin_54  (σ : Sg) (q : Sg) (h : (j_Day_begin_54  σ) = some q) : Ev M_X0_begin 1 none q 54 [(0, .ref 31)] [] σ := by
  unfold j_Day_begin_54 at h
  refine Ev_iconst (dt_X0_begin.at 30 rfl) ki_0 ?_
  refine Ev_istore_n (dt_X0_begin.at 31 rfl) (by decide) (ls' := [(3, .int 0), (0, .ref 31)]) rfl ?_
  refine Ev_sub [1, 0] (ls' := [(0, .ref 31), (3, .int 0)]) rfl ?_
  obtain ⟨o17, ho17, h⟩ := oBind h
  refine wl_Day_begin_56  _ _ 100000 (σ, 0) o17 ho17 (fun y ey => ?_)
  subst ey
  exact Ev_vret (dt_X0_begin.at 42 rfl) rfl h
set_option maxRecDepth 100000 in
set_option maxHeartbeats 4000000 in
theorem w_Day_begin (σ : Sg) (a1 : Int32) (q : Sg) (h : s_Day_begin σ a1 = some q) : Cal M_X0_begin 1 [.ref 31, .int a1] σ none q := by
  refine Cal.of (M := M_X0_begin) (by decide +kernel) (Nat.le_of_ble_eq_true rfl) ?_
  show Ev _ _ _ _ 0 [(0, .ref 31), (1, .int a1)] [] σ
  unfold s_Day_begin at h
  refine Ev_aload_n 0 (dt_X0_begin.at 0 rfl) rfl ?_
  refine Ev_iconst (dt_X0_begin.at 1 rfl) ki_0 ?_
  refine Ev_putI (dt_X0_begin.at 2 rfl) ff_X0_78 fw_0_8 sk_31 rfl ?_
  refine Ev_nmS (fun s1 es1 => ?_)
  replace h := oLt h es1
  refine Ev_aload_n 0 (dt_X0_begin.at 3 rfl) rfl ?_
  refine Ev_iconst (dt_X0_begin.at 4 rfl) ki_0 ?_
  refine Ev_putI (dt_X0_begin.at 5 rfl) ff_X0_81 fw_0_9 sk_31 rfl ?_
  refine Ev_nmS (fun s2 es2 => ?_)
  replace h := oLt h es2
  refine Ev_iconst (dt_X0_begin.at 6 rfl) ki_0 ?_
  refine Ev_istore_n (dt_X0_begin.at 7 rfl) (by decide) (ls' := [(2, .int 0), (0, .ref 31), (1, .int a1)]) rfl ?_
  refine Ev_iconst (dt_X0_begin.at 8 rfl) ki_0 ?_
  refine Ev_istore_n (dt_X0_begin.at 9 rfl) (by decide) (ls' := [(3, .int 0), (2, .int 0), (0, .ref 31), (1, .int a1)]) rfl ?_
  refine Ev_sub [2, 3, 1, 0] (ls' := [(0, .ref 31), (1, .int a1), (2, .int 0), (3, .int 0)]) rfl ?_
  obtain ⟨o12, ho12, h⟩ := oBind h
  refine wl_Day_begin_14 a1 _ _ 100000 (s2, 0, 0) o12 ho12 (fun y ey => ?_)
  subst ey
  refine Ev_sub [0] (ls' := [(0, .ref 31)]) rfl ?_
  exact wj_Day_begin_54  o12.1 q h
