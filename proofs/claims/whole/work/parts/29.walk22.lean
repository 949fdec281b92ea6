def s_m_clear (σ : Sg)  : Option (Int32 × Sg) :=
  lt ((gI σ 71 21) : Int32) fun x1 =>
  lt (pI σ 71 21 0 : Sg) fun s2 =>
  some (x1, s2)
set_option maxRecDepth 100000 in
set_option maxHeartbeats 4000000 in
theorem w_m_clear (σ : Sg)  (q : (Int32 × Sg)) (h : s_m_clear σ  = some q) : Cal M_X12_clear 0 [.ref 71] σ (some (.int q.1)) q.2 := by
  refine Cal.of (M := M_X12_clear) (by decide +kernel) (Nat.le_of_ble_eq_true rfl) ?_
  show Ev _ _ _ _ 0 [(0, .ref 71)] [] σ
  unfold s_m_clear at h
  refine Ev_aload_n 0 (dt_X12_clear.at 0 rfl) rfl ?_
  refine Ev_get (i := 21) (v := .int (gI σ 71 21)) (dt_X12_clear.at 1 rfl) ff_X12_259 sk_71 rfl rfl ?_
  refine Ev_nmI (fun x1 ex1 => ?_)
  replace h := oLt h ex1
  refine Ev_istore_n (dt_X12_clear.at 2 rfl) (by decide) (ls' := [(1, .int x1), (0, .ref 71)]) rfl ?_
  refine Ev_aload_n 1 (dt_X12_clear.at 3 rfl) rfl ?_
  refine Ev_iconst (dt_X12_clear.at 4 rfl) ki_0 ?_
  refine Ev_putI (dt_X12_clear.at 5 rfl) ff_X12_259 fw_12_21 sk_71 rfl ?_
  refine Ev_nmS (fun s2 es2 => ?_)
  replace h := oLt h es2
  refine Ev_iload_n 0 (dt_X12_clear.at 6 rfl) rfl ?_
  exact Ev_iret (dt_X12_clear.at 7 rfl) rfl h
def b_m_bits_4  (x : (Int32 × Int32)) : Option ((Int32 × Int32) ⊕ (Int32 × Int32)) :=
  if x.2 ≤ 0 then
    some (.inr (x.1, x.2))
  else
    lt ((x.1 + (x.2 &&& 1)) : Int32) fun x2 =>
    lt ((x.2 >>> ((1 : Int32) &&& 31)) : Int32) fun x3 =>
    some (.inl (x2, x3))
def s_m_bits (a0 : Int32) : Option Int32 :=
  (lp (b_m_bits_4 ) 100000 (0, a0)).bind fun o4 =>
  some o4.1
set_option maxRecDepth 100000 in
set_option maxHeartbeats 4000000 in
theorem wb_m_bits_4  (σ : Sg) (x : (Int32 × Int32)) (r : Option Value) (τ : Sg) (o : ((Int32 × Int32) ⊕ (Int32 × Int32))) (h : (b_m_bits_4  x) = some o) (hc : ∀ y : (Int32 × Int32), o = .inl y → Ev M_X12_bits 0 r τ 4 [(1, .int y.1), (2, .int y.2)] [] σ) (he : ∀ y : (Int32 × Int32), o = .inr y → Ev M_X12_bits 0 r τ 21 [(1, .int y.1)] [] σ) : Ev M_X12_bits 0 r τ 4 [(1, .int x.1), (2, .int x.2)] [] σ := by
  unfold b_m_bits_4 at h
  refine Ev_iload_n 1 (dt_X12_bits.at 4 rfl) rfl ?_
  refine Ev_if_le (tgt := 21) (dt_X12_bits.at 5 rfl) (by decide) (fun c1 => ?_) (fun c1 => ?_)
  · replace h := oPos h c1
    refine Ev_sub [0] (ls' := [(1, .int x.1)]) rfl ?_
    exact he (x.1, x.2) (Option.some.inj h).symm
  · replace h := oNeg h c1
    refine Ev_iload_n 0 (dt_X12_bits.at 6 rfl) rfl ?_
    refine Ev_iload_n 1 (dt_X12_bits.at 7 rfl) rfl ?_
    refine Ev_iconst (dt_X12_bits.at 8 rfl) ki_1 ?_
    refine Ev_iand (dt_X12_bits.at 9 rfl) ?_
    refine Ev_iadd (dt_X12_bits.at 10 rfl) ?_
    refine Ev_nmI (fun x2 ex2 => ?_)
    replace h := oLt h ex2
    refine Ev_istore_n (dt_X12_bits.at 11 rfl) (by decide) (ls' := [(1, .int x2), (2, .int x.2)]) rfl ?_
    refine Ev_iload_n 1 (dt_X12_bits.at 12 rfl) rfl ?_
    refine Ev_iconst (dt_X12_bits.at 13 rfl) ki_1 ?_
    refine Ev_ishr (dt_X12_bits.at 14 rfl) ?_
    refine Ev_nmI (fun x3 ex3 => ?_)
    replace h := oLt h ex3
    refine Ev_istore_n (dt_X12_bits.at 15 rfl) (by decide) (ls' := [(2, .int x3), (1, .int x2)]) rfl ?_
    refine Ev_goto (tgt := 4) (dt_X12_bits.at 16 rfl) (by decide) ?_
    refine Ev_sub [1, 0] (ls' := [(1, .int x2), (2, .int x3)]) rfl ?_
    exact hc (x2, x3) (Option.some.inj h).symm
set_option maxRecDepth 100000 in
set_option maxHeartbeats 4000000 in
theorem wl_m_bits_4  (σ : Sg) (r : Option Value) (τ : Sg) (n : Nat) (x : (Int32 × Int32)) (z : (Int32 × Int32)) (h : lp (b_m_bits_4 ) n x = some z) (he : ∀ y : (Int32 × Int32), z = y → Ev M_X12_bits 0 r τ 21 [(1, .int y.1)] [] σ) : Ev M_X12_bits 0 r τ 4 [(1, .int x.1), (2, .int x.2)] [] σ := by
  refine lp_ind (E := fun x : (Int32 × Int32) => Ev M_X12_bits 0 r τ 4 [(1, .int x.1), (2, .int x.2)] [] σ) (fun x => ⟨fun y hb hy => ?_, fun hb => ?_⟩) n x h
  · exact wb_m_bits_4  σ x r τ _ hb (fun y' e => by cases e; exact hy) (fun y' e => by cases e)
  · exact wb_m_bits_4  σ x r τ _ hb (fun y' e => by cases e) (fun y' e => he y' (Sum.inr.inj e))
set_option maxRecDepth 100000 in
set_option maxHeartbeats 4000000 in
theorem w_m_bits (σ : Sg) (a0 : Int32) (q : Int32) (h : s_m_bits a0 = some q) : Cal M_X12_bits 0 [.int a0] σ (some (.int q)) σ := by
  refine Cal.of (M := M_X12_bits) (by decide +kernel) (Nat.le_of_ble_eq_true rfl) ?_
  show Ev _ _ _ _ 0 [(0, .int a0)] [] σ
  unfold s_m_bits at h
  refine Ev_iconst (dt_X12_bits.at 0 rfl) ki_0 ?_
  refine Ev_istore_n (dt_X12_bits.at 1 rfl) (by decide) (ls' := [(1, .int 0), (0, .int a0)]) rfl ?_
  refine Ev_iload_n 1 (dt_X12_bits.at 2 rfl) rfl ?_
  refine Ev_istore_n (dt_X12_bits.at 3 rfl) (by decide) (ls' := [(2, .int a0), (1, .int 0), (0, .int a0)]) rfl ?_
  refine Ev_sub [1, 0] (ls' := [(1, .int 0), (2, .int a0)]) rfl ?_
  obtain ⟨o4, ho4, h⟩ := oBind h
  refine wl_m_bits_4  σ _ _ 100000 (0, a0) o4 ho4 (fun y ey => ?_)
  subst ey
  refine Ev_iload_n 0 (dt_X12_bits.at 17 rfl) rfl ?_
  exact Ev_iret (dt_X12_bits.at 18 rfl) rfl (oRet h)
def s_m_isThree (σ : Sg) (a1 : Int32) : Option Int32 :=
  (s_m_people σ ).bind fun q1 =>
  (s_m_in (Int32.toInt64 a1) 0 (Int32.toInt64 (((1 : Int32) <<< (q1 &&& 31)) - 1))).bind fun q2 =>
  if q2 = 0 then
    some 0
  else
    (s_m_bits a1).bind fun q4 =>
    if q4 = 3 then
      some 1
    else
      some 0
set_option maxRecDepth 100000 in
set_option maxHeartbeats 4000000 in
theorem w_m_isThree (σ : Sg) (a1 : Int32) (q : Int32) (h : s_m_isThree σ a1 = some q) : Cal M_X12_isThree 1 [.ref 71, .int a1] σ (some (.int q)) σ := by
  refine Cal.of (M := M_X12_isThree) (by decide +kernel) (Nat.le_of_ble_eq_true rfl) ?_
  show Ev _ _ _ _ 0 [(0, .ref 71), (1, .int a1)] [] σ
  unfold s_m_isThree at h
  refine Ev_iload_n 1 (dt_X12_isThree.at 0 rfl) rfl ?_
  refine Ev_i2l (dt_X12_isThree.at 1 rfl) ?_
  refine Ev_lconst (dt_X12_isThree.at 2 rfl) kl_0 ?_
  refine Ev_iconst (dt_X12_isThree.at 3 rfl) ki_1 ?_
  refine Ev_aload_n 0 (dt_X12_isThree.at 4 rfl) rfl ?_
  obtain ⟨q1, hq1, h⟩ := oBind h
  refine Ev_callV (st := [.int 1, .long 0, .long (Int32.toInt64 a1)]) (st' := [.int q1, .int 1, .long 0, .long (Int32.toInt64 a1)]) [] (dt_X12_isThree.at 5 rfl) cf_X12_70 (w_m_people σ  q1 hq1) (by decide) sk_71 rfl rfl rfl (Nat.le_of_ble_eq_true rfl) rfl ?_
  refine Ev_ishl (dt_X12_isThree.at 6 rfl) ?_
  refine Ev_iconst (dt_X12_isThree.at 7 rfl) ki_1 ?_
  refine Ev_isub (dt_X12_isThree.at 8 rfl) ?_
  refine Ev_i2l (dt_X12_isThree.at 9 rfl) ?_
  obtain ⟨q2, hq2, h⟩ := oBind h
  refine Ev_callS (st := []) (st' := [.int q2]) [.long (Int32.toInt64 a1), .long 0, .long (Int32.toInt64 (((1 : Int32) <<< (q1 &&& 31)) - 1))] (dt_X12_isThree.at 10 rfl) cf_X12_74 (w_m_in σ (Int32.toInt64 a1) 0 (Int32.toInt64 (((1 : Int32) <<< (q1 &&& 31)) - 1)) q2 hq2) (by decide) rfl rfl (Nat.le_of_ble_eq_true rfl) rfl ?_
  refine Ev_if_eq (tgt := 30) (dt_X12_isThree.at 11 rfl) (by decide) (fun c3 => ?_) (fun c3 => ?_)
  · replace h := oPos h c3
    refine Ev_iconst (dt_X12_isThree.at 18 rfl) ki_0 ?_
    exact Ev_zret (dt_X12_isThree.at 19 rfl) rfl (by decide) (oRet h)
  · replace h := oNeg h c3
    refine Ev_iload_n 1 (dt_X12_isThree.at 12 rfl) rfl ?_
    obtain ⟨q4, hq4, h⟩ := oBind h
    refine Ev_callS (st := []) (st' := [.int q4]) [.int a1] (dt_X12_isThree.at 13 rfl) cf_X12_78 (w_m_bits σ a1 q4 hq4) (by decide) rfl rfl (Nat.le_of_ble_eq_true rfl) rfl ?_
    refine Ev_iconst (dt_X12_isThree.at 14 rfl) ki_3 ?_
    refine Ev_icmp_ne (tgt := 30) (dt_X12_isThree.at 15 rfl) (by decide) (fun c5 => ?_) (fun c5 => ?_)
    · replace h := oNeg h c5
      refine Ev_iconst (dt_X12_isThree.at 18 rfl) ki_0 ?_
      exact Ev_zret (dt_X12_isThree.at 19 rfl) rfl (by decide) (oRet h)
    · replace h := oPos h c5
      refine Ev_iconst (dt_X12_isThree.at 16 rfl) ki_1 ?_
      refine Ev_goto (tgt := 31) (dt_X12_isThree.at 17 rfl) (by decide) ?_
      exact Ev_zret (dt_X12_isThree.at 19 rfl) rfl (by decide) (oRet h)
def b_m_takeThree_4 (v1 : Int32) (x : (Sg × Int32 × Int32)) : Option ((Sg × Int32 × Int32) ⊕ (Sg × Int32 × Int32)) :=
  if 9 ≤ x.2.2 then
    some (.inr (x.1, x.2.1, x.2.2))
  else
    if ((v1 >>> (x.2.2 &&& 31)) &&& 1) = 1 then
      if inB x.2.1 3 = true then
        lt (pI x.1 76 (Int32.toNatClampNeg x.2.1) x.2.2 : Sg) fun s5 =>
        if inB x.2.1 3 = true then
          lt (pI s5 77 (Int32.toNatClampNeg x.2.1) 0 : Sg) fun s7 =>
          lt (x.2.1 + 1 : Int32) fun x8 =>
          lt (x.2.2 + 1 : Int32) fun x9 =>
          some (.inl (s7, x8, x9))
        else none
      else none
    else
      lt (x.2.2 + 1 : Int32) fun x3 =>
      some (.inl (x.1, x.2.1, x3))
def s_m_takeThree (σ : Sg) (a1 : Int32) : Option Sg :=
  (lp (b_m_takeThree_4 a1) 100000 (σ, 0, 0)).bind fun o10 =>
  lt (pI o10.1 71 9 0 : Sg) fun s11 =>
  some s11
set_option maxRecDepth 100000 in
set_option maxHeartbeats 4000000 in
theorem wb_m_takeThree_4 (v1 : Int32) (x : (Sg × Int32 × Int32)) (r : Option Value) (τ : Sg) (o : ((Sg × Int32 × Int32) ⊕ (Sg × Int32 × Int32))) (h : (b_m_takeThree_4 v1 x) = some o) (hc : ∀ y : (Sg × Int32 × Int32), o = .inl y → Ev M_X12_takeThree 0 r τ 4 [(0, .ref 71), (1, .int v1), (2, .int y.2.1), (3, .int y.2.2)] [] y.1) (he : ∀ y : (Sg × Int32 × Int32), o = .inr y → Ev M_X12_takeThree 0 r τ 42 [(0, .ref 71)] [] y.1) : Ev M_X12_takeThree 0 r τ 4 [(0, .ref 71), (1, .int v1), (2, .int x.2.1), (3, .int x.2.2)] [] x.1 := by
  unfold b_m_takeThree_4 at h
  refine Ev_iload_n 3 (dt_X12_takeThree.at 4 rfl) rfl ?_
  refine Ev_bipush (dt_X12_takeThree.at 5 rfl) kb_9 ?_
  refine Ev_icmp_ge (tgt := 42) (dt_X12_takeThree.at 6 rfl) (by decide) (fun c1 => ?_) (fun c1 => ?_)
  · replace h := oPos h c1
    refine Ev_sub [0] (ls' := [(0, .ref 71)]) rfl ?_
    exact he (x.1, x.2.1, x.2.2) (Option.some.inj h).symm
  · replace h := oNeg h c1
    refine Ev_iload_n 1 (dt_X12_takeThree.at 7 rfl) rfl ?_
    refine Ev_iload_n 3 (dt_X12_takeThree.at 8 rfl) rfl ?_
    refine Ev_ishr (dt_X12_takeThree.at 9 rfl) ?_
    refine Ev_iconst (dt_X12_takeThree.at 10 rfl) ki_1 ?_
    refine Ev_iand (dt_X12_takeThree.at 11 rfl) ?_
    refine Ev_iconst (dt_X12_takeThree.at 12 rfl) ki_1 ?_
    refine Ev_icmp_ne (tgt := 36) (dt_X12_takeThree.at 13 rfl) (by decide) (fun c2 => ?_) (fun c2 => ?_)
    · replace h := oNeg h c2
      obtain ⟨x3, ex3⟩ : ∃ z : Int32, z = x.2.2 + 1 := ⟨_, rfl⟩
      replace h := oLt h ex3
      refine Ev_iinc (v := x3) 3 (dt_X12_takeThree.at 25 rfl) rfl (ex3.trans (congrArg (fun z => x.2.2 + z) ki_1.symm)) (by decide) (ls' := [(3, .int x3), (0, .ref 71), (1, .int v1), (2, .int x.2.1)]) rfl ?_
      refine Ev_goto (tgt := 4) (dt_X12_takeThree.at 26 rfl) (by decide) ?_
      refine Ev_sub [1, 2, 3, 0] (ls' := [(0, .ref 71), (1, .int v1), (2, .int x.2.1), (3, .int x3)]) rfl ?_
      exact hc (x.1, x.2.1, x3) (Option.some.inj h).symm
    · replace h := oPos h c2
      refine Ev_aload_n 0 (dt_X12_takeThree.at 14 rfl) rfl ?_
      refine Ev_get (i := 6) (v := .ref 76) (dt_X12_takeThree.at 15 rfl) ff_X12_27 sk_71 rfl rfl ?_
      refine Ev_iload_n 2 (dt_X12_takeThree.at 16 rfl) rfl ?_
      refine Ev_iload_n 3 (dt_X12_takeThree.at 17 rfl) rfl ?_
      obtain ⟨g4, h⟩ := oGuard h
      refine Ev_iastore 76 (dt_X12_takeThree.at 18 rfl) sk_76 g4 ?_
      refine Ev_nmS (fun s5 es5 => ?_)
      replace h := oLt h es5
      refine Ev_aload_n 0 (dt_X12_takeThree.at 19 rfl) rfl ?_
      refine Ev_get (i := 7) (v := .ref 77) (dt_X12_takeThree.at 20 rfl) ff_X12_30 sk_71 rfl rfl ?_
      refine Ev_iload_n 2 (dt_X12_takeThree.at 21 rfl) rfl ?_
      refine Ev_iconst (dt_X12_takeThree.at 22 rfl) ki_0 ?_
      obtain ⟨g6, h⟩ := oGuard h
      refine Ev_iastore 77 (dt_X12_takeThree.at 23 rfl) sk_77 g6 ?_
      refine Ev_nmS (fun s7 es7 => ?_)
      replace h := oLt h es7
      obtain ⟨x8, ex8⟩ : ∃ z : Int32, z = x.2.1 + 1 := ⟨_, rfl⟩
      replace h := oLt h ex8
      refine Ev_iinc (v := x8) 2 (dt_X12_takeThree.at 24 rfl) rfl (ex8.trans (congrArg (fun z => x.2.1 + z) ki_1.symm)) (by decide) (ls' := [(2, .int x8), (0, .ref 71), (1, .int v1), (3, .int x.2.2)]) rfl ?_
      obtain ⟨x9, ex9⟩ : ∃ z : Int32, z = x.2.2 + 1 := ⟨_, rfl⟩
      replace h := oLt h ex9
      refine Ev_iinc (v := x9) 3 (dt_X12_takeThree.at 25 rfl) rfl (ex9.trans (congrArg (fun z => x.2.2 + z) ki_1.symm)) (by decide) (ls' := [(3, .int x9), (2, .int x8), (0, .ref 71), (1, .int v1)]) rfl ?_
      refine Ev_goto (tgt := 4) (dt_X12_takeThree.at 26 rfl) (by decide) ?_
      refine Ev_sub [2, 3, 1, 0] (ls' := [(0, .ref 71), (1, .int v1), (2, .int x8), (3, .int x9)]) rfl ?_
      exact hc (s7, x8, x9) (Option.some.inj h).symm
set_option maxRecDepth 100000 in
set_option maxHeartbeats 4000000 in
theorem wl_m_takeThree_4 (v1 : Int32) (r : Option Value) (τ : Sg) (n : Nat) (x : (Sg × Int32 × Int32)) (z : (Sg × Int32 × Int32)) (h : lp (b_m_takeThree_4 v1) n x = some z) (he : ∀ y : (Sg × Int32 × Int32), z = y → Ev M_X12_takeThree 0 r τ 42 [(0, .ref 71)] [] y.1) : Ev M_X12_takeThree 0 r τ 4 [(0, .ref 71), (1, .int v1), (2, .int x.2.1), (3, .int x.2.2)] [] x.1 := by
  refine lp_ind (E := fun x : (Sg × Int32 × Int32) => Ev M_X12_takeThree 0 r τ 4 [(0, .ref 71), (1, .int v1), (2, .int x.2.1), (3, .int x.2.2)] [] x.1) (fun x => ⟨fun y hb hy => ?_, fun hb => ?_⟩) n x h
  · exact wb_m_takeThree_4 v1 x r τ _ hb (fun y' e => by cases e; exact hy) (fun y' e => by cases e)
  · exact wb_m_takeThree_4 v1 x r τ _ hb (fun y' e => by cases e) (fun y' e => he y' (Sum.inr.inj e))
set_option maxRecDepth 100000 in
set_option maxHeartbeats 4000000 in
theorem w_m_takeThree (σ : Sg) (a1 : Int32) (q : Sg) (h : s_m_takeThree σ a1 = some q) : Cal M_X12_takeThree 0 [.ref 71, .int a1] σ none q := by
  refine Cal.of (M := M_X12_takeThree) (by decide +kernel) (Nat.le_of_ble_eq_true rfl) ?_
  show Ev _ _ _ _ 0 [(0, .ref 71), (1, .int a1)] [] σ
  unfold s_m_takeThree at h
  refine Ev_iconst (dt_X12_takeThree.at 0 rfl) ki_0 ?_
  refine Ev_istore_n (dt_X12_takeThree.at 1 rfl) (by decide) (ls' := [(2, .int 0), (0, .ref 71), (1, .int a1)]) rfl ?_
  refine Ev_iconst (dt_X12_takeThree.at 2 rfl) ki_0 ?_
  refine Ev_istore_n (dt_X12_takeThree.at 3 rfl) (by decide) (ls' := [(3, .int 0), (2, .int 0), (0, .ref 71), (1, .int a1)]) rfl ?_
  refine Ev_sub [2, 3, 1, 0] (ls' := [(0, .ref 71), (1, .int a1), (2, .int 0), (3, .int 0)]) rfl ?_
  obtain ⟨o10, ho10, h⟩ := oBind h
  refine wl_m_takeThree_4 a1 _ _ 100000 (σ, 0, 0) o10 ho10 (fun y ey => ?_)
  subst ey
  refine Ev_aload_n 0 (dt_X12_takeThree.at 27 rfl) rfl ?_
  refine Ev_iconst (dt_X12_takeThree.at 28 rfl) ki_0 ?_
  refine Ev_putI (dt_X12_takeThree.at 29 rfl) ff_X12_116 fw_12_9 sk_71 rfl ?_
  refine Ev_nmS (fun s11 es11 => ?_)
  replace h := oLt h es11
  exact Ev_vret (dt_X12_takeThree.at 30 rfl) rfl h
def s_m_hourOf (σ : Sg) (a1 : Int32) (a2 : Int32) : Option Int32 :=
  (s_m_of σ a1 ((3 + (2 * a2)) + 1)).bind fun q1 =>
  some q1
set_option maxRecDepth 100000 in
set_option maxHeartbeats 4000000 in
theorem w_m_hourOf (σ : Sg) (a1 : Int32) (a2 : Int32) (q : Int32) (h : s_m_hourOf σ a1 a2 = some q) : Cal M_X12_hourOf 1 [.ref 71, .int a1, .int a2] σ (some (.int q)) σ := by
  refine Cal.of (M := M_X12_hourOf) (by decide +kernel) (Nat.le_of_ble_eq_true rfl) ?_
  show Ev _ _ _ _ 0 [(0, .ref 71), (1, .int a1), (2, .int a2)] [] σ
  unfold s_m_hourOf at h
  refine Ev_aload_n 0 (dt_X12_hourOf.at 0 rfl) rfl ?_
  refine Ev_iload_n 1 (dt_X12_hourOf.at 1 rfl) rfl ?_
  refine Ev_iconst (dt_X12_hourOf.at 2 rfl) ki_3 ?_
  refine Ev_iconst (dt_X12_hourOf.at 3 rfl) ki_2 ?_
  refine Ev_iload_n 2 (dt_X12_hourOf.at 4 rfl) rfl ?_
  refine Ev_imul (dt_X12_hourOf.at 5 rfl) ?_
  refine Ev_iadd (dt_X12_hourOf.at 6 rfl) ?_
  refine Ev_iconst (dt_X12_hourOf.at 7 rfl) ki_1 ?_
  refine Ev_iadd (dt_X12_hourOf.at 8 rfl) ?_
  obtain ⟨q1, hq1, h⟩ := oBind h
  refine Ev_callV (st := []) (st' := [.int q1]) [.int a1, .int ((3 + (2 * a2)) + 1)] (dt_X12_hourOf.at 9 rfl) cf_X12_82 (w_m_of σ a1 ((3 + (2 * a2)) + 1) q1 hq1) (by decide) sk_71 rfl rfl rfl (Nat.le_of_ble_eq_true rfl) rfl ?_
  exact Ev_iret (dt_X12_hourOf.at 10 rfl) rfl (oRet h)
def s_m_isOpen (σ : Sg) (a1 : Int32) (a2 : Int32) (a3 : Int32) : Option Int32 :=
  if inB a1 3 = true then
    if (((gI σ 77 (Int32.toNatClampNeg a1)) >>> (a2 &&& 31)) &&& 1) = 0 then
      if inB a1 3 = true then
        (s_m_hourOf σ (gI σ 76 (Int32.toNatClampNeg a1)) a2).bind fun q4 =>
        if q4 < a3 then
          some 0
        else
          some 1
      else none
    else
      some 0
  else none
set_option maxRecDepth 100000 in
set_option maxHeartbeats 4000000 in
theorem w_m_isOpen (σ : Sg) (a1 : Int32) (a2 : Int32) (a3 : Int32) (q : Int32) (h : s_m_isOpen σ a1 a2 a3 = some q) : Cal M_X12_isOpen 2 [.ref 71, .int a1, .int a2, .int a3] σ (some (.int q)) σ := by
  refine Cal.of (M := M_X12_isOpen) (by decide +kernel) (Nat.le_of_ble_eq_true rfl) ?_
  show Ev _ _ _ _ 0 [(0, .ref 71), (1, .int a1), (2, .int a2), (3, .int a3)] [] σ
  unfold s_m_isOpen at h
  refine Ev_aload_n 0 (dt_X12_isOpen.at 0 rfl) rfl ?_
  refine Ev_get (i := 7) (v := .ref 77) (dt_X12_isOpen.at 1 rfl) ff_X12_30 sk_71 rfl rfl ?_
  refine Ev_iload_n 1 (dt_X12_isOpen.at 2 rfl) rfl ?_
  obtain ⟨g1, h⟩ := oGuard h
  refine Ev_iaload 77 (dt_X12_isOpen.at 3 rfl) sk_77 g1 ?_
  refine Ev_iload_n 2 (dt_X12_isOpen.at 4 rfl) rfl ?_
  refine Ev_ishr (dt_X12_isOpen.at 5 rfl) ?_
  refine Ev_iconst (dt_X12_isOpen.at 6 rfl) ki_1 ?_
  refine Ev_iand (dt_X12_isOpen.at 7 rfl) ?_
  refine Ev_if_ne (tgt := 32) (dt_X12_isOpen.at 8 rfl) (by decide) (fun c2 => ?_) (fun c2 => ?_)
  · replace h := oNeg h c2
    refine Ev_iconst (dt_X12_isOpen.at 20 rfl) ki_0 ?_
    exact Ev_zret (dt_X12_isOpen.at 21 rfl) rfl (by decide) (oRet h)
  · replace h := oPos h c2
    refine Ev_aload_n 0 (dt_X12_isOpen.at 9 rfl) rfl ?_
    refine Ev_aload_n 0 (dt_X12_isOpen.at 10 rfl) rfl ?_
    refine Ev_get (i := 6) (v := .ref 76) (dt_X12_isOpen.at 11 rfl) ff_X12_27 sk_71 rfl rfl ?_
    refine Ev_iload_n 1 (dt_X12_isOpen.at 12 rfl) rfl ?_
    obtain ⟨g3, h⟩ := oGuard h
    refine Ev_iaload 76 (dt_X12_isOpen.at 13 rfl) sk_76 g3 ?_
    refine Ev_iload_n 2 (dt_X12_isOpen.at 14 rfl) rfl ?_
    obtain ⟨q4, hq4, h⟩ := oBind h
    refine Ev_callV (st := []) (st' := [.int q4]) [.int (gI σ 76 (Int32.toNatClampNeg a1)), .int a2] (dt_X12_isOpen.at 15 rfl) cf_X12_120 (w_m_hourOf σ (gI σ 76 (Int32.toNatClampNeg a1)) a2 q4 hq4) (by decide) sk_71 rfl rfl rfl (Nat.le_of_ble_eq_true rfl) rfl ?_
    refine Ev_iload_n 3 (dt_X12_isOpen.at 16 rfl) rfl ?_
    refine Ev_icmp_lt (tgt := 32) (dt_X12_isOpen.at 17 rfl) (by decide) (fun c5 => ?_) (fun c5 => ?_)
    · replace h := oPos h c5
      refine Ev_iconst (dt_X12_isOpen.at 20 rfl) ki_0 ?_
      exact Ev_zret (dt_X12_isOpen.at 21 rfl) rfl (by decide) (oRet h)
    · replace h := oNeg h c5
      refine Ev_iconst (dt_X12_isOpen.at 18 rfl) ki_1 ?_
      refine Ev_goto (tgt := 33) (dt_X12_isOpen.at 19 rfl) (by decide) ?_
      exact Ev_zret (dt_X12_isOpen.at 21 rfl) rfl (by decide) (oRet h)
def s_m_placeOf (σ : Sg) (a1 : Int32) (a2 : Int32) : Option Int32 :=
  (s_m_of σ a1 (3 + (2 * a2))).bind fun q1 =>
  some q1
set_option maxRecDepth 100000 in
set_option maxHeartbeats 4000000 in
theorem w_m_placeOf (σ : Sg) (a1 : Int32) (a2 : Int32) (q : Int32) (h : s_m_placeOf σ a1 a2 = some q) : Cal M_X12_placeOf 1 [.ref 71, .int a1, .int a2] σ (some (.int q)) σ := by
  refine Cal.of (M := M_X12_placeOf) (by decide +kernel) (Nat.le_of_ble_eq_true rfl) ?_
  show Ev _ _ _ _ 0 [(0, .ref 71), (1, .int a1), (2, .int a2)] [] σ
  unfold s_m_placeOf at h
  refine Ev_aload_n 0 (dt_X12_placeOf.at 0 rfl) rfl ?_
  refine Ev_iload_n 1 (dt_X12_placeOf.at 1 rfl) rfl ?_
  refine Ev_iconst (dt_X12_placeOf.at 2 rfl) ki_3 ?_
  refine Ev_iconst (dt_X12_placeOf.at 3 rfl) ki_2 ?_
  refine Ev_iload_n 2 (dt_X12_placeOf.at 4 rfl) rfl ?_
  refine Ev_imul (dt_X12_placeOf.at 5 rfl) ?_
  refine Ev_iadd (dt_X12_placeOf.at 6 rfl) ?_
  obtain ⟨q1, hq1, h⟩ := oBind h
  refine Ev_callV (st := []) (st' := [.int q1]) [.int a1, .int (3 + (2 * a2))] (dt_X12_placeOf.at 7 rfl) cf_X12_82 (w_m_of σ a1 (3 + (2 * a2)) q1 hq1) (by decide) sk_71 rfl rfl rfl (Nat.le_of_ble_eq_true rfl) rfl ?_
  exact Ev_iret (dt_X12_placeOf.at 8 rfl) rfl (oRet h)
def j_m_hastyVote_57i5 (σ : Sg) (v1 : Int32) (v2 : Int32) (v3 : Int32) (v4 : Int32) (u0 : Int32) : Option ((Int32 × Int32) ⊕ (Int32 × Int32)) :=
  (s_m_isOpen σ v1 v4 v2).bind fun q5 =>
  if q5 = 0 then
    lt (v4 + 1 : Int32) fun x7 =>
    some (.inl (v3, x7))
  else
    if u0 = 0 then
      lt (v4 + 1 : Int32) fun x9 =>
      some (.inl (v3, x9))
    else
      lt (v4 + 1 : Int32) fun x10 =>
      some (.inl (v4, x10))
def j_m_hastyVote_52i5 (σ : Sg) (v1 : Int32) (v2 : Int32) (v3 : Int32) (v4 : Int32) : Option ((Int32 × Int32) ⊕ (Int32 × Int32)) :=
  j_m_hastyVote_57i5 σ v1 v2 v3 v4 1
def b_m_hastyVote_5 (σ : Sg) (v1 : Int32) (v2 : Int32) (x : (Int32 × Int32)) : Option ((Int32 × Int32) ⊕ (Int32 × Int32)) :=
  if inB v1 3 = true then
    (s_m_of σ (gI σ 76 (Int32.toNatClampNeg v1)) 2).bind fun q2 =>
    if q2 ≤ x.2 then
      some (.inr (x.1, x.2))
    else
      if x.1 = (-1) then
        j_m_hastyVote_52i5 σ v1 v2 x.1 x.2
      else
        if inB v1 3 = true then
          (s_m_hourOf σ (gI σ 76 (Int32.toNatClampNeg v1)) x.2).bind fun q12 =>
          if inB v1 3 = true then
            (s_m_hourOf σ (gI σ 76 (Int32.toNatClampNeg v1)) x.1).bind fun q14 =>
            if q14 ≤ q12 then
              j_m_hastyVote_57i5 σ v1 v2 x.1 x.2 0
            else
              j_m_hastyVote_52i5 σ v1 v2 x.1 x.2
          else none
        else none
  else none
def s_m_hastyVote (σ : Sg) (a1 : Int32) (a2 : Int32) : Option Int32 :=
  (lp (b_m_hastyVote_5 σ a1 a2) 100000 ((-1), 0)).bind fun o16 =>
  if o16.1 = (-1) then
    some (gI σ 71 9)
  else
    if inB a1 3 = true then
      (s_m_placeOf σ (gI σ 76 (Int32.toNatClampNeg a1)) o16.1).bind fun q19 =>
      some q19
    else none
set_option maxRecDepth 100000 in
set_option maxHeartbeats 4000000 in
theorem wj_m_hastyVote_57i5 (σ : Sg) (v1 : Int32) (v2 : Int32) (v3 : Int32) (v4 : Int32) (u0 : Int32) (r : Option Value) (τ : Sg) (o : ((Int32 × Int32) ⊕ (Int32 × Int32))) (h : (j_m_hastyVote_57i5 σ v1 v2 v3 v4 u0) = some o) (hc : ∀ y : (Int32 × Int32), o = .inl y → Ev M_X12_hastyVote 3 r τ 5 [(0, .ref 71), (1, .int v1), (2, .int v2), (3, .int y.1), (4, .int y.2)] [] σ) (he : ∀ y : (Int32 × Int32), o = .inr y → Ev M_X12_hastyVote 3 r τ 88 [(0, .ref 71), (1, .int v1), (3, .int y.1)] [] σ) : Ev M_X12_hastyVote 3 r τ 57 [(0, .ref 71), (1, .int v1), (2, .int v2), (3, .int v3), (4, .int v4)] [.int u0] σ := by
  unfold j_m_hastyVote_57i5 at h
  refine Ev_istore (dt_X12_hastyVote.at 34 rfl) (by decide) (ls' := [(5, .int u0), (0, .ref 71), (1, .int v1), (2, .int v2), (3, .int v3), (4, .int v4)]) rfl ?_
  refine Ev_aload_n 1 (dt_X12_hastyVote.at 35 rfl) rfl ?_
  refine Ev_iload_n 2 (dt_X12_hastyVote.at 36 rfl) rfl ?_
  refine Ev_iload 5 (dt_X12_hastyVote.at 37 rfl) rfl ?_
  refine Ev_iload_n 3 (dt_X12_hastyVote.at 38 rfl) rfl ?_
  obtain ⟨q5, hq5, h⟩ := oBind h
  refine Ev_callV (st := []) (st' := [.int q5]) [.int v1, .int v4, .int v2] (dt_X12_hastyVote.at 39 rfl) cf_X12_123 (w_m_isOpen σ v1 v4 v2 q5 hq5) (by decide) sk_71 rfl rfl rfl (Nat.le_of_ble_eq_true rfl) rfl ?_
  refine Ev_if_eq (tgt := 80) (dt_X12_hastyVote.at 40 rfl) (by decide) (fun c6 => ?_) (fun c6 => ?_)
  · replace h := oPos h c6
    refine Ev_iload_n 4 (dt_X12_hastyVote.at 45 rfl) rfl ?_
    refine Ev_istore_n (dt_X12_hastyVote.at 46 rfl) (by decide) (ls' := [(3, .int v3), (5, .int u0), (0, .ref 71), (1, .int v1), (2, .int v2), (4, .int v4)]) rfl ?_
    obtain ⟨x7, ex7⟩ : ∃ z : Int32, z = v4 + 1 := ⟨_, rfl⟩
    replace h := oLt h ex7
    refine Ev_iinc (v := x7) 5 (dt_X12_hastyVote.at 47 rfl) rfl (ex7.trans (congrArg (fun z => v4 + z) ki_1.symm)) (by decide) (ls' := [(4, .int x7), (3, .int v3), (5, .int u0), (0, .ref 71), (1, .int v1), (2, .int v2)]) rfl ?_
    refine Ev_goto (tgt := 5) (dt_X12_hastyVote.at 48 rfl) (by decide) ?_
    refine Ev_sub [3, 4, 5, 1, 0] (ls' := [(0, .ref 71), (1, .int v1), (2, .int v2), (3, .int v3), (4, .int x7)]) rfl ?_
    exact hc (v3, x7) (Option.some.inj h).symm
  · replace h := oNeg h c6
    refine Ev_iload 0 (dt_X12_hastyVote.at 41 rfl) rfl ?_
    refine Ev_if_eq (tgt := 80) (dt_X12_hastyVote.at 42 rfl) (by decide) (fun c8 => ?_) (fun c8 => ?_)
    · replace h := oPos h c8
      refine Ev_iload_n 4 (dt_X12_hastyVote.at 45 rfl) rfl ?_
      refine Ev_istore_n (dt_X12_hastyVote.at 46 rfl) (by decide) (ls' := [(3, .int v3), (5, .int u0), (0, .ref 71), (1, .int v1), (2, .int v2), (4, .int v4)]) rfl ?_
      obtain ⟨x9, ex9⟩ : ∃ z : Int32, z = v4 + 1 := ⟨_, rfl⟩
      replace h := oLt h ex9
      refine Ev_iinc (v := x9) 5 (dt_X12_hastyVote.at 47 rfl) rfl (ex9.trans (congrArg (fun z => v4 + z) ki_1.symm)) (by decide) (ls' := [(4, .int x9), (3, .int v3), (5, .int u0), (0, .ref 71), (1, .int v1), (2, .int v2)]) rfl ?_
      refine Ev_goto (tgt := 5) (dt_X12_hastyVote.at 48 rfl) (by decide) ?_
      refine Ev_sub [3, 4, 5, 1, 0] (ls' := [(0, .ref 71), (1, .int v1), (2, .int v2), (3, .int v3), (4, .int x9)]) rfl ?_
      exact hc (v3, x9) (Option.some.inj h).symm
    · replace h := oNeg h c8
      refine Ev_iload 5 (dt_X12_hastyVote.at 43 rfl) rfl ?_
      refine Ev_goto (tgt := 81) (dt_X12_hastyVote.at 44 rfl) (by decide) ?_
      refine Ev_istore_n (dt_X12_hastyVote.at 46 rfl) (by decide) (ls' := [(3, .int v4), (5, .int u0), (0, .ref 71), (1, .int v1), (2, .int v2), (4, .int v4)]) rfl ?_
      obtain ⟨x10, ex10⟩ : ∃ z : Int32, z = v4 + 1 := ⟨_, rfl⟩
      replace h := oLt h ex10
      refine Ev_iinc (v := x10) 5 (dt_X12_hastyVote.at 47 rfl) rfl (ex10.trans (congrArg (fun z => v4 + z) ki_1.symm)) (by decide) (ls' := [(4, .int x10), (3, .int v4), (5, .int u0), (0, .ref 71), (1, .int v1), (2, .int v2)]) rfl ?_
      refine Ev_goto (tgt := 5) (dt_X12_hastyVote.at 48 rfl) (by decide) ?_
      refine Ev_sub [3, 4, 5, 1, 0] (ls' := [(0, .ref 71), (1, .int v1), (2, .int v2), (3, .int v4), (4, .int x10)]) rfl ?_
      exact hc (v4, x10) (Option.some.inj h).symm
set_option maxRecDepth 100000 in
set_option maxHeartbeats 4000000 in
theorem wj_m_hastyVote_52i5 (σ : Sg) (v1 : Int32) (v2 : Int32) (v3 : Int32) (v4 : Int32) (r : Option Value) (τ : Sg) (o : ((Int32 × Int32) ⊕ (Int32 × Int32))) (h : (j_m_hastyVote_52i5 σ v1 v2 v3 v4) = some o) (hc : ∀ y : (Int32 × Int32), o = .inl y → Ev M_X12_hastyVote 3 r τ 5 [(0, .ref 71), (1, .int v1), (2, .int v2), (3, .int y.1), (4, .int y.2)] [] σ) (he : ∀ y : (Int32 × Int32), o = .inr y → Ev M_X12_hastyVote 3 r τ 88 [(0, .ref 71), (1, .int v1), (3, .int y.1)] [] σ) : Ev M_X12_hastyVote 3 r τ 52 [(0, .ref 71), (1, .int v1), (2, .int v2), (3, .int v3), (4, .int v4)] [] σ := by
  unfold j_m_hastyVote_52i5 at h
  refine Ev_iconst (dt_X12_hastyVote.at 31 rfl) ki_1 ?_
  refine Ev_goto (tgt := 57) (dt_X12_hastyVote.at 32 rfl) (by decide) ?_
  refine Ev_sub [0, 1, 2, 3, 4] (ls' := [(0, .ref 71), (1, .int v1), (2, .int v2), (3, .int v3), (4, .int v4)]) rfl ?_
  exact wj_m_hastyVote_57i5 σ v1 v2 v3 v4 1 _ _ _ h hc he
set_option maxRecDepth 100000 in
set_option maxHeartbeats 4000000 in
theorem wb_m_hastyVote_5 (σ : Sg) (v1 : Int32) (v2 : Int32) (x : (Int32 × Int32)) (r : Option Value) (τ : Sg) (o : ((Int32 × Int32) ⊕ (Int32 × Int32))) (h : (b_m_hastyVote_5 σ v1 v2 x) = some o) (hc : ∀ y : (Int32 × Int32), o = .inl y → Ev M_X12_hastyVote 3 r τ 5 [(0, .ref 71), (1, .int v1), (2, .int v2), (3, .int y.1), (4, .int y.2)] [] σ) (he : ∀ y : (Int32 × Int32), o = .inr y → Ev M_X12_hastyVote 3 r τ 88 [(0, .ref 71), (1, .int v1), (3, .int y.1)] [] σ) : Ev M_X12_hastyVote 3 r τ 5 [(0, .ref 71), (1, .int v1), (2, .int v2), (3, .int x.1), (4, .int x.2)] [] σ := by
  unfold b_m_hastyVote_5 at h
  refine Ev_iload 4 (dt_X12_hastyVote.at 4 rfl) rfl ?_
  refine Ev_aload_n 0 (dt_X12_hastyVote.at 5 rfl) rfl ?_
  refine Ev_aload_n 0 (dt_X12_hastyVote.at 6 rfl) rfl ?_
  refine Ev_get (i := 6) (v := .ref 76) (dt_X12_hastyVote.at 7 rfl) ff_X12_27 sk_71 rfl rfl ?_
  refine Ev_iload_n 1 (dt_X12_hastyVote.at 8 rfl) rfl ?_
  obtain ⟨g1, h⟩ := oGuard h
  refine Ev_iaload 76 (dt_X12_hastyVote.at 9 rfl) sk_76 g1 ?_
  refine Ev_iconst (dt_X12_hastyVote.at 10 rfl) ki_2 ?_
  obtain ⟨q2, hq2, h⟩ := oBind h
  refine Ev_callV (st := [.int x.2]) (st' := [.int q2, .int x.2]) [.int (gI σ 76 (Int32.toNatClampNeg v1)), .int 2] (dt_X12_hastyVote.at 11 rfl) cf_X12_82 (w_m_of σ (gI σ 76 (Int32.toNatClampNeg v1)) 2 q2 hq2) (by decide) sk_71 rfl rfl rfl (Nat.le_of_ble_eq_true rfl) rfl ?_
  refine Ev_icmp_ge (tgt := 88) (dt_X12_hastyVote.at 12 rfl) (by decide) (fun c3 => ?_) (fun c3 => ?_)
  · replace h := oPos h c3
    refine Ev_sub [0, 1, 3] (ls' := [(0, .ref 71), (1, .int v1), (3, .int x.1)]) rfl ?_
    exact he (x.1, x.2) (Option.some.inj h).symm
  · replace h := oNeg h c3
    refine Ev_iload_n 3 (dt_X12_hastyVote.at 13 rfl) rfl ?_
    refine Ev_iconst (dt_X12_hastyVote.at 14 rfl) ki_m1 ?_
    refine Ev_icmp_eq (tgt := 52) (dt_X12_hastyVote.at 15 rfl) (by decide) (fun c4 => ?_) (fun c4 => ?_)
    · replace h := oPos h c4
      refine Ev_sub [0, 1, 2, 3, 4] (ls' := [(0, .ref 71), (1, .int v1), (2, .int v2), (3, .int x.1), (4, .int x.2)]) rfl ?_
      exact wj_m_hastyVote_52i5 σ v1 v2 x.1 x.2 _ _ _ h hc he
    · replace h := oNeg h c4
      refine Ev_aload_n 0 (dt_X12_hastyVote.at 16 rfl) rfl ?_
      refine Ev_aload_n 0 (dt_X12_hastyVote.at 17 rfl) rfl ?_
      refine Ev_get (i := 6) (v := .ref 76) (dt_X12_hastyVote.at 18 rfl) ff_X12_27 sk_71 rfl rfl ?_
      refine Ev_iload_n 1 (dt_X12_hastyVote.at 19 rfl) rfl ?_
      obtain ⟨g11, h⟩ := oGuard h
      refine Ev_iaload 76 (dt_X12_hastyVote.at 20 rfl) sk_76 g11 ?_
      refine Ev_iload 4 (dt_X12_hastyVote.at 21 rfl) rfl ?_
      obtain ⟨q12, hq12, h⟩ := oBind h
      refine Ev_callV (st := []) (st' := [.int q12]) [.int (gI σ 76 (Int32.toNatClampNeg v1)), .int x.2] (dt_X12_hastyVote.at 22 rfl) cf_X12_120 (w_m_hourOf σ (gI σ 76 (Int32.toNatClampNeg v1)) x.2 q12 hq12) (by decide) sk_71 rfl rfl rfl (Nat.le_of_ble_eq_true rfl) rfl ?_
      refine Ev_aload_n 0 (dt_X12_hastyVote.at 23 rfl) rfl ?_
      refine Ev_aload_n 0 (dt_X12_hastyVote.at 24 rfl) rfl ?_
      refine Ev_get (i := 6) (v := .ref 76) (dt_X12_hastyVote.at 25 rfl) ff_X12_27 sk_71 rfl rfl ?_
      refine Ev_iload_n 1 (dt_X12_hastyVote.at 26 rfl) rfl ?_
      obtain ⟨g13, h⟩ := oGuard h
      refine Ev_iaload 76 (dt_X12_hastyVote.at 27 rfl) sk_76 g13 ?_
      refine Ev_iload_n 3 (dt_X12_hastyVote.at 28 rfl) rfl ?_
      obtain ⟨q14, hq14, h⟩ := oBind h
      refine Ev_callV (st := [.int q12]) (st' := [.int q14, .int q12]) [.int (gI σ 76 (Int32.toNatClampNeg v1)), .int x.1] (dt_X12_hastyVote.at 29 rfl) cf_X12_120 (w_m_hourOf σ (gI σ 76 (Int32.toNatClampNeg v1)) x.1 q14 hq14) (by decide) sk_71 rfl rfl rfl (Nat.le_of_ble_eq_true rfl) rfl ?_
      refine Ev_icmp_ge (tgt := 56) (dt_X12_hastyVote.at 30 rfl) (by decide) (fun c15 => ?_) (fun c15 => ?_)
      · replace h := oPos h c15
        refine Ev_iconst (dt_X12_hastyVote.at 33 rfl) ki_0 ?_
        refine Ev_sub [0, 1, 2, 3, 4] (ls' := [(0, .ref 71), (1, .int v1), (2, .int v2), (3, .int x.1), (4, .int x.2)]) rfl ?_
        exact wj_m_hastyVote_57i5 σ v1 v2 x.1 x.2 0 _ _ _ h hc he
      · replace h := oNeg h c15
        refine Ev_sub [0, 1, 2, 3, 4] (ls' := [(0, .ref 71), (1, .int v1), (2, .int v2), (3, .int x.1), (4, .int x.2)]) rfl ?_
        exact wj_m_hastyVote_52i5 σ v1 v2 x.1 x.2 _ _ _ h hc he
set_option maxRecDepth 100000 in
set_option maxHeartbeats 4000000 in
theorem wl_m_hastyVote_5 (σ : Sg) (v1 : Int32) (v2 : Int32) (r : Option Value) (τ : Sg) (n : Nat) (x : (Int32 × Int32)) (z : (Int32 × Int32)) (h : lp (b_m_hastyVote_5 σ v1 v2) n x = some z) (he : ∀ y : (Int32 × Int32), z = y → Ev M_X12_hastyVote 3 r τ 88 [(0, .ref 71), (1, .int v1), (3, .int y.1)] [] σ) : Ev M_X12_hastyVote 3 r τ 5 [(0, .ref 71), (1, .int v1), (2, .int v2), (3, .int x.1), (4, .int x.2)] [] σ := by
  refine lp_ind (E := fun x : (Int32 × Int32) => Ev M_X12_hastyVote 3 r τ 5 [(0, .ref 71), (1, .int v1), (2, .int v2), (3, .int x.1), (4, .int x.2)] [] σ) (fun x => ⟨fun y hb hy => ?_, fun hb => ?_⟩) n x h
  · exact wb_m_hastyVote_5 σ v1 v2 x r τ _ hb (fun y' e => by cases e; exact hy) (fun y' e => by cases e)
  · exact wb_m_hastyVote_5 σ v1 v2 x r τ _ hb (fun y' e => by cases e) (fun y' e => he y' (Sum.inr.inj e))
set_option maxRecDepth 100000 in
set_option maxHeartbeats 4000000 in
theorem w_m_hastyVote (σ : Sg) (a1 : Int32) (a2 : Int32) (q : Int32) (h : s_m_hastyVote σ a1 a2 = some q) : Cal M_X12_hastyVote 3 [.ref 71, .int a1, .int a2] σ (some (.int q)) σ := by
  refine Cal.of (M := M_X12_hastyVote) (by decide +kernel) (Nat.le_of_ble_eq_true rfl) ?_
  show Ev _ _ _ _ 0 [(0, .ref 71), (1, .int a1), (2, .int a2)] [] σ
  unfold s_m_hastyVote at h
  refine Ev_iconst (dt_X12_hastyVote.at 0 rfl) ki_m1 ?_
  refine Ev_istore_n (dt_X12_hastyVote.at 1 rfl) (by decide) (ls' := [(3, .int (-1)), (0, .ref 71), (1, .int a1), (2, .int a2)]) rfl ?_
  refine Ev_iconst (dt_X12_hastyVote.at 2 rfl) ki_0 ?_
  refine Ev_istore (dt_X12_hastyVote.at 3 rfl) (by decide) (ls' := [(4, .int 0), (3, .int (-1)), (0, .ref 71), (1, .int a1), (2, .int a2)]) rfl ?_
  refine Ev_sub [2, 3, 4, 1, 0] (ls' := [(0, .ref 71), (1, .int a1), (2, .int a2), (3, .int (-1)), (4, .int 0)]) rfl ?_
  obtain ⟨o16, ho16, h⟩ := oBind h
  refine wl_m_hastyVote_5 σ a1 a2 _ _ 100000 ((-1), 0) o16 ho16 (fun y ey => ?_)
  subst ey
  refine Ev_iload_n 2 (dt_X12_hastyVote.at 49 rfl) rfl ?_
  refine Ev_iconst (dt_X12_hastyVote.at 50 rfl) ki_m1 ?_
  refine Ev_icmp_ne (tgt := 100) (dt_X12_hastyVote.at 51 rfl) (by decide) (fun c17 => ?_) (fun c17 => ?_)
  · replace h := oNeg h c17
    refine Ev_aload_n 0 (dt_X12_hastyVote.at 55 rfl) rfl ?_
    refine Ev_aload_n 0 (dt_X12_hastyVote.at 56 rfl) rfl ?_
    refine Ev_get (i := 6) (v := .ref 76) (dt_X12_hastyVote.at 57 rfl) ff_X12_27 sk_71 rfl rfl ?_
    refine Ev_iload_n 1 (dt_X12_hastyVote.at 58 rfl) rfl ?_
    obtain ⟨g18, h⟩ := oGuard h
    refine Ev_iaload 76 (dt_X12_hastyVote.at 59 rfl) sk_76 g18 ?_
    refine Ev_iload_n 2 (dt_X12_hastyVote.at 60 rfl) rfl ?_
    obtain ⟨q19, hq19, h⟩ := oBind h
    refine Ev_callV (st := []) (st' := [.int q19]) [.int (gI σ 76 (Int32.toNatClampNeg a1)), .int o16.1] (dt_X12_hastyVote.at 61 rfl) cf_X12_130 (w_m_placeOf σ (gI σ 76 (Int32.toNatClampNeg a1)) o16.1 q19 hq19) (by decide) sk_71 rfl rfl rfl (Nat.le_of_ble_eq_true rfl) rfl ?_
    exact Ev_iret (dt_X12_hastyVote.at 62 rfl) rfl (oRet h)
  · replace h := oPos h c17
    refine Ev_aload_n 0 (dt_X12_hastyVote.at 52 rfl) rfl ?_
    refine Ev_get (i := 9) (v := .int (gI σ 71 9)) (dt_X12_hastyVote.at 53 rfl) ff_X12_116 sk_71 rfl rfl ?_
    refine Ev_goto (tgt := 111) (dt_X12_hastyVote.at 54 rfl) (by decide) ?_
    exact Ev_iret (dt_X12_hastyVote.at 62 rfl) rfl (oRet h)
