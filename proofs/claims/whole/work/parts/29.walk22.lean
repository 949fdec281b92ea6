def s_m_clear (σ : Sg)  : Option (Int32 × Sg) :=
  lt ((gI σ 71 21) : Int32) fun x1 =>
  lt (pI σ 71 21 0 : Sg) fun s2 =>
  some (x1, s2)
set_option maxRecDepth 100000 in
set_option maxHeartbeats 4000000 in
theorem w_m_clear (σ : Sg)  (q : (Int32 × Sg)) (h : s_m_clear σ  = some q) : Cal M_X12_clear 0 [.ref 71] σ (some (.int q.1)) q.2 := by
  refine Cal.of (M := M_X12_clear) (by decide +kernel) (Nat.le_of_ble_eq_true rfl) ?_
  show Ev _ _ _ _ 0 [(0, .ref 71)] [] σ
  unfold s_m_clear at h
  refine Ev_aload_n 0 (dt_X12_clear.at 0 rfl) rfl ?_
  refine Ev_get (i := 21) (v := .int (gI σ 71 21)) (dt_X12_clear.at 1 rfl) ff_X12_259 sk_71 rfl rfl ?_
  refine Ev_nmI (fun x1 ex1 => ?_)
  replace h := oLt h ex1
  refine Ev_istore_n (dt_X12_clear.at 2 rfl) (by decide) (ls' := [(1, .int x1), (0, .ref 71)]) rfl ?_
  refine Ev_aload_n 1 (dt_X12_clear.at 3 rfl) rfl ?_
  refine Ev_iconst (dt_X12_clear.at 4 rfl) ki_0 ?_
  refine Ev_putI (dt_X12_clear.at 5 rfl) ff_X12_259 fw_12_21 sk_71 rfl ?_
  refine Ev_nmS (fun s2 es2 => ?_)
  replace h := oLt h es2
  refine Ev_iload_n 0 (dt_X12_clear.at 6 rfl) rfl ?_
  exact Ev_iret (dt_X12_clear.at 7 rfl) rfl h
def b_m_bits_4  (x : (Int32 × Int32)) : Option ((Int32 × Int32) ⊕ (Int32 × Int32)) :=
  if x.2 ≤ 0 then
    some (.inr (x.1, x.2))
  else
    lt ((x.1 + (x.2 &&& 1)) : Int32) fun x2 =>
    lt ((x.2 >>> (1 &&& 31)) : Int32) fun x3 =>
    some (.inl (x2, x3))
def s_m_bits (a0 : Int32) : Option Int32 :=
  (lp (b_m_bits_4 ) 100000 (0, a0)).bind fun o4 =>
  some o4.1
set_option maxRecDepth 100000 in
set_option maxHeartbeats 4000000 in
theorem wb_m_bits_4  (σ : Sg) (x : (Int32 × Int32)) (r : Option Value) (τ : Sg) (o : ((Int32 × Int32) ⊕ (Int32 × Int32))) (h : (b_m_bits_4  x) = some o) (hc : ∀ y : (Int32 × Int32), o = .inl y → Ev M_X12_bits 0 r τ 4 [(1, .int y.1), (2, .int y.2)] [] σ) (he : ∀ y : (Int32 × Int32), o = .inr y → Ev M_X12_bits 0 r τ 21 [(1, .int y.1)] [] σ) : Ev M_X12_bits 0 r τ 4 [(1, .int x.1), (2, .int x.2)] [] σ := by
  unfold b_m_bits_4 at h
  refine Ev_iload_n 1 (dt_X12_bits.at 4 rfl) rfl ?_
  refine Ev_if_le (tgt := 21) (dt_X12_bits.at 5 rfl) (by decide) (fun c1 => ?_) (fun c1 => ?_)
  · replace h := oPos h c1
    refine Ev_sub [0] (ls' := [(1, .int x.1)]) rfl ?_
    exact he (x.1, x.2) (Option.some.inj h).symm
  · replace h := oNeg h c1
    refine Ev_iload_n 0 (dt_X12_bits.at 6 rfl) rfl ?_
    refine Ev_iload_n 1 (dt_X12_bits.at 7 rfl) rfl ?_
    refine Ev_iconst (dt_X12_bits.at 8 rfl) ki_1 ?_
    refine Ev_iand (dt_X12_bits.at 9 rfl) ?_
    refine Ev_iadd (dt_X12_bits.at 10 rfl) ?_
    refine Ev_nmI (fun x2 ex2 => ?_)
    replace h := oLt h ex2
    refine Ev_istore_n (dt_X12_bits.at 11 rfl) (by decide) (ls' := [(1, .int x2), (2, .int x.2)]) rfl ?_
    refine Ev_iload_n 1 (dt_X12_bits.at 12 rfl) rfl ?_
    refine Ev_iconst (dt_X12_bits.at 13 rfl) ki_1 ?_
    refine Ev_ishr (dt_X12_bits.at 14 rfl) ?_
    refine Ev_nmI (fun x3 ex3 => ?_)
    replace h := oLt h ex3
    refine Ev_istore_n (dt_X12_bits.at 15 rfl) (by decide) (ls' := [(2, .int x3), (1, .int x2)]) rfl ?_
    refine Ev_goto (tgt := 4) (dt_X12_bits.at 16 rfl) (by decide) ?_
    refine Ev_sub [1, 0] (ls' := [(1, .int x2), (2, .int x3)]) rfl ?_
    exact hc (x2, x3) (Option.some.inj h).symm
set_option maxRecDepth 100000 in
set_option maxHeartbeats 4000000 in
theorem wl_m_bits_4  (σ : Sg) (r : Option Value) (τ : Sg) (n : Nat) (x : (Int32 × Int32)) (z : (Int32 × Int32)) (h : lp (b_m_bits_4 ) n x = some z) (he : ∀ y : (Int32 × Int32), z = y → Ev M_X12_bits 0 r τ 21 [(1, .int y.1)] [] σ) : Ev M_X12_bits 0 r τ 4 [(1, .int x.1), (2, .int x.2)] [] σ := by
  refine lp_ind (E := fun x : (Int32 × Int32) => Ev M_X12_bits 0 r τ 4 [(1, .int x.1), (2, .int x.2)] [] σ) (fun x => ⟨fun y hb hy => ?_, fun hb => ?_⟩) n x h
  · exact wb_m_bits_4  σ x r τ _ hb (fun y' e => by cases e; exact hy) (fun y' e => by cases e)
  · exact wb_m_bits_4  σ x r τ _ hb (fun y' e => by cases e) (fun y' e => he y' (Sum.inr.inj e))
set_option maxRecDepth 100000 in
set_option maxHeartbeats 4000000 in
theorem w_m_bits (σ : Sg) (a0 : Int32) (q : Int32) (h : s_m_bits a0 = some q) : Cal M_X12_bits 0 [.int a0] σ (some (.int q)) σ := by
  refine Cal.of (M := M_X12_bits) (by decide +kernel) (Nat.le_of_ble_eq_true rfl) ?_
  show Ev _ _ _ _ 0 [(0, .int a0)] [] σ
  unfold s_m_bits at h
  refine Ev_iconst (dt_X12_bits.at 0 rfl) ki_0 ?_
  refine Ev_istore_n (dt_X12_bits.at 1 rfl) (by decide) (ls' := [(1, .int 0), (0, .int a0)]) rfl ?_
  refine Ev_iload_n 1 (dt_X12_bits.at 2 rfl) rfl ?_
  refine Ev_istore_n (dt_X12_bits.at 3 rfl) (by decide) (ls' := [(2, .int a0), (1, .int 0), (0, .int a0)]) rfl ?_
  refine Ev_sub [1, 0] (ls' := [(1, .int 0), (2, .int a0)]) rfl ?_
  obtain ⟨o4, ho4, h⟩ := oBind h
  refine wl_m_bits_4  σ _ _ 100000 (0, a0) o4 ho4 (fun y ey => ?_)
  subst ey
  refine Ev_iload_n 0 (dt_X12_bits.at 17 rfl) rfl ?_
  exact Ev_iret (dt_X12_bits.at 18 rfl) rfl (oRet h)
def s_m_isThree (σ : Sg) (a1 : Int32) : Option Int32 :=
  (s_m_people σ ).bind fun q1 =>
  (s_m_in (Int32.toInt64 a1) 0 (Int32.toInt64 ((1 <<< (q1 &&& 31)) - 1))).bind fun q2 =>
  if q2 = 0 then
    some 0
  else
    (s_m_bits a1).bind fun q4 =>
    if q4 = 3 then
      some 1
    else
      some 0
set_option maxRecDepth 100000 in
set_option maxHeartbeats 4000000 in
theorem w_m_isThree (σ : Sg) (a1 : Int32) (q : Int32) (h : s_m_isThree σ a1 = some q) : Cal M_X12_isThree 1 [.ref 71, .int a1] σ (some (.int q)) σ := by
  refine Cal.of (M := M_X12_isThree) (by decide +kernel) (Nat.le_of_ble_eq_true rfl) ?_
  show Ev _ _ _ _ 0 [(0, .ref 71), (1, .int a1)] [] σ
  unfold s_m_isThree at h
  refine Ev_iload_n 1 (dt_X12_isThree.at 0 rfl) rfl ?_
  refine Ev_i2l (dt_X12_isThree.at 1 rfl) ?_
  refine Ev_lconst (dt_X12_isThree.at 2 rfl) kl_0 ?_
  refine Ev_iconst (dt_X12_isThree.at 3 rfl) ki_1 ?_
  refine Ev_aload_n 0 (dt_X12_isThree.at 4 rfl) rfl ?_
  obtain ⟨q1, hq1, h⟩ := oBind h
  refine Ev_callV (st := [.int 1, .long 0, .long (Int32.toInt64 a1)]) (st' := [.int q1, .int 1, .long 0, .long (Int32.toInt64 a1)]) [] (dt_X12_isThree.at 5 rfl) cf_X12_70 (w_m_people σ  q1 hq1) (by decide) sk_71 rfl rfl rfl (Nat.le_of_ble_eq_true rfl) rfl ?_
  refine Ev_ishl (dt_X12_isThree.at 6 rfl) ?_
  refine Ev_iconst (dt_X12_isThree.at 7 rfl) ki_1 ?_
  refine Ev_isub (dt_X12_isThree.at 8 rfl) ?_
  refine Ev_i2l (dt_X12_isThree.at 9 rfl) ?_
  obtain ⟨q2, hq2, h⟩ := oBind h
  refine Ev_callS (st := []) (st' := [.int q2]) [.long (Int32.toInt64 a1), .long 0, .long (Int32.toInt64 ((1 <<< (q1 &&& 31)) - 1))] (dt_X12_isThree.at 10 rfl) cf_X12_74 (w_m_in σ (Int32.toInt64 a1) 0 (Int32.toInt64 ((1 <<< (q1 &&& 31)) - 1)) q2 hq2) (by decide) rfl rfl (Nat.le_of_ble_eq_true rfl) rfl ?_
  refine Ev_if_eq (tgt := 30) (dt_X12_isThree.at 11 rfl) (by decide) (fun c3 => ?_) (fun c3 => ?_)
  · replace h := oPos h c3
    refine Ev_iconst (dt_X12_isThree.at 18 rfl) ki_0 ?_
    exact Ev_zret (dt_X12_isThree.at 19 rfl) rfl (by decide) (oRet h)
  · replace h := oNeg h c3
    refine Ev_iload_n 1 (dt_X12_isThree.at 12 rfl) rfl ?_
    obtain ⟨q4, hq4, h⟩ := oBind h
    refine Ev_callS (st := []) (st' := [.int q4]) [.int a1] (dt_X12_isThree.at 13 rfl) cf_X12_78 (w_m_bits σ a1 q4 hq4) (by decide) rfl rfl (Nat.le_of_ble_eq_true rfl) rfl ?_
    refine Ev_iconst (dt_X12_isThree.at 14 rfl) ki_3 ?_
    refine Ev_icmp_ne (tgt := 30) (dt_X12_isThree.at 15 rfl) (by decide) (fun c5 => ?_) (fun c5 => ?_)
    · replace h := oNeg h c5
      refine Ev_iconst (dt_X12_isThree.at 18 rfl) ki_0 ?_
      exact Ev_zret (dt_X12_isThree.at 19 rfl) rfl (by decide) (oRet h)
    · replace h := oPos h c5
      refine Ev_iconst (dt_X12_isThree.at 16 rfl) ki_1 ?_
      refine Ev_goto (tgt := 31) (dt_X12_isThree.at 17 rfl) (by decide) ?_
      exact Ev_zret (dt_X12_isThree.at 19 rfl) rfl (by decide) (oRet h)
def b_m_takeThree_4 (v1 : Int32) (x : (Sg × Int32 × Int32)) : Option ((Sg × Int32 × Int32) ⊕ (Sg × Int32 × Int32)) :=
  if 9 ≤ x.2.2 then
    some (.inr (x.1, x.2.1, x.2.2))
  else
    if ((v1 >>> (x.2.2 &&& 31)) &&& 1) = 1 then
      if inB x.2.1 3 = true then
        lt (pI x.1 76 (Int32.toNatClampNeg x.2.1) x.2.2 : Sg) fun s5 =>
        if inB x.2.1 3 = true then
          lt (pI s5 77 (Int32.toNatClampNeg x.2.1) 0 : Sg) fun s7 =>
          lt (x.2.1 + 1 : Int32) fun x8 =>
          lt (x.2.2 + 1 : Int32) fun x9 =>
          some (.inl (s7, x8, x9))
        else none
      else none
    else
      lt (x.2.2 + 1 : Int32) fun x3 =>
      some (.inl (x.1, x.2.1, x3))
def s_m_takeThree (σ : Sg) (a1 : Int32) : Option Sg :=
  (lp (b_m_takeThree_4 a1) 100000 (σ, 0, 0)).bind fun o10 =>
  lt (pI o10.1 71 9 0 : Sg) fun s11 =>
  some s11
set_option maxRecDepth 100000 in
set_option maxHeartbeats 4000000 in
theorem wb_m_takeThree_4 (v1 : Int32) (x : (Sg × Int32 × Int32)) (r : Option Value) (τ : Sg) (o : ((Sg × Int32 × Int32) ⊕ (Sg × Int32 × Int32))) (h : (b_m_takeThree_4 v1 x) = some o) (hc : ∀ y : (Sg × Int32 × Int32), o = .inl y → Ev M_X12_takeThree 0 r τ 4 [(0, .ref 71), (1, .int v1), (2, .int y.2.1), (3, .int y.2.2)] [] y.1) (he : ∀ y : (Sg × Int32 × Int32), o = .inr y → Ev M_X12_takeThree 0 r τ 42 [(0, .ref 71)] [] y.1) : Ev M_X12_takeThree 0 r τ 4 [(0, .ref 71), (1, .int v1), (2, .int x.2.1), (3, .int x.2.2)] [] x.1 := by
  unfold b_m_takeThree_4 at h
  refine Ev_iload_n 3 (dt_X12_takeThree.at 4 rfl) rfl ?_
  refine Ev_bipush (dt_X12_takeThree.at 5 rfl) kb_9 ?_
  refine Ev_icmp_ge (tgt := 42) (dt_X12_takeThree.at 6 rfl) (by decide) (fun c1 => ?_) (fun c1 => ?_)
  · replace h := oPos h c1
    refine Ev_sub [0] (ls' := [(0, .ref 71)]) rfl ?_
    exact he (x.1, x.2.1, x.2.2) (Option.some.inj h).symm
  · replace h := oNeg h c1
    refine Ev_iload_n 1 (dt_X12_takeThree.at 7 rfl) rfl ?_
    refine Ev_iload_n 3 (dt_X12_takeThree.at 8 rfl) rfl ?_
    refine Ev_ishr (dt_X12_takeThree.at 9 rfl) ?_
    refine Ev_iconst (dt_X12_takeThree.at 10 rfl) ki_1 ?_
    refine Ev_iand (dt_X12_takeThree.at 11 rfl) ?_
    refine Ev_iconst (dt_X12_takeThree.at 12 rfl) ki_1 ?_
    refine Ev_icmp_ne (tgt := 36) (dt_X12_takeThree.at 13 rfl) (by decide) (fun c2 => ?_) (fun c2 => ?_)
    · replace h := oNeg h c2
      obtain ⟨x3, ex3⟩ : ∃ z : Int32, z = x.2.2 + 1 := ⟨_, rfl⟩
      replace h := oLt h ex3
      refine Ev_iinc (v := x3) 3 (dt_X12_takeThree.at 25 rfl) rfl (ex3.trans (congrArg (fun z => x.2.2 + z) ki_1.symm)) (by decide) (ls' := [(3, .int x3), (0, .ref 71), (1, .int v1), (2, .int x.2.1)]) rfl ?_
      refine Ev_goto (tgt := 4) (dt_X12_takeThree.at 26 rfl) (by decide) ?_
      refine Ev_sub [1, 2, 3, 0] (ls' := [(0, .ref 71), (1, .int v1), (2, .int x.2.1), (3, .int x3)]) rfl ?_
      exact hc (x.1, x.2.1, x3) (Option.some.inj h).symm
    · replace h := oPos h c2
      refine Ev_aload_n 0 (dt_X12_takeThree.at 14 rfl) rfl ?_
      refine Ev_get (i := 6) (v := .ref 76) (dt_X12_takeThree.at 15 rfl) ff_X12_27 sk_71 rfl rfl ?_
      refine Ev_iload_n 2 (dt_X12_takeThree.at 16 rfl) rfl ?_
      refine Ev_iload_n 3 (dt_X12_takeThree.at 17 rfl) rfl ?_
      obtain ⟨g4, h⟩ := oGuard h
      refine Ev_iastore 76 (dt_X12_takeThree.at 18 rfl) sk_76 g4 ?_
      refine Ev_nmS (fun s5 es5 => ?_)
      replace h := oLt h es5
      refine Ev_aload_n 0 (dt_X12_takeThree.at 19 rfl) rfl ?_
      refine Ev_get (i := 7) (v := .ref 77) (dt_X12_takeThree.at 20 rfl) ff_X12_30 sk_71 rfl rfl ?_
      refine Ev_iload_n 2 (dt_X12_takeThree.at 21 rfl) rfl ?_
      refine Ev_iconst (dt_X12_takeThree.at 22 rfl) ki_0 ?_
      obtain ⟨g6, h⟩ := oGuard h
      refine Ev_iastore 77 (dt_X12_takeThree.at 23 rfl) sk_77 g6 ?_
      refine Ev_nmS (fun s7 es7 => ?_)
      replace h := oLt h es7
      obtain ⟨x8, ex8⟩ : ∃ z : Int32, z = x.2.1 + 1 := ⟨_, rfl⟩
      replace h := oLt h ex8
      refine Ev_iinc (v := x8) 2 (dt_X12_takeThree.at 24 rfl) rfl (ex8.trans (congrArg (fun z => x.2.1 + z) ki_1.symm)) (by decide) (ls' := [(2, .int x8), (0, .ref 71), (1, .int v1), (3, .int x.2.2)]) rfl ?_
      obtain ⟨x9, ex9⟩ : ∃ z : Int32, z = x.2.2 + 1 := ⟨_, rfl⟩
      replace h := oLt h ex9
      refine Ev_iinc (v := x9) 3 (dt_X12_takeThree.at 25 rfl) rfl (ex9.trans (congrArg (fun z => x.2.2 + z) ki_1.symm)) (by decide) (ls' := [(3, .int x9), (2, .int x8), (0, .ref 71), (1, .int v1)]) rfl ?_
      refine Ev_goto (tgt := 4) (dt_X12_takeThree.at 26 rfl) (by decide) ?_
      refine Ev_sub [2, 3, 1, 0] (ls' := [(0, .ref 71), (1, .int v1), (2, .int x8), (3, .int x9)]) rfl ?_
      exact hc (s7, x8, x9) (Option.some.inj h).symm
set_option maxRecDepth 100000 in
set_option maxHeartbeats 4000000 in
theorem wl_m_takeThree_4 (v1 : Int32) (r : Option Value) (τ : Sg) (n : Nat) (x : (Sg × Int32 × Int32)) (z : (Sg × Int32 × Int32)) (h : lp (b_m_takeThree_4 v1) n x = some z) (he : ∀ y : (Sg × Int32 × Int32), z = y → Ev M_X12_takeThree 0 r τ 42 [(0, .ref 71)] [] y.1) : Ev M_X12_takeThree 0 r τ 4 [(0, .ref 71), (1, .int v1), (2, .int x.2.1), (3, .int x.2.2)] [] x.1 := by
  refine lp_ind (E := fun x : (Sg × Int32 × Int32) => Ev M_X12_takeThree 0 r τ 4 [(0, .ref 71), (1, .int v1), (2, .int x.2.1), (3, .int x.2.2)] [] x.1) (fun x => ⟨fun y hb hy => ?_, fun hb => ?_⟩) n x h
  · exact wb_m_takeThree_4 v1 x r τ _ hb (fun y' e => by cases e; exact hy) (fun y' e => by cases e)
  · exact wb_m_takeThree_4 v1 x r τ _ hb (fun y' e => by cases e) (fun y' e => he y' (Sum.inr.inj e))
set_option maxRecDepth 100000 in
set_option maxHeartbeats 4000000 in
theorem w_m_takeThree (σ : Sg) (a1 : Int32) (q : Sg) (h : s_m_takeThree σ a1 = some q) : Cal M_X12_takeThree 0 [.ref 71, .int a1] σ none q := by
  refine Cal.of (M := M_X12_takeThree) (by decide +kernel) (Nat.le_of_ble_eq_true rfl) ?_
  show Ev _ _ _ _ 0 [(0, .ref 71), (1, .int a1)] [] σ
  unfold s_m_takeThree at h
  refine Ev_iconst (dt_X12_takeThree.at 0 rfl) ki_0 ?_
  refine Ev_istore_n (dt_X12_takeThree.at 1 rfl) (by decide) (ls' := [(2, .int 0), (0, .ref 71), (1, .int a1)]) rfl ?_
  refine Ev_iconst (dt_X12_takeThree.at 2 rfl) ki_0 ?_
  refine Ev_istore_n (dt_X12_takeThree.at 3 rfl) (by decide) (ls' := [(3, .int 0), (2, .int 0), (0, .ref 71), (1, .int a1)]) rfl ?_
  refine Ev_sub [2, 3, 1, 0] (ls' := [(0, .ref 71), (1, .int a1), (2, .int 0), (3, .int 0)]) rfl ?_
  obtain ⟨o10, ho10, h⟩ := oBind h
  refine wl_m_takeThree_4 a1 _ _ 100000 (σ, 0, 0) o10 ho10 (fun y ey => ?_)
  subst ey
  refine Ev_aload_n 0 (dt_X12_takeThree.at 27 rfl) rfl ?_
  refine Ev_iconst (dt_X12_takeThree.at 28 rfl) ki_0 ?_
  refine Ev_putI (dt_X12_takeThree.at 29 rfl) ff_X12_116 fw_12_9 sk_71 rfl ?_
  refine Ev_nmS (fun s11 es11 => ?_)
  replace h := oLt h es11
  exact Ev_vret (dt_X12_takeThree.at 30 rfl) rfl h
def s_m_stepTo (σ : Sg) (a1 : Int32) : Option Sg :=
  (s_m_ring σ ).bind fun q1 =>
  (s_m_ring σ ).bind fun q2 =>
  if ¬ q2 = 0 then
    lt ((((a1 - (gI σ 71 9)) + q1) - ((a1 - (gI σ 71 9)) + q1) / q2 * q2) : Int32) fun x4 =>
    if x4 ≤ 0 then
      some σ
    else
      (s_m_ring σ ).bind fun q6 =>
      if q6 < (2 * x4) then
        (s_m_ring σ ).bind fun q8 =>
        (s_m_ring σ ).bind fun q9 =>
        if ¬ q9 = 0 then
          lt (pI σ 71 9 ((((gI σ 71 9) - 1) + q8) - (((gI σ 71 9) - 1) + q8) / q9 * q9) : Sg) fun s11 =>
          some s11
        else none
      else
        (s_m_ring σ ).bind fun q12 =>
        if ¬ q12 = 0 then
          lt (pI σ 71 9 (((gI σ 71 9) + 1) - ((gI σ 71 9) + 1) / q12 * q12) : Sg) fun s14 =>
          some s14
        else none
  else none
set_option maxRecDepth 100000 in
set_option maxHeartbeats 4000000 in
theorem w_m_stepTo (σ : Sg) (a1 : Int32) (q : Sg) (h : s_m_stepTo σ a1 = some q) : Cal M_X12_stepTo 1 [.ref 71, .int a1] σ none q := by
  refine Cal.of (M := M_X12_stepTo) (by decide +kernel) (Nat.le_of_ble_eq_true rfl) ?_
  show Ev _ _ _ _ 0 [(0, .ref 71), (1, .int a1)] [] σ
  unfold s_m_stepTo at h
  refine Ev_iload_n 1 (dt_X12_stepTo.at 0 rfl) rfl ?_
  refine Ev_aload_n 0 (dt_X12_stepTo.at 1 rfl) rfl ?_
  refine Ev_get (i := 9) (v := .int (gI σ 71 9)) (dt_X12_stepTo.at 2 rfl) ff_X12_116 sk_71 rfl rfl ?_
  refine Ev_isub (dt_X12_stepTo.at 3 rfl) ?_
  refine Ev_aload_n 0 (dt_X12_stepTo.at 4 rfl) rfl ?_
  obtain ⟨q1, hq1, h⟩ := oBind h
  refine Ev_callV (st := [.int (a1 - (gI σ 71 9))]) (st' := [.int q1, .int (a1 - (gI σ 71 9))]) [] (dt_X12_stepTo.at 5 rfl) cf_X12_91 (w_m_ring σ  q1 hq1) (by decide) sk_71 rfl rfl rfl (Nat.le_of_ble_eq_true rfl) rfl ?_
  refine Ev_iadd (dt_X12_stepTo.at 6 rfl) ?_
  refine Ev_aload_n 0 (dt_X12_stepTo.at 7 rfl) rfl ?_
  obtain ⟨q2, hq2, h⟩ := oBind h
  refine Ev_callV (st := [.int ((a1 - (gI σ 71 9)) + q1)]) (st' := [.int q2, .int ((a1 - (gI σ 71 9)) + q1)]) [] (dt_X12_stepTo.at 8 rfl) cf_X12_91 (w_m_ring σ  q2 hq2) (by decide) sk_71 rfl rfl rfl (Nat.le_of_ble_eq_true rfl) rfl ?_
  obtain ⟨g3, h⟩ := oGuard h
  refine Ev_irem (dt_X12_stepTo.at 9 rfl) g3 ?_
  refine Ev_nmI (fun x4 ex4 => ?_)
  replace h := oLt h ex4
  refine Ev_istore_n (dt_X12_stepTo.at 10 rfl) (by decide) (ls' := [(2, .int x4), (0, .ref 71), (1, .int a1)]) rfl ?_
  refine Ev_iload_n 0 (dt_X12_stepTo.at 11 rfl) rfl ?_
  refine Ev_if_le (tgt := 65) (dt_X12_stepTo.at 12 rfl) (by decide) (fun c5 => ?_) (fun c5 => ?_)
  · replace h := oPos h c5
    exact Ev_vret (dt_X12_stepTo.at 39 rfl) rfl h
  · replace h := oNeg h c5
    refine Ev_aload_n 1 (dt_X12_stepTo.at 13 rfl) rfl ?_
    refine Ev_iconst (dt_X12_stepTo.at 14 rfl) ki_2 ?_
    refine Ev_iload_n 0 (dt_X12_stepTo.at 15 rfl) rfl ?_
    refine Ev_imul (dt_X12_stepTo.at 16 rfl) ?_
    refine Ev_aload_n 1 (dt_X12_stepTo.at 17 rfl) rfl ?_
    obtain ⟨q6, hq6, h⟩ := oBind h
    refine Ev_callV (st := [.int (2 * x4), .ref 71]) (st' := [.int q6, .int (2 * x4), .ref 71]) [] (dt_X12_stepTo.at 18 rfl) cf_X12_91 (w_m_ring σ  q6 hq6) (by decide) sk_71 rfl rfl rfl (Nat.le_of_ble_eq_true rfl) rfl ?_
    refine Ev_icmp_gt (tgt := 46) (dt_X12_stepTo.at 19 rfl) (by decide) (fun c7 => ?_) (fun c7 => ?_)
    · replace h := oPos h c7
      refine Ev_aload_n 1 (dt_X12_stepTo.at 28 rfl) rfl ?_
      refine Ev_get (i := 9) (v := .int (gI σ 71 9)) (dt_X12_stepTo.at 29 rfl) ff_X12_116 sk_71 rfl rfl ?_
      refine Ev_iconst (dt_X12_stepTo.at 30 rfl) ki_1 ?_
      refine Ev_isub (dt_X12_stepTo.at 31 rfl) ?_
      refine Ev_aload_n 1 (dt_X12_stepTo.at 32 rfl) rfl ?_
      obtain ⟨q8, hq8, h⟩ := oBind h
      refine Ev_callV (st := [.int ((gI σ 71 9) - 1), .ref 71]) (st' := [.int q8, .int ((gI σ 71 9) - 1), .ref 71]) [] (dt_X12_stepTo.at 33 rfl) cf_X12_91 (w_m_ring σ  q8 hq8) (by decide) sk_71 rfl rfl rfl (Nat.le_of_ble_eq_true rfl) rfl ?_
      refine Ev_iadd (dt_X12_stepTo.at 34 rfl) ?_
      refine Ev_aload_n 1 (dt_X12_stepTo.at 35 rfl) rfl ?_
      obtain ⟨q9, hq9, h⟩ := oBind h
      refine Ev_callV (st := [.int (((gI σ 71 9) - 1) + q8), .ref 71]) (st' := [.int q9, .int (((gI σ 71 9) - 1) + q8), .ref 71]) [] (dt_X12_stepTo.at 36 rfl) cf_X12_91 (w_m_ring σ  q9 hq9) (by decide) sk_71 rfl rfl rfl (Nat.le_of_ble_eq_true rfl) rfl ?_
      obtain ⟨g10, h⟩ := oGuard h
      refine Ev_irem (dt_X12_stepTo.at 37 rfl) g10 ?_
      refine Ev_putI (dt_X12_stepTo.at 38 rfl) ff_X12_116 fw_12_9 sk_71 rfl ?_
      refine Ev_nmS (fun s11 es11 => ?_)
      replace h := oLt h es11
      exact Ev_vret (dt_X12_stepTo.at 39 rfl) rfl h
    · replace h := oNeg h c7
      refine Ev_aload_n 1 (dt_X12_stepTo.at 20 rfl) rfl ?_
      refine Ev_get (i := 9) (v := .int (gI σ 71 9)) (dt_X12_stepTo.at 21 rfl) ff_X12_116 sk_71 rfl rfl ?_
      refine Ev_iconst (dt_X12_stepTo.at 22 rfl) ki_1 ?_
      refine Ev_iadd (dt_X12_stepTo.at 23 rfl) ?_
      refine Ev_aload_n 1 (dt_X12_stepTo.at 24 rfl) rfl ?_
      obtain ⟨q12, hq12, h⟩ := oBind h
      refine Ev_callV (st := [.int ((gI σ 71 9) + 1), .ref 71]) (st' := [.int q12, .int ((gI σ 71 9) + 1), .ref 71]) [] (dt_X12_stepTo.at 25 rfl) cf_X12_91 (w_m_ring σ  q12 hq12) (by decide) sk_71 rfl rfl rfl (Nat.le_of_ble_eq_true rfl) rfl ?_
      obtain ⟨g13, h⟩ := oGuard h
      refine Ev_irem (dt_X12_stepTo.at 26 rfl) g13 ?_
      refine Ev_goto (tgt := 62) (dt_X12_stepTo.at 27 rfl) (by decide) ?_
      refine Ev_putI (dt_X12_stepTo.at 38 rfl) ff_X12_116 fw_12_9 sk_71 rfl ?_
      refine Ev_nmS (fun s14 es14 => ?_)
      replace h := oLt h es14
      exact Ev_vret (dt_X12_stepTo.at 39 rfl) rfl h
def s_m_isFast (σ : Sg)  : Option Int32 :=
  (s_m_of σ (gI σ 76 (Int32.toNatClampNeg 0)) 1).bind fun q1 =>
  if q1 < 5 then
    some 0
  else
    (s_m_of σ (gI σ 76 (Int32.toNatClampNeg 1)) 1).bind fun q3 =>
    if q3 < 5 then
      some 0
    else
      (s_m_of σ (gI σ 76 (Int32.toNatClampNeg 2)) 1).bind fun q5 =>
      if q5 < 5 then
        some 0
      else
        some 1
set_option maxRecDepth 100000 in
set_option maxHeartbeats 4000000 in
theorem w_m_isFast (σ : Sg)  (q : Int32) (h : s_m_isFast σ  = some q) : Cal M_X12_isFast 1 [.ref 71] σ (some (.int q)) σ := by
  refine Cal.of (M := M_X12_isFast) (by decide +kernel) (Nat.le_of_ble_eq_true rfl) ?_
  show Ev _ _ _ _ 0 [(0, .ref 71)] [] σ
  unfold s_m_isFast at h
  refine Ev_aload_n 0 (dt_X12_isFast.at 0 rfl) rfl ?_
  refine Ev_aload_n 0 (dt_X12_isFast.at 1 rfl) rfl ?_
  refine Ev_get (i := 6) (v := .ref 76) (dt_X12_isFast.at 2 rfl) ff_X12_27 sk_71 rfl rfl ?_
  refine Ev_iconst (dt_X12_isFast.at 3 rfl) ki_0 ?_
  refine Ev_iaload 76 (dt_X12_isFast.at 4 rfl) sk_76 ib_0_3 ?_
  refine Ev_iconst (dt_X12_isFast.at 5 rfl) ki_1 ?_
  obtain ⟨q1, hq1, h⟩ := oBind h
  refine Ev_callV (st := []) (st' := [.int q1]) [.int (gI σ 76 (Int32.toNatClampNeg 0)), .int 1] (dt_X12_isFast.at 6 rfl) cf_X12_82 (w_m_of σ (gI σ 76 (Int32.toNatClampNeg 0)) 1 q1 hq1) (by decide) sk_71 rfl rfl rfl (Nat.le_of_ble_eq_true rfl) rfl ?_
  refine Ev_iconst (dt_X12_isFast.at 7 rfl) ki_5 ?_
  refine Ev_icmp_lt (tgt := 49) (dt_X12_isFast.at 8 rfl) (by decide) (fun c2 => ?_) (fun c2 => ?_)
  · replace h := oPos h c2
    refine Ev_iconst (dt_X12_isFast.at 29 rfl) ki_0 ?_
    exact Ev_zret (dt_X12_isFast.at 30 rfl) rfl (by decide) (oRet h)
  · replace h := oNeg h c2
    refine Ev_aload_n 0 (dt_X12_isFast.at 9 rfl) rfl ?_
    refine Ev_aload_n 0 (dt_X12_isFast.at 10 rfl) rfl ?_
    refine Ev_get (i := 6) (v := .ref 76) (dt_X12_isFast.at 11 rfl) ff_X12_27 sk_71 rfl rfl ?_
    refine Ev_iconst (dt_X12_isFast.at 12 rfl) ki_1 ?_
    refine Ev_iaload 76 (dt_X12_isFast.at 13 rfl) sk_76 ib_1_3 ?_
    refine Ev_iconst (dt_X12_isFast.at 14 rfl) ki_1 ?_
    obtain ⟨q3, hq3, h⟩ := oBind h
    refine Ev_callV (st := []) (st' := [.int q3]) [.int (gI σ 76 (Int32.toNatClampNeg 1)), .int 1] (dt_X12_isFast.at 15 rfl) cf_X12_82 (w_m_of σ (gI σ 76 (Int32.toNatClampNeg 1)) 1 q3 hq3) (by decide) sk_71 rfl rfl rfl (Nat.le_of_ble_eq_true rfl) rfl ?_
    refine Ev_iconst (dt_X12_isFast.at 16 rfl) ki_5 ?_
    refine Ev_icmp_lt (tgt := 49) (dt_X12_isFast.at 17 rfl) (by decide) (fun c4 => ?_) (fun c4 => ?_)
    · replace h := oPos h c4
      refine Ev_iconst (dt_X12_isFast.at 29 rfl) ki_0 ?_
      exact Ev_zret (dt_X12_isFast.at 30 rfl) rfl (by decide) (oRet h)
    · replace h := oNeg h c4
      refine Ev_aload_n 0 (dt_X12_isFast.at 18 rfl) rfl ?_
      refine Ev_aload_n 0 (dt_X12_isFast.at 19 rfl) rfl ?_
      refine Ev_get (i := 6) (v := .ref 76) (dt_X12_isFast.at 20 rfl) ff_X12_27 sk_71 rfl rfl ?_
      refine Ev_iconst (dt_X12_isFast.at 21 rfl) ki_2 ?_
      refine Ev_iaload 76 (dt_X12_isFast.at 22 rfl) sk_76 ib_2_3 ?_
      refine Ev_iconst (dt_X12_isFast.at 23 rfl) ki_1 ?_
      obtain ⟨q5, hq5, h⟩ := oBind h
      refine Ev_callV (st := []) (st' := [.int q5]) [.int (gI σ 76 (Int32.toNatClampNeg 2)), .int 1] (dt_X12_isFast.at 24 rfl) cf_X12_82 (w_m_of σ (gI σ 76 (Int32.toNatClampNeg 2)) 1 q5 hq5) (by decide) sk_71 rfl rfl rfl (Nat.le_of_ble_eq_true rfl) rfl ?_
      refine Ev_iconst (dt_X12_isFast.at 25 rfl) ki_5 ?_
      refine Ev_icmp_lt (tgt := 49) (dt_X12_isFast.at 26 rfl) (by decide) (fun c6 => ?_) (fun c6 => ?_)
      · replace h := oPos h c6
        refine Ev_iconst (dt_X12_isFast.at 29 rfl) ki_0 ?_
        exact Ev_zret (dt_X12_isFast.at 30 rfl) rfl (by decide) (oRet h)
      · replace h := oNeg h c6
        refine Ev_iconst (dt_X12_isFast.at 27 rfl) ki_1 ?_
        refine Ev_goto (tgt := 50) (dt_X12_isFast.at 28 rfl) (by decide) ?_
        exact Ev_zret (dt_X12_isFast.at 30 rfl) rfl (by decide) (oRet h)
def s_m_hourOf (σ : Sg) (a1 : Int32) (a2 : Int32) : Option Int32 :=
  (s_m_of σ a1 ((3 + (2 * a2)) + 1)).bind fun q1 =>
  some q1
set_option maxRecDepth 100000 in
set_option maxHeartbeats 4000000 in
theorem w_m_hourOf (σ : Sg) (a1 : Int32) (a2 : Int32) (q : Int32) (h : s_m_hourOf σ a1 a2 = some q) : Cal M_X12_hourOf 1 [.ref 71, .int a1, .int a2] σ (some (.int q)) σ := by
  refine Cal.of (M := M_X12_hourOf) (by decide +kernel) (Nat.le_of_ble_eq_true rfl) ?_
  show Ev _ _ _ _ 0 [(0, .ref 71), (1, .int a1), (2, .int a2)] [] σ
  unfold s_m_hourOf at h
  refine Ev_aload_n 0 (dt_X12_hourOf.at 0 rfl) rfl ?_
  refine Ev_iload_n 1 (dt_X12_hourOf.at 1 rfl) rfl ?_
  refine Ev_iconst (dt_X12_hourOf.at 2 rfl) ki_3 ?_
  refine Ev_iconst (dt_X12_hourOf.at 3 rfl) ki_2 ?_
  refine Ev_iload_n 2 (dt_X12_hourOf.at 4 rfl) rfl ?_
  refine Ev_imul (dt_X12_hourOf.at 5 rfl) ?_
  refine Ev_iadd (dt_X12_hourOf.at 6 rfl) ?_
  refine Ev_iconst (dt_X12_hourOf.at 7 rfl) ki_1 ?_
  refine Ev_iadd (dt_X12_hourOf.at 8 rfl) ?_
  obtain ⟨q1, hq1, h⟩ := oBind h
  refine Ev_callV (st := []) (st' := [.int q1]) [.int a1, .int ((3 + (2 * a2)) + 1)] (dt_X12_hourOf.at 9 rfl) cf_X12_82 (w_m_of σ a1 ((3 + (2 * a2)) + 1) q1 hq1) (by decide) sk_71 rfl rfl rfl (Nat.le_of_ble_eq_true rfl) rfl ?_
  exact Ev_iret (dt_X12_hourOf.at 10 rfl) rfl (oRet h)
def s_m_isOpen (σ : Sg) (a1 : Int32) (a2 : Int32) (a3 : Int32) : Option Int32 :=
  if inB a1 3 = true then
    if (((gI σ 77 (Int32.toNatClampNeg a1)) >>> (a2 &&& 31)) &&& 1) = 0 then
      if inB a1 3 = true then
        (s_m_hourOf σ (gI σ 76 (Int32.toNatClampNeg a1)) a2).bind fun q4 =>
        if q4 < a3 then
          some 0
        else
          some 1
      else none
    else
      some 0
  else none
set_option maxRecDepth 100000 in
set_option maxHeartbeats 4000000 in
theorem w_m_isOpen (σ : Sg) (a1 : Int32) (a2 : Int32) (a3 : Int32) (q : Int32) (h : s_m_isOpen σ a1 a2 a3 = some q) : Cal M_X12_isOpen 2 [.ref 71, .int a1, .int a2, .int a3] σ (some (.int q)) σ := by
  refine Cal.of (M := M_X12_isOpen) (by decide +kernel) (Nat.le_of_ble_eq_true rfl) ?_
  show Ev _ _ _ _ 0 [(0, .ref 71), (1, .int a1), (2, .int a2), (3, .int a3)] [] σ
  unfold s_m_isOpen at h
  refine Ev_aload_n 0 (dt_X12_isOpen.at 0 rfl) rfl ?_
  refine Ev_get (i := 7) (v := .ref 77) (dt_X12_isOpen.at 1 rfl) ff_X12_30 sk_71 rfl rfl ?_
  refine Ev_iload_n 1 (dt_X12_isOpen.at 2 rfl) rfl ?_
  obtain ⟨g1, h⟩ := oGuard h
  refine Ev_iaload 77 (dt_X12_isOpen.at 3 rfl) sk_77 g1 ?_
  refine Ev_iload_n 2 (dt_X12_isOpen.at 4 rfl) rfl ?_
  refine Ev_ishr (dt_X12_isOpen.at 5 rfl) ?_
  refine Ev_iconst (dt_X12_isOpen.at 6 rfl) ki_1 ?_
  refine Ev_iand (dt_X12_isOpen.at 7 rfl) ?_
  refine Ev_if_ne (tgt := 32) (dt_X12_isOpen.at 8 rfl) (by decide) (fun c2 => ?_) (fun c2 => ?_)
  · replace h := oNeg h c2
    refine Ev_iconst (dt_X12_isOpen.at 20 rfl) ki_0 ?_
    exact Ev_zret (dt_X12_isOpen.at 21 rfl) rfl (by decide) (oRet h)
  · replace h := oPos h c2
    refine Ev_aload_n 0 (dt_X12_isOpen.at 9 rfl) rfl ?_
    refine Ev_aload_n 0 (dt_X12_isOpen.at 10 rfl) rfl ?_
    refine Ev_get (i := 6) (v := .ref 76) (dt_X12_isOpen.at 11 rfl) ff_X12_27 sk_71 rfl rfl ?_
    refine Ev_iload_n 1 (dt_X12_isOpen.at 12 rfl) rfl ?_
    obtain ⟨g3, h⟩ := oGuard h
    refine Ev_iaload 76 (dt_X12_isOpen.at 13 rfl) sk_76 g3 ?_
    refine Ev_iload_n 2 (dt_X12_isOpen.at 14 rfl) rfl ?_
    obtain ⟨q4, hq4, h⟩ := oBind h
    refine Ev_callV (st := []) (st' := [.int q4]) [.int (gI σ 76 (Int32.toNatClampNeg a1)), .int a2] (dt_X12_isOpen.at 15 rfl) cf_X12_120 (w_m_hourOf σ (gI σ 76 (Int32.toNatClampNeg a1)) a2 q4 hq4) (by decide) sk_71 rfl rfl rfl (Nat.le_of_ble_eq_true rfl) rfl ?_
    refine Ev_iload_n 3 (dt_X12_isOpen.at 16 rfl) rfl ?_
    refine Ev_icmp_lt (tgt := 32) (dt_X12_isOpen.at 17 rfl) (by decide) (fun c5 => ?_) (fun c5 => ?_)
    · replace h := oPos h c5
      refine Ev_iconst (dt_X12_isOpen.at 20 rfl) ki_0 ?_
      exact Ev_zret (dt_X12_isOpen.at 21 rfl) rfl (by decide) (oRet h)
    · replace h := oNeg h c5
      refine Ev_iconst (dt_X12_isOpen.at 18 rfl) ki_1 ?_
      refine Ev_goto (tgt := 33) (dt_X12_isOpen.at 19 rfl) (by decide) ?_
      exact Ev_zret (dt_X12_isOpen.at 21 rfl) rfl (by decide) (oRet h)
def s_m_placeOf (σ : Sg) (a1 : Int32) (a2 : Int32) : Option Int32 :=
  (s_m_of σ a1 (3 + (2 * a2))).bind fun q1 =>
  some q1
set_option maxRecDepth 100000 in
set_option maxHeartbeats 4000000 in
theorem w_m_placeOf (σ : Sg) (a1 : Int32) (a2 : Int32) (q : Int32) (h : s_m_placeOf σ a1 a2 = some q) : Cal M_X12_placeOf 1 [.ref 71, .int a1, .int a2] σ (some (.int q)) σ := by
  refine Cal.of (M := M_X12_placeOf) (by decide +kernel) (Nat.le_of_ble_eq_true rfl) ?_
  show Ev _ _ _ _ 0 [(0, .ref 71), (1, .int a1), (2, .int a2)] [] σ
  unfold s_m_placeOf at h
  refine Ev_aload_n 0 (dt_X12_placeOf.at 0 rfl) rfl ?_
  refine Ev_iload_n 1 (dt_X12_placeOf.at 1 rfl) rfl ?_
  refine Ev_iconst (dt_X12_placeOf.at 2 rfl) ki_3 ?_
  refine Ev_iconst (dt_X12_placeOf.at 3 rfl) ki_2 ?_
  refine Ev_iload_n 2 (dt_X12_placeOf.at 4 rfl) rfl ?_
  refine Ev_imul (dt_X12_placeOf.at 5 rfl) ?_
  refine Ev_iadd (dt_X12_placeOf.at 6 rfl) ?_
  obtain ⟨q1, hq1, h⟩ := oBind h
  refine Ev_callV (st := []) (st' := [.int q1]) [.int a1, .int (3 + (2 * a2))] (dt_X12_placeOf.at 7 rfl) cf_X12_82 (w_m_of σ a1 (3 + (2 * a2)) q1 hq1) (by decide) sk_71 rfl rfl rfl (Nat.le_of_ble_eq_true rfl) rfl ?_
  exact Ev_iret (dt_X12_placeOf.at 8 rfl) rfl (oRet h)
def b_m_doAll_12 (v1 : Int32) (v3 : Int32) (x : (Sg × Int32 × Int32)) : Option ((Sg × Int32 × Int32) ⊕ (Sg × Int32 × Int32)) :=
  if inB v3 3 = true then
    (s_m_of x.1 (gI x.1 76 (Int32.toNatClampNeg v3)) 2).bind fun q3 =>
    if q3 ≤ x.2.2 then
      some (.inr (x.1, x.2.1, x.2.2))
    else
      (s_m_isOpen x.1 v3 x.2.2 v1).bind fun q5 =>
      if q5 = 0 then
        lt (x.2.2 + 1 : Int32) fun x7 =>
        some (.inl (x.1, x.2.1, x7))
      else
        if inB v3 3 = true then
          (s_m_placeOf x.1 (gI x.1 76 (Int32.toNatClampNeg v3)) x.2.2).bind fun q9 =>
          if q9 = (gI x.1 71 9) then
            if inB v3 3 = true then
              if inB v3 3 = true then
                lt (pI x.1 77 (Int32.toNatClampNeg v3) ((gI x.1 77 (Int32.toNatClampNeg v3)) ||| (1 <<< (x.2.2 &&& 31))) : Sg) fun s14 =>
                lt (x.2.1 + 1 : Int32) fun x15 =>
                lt (x.2.2 + 1 : Int32) fun x16 =>
                some (.inl (s14, x15, x16))
              else none
            else none
          else
            lt (x.2.2 + 1 : Int32) fun x11 =>
            some (.inl (x.1, x.2.1, x11))
        else none
  else none
def b_m_doAll_4 (v1 : Int32) (x : (Sg × Int32 × Int32)) : Option ((Sg × Int32 × Int32) ⊕ (Sg × Int32 × Int32)) :=
  if 3 ≤ x.2.2 then
    some (.inr (x.1, x.2.1, x.2.2))
  else
    (lp (b_m_doAll_12 v1 x.2.2) 100000 (x.1, x.2.1, 0)).bind fun o17 =>
    lt (x.2.2 + 1 : Int32) fun x18 =>
    some (.inl (o17.1, o17.2.1, x18))
def s_m_doAll (σ : Sg) (a1 : Int32) : Option (Int32 × Sg) :=
  (lp (b_m_doAll_4 a1) 100000 (σ, 0, 0)).bind fun o19 =>
  some (o19.2.1, o19.1)
set_option maxRecDepth 100000 in
set_option maxHeartbeats 4000000 in
theorem wb_m_doAll_12 (v1 : Int32) (v3 : Int32) (x : (Sg × Int32 × Int32)) (r : Option Value) (τ : Sg) (o : ((Sg × Int32 × Int32) ⊕ (Sg × Int32 × Int32))) (h : (b_m_doAll_12 v1 v3 x) = some o) (hc : ∀ y : (Sg × Int32 × Int32), o = .inl y → Ev M_X12_doAll 3 r τ 12 [(0, .ref 71), (1, .int v1), (2, .int y.2.1), (3, .int v3), (4, .int y.2.2)] [] y.1) (he : ∀ y : (Sg × Int32 × Int32), o = .inr y → Ev M_X12_doAll 3 r τ 80 [(0, .ref 71), (1, .int v1), (2, .int y.2.1), (3, .int v3)] [] y.1) : Ev M_X12_doAll 3 r τ 12 [(0, .ref 71), (1, .int v1), (2, .int x.2.1), (3, .int v3), (4, .int x.2.2)] [] x.1 := by
  unfold b_m_doAll_12 at h
  refine Ev_iload 4 (dt_X12_doAll.at 9 rfl) rfl ?_
  refine Ev_aload_n 0 (dt_X12_doAll.at 10 rfl) rfl ?_
  refine Ev_aload_n 0 (dt_X12_doAll.at 11 rfl) rfl ?_
  refine Ev_get (i := 6) (v := .ref 76) (dt_X12_doAll.at 12 rfl) ff_X12_27 sk_71 rfl rfl ?_
  refine Ev_iload_n 3 (dt_X12_doAll.at 13 rfl) rfl ?_
  obtain ⟨g2, h⟩ := oGuard h
  refine Ev_iaload 76 (dt_X12_doAll.at 14 rfl) sk_76 g2 ?_
  refine Ev_iconst (dt_X12_doAll.at 15 rfl) ki_2 ?_
  obtain ⟨q3, hq3, h⟩ := oBind h
  refine Ev_callV (st := [.int x.2.2]) (st' := [.int q3, .int x.2.2]) [.int (gI x.1 76 (Int32.toNatClampNeg v3)), .int 2] (dt_X12_doAll.at 16 rfl) cf_X12_82 (w_m_of x.1 (gI x.1 76 (Int32.toNatClampNeg v3)) 2 q3 hq3) (by decide) sk_71 rfl rfl rfl (Nat.le_of_ble_eq_true rfl) rfl ?_
  refine Ev_icmp_ge (tgt := 80) (dt_X12_doAll.at 17 rfl) (by decide) (fun c4 => ?_) (fun c4 => ?_)
  · replace h := oPos h c4
    refine Ev_sub [0, 1, 2, 3] (ls' := [(0, .ref 71), (1, .int v1), (2, .int x.2.1), (3, .int v3)]) rfl ?_
    exact he (x.1, x.2.1, x.2.2) (Option.some.inj h).symm
  · replace h := oNeg h c4
    refine Ev_aload_n 0 (dt_X12_doAll.at 18 rfl) rfl ?_
    refine Ev_iload_n 3 (dt_X12_doAll.at 19 rfl) rfl ?_
    refine Ev_iload 4 (dt_X12_doAll.at 20 rfl) rfl ?_
    refine Ev_iload_n 1 (dt_X12_doAll.at 21 rfl) rfl ?_
    obtain ⟨q5, hq5, h⟩ := oBind h
    refine Ev_callV (st := []) (st' := [.int q5]) [.int v3, .int x.2.2, .int v1] (dt_X12_doAll.at 22 rfl) cf_X12_123 (w_m_isOpen x.1 v3 x.2.2 v1 q5 hq5) (by decide) sk_71 rfl rfl rfl (Nat.le_of_ble_eq_true rfl) rfl ?_
    refine Ev_if_eq (tgt := 74) (dt_X12_doAll.at 23 rfl) (by decide) (fun c6 => ?_) (fun c6 => ?_)
    · replace h := oPos h c6
      obtain ⟨x7, ex7⟩ : ∃ z : Int32, z = x.2.2 + 1 := ⟨_, rfl⟩
      replace h := oLt h ex7
      refine Ev_iinc (v := x7) 4 (dt_X12_doAll.at 45 rfl) rfl (ex7.trans (congrArg (fun z => x.2.2 + z) ki_1.symm)) (by decide) (ls' := [(4, .int x7), (0, .ref 71), (1, .int v1), (2, .int x.2.1), (3, .int v3)]) rfl ?_
      refine Ev_goto (tgt := 12) (dt_X12_doAll.at 46 rfl) (by decide) ?_
      refine Ev_sub [1, 2, 3, 4, 0] (ls' := [(0, .ref 71), (1, .int v1), (2, .int x.2.1), (3, .int v3), (4, .int x7)]) rfl ?_
      exact hc (x.1, x.2.1, x7) (Option.some.inj h).symm
    · replace h := oNeg h c6
      refine Ev_aload_n 0 (dt_X12_doAll.at 24 rfl) rfl ?_
      refine Ev_aload_n 0 (dt_X12_doAll.at 25 rfl) rfl ?_
      refine Ev_get (i := 6) (v := .ref 76) (dt_X12_doAll.at 26 rfl) ff_X12_27 sk_71 rfl rfl ?_
      refine Ev_iload_n 3 (dt_X12_doAll.at 27 rfl) rfl ?_
      obtain ⟨g8, h⟩ := oGuard h
      refine Ev_iaload 76 (dt_X12_doAll.at 28 rfl) sk_76 g8 ?_
      refine Ev_iload 4 (dt_X12_doAll.at 29 rfl) rfl ?_
      obtain ⟨q9, hq9, h⟩ := oBind h
      refine Ev_callV (st := []) (st' := [.int q9]) [.int (gI x.1 76 (Int32.toNatClampNeg v3)), .int x.2.2] (dt_X12_doAll.at 30 rfl) cf_X12_130 (w_m_placeOf x.1 (gI x.1 76 (Int32.toNatClampNeg v3)) x.2.2 q9 hq9) (by decide) sk_71 rfl rfl rfl (Nat.le_of_ble_eq_true rfl) rfl ?_
      refine Ev_aload_n 0 (dt_X12_doAll.at 31 rfl) rfl ?_
      refine Ev_get (i := 9) (v := .int (gI x.1 71 9)) (dt_X12_doAll.at 32 rfl) ff_X12_116 sk_71 rfl rfl ?_
      refine Ev_icmp_ne (tgt := 74) (dt_X12_doAll.at 33 rfl) (by decide) (fun c10 => ?_) (fun c10 => ?_)
      · replace h := oNeg h c10
        obtain ⟨x11, ex11⟩ : ∃ z : Int32, z = x.2.2 + 1 := ⟨_, rfl⟩
        replace h := oLt h ex11
        refine Ev_iinc (v := x11) 4 (dt_X12_doAll.at 45 rfl) rfl (ex11.trans (congrArg (fun z => x.2.2 + z) ki_1.symm)) (by decide) (ls' := [(4, .int x11), (0, .ref 71), (1, .int v1), (2, .int x.2.1), (3, .int v3)]) rfl ?_
        refine Ev_goto (tgt := 12) (dt_X12_doAll.at 46 rfl) (by decide) ?_
        refine Ev_sub [1, 2, 3, 4, 0] (ls' := [(0, .ref 71), (1, .int v1), (2, .int x.2.1), (3, .int v3), (4, .int x11)]) rfl ?_
        exact hc (x.1, x.2.1, x11) (Option.some.inj h).symm
      · replace h := oPos h c10
        refine Ev_aload_n 0 (dt_X12_doAll.at 34 rfl) rfl ?_
        refine Ev_get (i := 7) (v := .ref 77) (dt_X12_doAll.at 35 rfl) ff_X12_30 sk_71 rfl rfl ?_
        refine Ev_iload_n 3 (dt_X12_doAll.at 36 rfl) rfl ?_
        refine Ev_dup2 (dt_X12_doAll.at 37 rfl) rfl rfl ?_
        obtain ⟨g12, h⟩ := oGuard h
        refine Ev_iaload 77 (dt_X12_doAll.at 38 rfl) sk_77 g12 ?_
        refine Ev_iconst (dt_X12_doAll.at 39 rfl) ki_1 ?_
        refine Ev_iload 4 (dt_X12_doAll.at 40 rfl) rfl ?_
        refine Ev_ishl (dt_X12_doAll.at 41 rfl) ?_
        refine Ev_ior (dt_X12_doAll.at 42 rfl) ?_
        obtain ⟨g13, h⟩ := oGuard h
        refine Ev_iastore 77 (dt_X12_doAll.at 43 rfl) sk_77 g13 ?_
        refine Ev_nmS (fun s14 es14 => ?_)
        replace h := oLt h es14
        obtain ⟨x15, ex15⟩ : ∃ z : Int32, z = x.2.1 + 1 := ⟨_, rfl⟩
        replace h := oLt h ex15
        refine Ev_iinc (v := x15) 2 (dt_X12_doAll.at 44 rfl) rfl (ex15.trans (congrArg (fun z => x.2.1 + z) ki_1.symm)) (by decide) (ls' := [(2, .int x15), (0, .ref 71), (1, .int v1), (3, .int v3), (4, .int x.2.2)]) rfl ?_
        obtain ⟨x16, ex16⟩ : ∃ z : Int32, z = x.2.2 + 1 := ⟨_, rfl⟩
        replace h := oLt h ex16
        refine Ev_iinc (v := x16) 4 (dt_X12_doAll.at 45 rfl) rfl (ex16.trans (congrArg (fun z => x.2.2 + z) ki_1.symm)) (by decide) (ls' := [(4, .int x16), (2, .int x15), (0, .ref 71), (1, .int v1), (3, .int v3)]) rfl ?_
        refine Ev_goto (tgt := 12) (dt_X12_doAll.at 46 rfl) (by decide) ?_
        refine Ev_sub [2, 3, 1, 4, 0] (ls' := [(0, .ref 71), (1, .int v1), (2, .int x15), (3, .int v3), (4, .int x16)]) rfl ?_
        exact hc (s14, x15, x16) (Option.some.inj h).symm
set_option maxRecDepth 100000 in
set_option maxHeartbeats 4000000 in
theorem wl_m_doAll_12 (v1 : Int32) (v3 : Int32) (r : Option Value) (τ : Sg) (n : Nat) (x : (Sg × Int32 × Int32)) (z : (Sg × Int32 × Int32)) (h : lp (b_m_doAll_12 v1 v3) n x = some z) (he : ∀ y : (Sg × Int32 × Int32), z = y → Ev M_X12_doAll 3 r τ 80 [(0, .ref 71), (1, .int v1), (2, .int y.2.1), (3, .int v3)] [] y.1) : Ev M_X12_doAll 3 r τ 12 [(0, .ref 71), (1, .int v1), (2, .int x.2.1), (3, .int v3), (4, .int x.2.2)] [] x.1 := by
  refine lp_ind (E := fun x : (Sg × Int32 × Int32) => Ev M_X12_doAll 3 r τ 12 [(0, .ref 71), (1, .int v1), (2, .int x.2.1), (3, .int v3), (4, .int x.2.2)] [] x.1) (fun x => ⟨fun y hb hy => ?_, fun hb => ?_⟩) n x h
  · exact wb_m_doAll_12 v1 v3 x r τ _ hb (fun y' e => by cases e; exact hy) (fun y' e => by cases e)
  · exact wb_m_doAll_12 v1 v3 x r τ _ hb (fun y' e => by cases e) (fun y' e => he y' (Sum.inr.inj e))
set_option maxRecDepth 100000 in
set_option maxHeartbeats 4000000 in
theorem wb_m_doAll_4 (v1 : Int32) (x : (Sg × Int32 × Int32)) (r : Option Value) (τ : Sg) (o : ((Sg × Int32 × Int32) ⊕ (Sg × Int32 × Int32))) (h : (b_m_doAll_4 v1 x) = some o) (hc : ∀ y : (Sg × Int32 × Int32), o = .inl y → Ev M_X12_doAll 3 r τ 4 [(0, .ref 71), (1, .int v1), (2, .int y.2.1), (3, .int y.2.2)] [] y.1) (he : ∀ y : (Sg × Int32 × Int32), o = .inr y → Ev M_X12_doAll 3 r τ 86 [(2, .int y.2.1)] [] y.1) : Ev M_X12_doAll 3 r τ 4 [(0, .ref 71), (1, .int v1), (2, .int x.2.1), (3, .int x.2.2)] [] x.1 := by
  unfold b_m_doAll_4 at h
  refine Ev_iload_n 3 (dt_X12_doAll.at 4 rfl) rfl ?_
  refine Ev_iconst (dt_X12_doAll.at 5 rfl) ki_3 ?_
  refine Ev_icmp_ge (tgt := 86) (dt_X12_doAll.at 6 rfl) (by decide) (fun c1 => ?_) (fun c1 => ?_)
  · replace h := oPos h c1
    refine Ev_sub [2] (ls' := [(2, .int x.2.1)]) rfl ?_
    exact he (x.1, x.2.1, x.2.2) (Option.some.inj h).symm
  · replace h := oNeg h c1
    refine Ev_iconst (dt_X12_doAll.at 7 rfl) ki_0 ?_
    refine Ev_istore (dt_X12_doAll.at 8 rfl) (by decide) (ls' := [(4, .int 0), (0, .ref 71), (1, .int v1), (2, .int x.2.1), (3, .int x.2.2)]) rfl ?_
    refine Ev_sub [1, 2, 3, 4, 0] (ls' := [(0, .ref 71), (1, .int v1), (2, .int x.2.1), (3, .int x.2.2), (4, .int 0)]) rfl ?_
    obtain ⟨o17, ho17, h⟩ := oBind h
    refine wl_m_doAll_12 v1 x.2.2 _ _ 100000 (x.1, x.2.1, 0) o17 ho17 (fun y ey => ?_)
    subst ey
    obtain ⟨x18, ex18⟩ : ∃ z : Int32, z = x.2.2 + 1 := ⟨_, rfl⟩
    replace h := oLt h ex18
    refine Ev_iinc (v := x18) 3 (dt_X12_doAll.at 47 rfl) rfl (ex18.trans (congrArg (fun z => x.2.2 + z) ki_1.symm)) (by decide) (ls' := [(3, .int x18), (0, .ref 71), (1, .int v1), (2, .int o17.2.1)]) rfl ?_
    refine Ev_goto (tgt := 4) (dt_X12_doAll.at 48 rfl) (by decide) ?_
    refine Ev_sub [1, 2, 3, 0] (ls' := [(0, .ref 71), (1, .int v1), (2, .int o17.2.1), (3, .int x18)]) rfl ?_
    exact hc (o17.1, o17.2.1, x18) (Option.some.inj h).symm
set_option maxRecDepth 100000 in
set_option maxHeartbeats 4000000 in
theorem wl_m_doAll_4 (v1 : Int32) (r : Option Value) (τ : Sg) (n : Nat) (x : (Sg × Int32 × Int32)) (z : (Sg × Int32 × Int32)) (h : lp (b_m_doAll_4 v1) n x = some z) (he : ∀ y : (Sg × Int32 × Int32), z = y → Ev M_X12_doAll 3 r τ 86 [(2, .int y.2.1)] [] y.1) : Ev M_X12_doAll 3 r τ 4 [(0, .ref 71), (1, .int v1), (2, .int x.2.1), (3, .int x.2.2)] [] x.1 := by
  refine lp_ind (E := fun x : (Sg × Int32 × Int32) => Ev M_X12_doAll 3 r τ 4 [(0, .ref 71), (1, .int v1), (2, .int x.2.1), (3, .int x.2.2)] [] x.1) (fun x => ⟨fun y hb hy => ?_, fun hb => ?_⟩) n x h
  · exact wb_m_doAll_4 v1 x r τ _ hb (fun y' e => by cases e; exact hy) (fun y' e => by cases e)
  · exact wb_m_doAll_4 v1 x r τ _ hb (fun y' e => by cases e) (fun y' e => he y' (Sum.inr.inj e))
set_option maxRecDepth 100000 in
set_option maxHeartbeats 4000000 in
theorem w_m_doAll (σ : Sg) (a1 : Int32) (q : (Int32 × Sg)) (h : s_m_doAll σ a1 = some q) : Cal M_X12_doAll 3 [.ref 71, .int a1] σ (some (.int q.1)) q.2 := by
  refine Cal.of (M := M_X12_doAll) (by decide +kernel) (Nat.le_of_ble_eq_true rfl) ?_
  show Ev _ _ _ _ 0 [(0, .ref 71), (1, .int a1)] [] σ
  unfold s_m_doAll at h
  refine Ev_iconst (dt_X12_doAll.at 0 rfl) ki_0 ?_
  refine Ev_istore_n (dt_X12_doAll.at 1 rfl) (by decide) (ls' := [(2, .int 0), (0, .ref 71), (1, .int a1)]) rfl ?_
  refine Ev_iconst (dt_X12_doAll.at 2 rfl) ki_0 ?_
  refine Ev_istore_n (dt_X12_doAll.at 3 rfl) (by decide) (ls' := [(3, .int 0), (2, .int 0), (0, .ref 71), (1, .int a1)]) rfl ?_
  refine Ev_sub [2, 3, 1, 0] (ls' := [(0, .ref 71), (1, .int a1), (2, .int 0), (3, .int 0)]) rfl ?_
  obtain ⟨o19, ho19, h⟩ := oBind h
  refine wl_m_doAll_4 a1 _ _ 100000 (σ, 0, 0) o19 ho19 (fun y ey => ?_)
  subst ey
  refine Ev_iload_n 0 (dt_X12_doAll.at 49 rfl) rfl ?_
  exact Ev_iret (dt_X12_doAll.at 50 rfl) rfl h
