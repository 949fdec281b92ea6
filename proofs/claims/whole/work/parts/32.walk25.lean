def s_m_doneNow (σ : Sg)  : Option Int32 :=
  some (((gI σ 77 (Int32.toNatClampNeg 0)) ||| ((gI σ 77 (Int32.toNatClampNeg 1)) <<< ((4 : Int32) &&& 31))) ||| ((gI σ 77 (Int32.toNatClampNeg 2)) <<< ((8 : Int32) &&& 31)))
set_option maxRecDepth 100000 in
set_option maxHeartbeats 4000000 in
theorem w_m_doneNow (σ : Sg)  (q : Int32) (h : s_m_doneNow σ  = some q) : Cal M_X12_doneNow 0 [.ref 71] σ (some (.int q)) σ := by
  refine Cal.of (M := M_X12_doneNow) (by decide +kernel) (Nat.le_of_ble_eq_true rfl) ?_
  show Ev _ _ _ _ 0 [(0, .ref 71)] [] σ
  unfold s_m_doneNow at h
  refine Ev_aload_n 0 (dt_X12_doneNow.at 0 rfl) rfl ?_
  refine Ev_get (i := 7) (v := .ref 77) (dt_X12_doneNow.at 1 rfl) ff_X12_30 sk_71 rfl rfl ?_
  refine Ev_iconst (dt_X12_doneNow.at 2 rfl) ki_0 ?_
  refine Ev_iaload 77 (dt_X12_doneNow.at 3 rfl) sk_77 ib_0_3 ?_
  refine Ev_aload_n 0 (dt_X12_doneNow.at 4 rfl) rfl ?_
  refine Ev_get (i := 7) (v := .ref 77) (dt_X12_doneNow.at 5 rfl) ff_X12_30 sk_71 rfl rfl ?_
  refine Ev_iconst (dt_X12_doneNow.at 6 rfl) ki_1 ?_
  refine Ev_iaload 77 (dt_X12_doneNow.at 7 rfl) sk_77 ib_1_3 ?_
  refine Ev_iconst (dt_X12_doneNow.at 8 rfl) ki_4 ?_
  refine Ev_ishl (dt_X12_doneNow.at 9 rfl) ?_
  refine Ev_ior (dt_X12_doneNow.at 10 rfl) ?_
  refine Ev_aload_n 0 (dt_X12_doneNow.at 11 rfl) rfl ?_
  refine Ev_get (i := 7) (v := .ref 77) (dt_X12_doneNow.at 12 rfl) ff_X12_30 sk_71 rfl rfl ?_
  refine Ev_iconst (dt_X12_doneNow.at 13 rfl) ki_2 ?_
  refine Ev_iaload 77 (dt_X12_doneNow.at 14 rfl) sk_77 ib_2_3 ?_
  refine Ev_bipush (dt_X12_doneNow.at 15 rfl) kb_8 ?_
  refine Ev_ishl (dt_X12_doneNow.at 16 rfl) ?_
  refine Ev_ior (dt_X12_doneNow.at 17 rfl) ?_
  exact Ev_iret (dt_X12_doneNow.at 18 rfl) rfl (oRet h)
def b_m_goOn_4 (v1 : Int32) (v2 : Int32) (v3 : Int32) (x : (Sg × Int32)) : Option ((Sg × Int32) ⊕ (Sg × Int32)) :=
  if v3 < x.2 then
    some (.inr (x.1, x.2))
  else
    (s_m_takeDone x.1 (v1 - v1 / 4096 * 4096)).bind fun q3 =>
    (s_m_ring q3 ).bind fun q4 =>
    (s_m_ring q3 ).bind fun q5 =>
    if ¬ q5 = 0 then
      lt (pI q3 71 9 ((((v1 / 4096) + x.2) + (2 * q4)) - (((v1 / 4096) + x.2) + (2 * q4)) / q5 * q5) : Sg) fun s7 =>
      (s_m_doAll s7 v2).bind fun q8 =>
      (s_m_doneNow q8.2 ).bind fun q9 =>
      if inB ((4096 * (gI q8.2 71 9)) + q9) 24576 = true then
        lt (pI q8.2 80 (Int32.toNatClampNeg ((4096 * (gI q8.2 71 9)) + q9)) (1 &&& 1) : Sg) fun s11 =>
        lt (x.2 + 1 : Int32) fun x12 =>
        some (.inl (s11, x12))
      else none
    else none
def s_m_goOn (σ : Sg) (a1 : Int32) (a2 : Int32) (a3 : Int32) : Option Sg :=
  lt ((-a3) : Int32) fun x1 =>
  (lp (b_m_goOn_4 a1 a2 a3) 100000 (σ, x1)).bind fun o13 =>
  some o13.1
set_option maxRecDepth 100000 in
set_option maxHeartbeats 4000000 in
theorem wb_m_goOn_4 (v1 : Int32) (v2 : Int32) (v3 : Int32) (x : (Sg × Int32)) (r : Option Value) (τ : Sg) (o : ((Sg × Int32) ⊕ (Sg × Int32))) (h : (b_m_goOn_4 v1 v2 v3 x) = some o) (hc : ∀ y : (Sg × Int32), o = .inl y → Ev M_X12_goOn 4 r τ 4 [(0, .ref 71), (1, .int v1), (2, .int v2), (3, .int v3), (4, .int y.2)] [] y.1) (he : ∀ y : (Sg × Int32), o = .inr y → Ev M_X12_goOn 4 r τ 75 [] [] y.1) : Ev M_X12_goOn 4 r τ 4 [(0, .ref 71), (1, .int v1), (2, .int v2), (3, .int v3), (4, .int x.2)] [] x.1 := by
  unfold b_m_goOn_4 at h
  refine Ev_iload 4 (dt_X12_goOn.at 3 rfl) rfl ?_
  refine Ev_iload_n 3 (dt_X12_goOn.at 4 rfl) rfl ?_
  refine Ev_icmp_gt (tgt := 75) (dt_X12_goOn.at 5 rfl) (by decide) (fun c2 => ?_) (fun c2 => ?_)
  · replace h := oPos h c2
    refine Ev_sub [] (ls' := []) rfl ?_
    exact he (x.1, x.2) (Option.some.inj h).symm
  · replace h := oNeg h c2
    refine Ev_aload_n 0 (dt_X12_goOn.at 6 rfl) rfl ?_
    refine Ev_iload_n 1 (dt_X12_goOn.at 7 rfl) rfl ?_
    refine Ev_sipush (dt_X12_goOn.at 8 rfl) ks_4096 ?_
    refine Ev_irem (dt_X12_goOn.at 9 rfl) (by decide) ?_
    obtain ⟨q3, hq3, h⟩ := oBind h
    refine Ev_callV (st := []) (st' := []) [.int (v1 - v1 / 4096 * 4096)] (dt_X12_goOn.at 10 rfl) cf_X12_167 (w_m_takeDone x.1 (v1 - v1 / 4096 * 4096) q3 hq3) (by decide) sk_71 rfl rfl rfl (Nat.le_of_ble_eq_true rfl) rfl ?_
    refine Ev_aload_n 0 (dt_X12_goOn.at 11 rfl) rfl ?_
    refine Ev_iload_n 1 (dt_X12_goOn.at 12 rfl) rfl ?_
    refine Ev_sipush (dt_X12_goOn.at 13 rfl) ks_4096 ?_
    refine Ev_idiv (dt_X12_goOn.at 14 rfl) (by decide) ?_
    refine Ev_iload 4 (dt_X12_goOn.at 15 rfl) rfl ?_
    refine Ev_iadd (dt_X12_goOn.at 16 rfl) ?_
    refine Ev_iconst (dt_X12_goOn.at 17 rfl) ki_2 ?_
    refine Ev_aload_n 0 (dt_X12_goOn.at 18 rfl) rfl ?_
    obtain ⟨q4, hq4, h⟩ := oBind h
    refine Ev_callV (st := [.int 2, .int ((v1 / 4096) + x.2), .ref 71]) (st' := [.int q4, .int 2, .int ((v1 / 4096) + x.2), .ref 71]) [] (dt_X12_goOn.at 19 rfl) cf_X12_91 (w_m_ring q3  q4 hq4) (by decide) sk_71 rfl rfl rfl (Nat.le_of_ble_eq_true rfl) rfl ?_
    refine Ev_imul (dt_X12_goOn.at 20 rfl) ?_
    refine Ev_iadd (dt_X12_goOn.at 21 rfl) ?_
    refine Ev_aload_n 0 (dt_X12_goOn.at 22 rfl) rfl ?_
    obtain ⟨q5, hq5, h⟩ := oBind h
    refine Ev_callV (st := [.int (((v1 / 4096) + x.2) + (2 * q4)), .ref 71]) (st' := [.int q5, .int (((v1 / 4096) + x.2) + (2 * q4)), .ref 71]) [] (dt_X12_goOn.at 23 rfl) cf_X12_91 (w_m_ring q3  q5 hq5) (by decide) sk_71 rfl rfl rfl (Nat.le_of_ble_eq_true rfl) rfl ?_
    obtain ⟨g6, h⟩ := oGuard h
    refine Ev_irem (dt_X12_goOn.at 24 rfl) g6 ?_
    refine Ev_putI (dt_X12_goOn.at 25 rfl) ff_X12_116 fw_12_9 sk_71 rfl ?_
    refine Ev_nmS (fun s7 es7 => ?_)
    replace h := oLt h es7
    refine Ev_aload_n 0 (dt_X12_goOn.at 26 rfl) rfl ?_
    refine Ev_iload_n 2 (dt_X12_goOn.at 27 rfl) rfl ?_
    obtain ⟨q8, hq8, h⟩ := oBind h
    refine Ev_callV (st := []) (st' := [.int q8.1]) [.int v2] (dt_X12_goOn.at 28 rfl) cf_X12_156 (w_m_doAll s7 v2 q8 hq8) (by decide) sk_71 rfl rfl rfl (Nat.le_of_ble_eq_true rfl) rfl ?_
    refine Ev_istore (dt_X12_goOn.at 29 rfl) (by decide) (ls' := [(5, .int q8.1), (0, .ref 71), (1, .int v1), (2, .int v2), (3, .int v3), (4, .int x.2)]) rfl ?_
    refine Ev_aload_n 1 (dt_X12_goOn.at 30 rfl) rfl ?_
    refine Ev_get (i := 11) (v := .ref 80) (dt_X12_goOn.at 31 rfl) ff_X12_39 sk_71 rfl rfl ?_
    refine Ev_sipush (dt_X12_goOn.at 32 rfl) ks_4096 ?_
    refine Ev_aload_n 1 (dt_X12_goOn.at 33 rfl) rfl ?_
    refine Ev_get (i := 9) (v := .int (gI q8.2 71 9)) (dt_X12_goOn.at 34 rfl) ff_X12_116 sk_71 rfl rfl ?_
    refine Ev_imul (dt_X12_goOn.at 35 rfl) ?_
    refine Ev_aload_n 1 (dt_X12_goOn.at 36 rfl) rfl ?_
    obtain ⟨q9, hq9, h⟩ := oBind h
    refine Ev_callV (st := [.int (4096 * (gI q8.2 71 9)), .ref 80]) (st' := [.int q9, .int (4096 * (gI q8.2 71 9)), .ref 80]) [] (dt_X12_goOn.at 37 rfl) cf_X12_170 (w_m_doneNow q8.2  q9 hq9) (by decide) sk_71 rfl rfl rfl (Nat.le_of_ble_eq_true rfl) rfl ?_
    refine Ev_iadd (dt_X12_goOn.at 38 rfl) ?_
    refine Ev_iconst (dt_X12_goOn.at 39 rfl) ki_1 ?_
    obtain ⟨g10, h⟩ := oGuard h
    refine Ev_bastore 80 (dt_X12_goOn.at 40 rfl) sk_80 g10 ?_
    refine Ev_nmS (fun s11 es11 => ?_)
    replace h := oLt h es11
    obtain ⟨x12, ex12⟩ : ∃ z : Int32, z = x.2 + 1 := ⟨_, rfl⟩
    replace h := oLt h ex12
    refine Ev_iinc (v := x12) 5 (dt_X12_goOn.at 41 rfl) rfl (ex12.trans (congrArg (fun z => x.2 + z) ki_1.symm)) (by decide) (ls' := [(4, .int x12), (5, .int q8.1), (0, .ref 71), (1, .int v1), (2, .int v2), (3, .int v3)]) rfl ?_
    refine Ev_goto (tgt := 4) (dt_X12_goOn.at 42 rfl) (by decide) ?_
    refine Ev_sub [2, 3, 4, 5, 0] (ls' := [(0, .ref 71), (1, .int v1), (2, .int v2), (3, .int v3), (4, .int x12)]) rfl ?_
    exact hc (s11, x12) (Option.some.inj h).symm
set_option maxRecDepth 100000 in
set_option maxHeartbeats 4000000 in
theorem wl_m_goOn_4 (v1 : Int32) (v2 : Int32) (v3 : Int32) (r : Option Value) (τ : Sg) (n : Nat) (x : (Sg × Int32)) (z : (Sg × Int32)) (h : lp (b_m_goOn_4 v1 v2 v3) n x = some z) (he : ∀ y : (Sg × Int32), z = y → Ev M_X12_goOn 4 r τ 75 [] [] y.1) : Ev M_X12_goOn 4 r τ 4 [(0, .ref 71), (1, .int v1), (2, .int v2), (3, .int v3), (4, .int x.2)] [] x.1 := by
  refine lp_ind (E := fun x : (Sg × Int32) => Ev M_X12_goOn 4 r τ 4 [(0, .ref 71), (1, .int v1), (2, .int v2), (3, .int v3), (4, .int x.2)] [] x.1) (fun x => ⟨fun y hb hy => ?_, fun hb => ?_⟩) n x h
  · exact wb_m_goOn_4 v1 v2 v3 x r τ _ hb (fun y' e => by cases e; exact hy) (fun y' e => by cases e)
  · exact wb_m_goOn_4 v1 v2 v3 x r τ _ hb (fun y' e => by cases e) (fun y' e => he y' (Sum.inr.inj e))
set_option maxRecDepth 100000 in
set_option maxHeartbeats 4000000 in
theorem w_m_goOn (σ : Sg) (a1 : Int32) (a2 : Int32) (a3 : Int32) (q : Sg) (h : s_m_goOn σ a1 a2 a3 = some q) : Cal M_X12_goOn 4 [.ref 71, .int a1, .int a2, .int a3] σ none q := by
  refine Cal.of (M := M_X12_goOn) (by decide +kernel) (Nat.le_of_ble_eq_true rfl) ?_
  show Ev _ _ _ _ 0 [(0, .ref 71), (1, .int a1), (2, .int a2), (3, .int a3)] [] σ
  unfold s_m_goOn at h
  refine Ev_iload_n 3 (dt_X12_goOn.at 0 rfl) rfl ?_
  refine Ev_ineg (dt_X12_goOn.at 1 rfl) ?_
  refine Ev_nmI (fun x1 ex1 => ?_)
  replace h := oLt h ex1
  refine Ev_istore (dt_X12_goOn.at 2 rfl) (by decide) (ls' := [(4, .int x1), (0, .ref 71), (1, .int a1), (2, .int a2), (3, .int a3)]) rfl ?_
  refine Ev_sub [1, 2, 3, 4, 0] (ls' := [(0, .ref 71), (1, .int a1), (2, .int a2), (3, .int a3), (4, .int x1)]) rfl ?_
  obtain ⟨o13, ho13, h⟩ := oBind h
  refine wl_m_goOn_4 a1 a2 a3 _ _ 100000 (σ, x1) o13 ho13 (fun y ey => ?_)
  subst ey
  exact Ev_vret (dt_X12_goOn.at 43 rfl) rfl h
def j_m_best_43i22  (σ : Sg) (v2 : Int32) (u0 : Int32) (u1 : Int32) : Option ((Sg × Int32) ⊕ (Sg × Int32)) :=
  if inB u1 24576 = true then
    lt (pI σ 79 (Int32.toNatClampNeg u1) (u0 &&& 1) : Sg) fun s7 =>
    if inB v2 24576 = true then
      lt (pI s7 80 (Int32.toNatClampNeg v2) (0 &&& 1) : Sg) fun s9 =>
      lt (v2 + 1 : Int32) fun x10 =>
      some (.inl (s9, x10))
    else none
  else none
def b_m_best_22  (x : (Sg × Int32)) : Option ((Sg × Int32) ⊕ (Sg × Int32)) :=
  if 24576 ≤ x.2 then
    some (.inr (x.1, x.2))
  else
    if x.2 = 0 then
      j_m_best_43i22  x.1 x.2 1 x.2
    else
      j_m_best_43i22  x.1 x.2 0 x.2
def b_m_best_67 (v2 : Int32) (x : (Sg × Int32)) : Option ((Sg × Int32) ⊕ (Sg × Int32)) :=
  if 24576 ≤ x.2 then
    some (.inr (x.1, x.2))
  else
    if inB x.2 24576 = true then
      if (gI x.1 79 (Int32.toNatClampNeg x.2)) = 0 then
        lt (x.2 + 1 : Int32) fun x16 =>
        some (.inl (x.1, x16))
      else
        (s_m_isFast x.1 ).bind fun q17 =>
        if q17 = 0 then
          (s_m_goOn x.1 x.2 v2 1).bind fun q19 =>
          lt (x.2 + 1 : Int32) fun x20 =>
          some (.inl (q19, x20))
        else
          (s_m_goOn x.1 x.2 v2 2).bind fun q21 =>
          lt (x.2 + 1 : Int32) fun x22 =>
          some (.inl (q21, x22))
    else none
def b_m_best_109 (v2 : Int32) (x : (Sg × Int32)) : Option ((Sg × Int32) ⊕ (Sg × Int32)) :=
  if 24576 ≤ x.2 then
    some (.inr (x.1, x.2))
  else
    if inB x.2 24576 = true then
      if inB x.2 24576 = true then
        lt (pI x.1 79 (Int32.toNatClampNeg x.2) ((gI x.1 80 (Int32.toNatClampNeg x.2)) &&& 1) : Sg) fun s27 =>
        if inB x.2 24576 = true then
          lt (pI s27 80 (Int32.toNatClampNeg x.2) (0 &&& 1) : Sg) fun s29 =>
          lt (x.2 + 1 : Int32) fun x30 =>
          some (.inl (s29, x30))
        else none
      else none
    else none
def b_m_best_59  (x : (Sg × Int32)) : Option ((Sg × Int32) ⊕ (Sg × Int32)) :=
  if 10 ≤ x.2 then
    some (.inr (x.1, x.2))
  else
    (lp (b_m_best_67 x.2) 100000 (x.1, 0)).bind fun o23 =>
    (lp (b_m_best_109 x.2) 100000 (o23.1, 0)).bind fun o31 =>
    lt (x.2 + 1 : Int32) fun x32 =>
    some (.inl (o31.1, x32))
def j_m_best_179i151 (σ : Sg) (v2 : Int32) (v3 : Int32) (u0 : Int32) : Option ((Int32 × Int32) ⊕ (Int32 × Int32)) :=
  if u0 ≤ v2 then
    lt (v3 + 1 : Int32) fun x38 =>
    some (.inl (v2, x38))
  else
    lt (v3 + 1 : Int32) fun x39 =>
    some (.inl (u0, x39))
def b_m_best_151 (σ : Sg) (x : (Int32 × Int32)) : Option ((Int32 × Int32) ⊕ (Int32 × Int32)) :=
  if 24576 ≤ x.2 then
    some (.inr (x.1, x.2))
  else
    if inB x.2 24576 = true then
      if (gI σ 79 (Int32.toNatClampNeg x.2)) = 0 then
        j_m_best_179i151 σ x.1 x.2 0
      else
        (s_m_bits (x.2 - x.2 / 4096 * 4096)).bind fun q40 =>
        j_m_best_179i151 σ x.1 x.2 q40
    else none
def s_m_best (σ : Sg) (a1 : Int32) : Option (Int32 × Sg) :=
  (s_m_isThree σ a1).bind fun q1 =>
  if q1 = 0 then
    (s_m_bad σ (-2)).bind fun q42 =>
    some (q42.1, q42.2)
  else
    (s_m_takeThree σ a1).bind fun q3 =>
    (lp (b_m_best_22 ) 100000 (q3, 0)).bind fun o11 =>
    (lp (b_m_best_59 ) 100000 (o11.1, 0)).bind fun o33 =>
    (lp (b_m_best_151 o33.1) 100000 (0, 0)).bind fun o41 =>
    some (o41.1, o33.1)
set_option maxRecDepth 100000 in
set_option maxHeartbeats 4000000 in
theorem wj_m_best_43i22  (σ : Sg) (v2 : Int32) (u0 : Int32) (u1 : Int32) (r : Option Value) (τ : Sg) (o : ((Sg × Int32) ⊕ (Sg × Int32))) (h : (j_m_best_43i22  σ v2 u0 u1) = some o) (hc : ∀ y : (Sg × Int32), o = .inl y → Ev M_X12_best 5 r τ 22 [(0, .ref 71), (2, .int y.2)] [] y.1) (he : ∀ y : (Sg × Int32), o = .inr y → Ev M_X12_best 5 r τ 57 [(0, .ref 71)] [] y.1) : Ev M_X12_best 5 r τ 43 [(0, .ref 71), (2, .int v2)] [.int u0, .int u1, .ref 79] σ := by
  unfold j_m_best_43i22 at h
  obtain ⟨g6, h⟩ := oGuard h
  refine Ev_bastore 79 (dt_X12_best.at 24 rfl) sk_79 g6 ?_
  refine Ev_nmS (fun s7 es7 => ?_)
  replace h := oLt h es7
  refine Ev_aload_n 0 (dt_X12_best.at 25 rfl) rfl ?_
  refine Ev_get (i := 11) (v := .ref 80) (dt_X12_best.at 26 rfl) ff_X12_39 sk_71 rfl rfl ?_
  refine Ev_iload_n 1 (dt_X12_best.at 27 rfl) rfl ?_
  refine Ev_iconst (dt_X12_best.at 28 rfl) ki_0 ?_
  obtain ⟨g8, h⟩ := oGuard h
  refine Ev_bastore 80 (dt_X12_best.at 29 rfl) sk_80 g8 ?_
  refine Ev_nmS (fun s9 es9 => ?_)
  replace h := oLt h es9
  obtain ⟨x10, ex10⟩ : ∃ z : Int32, z = v2 + 1 := ⟨_, rfl⟩
  replace h := oLt h ex10
  refine Ev_iinc (v := x10) 1 (dt_X12_best.at 30 rfl) rfl (ex10.trans (congrArg (fun z => v2 + z) ki_1.symm)) (by decide) (ls' := [(2, .int x10), (0, .ref 71)]) rfl ?_
  refine Ev_goto (tgt := 22) (dt_X12_best.at 31 rfl) (by decide) ?_
  refine Ev_sub [1, 0] (ls' := [(0, .ref 71), (2, .int x10)]) rfl ?_
  exact hc (s9, x10) (Option.some.inj h).symm
set_option maxRecDepth 100000 in
set_option maxHeartbeats 4000000 in
theorem wb_m_best_22  (x : (Sg × Int32)) (r : Option Value) (τ : Sg) (o : ((Sg × Int32) ⊕ (Sg × Int32))) (h : (b_m_best_22  x) = some o) (hc : ∀ y : (Sg × Int32), o = .inl y → Ev M_X12_best 5 r τ 22 [(0, .ref 71), (2, .int y.2)] [] y.1) (he : ∀ y : (Sg × Int32), o = .inr y → Ev M_X12_best 5 r τ 57 [(0, .ref 71)] [] y.1) : Ev M_X12_best 5 r τ 22 [(0, .ref 71), (2, .int x.2)] [] x.1 := by
  unfold b_m_best_22 at h
  refine Ev_iload_n 1 (dt_X12_best.at 13 rfl) rfl ?_
  refine Ev_sipush (dt_X12_best.at 14 rfl) ks_24576 ?_
  refine Ev_icmp_ge (tgt := 57) (dt_X12_best.at 15 rfl) (by decide) (fun c4 => ?_) (fun c4 => ?_)
  · replace h := oPos h c4
    refine Ev_sub [0] (ls' := [(0, .ref 71)]) rfl ?_
    exact he (x.1, x.2) (Option.some.inj h).symm
  · replace h := oNeg h c4
    refine Ev_aload_n 0 (dt_X12_best.at 16 rfl) rfl ?_
    refine Ev_get (i := 10) (v := .ref 79) (dt_X12_best.at 17 rfl) ff_X12_36 sk_71 rfl rfl ?_
    refine Ev_iload_n 1 (dt_X12_best.at 18 rfl) rfl ?_
    refine Ev_iload_n 1 (dt_X12_best.at 19 rfl) rfl ?_
    refine Ev_if_ne (tgt := 42) (dt_X12_best.at 20 rfl) (by decide) (fun c5 => ?_) (fun c5 => ?_)
    · replace h := oNeg h c5
      refine Ev_iconst (dt_X12_best.at 23 rfl) ki_0 ?_
      refine Ev_sub [0, 1] (ls' := [(0, .ref 71), (2, .int x.2)]) rfl ?_
      exact wj_m_best_43i22  x.1 x.2 0 x.2 _ _ _ h hc he
    · replace h := oPos h c5
      refine Ev_iconst (dt_X12_best.at 21 rfl) ki_1 ?_
      refine Ev_goto (tgt := 43) (dt_X12_best.at 22 rfl) (by decide) ?_
      refine Ev_sub [0, 1] (ls' := [(0, .ref 71), (2, .int x.2)]) rfl ?_
      exact wj_m_best_43i22  x.1 x.2 1 x.2 _ _ _ h hc he
set_option maxRecDepth 100000 in
set_option maxHeartbeats 4000000 in
theorem wl_m_best_22  (r : Option Value) (τ : Sg) (n : Nat) (x : (Sg × Int32)) (z : (Sg × Int32)) (h : lp (b_m_best_22 ) n x = some z) (he : ∀ y : (Sg × Int32), z = y → Ev M_X12_best 5 r τ 57 [(0, .ref 71)] [] y.1) : Ev M_X12_best 5 r τ 22 [(0, .ref 71), (2, .int x.2)] [] x.1 := by
  refine lp_ind (E := fun x : (Sg × Int32) => Ev M_X12_best 5 r τ 22 [(0, .ref 71), (2, .int x.2)] [] x.1) (fun x => ⟨fun y hb hy => ?_, fun hb => ?_⟩) n x h
  · exact wb_m_best_22  x r τ _ hb (fun y' e => by cases e; exact hy) (fun y' e => by cases e)
  · exact wb_m_best_22  x r τ _ hb (fun y' e => by cases e) (fun y' e => he y' (Sum.inr.inj e))
set_option maxRecDepth 100000 in
set_option maxHeartbeats 4000000 in
theorem wb_m_best_67 (v2 : Int32) (x : (Sg × Int32)) (r : Option Value) (τ : Sg) (o : ((Sg × Int32) ⊕ (Sg × Int32))) (h : (b_m_best_67 v2 x) = some o) (hc : ∀ y : (Sg × Int32), o = .inl y → Ev M_X12_best 5 r τ 67 [(0, .ref 71), (2, .int v2), (3, .int y.2)] [] y.1) (he : ∀ y : (Sg × Int32), o = .inr y → Ev M_X12_best 5 r τ 107 [(0, .ref 71), (2, .int v2)] [] y.1) : Ev M_X12_best 5 r τ 67 [(0, .ref 71), (2, .int v2), (3, .int x.2)] [] x.1 := by
  unfold b_m_best_67 at h
  refine Ev_iload_n 2 (dt_X12_best.at 39 rfl) rfl ?_
  refine Ev_sipush (dt_X12_best.at 40 rfl) ks_24576 ?_
  refine Ev_icmp_ge (tgt := 107) (dt_X12_best.at 41 rfl) (by decide) (fun c13 => ?_) (fun c13 => ?_)
  · replace h := oPos h c13
    refine Ev_sub [0, 1] (ls' := [(0, .ref 71), (2, .int v2)]) rfl ?_
    exact he (x.1, x.2) (Option.some.inj h).symm
  · replace h := oNeg h c13
    refine Ev_aload_n 0 (dt_X12_best.at 42 rfl) rfl ?_
    refine Ev_get (i := 10) (v := .ref 79) (dt_X12_best.at 43 rfl) ff_X12_36 sk_71 rfl rfl ?_
    refine Ev_iload_n 2 (dt_X12_best.at 44 rfl) rfl ?_
    obtain ⟨g14, h⟩ := oGuard h
    refine Ev_baload 79 (dt_X12_best.at 45 rfl) sk_79 g14 ?_
    refine Ev_if_eq (tgt := 101) (dt_X12_best.at 46 rfl) (by decide) (fun c15 => ?_) (fun c15 => ?_)
    · replace h := oPos h c15
      obtain ⟨x16, ex16⟩ : ∃ z : Int32, z = x.2 + 1 := ⟨_, rfl⟩
      replace h := oLt h ex16
      refine Ev_iinc (v := x16) 2 (dt_X12_best.at 57 rfl) rfl (ex16.trans (congrArg (fun z => x.2 + z) ki_1.symm)) (by decide) (ls' := [(3, .int x16), (0, .ref 71), (2, .int v2)]) rfl ?_
      refine Ev_goto (tgt := 67) (dt_X12_best.at 58 rfl) (by decide) ?_
      refine Ev_sub [1, 2, 0] (ls' := [(0, .ref 71), (2, .int v2), (3, .int x16)]) rfl ?_
      exact hc (x.1, x16) (Option.some.inj h).symm
    · replace h := oNeg h c15
      refine Ev_aload_n 0 (dt_X12_best.at 47 rfl) rfl ?_
      refine Ev_iload_n 2 (dt_X12_best.at 48 rfl) rfl ?_
      refine Ev_iload_n 1 (dt_X12_best.at 49 rfl) rfl ?_
      refine Ev_aload_n 0 (dt_X12_best.at 50 rfl) rfl ?_
      obtain ⟨q17, hq17, h⟩ := oBind h
      refine Ev_callV (st := [.int v2, .int x.2, .ref 71]) (st' := [.int q17, .int v2, .int x.2, .ref 71]) [] (dt_X12_best.at 51 rfl) cf_X12_152 (w_m_isFast x.1  q17 hq17) (by decide) sk_71 rfl rfl rfl (Nat.le_of_ble_eq_true rfl) rfl ?_
      refine Ev_if_eq (tgt := 97) (dt_X12_best.at 52 rfl) (by decide) (fun c18 => ?_) (fun c18 => ?_)
      · replace h := oPos h c18
        refine Ev_iconst (dt_X12_best.at 55 rfl) ki_1 ?_
        obtain ⟨q19, hq19, h⟩ := oBind h
        refine Ev_callV (st := []) (st' := []) [.int x.2, .int v2, .int 1] (dt_X12_best.at 56 rfl) cf_X12_173 (w_m_goOn x.1 x.2 v2 1 q19 hq19) (by decide) sk_71 rfl rfl rfl (Nat.le_of_ble_eq_true rfl) rfl ?_
        obtain ⟨x20, ex20⟩ : ∃ z : Int32, z = x.2 + 1 := ⟨_, rfl⟩
        replace h := oLt h ex20
        refine Ev_iinc (v := x20) 2 (dt_X12_best.at 57 rfl) rfl (ex20.trans (congrArg (fun z => x.2 + z) ki_1.symm)) (by decide) (ls' := [(3, .int x20), (0, .ref 71), (2, .int v2)]) rfl ?_
        refine Ev_goto (tgt := 67) (dt_X12_best.at 58 rfl) (by decide) ?_
        refine Ev_sub [1, 2, 0] (ls' := [(0, .ref 71), (2, .int v2), (3, .int x20)]) rfl ?_
        exact hc (q19, x20) (Option.some.inj h).symm
      · replace h := oNeg h c18
        refine Ev_iconst (dt_X12_best.at 53 rfl) ki_2 ?_
        refine Ev_goto (tgt := 98) (dt_X12_best.at 54 rfl) (by decide) ?_
        obtain ⟨q21, hq21, h⟩ := oBind h
        refine Ev_callV (st := []) (st' := []) [.int x.2, .int v2, .int 2] (dt_X12_best.at 56 rfl) cf_X12_173 (w_m_goOn x.1 x.2 v2 2 q21 hq21) (by decide) sk_71 rfl rfl rfl (Nat.le_of_ble_eq_true rfl) rfl ?_
        obtain ⟨x22, ex22⟩ : ∃ z : Int32, z = x.2 + 1 := ⟨_, rfl⟩
        replace h := oLt h ex22
        refine Ev_iinc (v := x22) 2 (dt_X12_best.at 57 rfl) rfl (ex22.trans (congrArg (fun z => x.2 + z) ki_1.symm)) (by decide) (ls' := [(3, .int x22), (0, .ref 71), (2, .int v2)]) rfl ?_
        refine Ev_goto (tgt := 67) (dt_X12_best.at 58 rfl) (by decide) ?_
        refine Ev_sub [1, 2, 0] (ls' := [(0, .ref 71), (2, .int v2), (3, .int x22)]) rfl ?_
        exact hc (q21, x22) (Option.some.inj h).symm
set_option maxRecDepth 100000 in
set_option maxHeartbeats 4000000 in
theorem wl_m_best_67 (v2 : Int32) (r : Option Value) (τ : Sg) (n : Nat) (x : (Sg × Int32)) (z : (Sg × Int32)) (h : lp (b_m_best_67 v2) n x = some z) (he : ∀ y : (Sg × Int32), z = y → Ev M_X12_best 5 r τ 107 [(0, .ref 71), (2, .int v2)] [] y.1) : Ev M_X12_best 5 r τ 67 [(0, .ref 71), (2, .int v2), (3, .int x.2)] [] x.1 := by
  refine lp_ind (E := fun x : (Sg × Int32) => Ev M_X12_best 5 r τ 67 [(0, .ref 71), (2, .int v2), (3, .int x.2)] [] x.1) (fun x => ⟨fun y hb hy => ?_, fun hb => ?_⟩) n x h
  · exact wb_m_best_67 v2 x r τ _ hb (fun y' e => by cases e; exact hy) (fun y' e => by cases e)
  · exact wb_m_best_67 v2 x r τ _ hb (fun y' e => by cases e) (fun y' e => he y' (Sum.inr.inj e))
set_option maxRecDepth 100000 in
set_option maxHeartbeats 4000000 in
theorem wb_m_best_109 (v2 : Int32) (x : (Sg × Int32)) (r : Option Value) (τ : Sg) (o : ((Sg × Int32) ⊕ (Sg × Int32))) (h : (b_m_best_109 v2 x) = some o) (hc : ∀ y : (Sg × Int32), o = .inl y → Ev M_X12_best 5 r τ 109 [(0, .ref 71), (2, .int v2), (3, .int y.2)] [] y.1) (he : ∀ y : (Sg × Int32), o = .inr y → Ev M_X12_best 5 r τ 141 [(0, .ref 71), (2, .int v2)] [] y.1) : Ev M_X12_best 5 r τ 109 [(0, .ref 71), (2, .int v2), (3, .int x.2)] [] x.1 := by
  unfold b_m_best_109 at h
  refine Ev_iload_n 2 (dt_X12_best.at 61 rfl) rfl ?_
  refine Ev_sipush (dt_X12_best.at 62 rfl) ks_24576 ?_
  refine Ev_icmp_ge (tgt := 141) (dt_X12_best.at 63 rfl) (by decide) (fun c24 => ?_) (fun c24 => ?_)
  · replace h := oPos h c24
    refine Ev_sub [0, 1] (ls' := [(0, .ref 71), (2, .int v2)]) rfl ?_
    exact he (x.1, x.2) (Option.some.inj h).symm
  · replace h := oNeg h c24
    refine Ev_aload_n 0 (dt_X12_best.at 64 rfl) rfl ?_
    refine Ev_get (i := 10) (v := .ref 79) (dt_X12_best.at 65 rfl) ff_X12_36 sk_71 rfl rfl ?_
    refine Ev_iload_n 2 (dt_X12_best.at 66 rfl) rfl ?_
    refine Ev_aload_n 0 (dt_X12_best.at 67 rfl) rfl ?_
    refine Ev_get (i := 11) (v := .ref 80) (dt_X12_best.at 68 rfl) ff_X12_39 sk_71 rfl rfl ?_
    refine Ev_iload_n 2 (dt_X12_best.at 69 rfl) rfl ?_
    obtain ⟨g25, h⟩ := oGuard h
    refine Ev_baload 80 (dt_X12_best.at 70 rfl) sk_80 g25 ?_
    obtain ⟨g26, h⟩ := oGuard h
    refine Ev_bastore 79 (dt_X12_best.at 71 rfl) sk_79 g26 ?_
    refine Ev_nmS (fun s27 es27 => ?_)
    replace h := oLt h es27
    refine Ev_aload_n 0 (dt_X12_best.at 72 rfl) rfl ?_
    refine Ev_get (i := 11) (v := .ref 80) (dt_X12_best.at 73 rfl) ff_X12_39 sk_71 rfl rfl ?_
    refine Ev_iload_n 2 (dt_X12_best.at 74 rfl) rfl ?_
    refine Ev_iconst (dt_X12_best.at 75 rfl) ki_0 ?_
    obtain ⟨g28, h⟩ := oGuard h
    refine Ev_bastore 80 (dt_X12_best.at 76 rfl) sk_80 g28 ?_
    refine Ev_nmS (fun s29 es29 => ?_)
    replace h := oLt h es29
    obtain ⟨x30, ex30⟩ : ∃ z : Int32, z = x.2 + 1 := ⟨_, rfl⟩
    replace h := oLt h ex30
    refine Ev_iinc (v := x30) 2 (dt_X12_best.at 77 rfl) rfl (ex30.trans (congrArg (fun z => x.2 + z) ki_1.symm)) (by decide) (ls' := [(3, .int x30), (0, .ref 71), (2, .int v2)]) rfl ?_
    refine Ev_goto (tgt := 109) (dt_X12_best.at 78 rfl) (by decide) ?_
    refine Ev_sub [1, 2, 0] (ls' := [(0, .ref 71), (2, .int v2), (3, .int x30)]) rfl ?_
    exact hc (s29, x30) (Option.some.inj h).symm
set_option maxRecDepth 100000 in
set_option maxHeartbeats 4000000 in
theorem wl_m_best_109 (v2 : Int32) (r : Option Value) (τ : Sg) (n : Nat) (x : (Sg × Int32)) (z : (Sg × Int32)) (h : lp (b_m_best_109 v2) n x = some z) (he : ∀ y : (Sg × Int32), z = y → Ev M_X12_best 5 r τ 141 [(0, .ref 71), (2, .int v2)] [] y.1) : Ev M_X12_best 5 r τ 109 [(0, .ref 71), (2, .int v2), (3, .int x.2)] [] x.1 := by
  refine lp_ind (E := fun x : (Sg × Int32) => Ev M_X12_best 5 r τ 109 [(0, .ref 71), (2, .int v2), (3, .int x.2)] [] x.1) (fun x => ⟨fun y hb hy => ?_, fun hb => ?_⟩) n x h
  · exact wb_m_best_109 v2 x r τ _ hb (fun y' e => by cases e; exact hy) (fun y' e => by cases e)
  · exact wb_m_best_109 v2 x r τ _ hb (fun y' e => by cases e) (fun y' e => he y' (Sum.inr.inj e))
set_option maxRecDepth 100000 in
set_option maxHeartbeats 4000000 in
theorem wb_m_best_59  (x : (Sg × Int32)) (r : Option Value) (τ : Sg) (o : ((Sg × Int32) ⊕ (Sg × Int32))) (h : (b_m_best_59  x) = some o) (hc : ∀ y : (Sg × Int32), o = .inl y → Ev M_X12_best 5 r τ 59 [(0, .ref 71), (2, .int y.2)] [] y.1) (he : ∀ y : (Sg × Int32), o = .inr y → Ev M_X12_best 5 r τ 147 [(0, .ref 71)] [] y.1) : Ev M_X12_best 5 r τ 59 [(0, .ref 71), (2, .int x.2)] [] x.1 := by
  unfold b_m_best_59 at h
  refine Ev_iload_n 1 (dt_X12_best.at 34 rfl) rfl ?_
  refine Ev_bipush (dt_X12_best.at 35 rfl) kb_10 ?_
  refine Ev_icmp_ge (tgt := 147) (dt_X12_best.at 36 rfl) (by decide) (fun c12 => ?_) (fun c12 => ?_)
  · replace h := oPos h c12
    refine Ev_sub [0] (ls' := [(0, .ref 71)]) rfl ?_
    exact he (x.1, x.2) (Option.some.inj h).symm
  · replace h := oNeg h c12
    refine Ev_iconst (dt_X12_best.at 37 rfl) ki_0 ?_
    refine Ev_istore_n (dt_X12_best.at 38 rfl) (by decide) (ls' := [(3, .int 0), (0, .ref 71), (2, .int x.2)]) rfl ?_
    refine Ev_sub [1, 2, 0] (ls' := [(0, .ref 71), (2, .int x.2), (3, .int 0)]) rfl ?_
    obtain ⟨o23, ho23, h⟩ := oBind h
    refine wl_m_best_67 x.2 _ _ 100000 (x.1, 0) o23 ho23 (fun y ey => ?_)
    subst ey
    refine Ev_iconst (dt_X12_best.at 59 rfl) ki_0 ?_
    refine Ev_istore_n (dt_X12_best.at 60 rfl) (by decide) (ls' := [(3, .int 0), (0, .ref 71), (2, .int x.2)]) rfl ?_
    refine Ev_sub [1, 2, 0] (ls' := [(0, .ref 71), (2, .int x.2), (3, .int 0)]) rfl ?_
    obtain ⟨o31, ho31, h⟩ := oBind h
    refine wl_m_best_109 x.2 _ _ 100000 (o23.1, 0) o31 ho31 (fun y ey => ?_)
    subst ey
    obtain ⟨x32, ex32⟩ : ∃ z : Int32, z = x.2 + 1 := ⟨_, rfl⟩
    replace h := oLt h ex32
    refine Ev_iinc (v := x32) 1 (dt_X12_best.at 79 rfl) rfl (ex32.trans (congrArg (fun z => x.2 + z) ki_1.symm)) (by decide) (ls' := [(2, .int x32), (0, .ref 71)]) rfl ?_
    refine Ev_goto (tgt := 59) (dt_X12_best.at 80 rfl) (by decide) ?_
    refine Ev_sub [1, 0] (ls' := [(0, .ref 71), (2, .int x32)]) rfl ?_
    exact hc (o31.1, x32) (Option.some.inj h).symm
set_option maxRecDepth 100000 in
set_option maxHeartbeats 4000000 in
theorem wl_m_best_59  (r : Option Value) (τ : Sg) (n : Nat) (x : (Sg × Int32)) (z : (Sg × Int32)) (h : lp (b_m_best_59 ) n x = some z) (he : ∀ y : (Sg × Int32), z = y → Ev M_X12_best 5 r τ 147 [(0, .ref 71)] [] y.1) : Ev M_X12_best 5 r τ 59 [(0, .ref 71), (2, .int x.2)] [] x.1 := by
  refine lp_ind (E := fun x : (Sg × Int32) => Ev M_X12_best 5 r τ 59 [(0, .ref 71), (2, .int x.2)] [] x.1) (fun x => ⟨fun y hb hy => ?_, fun hb => ?_⟩) n x h
  · exact wb_m_best_59  x r τ _ hb (fun y' e => by cases e; exact hy) (fun y' e => by cases e)
  · exact wb_m_best_59  x r τ _ hb (fun y' e => by cases e) (fun y' e => he y' (Sum.inr.inj e))
set_option maxRecDepth 100000 in
set_option maxHeartbeats 4000000 in
theorem wj_m_best_179i151 (σ : Sg) (v2 : Int32) (v3 : Int32) (u0 : Int32) (r : Option Value) (τ : Sg) (o : ((Int32 × Int32) ⊕ (Int32 × Int32))) (h : (j_m_best_179i151 σ v2 v3 u0) = some o) (hc : ∀ y : (Int32 × Int32), o = .inl y → Ev M_X12_best 5 r τ 151 [(0, .ref 71), (2, .int y.1), (3, .int y.2)] [] σ) (he : ∀ y : (Int32 × Int32), o = .inr y → Ev M_X12_best 5 r τ 200 [(2, .int y.1)] [] σ) : Ev M_X12_best 5 r τ 179 [(0, .ref 71), (2, .int v2), (3, .int v3)] [.int u0] σ := by
  unfold j_m_best_179i151 at h
  refine Ev_istore (dt_X12_best.at 99 rfl) (by decide) (ls' := [(4, .int u0), (0, .ref 71), (2, .int v2), (3, .int v3)]) rfl ?_
  refine Ev_iload 0 (dt_X12_best.at 100 rfl) rfl ?_
  refine Ev_iload_n 2 (dt_X12_best.at 101 rfl) rfl ?_
  refine Ev_icmp_le (tgt := 192) (dt_X12_best.at 102 rfl) (by decide) (fun c37 => ?_) (fun c37 => ?_)
  · replace h := oPos h c37
    refine Ev_iload_n 2 (dt_X12_best.at 105 rfl) rfl ?_
    refine Ev_istore_n (dt_X12_best.at 106 rfl) (by decide) (ls' := [(2, .int v2), (4, .int u0), (0, .ref 71), (3, .int v3)]) rfl ?_
    obtain ⟨x38, ex38⟩ : ∃ z : Int32, z = v3 + 1 := ⟨_, rfl⟩
    replace h := oLt h ex38
    refine Ev_iinc (v := x38) 3 (dt_X12_best.at 107 rfl) rfl (ex38.trans (congrArg (fun z => v3 + z) ki_1.symm)) (by decide) (ls' := [(3, .int x38), (2, .int v2), (4, .int u0), (0, .ref 71)]) rfl ?_
    refine Ev_goto (tgt := 151) (dt_X12_best.at 108 rfl) (by decide) ?_
    refine Ev_sub [3, 1, 0] (ls' := [(0, .ref 71), (2, .int v2), (3, .int x38)]) rfl ?_
    exact hc (v2, x38) (Option.some.inj h).symm
  · replace h := oNeg h c37
    refine Ev_iload 0 (dt_X12_best.at 103 rfl) rfl ?_
    refine Ev_goto (tgt := 193) (dt_X12_best.at 104 rfl) (by decide) ?_
    refine Ev_istore_n (dt_X12_best.at 106 rfl) (by decide) (ls' := [(2, .int u0), (4, .int u0), (0, .ref 71), (3, .int v3)]) rfl ?_
    obtain ⟨x39, ex39⟩ : ∃ z : Int32, z = v3 + 1 := ⟨_, rfl⟩
    replace h := oLt h ex39
    refine Ev_iinc (v := x39) 3 (dt_X12_best.at 107 rfl) rfl (ex39.trans (congrArg (fun z => v3 + z) ki_1.symm)) (by decide) (ls' := [(3, .int x39), (2, .int u0), (4, .int u0), (0, .ref 71)]) rfl ?_
    refine Ev_goto (tgt := 151) (dt_X12_best.at 108 rfl) (by decide) ?_
    refine Ev_sub [3, 1, 0] (ls' := [(0, .ref 71), (2, .int u0), (3, .int x39)]) rfl ?_
    exact hc (u0, x39) (Option.some.inj h).symm
set_option maxRecDepth 100000 in
set_option maxHeartbeats 4000000 in
theorem wb_m_best_151 (σ : Sg) (x : (Int32 × Int32)) (r : Option Value) (τ : Sg) (o : ((Int32 × Int32) ⊕ (Int32 × Int32))) (h : (b_m_best_151 σ x) = some o) (hc : ∀ y : (Int32 × Int32), o = .inl y → Ev M_X12_best 5 r τ 151 [(0, .ref 71), (2, .int y.1), (3, .int y.2)] [] σ) (he : ∀ y : (Int32 × Int32), o = .inr y → Ev M_X12_best 5 r τ 200 [(2, .int y.1)] [] σ) : Ev M_X12_best 5 r τ 151 [(0, .ref 71), (2, .int x.1), (3, .int x.2)] [] σ := by
  unfold b_m_best_151 at h
  refine Ev_iload_n 2 (dt_X12_best.at 85 rfl) rfl ?_
  refine Ev_sipush (dt_X12_best.at 86 rfl) ks_24576 ?_
  refine Ev_icmp_ge (tgt := 200) (dt_X12_best.at 87 rfl) (by decide) (fun c34 => ?_) (fun c34 => ?_)
  · replace h := oPos h c34
    refine Ev_sub [1] (ls' := [(2, .int x.1)]) rfl ?_
    exact he (x.1, x.2) (Option.some.inj h).symm
  · replace h := oNeg h c34
    refine Ev_aload_n 0 (dt_X12_best.at 88 rfl) rfl ?_
    refine Ev_get (i := 10) (v := .ref 79) (dt_X12_best.at 89 rfl) ff_X12_36 sk_71 rfl rfl ?_
    refine Ev_iload_n 2 (dt_X12_best.at 90 rfl) rfl ?_
    obtain ⟨g35, h⟩ := oGuard h
    refine Ev_baload 79 (dt_X12_best.at 91 rfl) sk_79 g35 ?_
    refine Ev_if_eq (tgt := 178) (dt_X12_best.at 92 rfl) (by decide) (fun c36 => ?_) (fun c36 => ?_)
    · replace h := oPos h c36
      refine Ev_iconst (dt_X12_best.at 98 rfl) ki_0 ?_
      refine Ev_sub [0, 1, 2] (ls' := [(0, .ref 71), (2, .int x.1), (3, .int x.2)]) rfl ?_
      exact wj_m_best_179i151 σ x.1 x.2 0 _ _ _ h hc he
    · replace h := oNeg h c36
      refine Ev_iload_n 2 (dt_X12_best.at 93 rfl) rfl ?_
      refine Ev_sipush (dt_X12_best.at 94 rfl) ks_4096 ?_
      refine Ev_irem (dt_X12_best.at 95 rfl) (by decide) ?_
      obtain ⟨q40, hq40, h⟩ := oBind h
      refine Ev_callS (st := []) (st' := [.int q40]) [.int (x.2 - x.2 / 4096 * 4096)] (dt_X12_best.at 96 rfl) cf_X12_78 (w_m_bits σ (x.2 - x.2 / 4096 * 4096) q40 hq40) (by decide) rfl rfl (Nat.le_of_ble_eq_true rfl) rfl ?_
      refine Ev_goto (tgt := 179) (dt_X12_best.at 97 rfl) (by decide) ?_
      refine Ev_sub [0, 1, 2] (ls' := [(0, .ref 71), (2, .int x.1), (3, .int x.2)]) rfl ?_
      exact wj_m_best_179i151 σ x.1 x.2 q40 _ _ _ h hc he
set_option maxRecDepth 100000 in
set_option maxHeartbeats 4000000 in
theorem wl_m_best_151 (σ : Sg) (r : Option Value) (τ : Sg) (n : Nat) (x : (Int32 × Int32)) (z : (Int32 × Int32)) (h : lp (b_m_best_151 σ) n x = some z) (he : ∀ y : (Int32 × Int32), z = y → Ev M_X12_best 5 r τ 200 [(2, .int y.1)] [] σ) : Ev M_X12_best 5 r τ 151 [(0, .ref 71), (2, .int x.1), (3, .int x.2)] [] σ := by
  refine lp_ind (E := fun x : (Int32 × Int32) => Ev M_X12_best 5 r τ 151 [(0, .ref 71), (2, .int x.1), (3, .int x.2)] [] σ) (fun x => ⟨fun y hb hy => ?_, fun hb => ?_⟩) n x h
  · exact wb_m_best_151 σ x r τ _ hb (fun y' e => by cases e; exact hy) (fun y' e => by cases e)
  · exact wb_m_best_151 σ x r τ _ hb (fun y' e => by cases e) (fun y' e => he y' (Sum.inr.inj e))
set_option maxRecDepth 100000 in
set_option maxHeartbeats 4000000 in
theorem w_m_best (σ : Sg) (a1 : Int32) (q : (Int32 × Sg)) (h : s_m_best σ a1 = some q) : Cal M_X12_best 5 [.ref 71, .int a1] σ (some (.int q.1)) q.2 := by
  refine Cal.of (M := M_X12_best) (by decide +kernel) (Nat.le_of_ble_eq_true rfl) ?_
  show Ev _ _ _ _ 0 [(0, .ref 71), (1, .int a1)] [] σ
  unfold s_m_best at h
  refine Ev_aload_n 0 (dt_X12_best.at 0 rfl) rfl ?_
  refine Ev_iload_n 1 (dt_X12_best.at 1 rfl) rfl ?_
  obtain ⟨q1, hq1, h⟩ := oBind h
  refine Ev_callV (st := []) (st' := [.int q1]) [.int a1] (dt_X12_best.at 2 rfl) cf_X12_159 (w_m_isThree σ a1 q1 hq1) (by decide) sk_71 rfl rfl rfl (Nat.le_of_ble_eq_true rfl) rfl ?_
  refine Ev_if_ne (tgt := 15) (dt_X12_best.at 3 rfl) (by decide) (fun c2 => ?_) (fun c2 => ?_)
  · replace h := oNeg h c2
    refine Ev_aload_n 0 (dt_X12_best.at 8 rfl) rfl ?_
    refine Ev_iload_n 1 (dt_X12_best.at 9 rfl) rfl ?_
    obtain ⟨q3, hq3, h⟩ := oBind h
    refine Ev_callV (st := []) (st' := []) [.int a1] (dt_X12_best.at 10 rfl) cf_X12_142 (w_m_takeThree σ a1 q3 hq3) (by decide) sk_71 rfl rfl rfl (Nat.le_of_ble_eq_true rfl) rfl ?_
    refine Ev_iconst (dt_X12_best.at 11 rfl) ki_0 ?_
    refine Ev_istore_n (dt_X12_best.at 12 rfl) (by decide) (ls' := [(2, .int 0), (0, .ref 71), (1, .int a1)]) rfl ?_
    refine Ev_sub [1, 0] (ls' := [(0, .ref 71), (2, .int 0)]) rfl ?_
    obtain ⟨o11, ho11, h⟩ := oBind h
    refine wl_m_best_22  _ _ 100000 (q3, 0) o11 ho11 (fun y ey => ?_)
    subst ey
    refine Ev_iconst (dt_X12_best.at 32 rfl) ki_0 ?_
    refine Ev_istore_n (dt_X12_best.at 33 rfl) (by decide) (ls' := [(2, .int 0), (0, .ref 71)]) rfl ?_
    refine Ev_sub [1, 0] (ls' := [(0, .ref 71), (2, .int 0)]) rfl ?_
    obtain ⟨o33, ho33, h⟩ := oBind h
    refine wl_m_best_59  _ _ 100000 (o11.1, 0) o33 ho33 (fun y ey => ?_)
    subst ey
    refine Ev_iconst (dt_X12_best.at 81 rfl) ki_0 ?_
    refine Ev_istore_n (dt_X12_best.at 82 rfl) (by decide) (ls' := [(2, .int 0), (0, .ref 71)]) rfl ?_
    refine Ev_iconst (dt_X12_best.at 83 rfl) ki_0 ?_
    refine Ev_istore_n (dt_X12_best.at 84 rfl) (by decide) (ls' := [(3, .int 0), (2, .int 0), (0, .ref 71)]) rfl ?_
    refine Ev_sub [2, 1, 0] (ls' := [(0, .ref 71), (2, .int 0), (3, .int 0)]) rfl ?_
    obtain ⟨o41, ho41, h⟩ := oBind h
    refine wl_m_best_151 o33.1 _ _ 100000 (0, 0) o41 ho41 (fun y ey => ?_)
    subst ey
    refine Ev_iload_n 0 (dt_X12_best.at 109 rfl) rfl ?_
    exact Ev_iret (dt_X12_best.at 110 rfl) rfl h
  · replace h := oPos h c2
    refine Ev_aload_n 0 (dt_X12_best.at 4 rfl) rfl ?_
    refine Ev_bipush (dt_X12_best.at 5 rfl) kb_m2 ?_
    obtain ⟨q42, hq42, h⟩ := oBind h
    refine Ev_callV (st := []) (st' := [.int q42.1]) [.int (-2)] (dt_X12_best.at 6 rfl) cf_X12_88 (w_m_bad σ (-2) q42 hq42) (by decide) sk_71 rfl rfl rfl (Nat.le_of_ble_eq_true rfl) rfl ?_
    exact Ev_iret (dt_X12_best.at 7 rfl) rfl h
