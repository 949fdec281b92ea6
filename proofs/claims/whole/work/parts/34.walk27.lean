def b_m_most_36 (v1 : Int32) (x : (Sg × Int32)) : Option ((Sg × Int32) ⊕ (Sg × Int32)) :=
  (s_m_people x.1 ).bind fun q4 =>
  if ((1 : Int32) <<< (q4 &&& 31)) ≤ x.2 then
    some (.inr (x.1, x.2))
  else
    (s_m_bits x.2).bind fun q6 =>
    if q6 = 3 then
      (s_m_goDay x.1 x.2).bind fun q11 =>
      if inB x.2 512 = true then
        lt (pI q11.2 82 (Int32.toNatClampNeg x.2) q11.1 : Sg) fun s13 =>
        lt (x.2 + 1 : Int32) fun x14 =>
        some (.inl (s13, x14))
      else none
    else
      if inB x.2 512 = true then
        lt (pI x.1 82 (Int32.toNatClampNeg x.2) 0 : Sg) fun s9 =>
        lt (x.2 + 1 : Int32) fun x10 =>
        some (.inl (s9, x10))
      else none
def b_m_most_93 (σ : Sg) (v1 : Int32) (v2 : Int32) (x : (Int32 × Int32)) : Option ((Int32 × Int32) ⊕ (Int32 × Int32)) :=
  (s_m_people σ ).bind fun q19 =>
  if (q19 / 3) ≤ x.2 then
    some (.inr (x.1, x.2))
  else
    if inB x.2 3 = true then
      if inB (gI σ 81 (Int32.toNatClampNeg x.2)) 512 = true then
        lt ((x.1 + (gI σ 82 (Int32.toNatClampNeg (gI σ 81 (Int32.toNatClampNeg x.2))))) : Int32) fun x23 =>
        lt (x.2 + 1 : Int32) fun x24 =>
        some (.inl (x23, x24))
      else none
    else none
def b_m_most_135 (v1 : Int32) (v2 : Int32) (x : (Sg × Int32)) : Option ((Sg × Int32) ⊕ (Sg × Int32)) :=
  if 3 ≤ x.2 then
    some (.inr (x.1, x.2))
  else
    if inB x.2 3 = true then
      if inB x.2 3 = true then
        lt (pI x.1 83 (Int32.toNatClampNeg x.2) (gI x.1 81 (Int32.toNatClampNeg x.2)) : Sg) fun s30 =>
        lt (x.2 + 1 : Int32) fun x31 =>
        some (.inl (s30, x31))
      else none
    else none
def b_m_most_81 (v1 : Int32) (x : (Sg × Int32)) : Option ((Sg × Int32) ⊕ (Sg × Int32)) :=
  (s_m_nextAll x.1 ).bind fun q17 =>
  if q17.1 = 0 then
    some (.inr (q17.2, x.2))
  else
    (lp (b_m_most_93 q17.2 v1 x.2) 100000 (0, 0)).bind fun o25 =>
    if o25.1 ≤ x.2 then
      some (.inl (q17.2, x.2))
    else
      (lp (b_m_most_135 v1 o25.1) 100000 (q17.2, 0)).bind fun o32 =>
      some (.inl (o32.1, o25.1))
def b_m_most_169 (σ : Sg) (v1 : Int32) (v2 : Int32) (x : (Int32 × Int32)) : Option ((Int32 × Int32) ⊕ (Int32 × Int32)) :=
  (s_m_people σ ).bind fun q34 =>
  if (q34 / 3) ≤ x.2 then
    some (.inr (x.1, x.2))
  else
    if v1 = (-1) then
      some (.inr (x.1, x.2))
    else
      if inB x.2 3 = true then
        if (((gI σ 83 (Int32.toNatClampNeg x.2)) >>> (v1 &&& 31)) &&& 1) = 1 then
          if inB x.2 3 = true then
            lt ((gI σ 83 (Int32.toNatClampNeg x.2)) : Int32) fun x41 =>
            lt (x.2 + 1 : Int32) fun x42 =>
            some (.inl (x41, x42))
          else none
        else
          lt (x.2 + 1 : Int32) fun x39 =>
          some (.inl (x.1, x39))
      else none
def j_m_most_218  (σ : Sg) (v1 : Int32) (v2 : Int32) (v3 : Int32) : Option (Int32 × Sg) :=
  if v1 = (-1) then
    some (v2, σ)
  else
    some (v3, σ)
def j_m_most_20  (σ : Sg) (v1 : Int32) : Option (Int32 × Sg) :=
  (s_m_areThrees σ ).bind fun q2 =>
  if q2 = 0 then
    (s_m_no σ (-20)).bind fun q45 =>
    some (q45.1, q45.2)
  else
    (lp (b_m_most_36 v1) 100000 (σ, 0)).bind fun o15 =>
    (s_m_noThrees o15.1 ).bind fun q16 =>
    (lp (b_m_most_81 v1) 100000 (q16, (-1))).bind fun o33 =>
    (lp (b_m_most_169 o33.1 v1 o33.2) 100000 ((-1), 0)).bind fun o43 =>
    j_m_most_218  o33.1 v1 o33.2 o43.1
def s_m_most (σ : Sg) (a1 : Int32) : Option (Int32 × Sg) :=
  if a1 = (-1) then
    j_m_most_20  σ a1
  else
    (s_m_isOne σ a1).bind fun q46 =>
    if q46 = 0 then
      (s_m_bad σ (-10)).bind fun q48 =>
      some (q48.1, q48.2)
    else
      j_m_most_20  σ a1
set_option maxRecDepth 100000 in
set_option maxHeartbeats 4000000 in
theorem wb_m_most_36 (v1 : Int32) (x : (Sg × Int32)) (r : Option Value) (τ : Sg) (o : ((Sg × Int32) ⊕ (Sg × Int32))) (h : (b_m_most_36 v1 x) = some o) (hc : ∀ y : (Sg × Int32), o = .inl y → Ev M_X12_most 8 r τ 36 [(0, .ref 71), (1, .int v1), (2, .int y.2)] [] y.1) (he : ∀ y : (Sg × Int32), o = .inr y → Ev M_X12_most 8 r τ 75 [(0, .ref 71), (1, .int v1)] [] y.1) : Ev M_X12_most 8 r τ 36 [(0, .ref 71), (1, .int v1), (2, .int x.2)] [] x.1 := by
  unfold b_m_most_36 at h
  refine Ev_iload_n 2 (dt_X12_most.at 20 rfl) rfl ?_
  refine Ev_iconst (dt_X12_most.at 21 rfl) ki_1 ?_
  refine Ev_aload_n 0 (dt_X12_most.at 22 rfl) rfl ?_
  obtain ⟨q4, hq4, h⟩ := oBind h
  refine Ev_callV (st := [.int 1, .int x.2]) (st' := [.int q4, .int 1, .int x.2]) [] (dt_X12_most.at 23 rfl) cf_X12_70 (w_m_people x.1  q4 hq4) (by decide) sk_71 rfl rfl rfl (Nat.le_of_ble_eq_true rfl) rfl ?_
  refine Ev_ishl (dt_X12_most.at 24 rfl) ?_
  refine Ev_icmp_ge (tgt := 75) (dt_X12_most.at 25 rfl) (by decide) (fun c5 => ?_) (fun c5 => ?_)
  · replace h := oPos h c5
    refine Ev_sub [0, 1] (ls' := [(0, .ref 71), (1, .int v1)]) rfl ?_
    exact he (x.1, x.2) (Option.some.inj h).symm
  · replace h := oNeg h c5
    refine Ev_aload_n 0 (dt_X12_most.at 26 rfl) rfl ?_
    refine Ev_get (i := 13) (v := .ref 82) (dt_X12_most.at 27 rfl) ff_X12_45 sk_71 rfl rfl ?_
    refine Ev_iload_n 2 (dt_X12_most.at 28 rfl) rfl ?_
    refine Ev_iload_n 2 (dt_X12_most.at 29 rfl) rfl ?_
    obtain ⟨q6, hq6, h⟩ := oBind h
    refine Ev_callS (st := [.int x.2, .ref 82]) (st' := [.int q6, .int x.2, .ref 82]) [.int x.2] (dt_X12_most.at 30 rfl) cf_X12_78 (w_m_bits x.1 x.2 q6 hq6) (by decide) rfl rfl (Nat.le_of_ble_eq_true rfl) rfl ?_
    refine Ev_iconst (dt_X12_most.at 31 rfl) ki_3 ?_
    refine Ev_icmp_ne (tgt := 67) (dt_X12_most.at 32 rfl) (by decide) (fun c7 => ?_) (fun c7 => ?_)
    · replace h := oNeg h c7
      refine Ev_iconst (dt_X12_most.at 37 rfl) ki_0 ?_
      obtain ⟨g8, h⟩ := oGuard h
      refine Ev_iastore 82 (dt_X12_most.at 38 rfl) sk_82 g8 ?_
      refine Ev_nmS (fun s9 es9 => ?_)
      replace h := oLt h es9
      obtain ⟨x10, ex10⟩ : ∃ z : Int32, z = x.2 + 1 := ⟨_, rfl⟩
      replace h := oLt h ex10
      refine Ev_iinc (v := x10) 2 (dt_X12_most.at 39 rfl) rfl (ex10.trans (congrArg (fun z => x.2 + z) ki_1.symm)) (by decide) (ls' := [(2, .int x10), (0, .ref 71), (1, .int v1)]) rfl ?_
      refine Ev_goto (tgt := 36) (dt_X12_most.at 40 rfl) (by decide) ?_
      refine Ev_sub [1, 2, 0] (ls' := [(0, .ref 71), (1, .int v1), (2, .int x10)]) rfl ?_
      exact hc (s9, x10) (Option.some.inj h).symm
    · replace h := oPos h c7
      refine Ev_aload_n 0 (dt_X12_most.at 33 rfl) rfl ?_
      refine Ev_iload_n 2 (dt_X12_most.at 34 rfl) rfl ?_
      obtain ⟨q11, hq11, h⟩ := oBind h
      refine Ev_callV (st := [.int x.2, .ref 82]) (st' := [.int q11.1, .int x.2, .ref 82]) [.int x.2] (dt_X12_most.at 35 rfl) cf_X12_164 (w_m_goDay x.1 x.2 q11 hq11) (by decide) sk_71 rfl rfl rfl (Nat.le_of_ble_eq_true rfl) rfl ?_
      refine Ev_goto (tgt := 68) (dt_X12_most.at 36 rfl) (by decide) ?_
      obtain ⟨g12, h⟩ := oGuard h
      refine Ev_iastore 82 (dt_X12_most.at 38 rfl) sk_82 g12 ?_
      refine Ev_nmS (fun s13 es13 => ?_)
      replace h := oLt h es13
      obtain ⟨x14, ex14⟩ : ∃ z : Int32, z = x.2 + 1 := ⟨_, rfl⟩
      replace h := oLt h ex14
      refine Ev_iinc (v := x14) 2 (dt_X12_most.at 39 rfl) rfl (ex14.trans (congrArg (fun z => x.2 + z) ki_1.symm)) (by decide) (ls' := [(2, .int x14), (0, .ref 71), (1, .int v1)]) rfl ?_
      refine Ev_goto (tgt := 36) (dt_X12_most.at 40 rfl) (by decide) ?_
      refine Ev_sub [1, 2, 0] (ls' := [(0, .ref 71), (1, .int v1), (2, .int x14)]) rfl ?_
      exact hc (s13, x14) (Option.some.inj h).symm
set_option maxRecDepth 100000 in
set_option maxHeartbeats 4000000 in
theorem wl_m_most_36 (v1 : Int32) (r : Option Value) (τ : Sg) (n : Nat) (x : (Sg × Int32)) (z : (Sg × Int32)) (h : lp (b_m_most_36 v1) n x = some z) (he : ∀ y : (Sg × Int32), z = y → Ev M_X12_most 8 r τ 75 [(0, .ref 71), (1, .int v1)] [] y.1) : Ev M_X12_most 8 r τ 36 [(0, .ref 71), (1, .int v1), (2, .int x.2)] [] x.1 := by
  refine lp_ind (E := fun x : (Sg × Int32) => Ev M_X12_most 8 r τ 36 [(0, .ref 71), (1, .int v1), (2, .int x.2)] [] x.1) (fun x => ⟨fun y hb hy => ?_, fun hb => ?_⟩) n x h
  · exact wb_m_most_36 v1 x r τ _ hb (fun y' e => by cases e; exact hy) (fun y' e => by cases e)
  · exact wb_m_most_36 v1 x r τ _ hb (fun y' e => by cases e) (fun y' e => he y' (Sum.inr.inj e))
set_option maxRecDepth 100000 in
set_option maxHeartbeats 4000000 in
theorem wb_m_most_93 (σ : Sg) (v1 : Int32) (v2 : Int32) (x : (Int32 × Int32)) (r : Option Value) (τ : Sg) (o : ((Int32 × Int32) ⊕ (Int32 × Int32))) (h : (b_m_most_93 σ v1 v2 x) = some o) (hc : ∀ y : (Int32 × Int32), o = .inl y → Ev M_X12_most 8 r τ 93 [(0, .ref 71), (1, .int v1), (2, .int v2), (3, .int y.1), (4, .int y.2)] [] σ) (he : ∀ y : (Int32 × Int32), o = .inr y → Ev M_X12_most 8 r τ 125 [(0, .ref 71), (1, .int v1), (2, .int v2), (3, .int y.1)] [] σ) : Ev M_X12_most 8 r τ 93 [(0, .ref 71), (1, .int v1), (2, .int v2), (3, .int x.1), (4, .int x.2)] [] σ := by
  unfold b_m_most_93 at h
  refine Ev_iload 4 (dt_X12_most.at 52 rfl) rfl ?_
  refine Ev_aload_n 0 (dt_X12_most.at 53 rfl) rfl ?_
  obtain ⟨q19, hq19, h⟩ := oBind h
  refine Ev_callV (st := [.int x.2]) (st' := [.int q19, .int x.2]) [] (dt_X12_most.at 54 rfl) cf_X12_70 (w_m_people σ  q19 hq19) (by decide) sk_71 rfl rfl rfl (Nat.le_of_ble_eq_true rfl) rfl ?_
  refine Ev_iconst (dt_X12_most.at 55 rfl) ki_3 ?_
  refine Ev_idiv (dt_X12_most.at 56 rfl) (by decide) ?_
  refine Ev_icmp_ge (tgt := 125) (dt_X12_most.at 57 rfl) (by decide) (fun c20 => ?_) (fun c20 => ?_)
  · replace h := oPos h c20
    refine Ev_sub [0, 1, 2, 3] (ls' := [(0, .ref 71), (1, .int v1), (2, .int v2), (3, .int x.1)]) rfl ?_
    exact he (x.1, x.2) (Option.some.inj h).symm
  · replace h := oNeg h c20
    refine Ev_iload_n 3 (dt_X12_most.at 58 rfl) rfl ?_
    refine Ev_aload_n 0 (dt_X12_most.at 59 rfl) rfl ?_
    refine Ev_get (i := 13) (v := .ref 82) (dt_X12_most.at 60 rfl) ff_X12_45 sk_71 rfl rfl ?_
    refine Ev_aload_n 0 (dt_X12_most.at 61 rfl) rfl ?_
    refine Ev_get (i := 12) (v := .ref 81) (dt_X12_most.at 62 rfl) ff_X12_42 sk_71 rfl rfl ?_
    refine Ev_iload 4 (dt_X12_most.at 63 rfl) rfl ?_
    obtain ⟨g21, h⟩ := oGuard h
    refine Ev_iaload 81 (dt_X12_most.at 64 rfl) sk_81 g21 ?_
    obtain ⟨g22, h⟩ := oGuard h
    refine Ev_iaload 82 (dt_X12_most.at 65 rfl) sk_82 g22 ?_
    refine Ev_iadd (dt_X12_most.at 66 rfl) ?_
    refine Ev_nmI (fun x23 ex23 => ?_)
    replace h := oLt h ex23
    refine Ev_istore_n (dt_X12_most.at 67 rfl) (by decide) (ls' := [(3, .int x23), (0, .ref 71), (1, .int v1), (2, .int v2), (4, .int x.2)]) rfl ?_
    obtain ⟨x24, ex24⟩ : ∃ z : Int32, z = x.2 + 1 := ⟨_, rfl⟩
    replace h := oLt h ex24
    refine Ev_iinc (v := x24) 4 (dt_X12_most.at 68 rfl) rfl (ex24.trans (congrArg (fun z => x.2 + z) ki_1.symm)) (by decide) (ls' := [(4, .int x24), (3, .int x23), (0, .ref 71), (1, .int v1), (2, .int v2)]) rfl ?_
    refine Ev_goto (tgt := 93) (dt_X12_most.at 69 rfl) (by decide) ?_
    refine Ev_sub [2, 3, 4, 1, 0] (ls' := [(0, .ref 71), (1, .int v1), (2, .int v2), (3, .int x23), (4, .int x24)]) rfl ?_
    exact hc (x23, x24) (Option.some.inj h).symm
set_option maxRecDepth 100000 in
set_option maxHeartbeats 4000000 in
theorem wl_m_most_93 (σ : Sg) (v1 : Int32) (v2 : Int32) (r : Option Value) (τ : Sg) (n : Nat) (x : (Int32 × Int32)) (z : (Int32 × Int32)) (h : lp (b_m_most_93 σ v1 v2) n x = some z) (he : ∀ y : (Int32 × Int32), z = y → Ev M_X12_most 8 r τ 125 [(0, .ref 71), (1, .int v1), (2, .int v2), (3, .int y.1)] [] σ) : Ev M_X12_most 8 r τ 93 [(0, .ref 71), (1, .int v1), (2, .int v2), (3, .int x.1), (4, .int x.2)] [] σ := by
  refine lp_ind (E := fun x : (Int32 × Int32) => Ev M_X12_most 8 r τ 93 [(0, .ref 71), (1, .int v1), (2, .int v2), (3, .int x.1), (4, .int x.2)] [] σ) (fun x => ⟨fun y hb hy => ?_, fun hb => ?_⟩) n x h
  · exact wb_m_most_93 σ v1 v2 x r τ _ hb (fun y' e => by cases e; exact hy) (fun y' e => by cases e)
  · exact wb_m_most_93 σ v1 v2 x r τ _ hb (fun y' e => by cases e) (fun y' e => he y' (Sum.inr.inj e))
set_option maxRecDepth 100000 in
set_option maxHeartbeats 4000000 in
theorem wb_m_most_135 (v1 : Int32) (v2 : Int32) (x : (Sg × Int32)) (r : Option Value) (τ : Sg) (o : ((Sg × Int32) ⊕ (Sg × Int32))) (h : (b_m_most_135 v1 v2 x) = some o) (hc : ∀ y : (Sg × Int32), o = .inl y → Ev M_X12_most 8 r τ 135 [(0, .ref 71), (1, .int v1), (2, .int v2), (4, .int y.2)] [] y.1) (he : ∀ y : (Sg × Int32), o = .inr y → Ev M_X12_most 8 r τ 161 [(0, .ref 71), (1, .int v1), (2, .int v2)] [] y.1) : Ev M_X12_most 8 r τ 135 [(0, .ref 71), (1, .int v1), (2, .int v2), (4, .int x.2)] [] x.1 := by
  unfold b_m_most_135 at h
  refine Ev_iload 3 (dt_X12_most.at 77 rfl) rfl ?_
  refine Ev_iconst (dt_X12_most.at 78 rfl) ki_3 ?_
  refine Ev_icmp_ge (tgt := 161) (dt_X12_most.at 79 rfl) (by decide) (fun c27 => ?_) (fun c27 => ?_)
  · replace h := oPos h c27
    refine Ev_sub [0, 1, 2] (ls' := [(0, .ref 71), (1, .int v1), (2, .int v2)]) rfl ?_
    exact he (x.1, x.2) (Option.some.inj h).symm
  · replace h := oNeg h c27
    refine Ev_aload_n 0 (dt_X12_most.at 80 rfl) rfl ?_
    refine Ev_get (i := 14) (v := .ref 83) (dt_X12_most.at 81 rfl) ff_X12_48 sk_71 rfl rfl ?_
    refine Ev_iload 3 (dt_X12_most.at 82 rfl) rfl ?_
    refine Ev_aload_n 0 (dt_X12_most.at 83 rfl) rfl ?_
    refine Ev_get (i := 12) (v := .ref 81) (dt_X12_most.at 84 rfl) ff_X12_42 sk_71 rfl rfl ?_
    refine Ev_iload 3 (dt_X12_most.at 85 rfl) rfl ?_
    obtain ⟨g28, h⟩ := oGuard h
    refine Ev_iaload 81 (dt_X12_most.at 86 rfl) sk_81 g28 ?_
    obtain ⟨g29, h⟩ := oGuard h
    refine Ev_iastore 83 (dt_X12_most.at 87 rfl) sk_83 g29 ?_
    refine Ev_nmS (fun s30 es30 => ?_)
    replace h := oLt h es30
    obtain ⟨x31, ex31⟩ : ∃ z : Int32, z = x.2 + 1 := ⟨_, rfl⟩
    replace h := oLt h ex31
    refine Ev_iinc (v := x31) 3 (dt_X12_most.at 88 rfl) rfl (ex31.trans (congrArg (fun z => x.2 + z) ki_1.symm)) (by decide) (ls' := [(4, .int x31), (0, .ref 71), (1, .int v1), (2, .int v2)]) rfl ?_
    refine Ev_goto (tgt := 135) (dt_X12_most.at 89 rfl) (by decide) ?_
    refine Ev_sub [1, 2, 3, 0] (ls' := [(0, .ref 71), (1, .int v1), (2, .int v2), (4, .int x31)]) rfl ?_
    exact hc (s30, x31) (Option.some.inj h).symm
set_option maxRecDepth 100000 in
set_option maxHeartbeats 4000000 in
theorem wl_m_most_135 (v1 : Int32) (v2 : Int32) (r : Option Value) (τ : Sg) (n : Nat) (x : (Sg × Int32)) (z : (Sg × Int32)) (h : lp (b_m_most_135 v1 v2) n x = some z) (he : ∀ y : (Sg × Int32), z = y → Ev M_X12_most 8 r τ 161 [(0, .ref 71), (1, .int v1), (2, .int v2)] [] y.1) : Ev M_X12_most 8 r τ 135 [(0, .ref 71), (1, .int v1), (2, .int v2), (4, .int x.2)] [] x.1 := by
  refine lp_ind (E := fun x : (Sg × Int32) => Ev M_X12_most 8 r τ 135 [(0, .ref 71), (1, .int v1), (2, .int v2), (4, .int x.2)] [] x.1) (fun x => ⟨fun y hb hy => ?_, fun hb => ?_⟩) n x h
  · exact wb_m_most_135 v1 v2 x r τ _ hb (fun y' e => by cases e; exact hy) (fun y' e => by cases e)
  · exact wb_m_most_135 v1 v2 x r τ _ hb (fun y' e => by cases e) (fun y' e => he y' (Sum.inr.inj e))
set_option maxRecDepth 100000 in
set_option maxHeartbeats 4000000 in
theorem wb_m_most_81 (v1 : Int32) (x : (Sg × Int32)) (r : Option Value) (τ : Sg) (o : ((Sg × Int32) ⊕ (Sg × Int32))) (h : (b_m_most_81 v1 x) = some o) (hc : ∀ y : (Sg × Int32), o = .inl y → Ev M_X12_most 8 r τ 81 [(0, .ref 71), (1, .int v1), (2, .int y.2)] [] y.1) (he : ∀ y : (Sg × Int32), o = .inr y → Ev M_X12_most 8 r τ 164 [(0, .ref 71), (1, .int v1), (2, .int y.2)] [] y.1) : Ev M_X12_most 8 r τ 81 [(0, .ref 71), (1, .int v1), (2, .int x.2)] [] x.1 := by
  unfold b_m_most_81 at h
  refine Ev_aload_n 0 (dt_X12_most.at 45 rfl) rfl ?_
  obtain ⟨q17, hq17, h⟩ := oBind h
  refine Ev_callV (st := []) (st' := [.int q17.1]) [] (dt_X12_most.at 46 rfl) cf_X12_189 (w_m_nextAll x.1  q17 hq17) (by decide) sk_71 rfl rfl rfl (Nat.le_of_ble_eq_true rfl) rfl ?_
  refine Ev_if_eq (tgt := 164) (dt_X12_most.at 47 rfl) (by decide) (fun c18 => ?_) (fun c18 => ?_)
  · replace h := oPos h c18
    refine Ev_sub [0, 1, 2] (ls' := [(0, .ref 71), (1, .int v1), (2, .int x.2)]) rfl ?_
    exact he (q17.2, x.2) (Option.some.inj h).symm
  · replace h := oNeg h c18
    refine Ev_iconst (dt_X12_most.at 48 rfl) ki_0 ?_
    refine Ev_istore_n (dt_X12_most.at 49 rfl) (by decide) (ls' := [(3, .int 0), (0, .ref 71), (1, .int v1), (2, .int x.2)]) rfl ?_
    refine Ev_iconst (dt_X12_most.at 50 rfl) ki_0 ?_
    refine Ev_istore (dt_X12_most.at 51 rfl) (by decide) (ls' := [(4, .int 0), (3, .int 0), (0, .ref 71), (1, .int v1), (2, .int x.2)]) rfl ?_
    refine Ev_sub [2, 3, 4, 1, 0] (ls' := [(0, .ref 71), (1, .int v1), (2, .int x.2), (3, .int 0), (4, .int 0)]) rfl ?_
    obtain ⟨o25, ho25, h⟩ := oBind h
    refine wl_m_most_93 q17.2 v1 x.2 _ _ 100000 (0, 0) o25 ho25 (fun y ey => ?_)
    subst ey
    refine Ev_iload_n 3 (dt_X12_most.at 70 rfl) rfl ?_
    refine Ev_iload_n 2 (dt_X12_most.at 71 rfl) rfl ?_
    refine Ev_icmp_le (tgt := 161) (dt_X12_most.at 72 rfl) (by decide) (fun c26 => ?_) (fun c26 => ?_)
    · replace h := oPos h c26
      refine Ev_goto (tgt := 81) (dt_X12_most.at 90 rfl) (by decide) ?_
      refine Ev_sub [0, 1, 2] (ls' := [(0, .ref 71), (1, .int v1), (2, .int x.2)]) rfl ?_
      exact hc (q17.2, x.2) (Option.some.inj h).symm
    · replace h := oNeg h c26
      refine Ev_iload_n 3 (dt_X12_most.at 73 rfl) rfl ?_
      refine Ev_istore_n (dt_X12_most.at 74 rfl) (by decide) (ls' := [(2, .int o25.1), (0, .ref 71), (1, .int v1), (3, .int o25.1)]) rfl ?_
      refine Ev_iconst (dt_X12_most.at 75 rfl) ki_0 ?_
      refine Ev_istore (dt_X12_most.at 76 rfl) (by decide) (ls' := [(4, .int 0), (2, .int o25.1), (0, .ref 71), (1, .int v1), (3, .int o25.1)]) rfl ?_
      refine Ev_sub [2, 3, 1, 0] (ls' := [(0, .ref 71), (1, .int v1), (2, .int o25.1), (4, .int 0)]) rfl ?_
      obtain ⟨o32, ho32, h⟩ := oBind h
      refine wl_m_most_135 v1 o25.1 _ _ 100000 (q17.2, 0) o32 ho32 (fun y ey => ?_)
      subst ey
      refine Ev_goto (tgt := 81) (dt_X12_most.at 90 rfl) (by decide) ?_
      refine Ev_sub [0, 1, 2] (ls' := [(0, .ref 71), (1, .int v1), (2, .int o25.1)]) rfl ?_
      exact hc (o32.1, o25.1) (Option.some.inj h).symm
set_option maxRecDepth 100000 in
set_option maxHeartbeats 4000000 in
theorem wl_m_most_81 (v1 : Int32) (r : Option Value) (τ : Sg) (n : Nat) (x : (Sg × Int32)) (z : (Sg × Int32)) (h : lp (b_m_most_81 v1) n x = some z) (he : ∀ y : (Sg × Int32), z = y → Ev M_X12_most 8 r τ 164 [(0, .ref 71), (1, .int v1), (2, .int y.2)] [] y.1) : Ev M_X12_most 8 r τ 81 [(0, .ref 71), (1, .int v1), (2, .int x.2)] [] x.1 := by
  refine lp_ind (E := fun x : (Sg × Int32) => Ev M_X12_most 8 r τ 81 [(0, .ref 71), (1, .int v1), (2, .int x.2)] [] x.1) (fun x => ⟨fun y hb hy => ?_, fun hb => ?_⟩) n x h
  · exact wb_m_most_81 v1 x r τ _ hb (fun y' e => by cases e; exact hy) (fun y' e => by cases e)
  · exact wb_m_most_81 v1 x r τ _ hb (fun y' e => by cases e) (fun y' e => he y' (Sum.inr.inj e))
set_option maxRecDepth 100000 in
set_option maxHeartbeats 4000000 in
theorem wb_m_most_169 (σ : Sg) (v1 : Int32) (v2 : Int32) (x : (Int32 × Int32)) (r : Option Value) (τ : Sg) (o : ((Int32 × Int32) ⊕ (Int32 × Int32))) (h : (b_m_most_169 σ v1 v2 x) = some o) (hc : ∀ y : (Int32 × Int32), o = .inl y → Ev M_X12_most 8 r τ 169 [(0, .ref 71), (1, .int v1), (2, .int v2), (3, .int y.1), (4, .int y.2)] [] σ) (he : ∀ y : (Int32 × Int32), o = .inr y → Ev M_X12_most 8 r τ 218 [(1, .int v1), (2, .int v2), (3, .int y.1)] [] σ) : Ev M_X12_most 8 r τ 169 [(0, .ref 71), (1, .int v1), (2, .int v2), (3, .int x.1), (4, .int x.2)] [] σ := by
  unfold b_m_most_169 at h
  refine Ev_iload 4 (dt_X12_most.at 95 rfl) rfl ?_
  refine Ev_aload_n 0 (dt_X12_most.at 96 rfl) rfl ?_
  obtain ⟨q34, hq34, h⟩ := oBind h
  refine Ev_callV (st := [.int x.2]) (st' := [.int q34, .int x.2]) [] (dt_X12_most.at 97 rfl) cf_X12_70 (w_m_people σ  q34 hq34) (by decide) sk_71 rfl rfl rfl (Nat.le_of_ble_eq_true rfl) rfl ?_
  refine Ev_iconst (dt_X12_most.at 98 rfl) ki_3 ?_
  refine Ev_idiv (dt_X12_most.at 99 rfl) (by decide) ?_
  refine Ev_icmp_ge (tgt := 218) (dt_X12_most.at 100 rfl) (by decide) (fun c35 => ?_) (fun c35 => ?_)
  · replace h := oPos h c35
    refine Ev_sub [1, 2, 3] (ls' := [(1, .int v1), (2, .int v2), (3, .int x.1)]) rfl ?_
    exact he (x.1, x.2) (Option.some.inj h).symm
  · replace h := oNeg h c35
    refine Ev_iload_n 1 (dt_X12_most.at 101 rfl) rfl ?_
    refine Ev_iconst (dt_X12_most.at 102 rfl) ki_m1 ?_
    refine Ev_icmp_eq (tgt := 218) (dt_X12_most.at 103 rfl) (by decide) (fun c36 => ?_) (fun c36 => ?_)
    · replace h := oPos h c36
      refine Ev_sub [1, 2, 3] (ls' := [(1, .int v1), (2, .int v2), (3, .int x.1)]) rfl ?_
      exact he (x.1, x.2) (Option.some.inj h).symm
    · replace h := oNeg h c36
      refine Ev_aload_n 0 (dt_X12_most.at 104 rfl) rfl ?_
      refine Ev_get (i := 14) (v := .ref 83) (dt_X12_most.at 105 rfl) ff_X12_48 sk_71 rfl rfl ?_
      refine Ev_iload 4 (dt_X12_most.at 106 rfl) rfl ?_
      obtain ⟨g37, h⟩ := oGuard h
      refine Ev_iaload 83 (dt_X12_most.at 107 rfl) sk_83 g37 ?_
      refine Ev_iload_n 1 (dt_X12_most.at 108 rfl) rfl ?_
      refine Ev_ishr (dt_X12_most.at 109 rfl) ?_
      refine Ev_iconst (dt_X12_most.at 110 rfl) ki_1 ?_
      refine Ev_iand (dt_X12_most.at 111 rfl) ?_
      refine Ev_iconst (dt_X12_most.at 112 rfl) ki_1 ?_
      refine Ev_icmp_ne (tgt := 210) (dt_X12_most.at 113 rfl) (by decide) (fun c38 => ?_) (fun c38 => ?_)
      · replace h := oNeg h c38
        refine Ev_iload_n 3 (dt_X12_most.at 119 rfl) rfl ?_
        refine Ev_istore_n (dt_X12_most.at 120 rfl) (by decide) (ls' := [(3, .int x.1), (0, .ref 71), (1, .int v1), (2, .int v2), (4, .int x.2)]) rfl ?_
        obtain ⟨x39, ex39⟩ : ∃ z : Int32, z = x.2 + 1 := ⟨_, rfl⟩
        replace h := oLt h ex39
        refine Ev_iinc (v := x39) 4 (dt_X12_most.at 121 rfl) rfl (ex39.trans (congrArg (fun z => x.2 + z) ki_1.symm)) (by decide) (ls' := [(4, .int x39), (3, .int x.1), (0, .ref 71), (1, .int v1), (2, .int v2)]) rfl ?_
        refine Ev_goto (tgt := 169) (dt_X12_most.at 122 rfl) (by decide) ?_
        refine Ev_sub [2, 3, 4, 1, 0] (ls' := [(0, .ref 71), (1, .int v1), (2, .int v2), (3, .int x.1), (4, .int x39)]) rfl ?_
        exact hc (x.1, x39) (Option.some.inj h).symm
      · replace h := oPos h c38
        refine Ev_aload_n 0 (dt_X12_most.at 114 rfl) rfl ?_
        refine Ev_get (i := 14) (v := .ref 83) (dt_X12_most.at 115 rfl) ff_X12_48 sk_71 rfl rfl ?_
        refine Ev_iload 4 (dt_X12_most.at 116 rfl) rfl ?_
        obtain ⟨g40, h⟩ := oGuard h
        refine Ev_iaload 83 (dt_X12_most.at 117 rfl) sk_83 g40 ?_
        refine Ev_goto (tgt := 211) (dt_X12_most.at 118 rfl) (by decide) ?_
        refine Ev_nmI (fun x41 ex41 => ?_)
        replace h := oLt h ex41
        refine Ev_istore_n (dt_X12_most.at 120 rfl) (by decide) (ls' := [(3, .int x41), (0, .ref 71), (1, .int v1), (2, .int v2), (4, .int x.2)]) rfl ?_
        obtain ⟨x42, ex42⟩ : ∃ z : Int32, z = x.2 + 1 := ⟨_, rfl⟩
        replace h := oLt h ex42
        refine Ev_iinc (v := x42) 4 (dt_X12_most.at 121 rfl) rfl (ex42.trans (congrArg (fun z => x.2 + z) ki_1.symm)) (by decide) (ls' := [(4, .int x42), (3, .int x41), (0, .ref 71), (1, .int v1), (2, .int v2)]) rfl ?_
        refine Ev_goto (tgt := 169) (dt_X12_most.at 122 rfl) (by decide) ?_
        refine Ev_sub [2, 3, 4, 1, 0] (ls' := [(0, .ref 71), (1, .int v1), (2, .int v2), (3, .int x41), (4, .int x42)]) rfl ?_
        exact hc (x41, x42) (Option.some.inj h).symm
set_option maxRecDepth 100000 in
set_option maxHeartbeats 4000000 in
theorem wl_m_most_169 (σ : Sg) (v1 : Int32) (v2 : Int32) (r : Option Value) (τ : Sg) (n : Nat) (x : (Int32 × Int32)) (z : (Int32 × Int32)) (h : lp (b_m_most_169 σ v1 v2) n x = some z) (he : ∀ y : (Int32 × Int32), z = y → Ev M_X12_most 8 r τ 218 [(1, .int v1), (2, .int v2), (3, .int y.1)] [] σ) : Ev M_X12_most 8 r τ 169 [(0, .ref 71), (1, .int v1), (2, .int v2), (3, .int x.1), (4, .int x.2)] [] σ := by
  refine lp_ind (E := fun x : (Int32 × Int32) => Ev M_X12_most 8 r τ 169 [(0, .ref 71), (1, .int v1), (2, .int v2), (3, .int x.1), (4, .int x.2)] [] σ) (fun x => ⟨fun y hb hy => ?_, fun hb => ?_⟩) n x h
  · exact wb_m_most_169 σ v1 v2 x r τ _ hb (fun y' e => by cases e; exact hy) (fun y' e => by cases e)
  · exact wb_m_most_169 σ v1 v2 x r τ _ hb (fun y' e => by cases e) (fun y' e => he y' (Sum.inr.inj e))
set_option maxRecDepth 100000 in
set_option maxHeartbeats 4000000 in
theorem wj_m_most_218  (σ : Sg) (v1 : Int32) (v2 : Int32) (v3 : Int32) (q : (Int32 × Sg)) (h : (j_m_most_218  σ v1 v2 v3) = some q) : Ev M_X12_most 8 (some (.int q.1)) q.2 218 [(1, .int v1), (2, .int v2), (3, .int v3)] [] σ := by
  unfold j_m_most_218 at h
  refine Ev_iload_n 0 (dt_X12_most.at 123 rfl) rfl ?_
  refine Ev_iconst (dt_X12_most.at 124 rfl) ki_m1 ?_
  refine Ev_icmp_ne (tgt := 227) (dt_X12_most.at 125 rfl) (by decide) (fun c44 => ?_) (fun c44 => ?_)
  · replace h := oNeg h c44
    refine Ev_iload_n 2 (dt_X12_most.at 128 rfl) rfl ?_
    exact Ev_iret (dt_X12_most.at 129 rfl) rfl h
  · replace h := oPos h c44
    refine Ev_iload_n 1 (dt_X12_most.at 126 rfl) rfl ?_
    refine Ev_goto (tgt := 228) (dt_X12_most.at 127 rfl) (by decide) ?_
    exact Ev_iret (dt_X12_most.at 129 rfl) rfl h
set_option maxRecDepth 100000 in
set_option maxHeartbeats 4000000 in
theorem wj_m_most_20  (σ : Sg) (v1 : Int32) (q : (Int32 × Sg)) (h : (j_m_most_20  σ v1) = some q) : Ev M_X12_most 8 (some (.int q.1)) q.2 20 [(0, .ref 71), (1, .int v1)] [] σ := by
  unfold j_m_most_20 at h
  refine Ev_aload_n 0 (dt_X12_most.at 11 rfl) rfl ?_
  obtain ⟨q2, hq2, h⟩ := oBind h
  refine Ev_callV (st := []) (st' := [.int q2]) [] (dt_X12_most.at 12 rfl) cf_X12_183 (w_m_areThrees σ  q2 hq2) (by decide) sk_71 rfl rfl rfl (Nat.le_of_ble_eq_true rfl) rfl ?_
  refine Ev_if_ne (tgt := 34) (dt_X12_most.at 13 rfl) (by decide) (fun c3 => ?_) (fun c3 => ?_)
  · replace h := oNeg h c3
    refine Ev_iconst (dt_X12_most.at 18 rfl) ki_0 ?_
    refine Ev_istore_n (dt_X12_most.at 19 rfl) (by decide) (ls' := [(2, .int 0), (0, .ref 71), (1, .int v1)]) rfl ?_
    refine Ev_sub [1, 2, 0] (ls' := [(0, .ref 71), (1, .int v1), (2, .int 0)]) rfl ?_
    obtain ⟨o15, ho15, h⟩ := oBind h
    refine wl_m_most_36 v1 _ _ 100000 (σ, 0) o15 ho15 (fun y ey => ?_)
    subst ey
    refine Ev_iconst (dt_X12_most.at 41 rfl) ki_m1 ?_
    refine Ev_istore_n (dt_X12_most.at 42 rfl) (by decide) (ls' := [(2, .int (-1)), (0, .ref 71), (1, .int v1)]) rfl ?_
    refine Ev_aload_n 1 (dt_X12_most.at 43 rfl) rfl ?_
    obtain ⟨q16, hq16, h⟩ := oBind h
    refine Ev_callV (st := []) (st' := []) [] (dt_X12_most.at 44 rfl) cf_X12_186 (w_m_noThrees o15.1  q16 hq16) (by decide) sk_71 rfl rfl rfl (Nat.le_of_ble_eq_true rfl) rfl ?_
    refine Ev_sub [1, 2, 0] (ls' := [(0, .ref 71), (1, .int v1), (2, .int (-1))]) rfl ?_
    obtain ⟨o33, ho33, h⟩ := oBind h
    refine wl_m_most_81 v1 _ _ 100000 (q16, (-1)) o33 ho33 (fun y ey => ?_)
    subst ey
    refine Ev_iconst (dt_X12_most.at 91 rfl) ki_m1 ?_
    refine Ev_istore_n (dt_X12_most.at 92 rfl) (by decide) (ls' := [(3, .int (-1)), (0, .ref 71), (1, .int v1), (2, .int o33.2)]) rfl ?_
    refine Ev_iconst (dt_X12_most.at 93 rfl) ki_0 ?_
    refine Ev_istore (dt_X12_most.at 94 rfl) (by decide) (ls' := [(4, .int 0), (3, .int (-1)), (0, .ref 71), (1, .int v1), (2, .int o33.2)]) rfl ?_
    refine Ev_sub [2, 3, 4, 1, 0] (ls' := [(0, .ref 71), (1, .int v1), (2, .int o33.2), (3, .int (-1)), (4, .int 0)]) rfl ?_
    obtain ⟨o43, ho43, h⟩ := oBind h
    refine wl_m_most_169 o33.1 v1 o33.2 _ _ 100000 ((-1), 0) o43 ho43 (fun y ey => ?_)
    subst ey
    refine Ev_sub [0, 1, 2] (ls' := [(1, .int v1), (2, .int o33.2), (3, .int o43.1)]) rfl ?_
    exact wj_m_most_218  o33.1 v1 o33.2 o43.1 q h
  · replace h := oPos h c3
    refine Ev_aload_n 0 (dt_X12_most.at 14 rfl) rfl ?_
    refine Ev_bipush (dt_X12_most.at 15 rfl) kb_m20 ?_
    obtain ⟨q45, hq45, h⟩ := oBind h
    refine Ev_callV (st := []) (st' := [.int q45.1]) [.int (-20)] (dt_X12_most.at 16 rfl) cf_X12_113 (w_m_no σ (-20) q45 hq45) (by decide) sk_71 rfl rfl rfl (Nat.le_of_ble_eq_true rfl) rfl ?_
    exact Ev_iret (dt_X12_most.at 17 rfl) rfl h
set_option maxRecDepth 100000 in
set_option maxHeartbeats 4000000 in
theorem w_m_most (σ : Sg) (a1 : Int32) (q : (Int32 × Sg)) (h : s_m_most σ a1 = some q) : Cal M_X12_most 8 [.ref 71, .int a1] σ (some (.int q.1)) q.2 := by
  refine Cal.of (M := M_X12_most) (by decide +kernel) (Nat.le_of_ble_eq_true rfl) ?_
  show Ev _ _ _ _ 0 [(0, .ref 71), (1, .int a1)] [] σ
  unfold s_m_most at h
  refine Ev_iload_n 1 (dt_X12_most.at 0 rfl) rfl ?_
  refine Ev_iconst (dt_X12_most.at 1 rfl) ki_m1 ?_
  refine Ev_icmp_eq (tgt := 20) (dt_X12_most.at 2 rfl) (by decide) (fun c1 => ?_) (fun c1 => ?_)
  · replace h := oPos h c1
    refine Ev_sub [0, 1] (ls' := [(0, .ref 71), (1, .int a1)]) rfl ?_
    exact wj_m_most_20  σ a1 q h
  · replace h := oNeg h c1
    refine Ev_aload_n 0 (dt_X12_most.at 3 rfl) rfl ?_
    refine Ev_iload_n 1 (dt_X12_most.at 4 rfl) rfl ?_
    obtain ⟨q46, hq46, h⟩ := oBind h
    refine Ev_callV (st := []) (st' := [.int q46]) [.int a1] (dt_X12_most.at 5 rfl) cf_X12_105 (w_m_isOne σ a1 q46 hq46) (by decide) sk_71 rfl rfl rfl (Nat.le_of_ble_eq_true rfl) rfl ?_
    refine Ev_if_ne (tgt := 20) (dt_X12_most.at 6 rfl) (by decide) (fun c47 => ?_) (fun c47 => ?_)
    · replace h := oNeg h c47
      refine Ev_sub [0, 1] (ls' := [(0, .ref 71), (1, .int a1)]) rfl ?_
      exact wj_m_most_20  σ a1 q h
    · replace h := oPos h c47
      refine Ev_aload_n 0 (dt_X12_most.at 7 rfl) rfl ?_
      refine Ev_bipush (dt_X12_most.at 8 rfl) kb_m10 ?_
      obtain ⟨q48, hq48, h⟩ := oBind h
      refine Ev_callV (st := []) (st' := [.int q48.1]) [.int (-10)] (dt_X12_most.at 9 rfl) cf_X12_88 (w_m_bad σ (-10) q48 hq48) (by decide) sk_71 rfl rfl rfl (Nat.le_of_ble_eq_true rfl) rfl ?_
      exact Ev_iret (dt_X12_most.at 10 rfl) rfl h
def b_m_lot_125 (σ : Sg) (v2 : Int32) (v3 : Int64) (v5 : Int32) (v6 : Int32) (v7 : Int32) (v8 : Int32) (v9 : Int32) (x : (Int32 × Int32)) : Option ((Int32 × Int32) ⊕ (Int32 × Int32)) :=
  if v9 ≤ x.2 then
    some (.inr (x.1, x.2))
  else
    lt ((x.1 &&& (x.1 - 1)) : Int32) fun x21 =>
    lt (x.2 + 1 : Int32) fun x22 =>
    some (.inl (x21, x22))
def b_m_lot_83 (σ : Sg) (v2 : Int32) (v6 : Int32) (x : (Int64 × Int32 × Int32 × Int32)) : Option ((Int64 × Int32 × Int32 × Int32) ⊕ (Int64 × Int32 × Int32 × Int32)) :=
  if 2 ≤ x.2.2.2 then
    some (.inr (x.1, x.2.1, x.2.2.1, x.2.2.2))
  else
    lt ((((x.1 * 1103515245) + 12345) - ((x.1 * 1103515245) + 12345) / 2147483648 * 2147483648) : Int64) fun x16 =>
    (s_m_bits x.2.1).bind fun q17 =>
    if ¬ (Int32.toInt64 q17) = 0 then
      lt ((Int64.toInt32 ((x16 / 65536) - (x16 / 65536) / (Int32.toInt64 q17) * (Int32.toInt64 q17))) : Int32) fun x19 =>
      (lp (b_m_lot_125 σ v2 x16 x.2.1 v6 x.2.2.1 x.2.2.2 x19) 100000 (x.2.1, 0)).bind fun o23 =>
      (s_m_least o23.1).bind fun q24 =>
      lt (((1 : Int32) <<< (q24 &&& 31)) : Int32) fun x25 =>
      lt ((x.2.2.1 ||| x25) : Int32) fun x26 =>
      lt ((x.2.1 &&& (x25 ^^^ (-1))) : Int32) fun x27 =>
      lt (x.2.2.2 + 1 : Int32) fun x28 =>
      some (.inl (x16, x27, x26, x28))
    else none
def b_m_lot_57 (σ : Sg) (v2 : Int32) (x : (Int64 × Int32 × Int32)) : Option ((Int64 × Int32 × Int32) ⊕ (Int64 × Int32 × Int32)) :=
  if x.2.1 = 0 then
    some (.inr (x.1, x.2.1, x.2.2))
  else
    (s_m_least x.2.1).bind fun q12 =>
    lt (((1 : Int32) <<< (q12 &&& 31)) : Int32) fun x13 =>
    lt ((x.2.1 &&& (x13 ^^^ (-1))) : Int32) fun x14 =>
    (lp (b_m_lot_83 σ v2 x.2.2) 100000 (x.1, x14, x13, 0)).bind fun o29 =>
    if ((o29.2.2.1 >>> (v2 &&& 31)) &&& 1) = 1 then
      some (.inl (o29.1, o29.2.1, o29.2.2.1))
    else
      some (.inl (o29.1, o29.2.1, x.2.2))
def s_m_lot (σ : Sg) (a1 : Int32) (a2 : Int32) : Option (Int32 × Sg) :=
  (s_m_in (Int32.toInt64 a1) 0 999999).bind fun q1 =>
  if q1 = 0 then
    (s_m_bad σ (-2)).bind fun q3 =>
    some (q3.1, q3.2)
  else
    (s_m_isOne σ a2).bind fun q4 =>
    if q4 = 0 then
      (s_m_bad σ (-2)).bind fun q33 =>
      some (q33.1, q33.2)
    else
      (s_m_areThrees σ ).bind fun q6 =>
      if q6 = 0 then
        (s_m_no σ (-3)).bind fun q32 =>
        some (q32.1, q32.2)
      else
        lt ((Int32.toInt64 a1) : Int64) fun x8 =>
        (s_m_people σ ).bind fun q9 =>
        lt ((((1 : Int32) <<< (q9 &&& 31)) - 1) : Int32) fun x10 =>
        (lp (b_m_lot_57 σ a2) 100000 (x8, x10, (-1))).bind fun o31 =>
        some (o31.2.2, σ)
set_option maxRecDepth 100000 in
set_option maxHeartbeats 4000000 in
theorem wb_m_lot_125 (σ : Sg) (v2 : Int32) (v3 : Int64) (v5 : Int32) (v6 : Int32) (v7 : Int32) (v8 : Int32) (v9 : Int32) (x : (Int32 × Int32)) (r : Option Value) (τ : Sg) (o : ((Int32 × Int32) ⊕ (Int32 × Int32))) (h : (b_m_lot_125 σ v2 v3 v5 v6 v7 v8 v9 x) = some o) (hc : ∀ y : (Int32 × Int32), o = .inl y → Ev M_X12_lot 2 r τ 125 [(2, .int v2), (3, .long v3), (5, .int v5), (6, .int v6), (7, .int v7), (8, .int v8), (9, .int v9), (10, .int y.1), (11, .int y.2)] [] σ) (he : ∀ y : (Int32 × Int32), o = .inr y → Ev M_X12_lot 2 r τ 147 [(2, .int v2), (3, .long v3), (5, .int v5), (6, .int v6), (7, .int v7), (8, .int v8), (10, .int y.1)] [] σ) : Ev M_X12_lot 2 r τ 125 [(2, .int v2), (3, .long v3), (5, .int v5), (6, .int v6), (7, .int v7), (8, .int v8), (9, .int v9), (10, .int x.1), (11, .int x.2)] [] σ := by
  unfold b_m_lot_125 at h
  refine Ev_iload 8 (dt_X12_lot.at 72 rfl) rfl ?_
  refine Ev_iload 6 (dt_X12_lot.at 73 rfl) rfl ?_
  refine Ev_icmp_ge (tgt := 147) (dt_X12_lot.at 74 rfl) (by decide) (fun c20 => ?_) (fun c20 => ?_)
  · replace h := oPos h c20
    refine Ev_sub [0, 1, 2, 3, 4, 5, 7] (ls' := [(2, .int v2), (3, .long v3), (5, .int v5), (6, .int v6), (7, .int v7), (8, .int v8), (10, .int x.1)]) rfl ?_
    exact he (x.1, x.2) (Option.some.inj h).symm
  · replace h := oNeg h c20
    refine Ev_iload 7 (dt_X12_lot.at 75 rfl) rfl ?_
    refine Ev_iload 7 (dt_X12_lot.at 76 rfl) rfl ?_
    refine Ev_iconst (dt_X12_lot.at 77 rfl) ki_1 ?_
    refine Ev_isub (dt_X12_lot.at 78 rfl) ?_
    refine Ev_iand (dt_X12_lot.at 79 rfl) ?_
    refine Ev_nmI (fun x21 ex21 => ?_)
    replace h := oLt h ex21
    refine Ev_istore (dt_X12_lot.at 80 rfl) (by decide) (ls' := [(10, .int x21), (2, .int v2), (3, .long v3), (5, .int v5), (6, .int v6), (7, .int v7), (8, .int v8), (9, .int v9), (11, .int x.2)]) rfl ?_
    obtain ⟨x22, ex22⟩ : ∃ z : Int32, z = x.2 + 1 := ⟨_, rfl⟩
    replace h := oLt h ex22
    refine Ev_iinc (v := x22) 8 (dt_X12_lot.at 81 rfl) rfl (ex22.trans (congrArg (fun z => x.2 + z) ki_1.symm)) (by decide) (ls' := [(11, .int x22), (10, .int x21), (2, .int v2), (3, .long v3), (5, .int v5), (6, .int v6), (7, .int v7), (8, .int v8), (9, .int v9)]) rfl ?_
    refine Ev_goto (tgt := 125) (dt_X12_lot.at 82 rfl) (by decide) ?_
    refine Ev_sub [2, 3, 4, 5, 6, 7, 8, 1, 0] (ls' := [(2, .int v2), (3, .long v3), (5, .int v5), (6, .int v6), (7, .int v7), (8, .int v8), (9, .int v9), (10, .int x21), (11, .int x22)]) rfl ?_
    exact hc (x21, x22) (Option.some.inj h).symm
set_option maxRecDepth 100000 in
set_option maxHeartbeats 4000000 in
theorem wl_m_lot_125 (σ : Sg) (v2 : Int32) (v3 : Int64) (v5 : Int32) (v6 : Int32) (v7 : Int32) (v8 : Int32) (v9 : Int32) (r : Option Value) (τ : Sg) (n : Nat) (x : (Int32 × Int32)) (z : (Int32 × Int32)) (h : lp (b_m_lot_125 σ v2 v3 v5 v6 v7 v8 v9) n x = some z) (he : ∀ y : (Int32 × Int32), z = y → Ev M_X12_lot 2 r τ 147 [(2, .int v2), (3, .long v3), (5, .int v5), (6, .int v6), (7, .int v7), (8, .int v8), (10, .int y.1)] [] σ) : Ev M_X12_lot 2 r τ 125 [(2, .int v2), (3, .long v3), (5, .int v5), (6, .int v6), (7, .int v7), (8, .int v8), (9, .int v9), (10, .int x.1), (11, .int x.2)] [] σ := by
  refine lp_ind (E := fun x : (Int32 × Int32) => Ev M_X12_lot 2 r τ 125 [(2, .int v2), (3, .long v3), (5, .int v5), (6, .int v6), (7, .int v7), (8, .int v8), (9, .int v9), (10, .int x.1), (11, .int x.2)] [] σ) (fun x => ⟨fun y hb hy => ?_, fun hb => ?_⟩) n x h
  · exact wb_m_lot_125 σ v2 v3 v5 v6 v7 v8 v9 x r τ _ hb (fun y' e => by cases e; exact hy) (fun y' e => by cases e)
  · exact wb_m_lot_125 σ v2 v3 v5 v6 v7 v8 v9 x r τ _ hb (fun y' e => by cases e) (fun y' e => he y' (Sum.inr.inj e))
set_option maxRecDepth 100000 in
set_option maxHeartbeats 4000000 in
theorem wb_m_lot_83 (σ : Sg) (v2 : Int32) (v6 : Int32) (x : (Int64 × Int32 × Int32 × Int32)) (r : Option Value) (τ : Sg) (o : ((Int64 × Int32 × Int32 × Int32) ⊕ (Int64 × Int32 × Int32 × Int32))) (h : (b_m_lot_83 σ v2 v6 x) = some o) (hc : ∀ y : (Int64 × Int32 × Int32 × Int32), o = .inl y → Ev M_X12_lot 2 r τ 83 [(2, .int v2), (3, .long y.1), (5, .int y.2.1), (6, .int v6), (7, .int y.2.2.1), (8, .int y.2.2.2)] [] σ) (he : ∀ y : (Int64 × Int32 × Int32 × Int32), o = .inr y → Ev M_X12_lot 2 r τ 178 [(2, .int v2), (3, .long y.1), (5, .int y.2.1), (6, .int v6), (7, .int y.2.2.1)] [] σ) : Ev M_X12_lot 2 r τ 83 [(2, .int v2), (3, .long x.1), (5, .int x.2.1), (6, .int v6), (7, .int x.2.2.1), (8, .int x.2.2.2)] [] σ := by
  unfold b_m_lot_83 at h
  refine Ev_iload 5 (dt_X12_lot.at 48 rfl) rfl ?_
  refine Ev_iconst (dt_X12_lot.at 49 rfl) ki_2 ?_
  refine Ev_icmp_ge (tgt := 178) (dt_X12_lot.at 50 rfl) (by decide) (fun c15 => ?_) (fun c15 => ?_)
  · replace h := oPos h c15
    refine Ev_sub [0, 1, 2, 3, 4] (ls' := [(2, .int v2), (3, .long x.1), (5, .int x.2.1), (6, .int v6), (7, .int x.2.2.1)]) rfl ?_
    exact he (x.1, x.2.1, x.2.2.1, x.2.2.2) (Option.some.inj h).symm
  · replace h := oNeg h c15
    refine Ev_lload_n 1 (dt_X12_lot.at 51 rfl) rfl ?_
    refine Ev_ldc2 (dt_X12_lot.at 52 rfl) cl_X12_194 ?_
    refine Ev_lmul (dt_X12_lot.at 53 rfl) ?_
    refine Ev_ldc2 (dt_X12_lot.at 54 rfl) cl_X12_196 ?_
    refine Ev_ladd (dt_X12_lot.at 55 rfl) ?_
    refine Ev_ldc2 (dt_X12_lot.at 56 rfl) cl_X12_198 ?_
    refine Ev_lrem (dt_X12_lot.at 57 rfl) (by decide) ?_
    refine Ev_nmL (fun x16 ex16 => ?_)
    replace h := oLt h ex16
    refine Ev_lstore_n (dt_X12_lot.at 58 rfl) (by decide) (ls' := [(3, .long x16), (2, .int v2), (5, .int x.2.1), (6, .int v6), (7, .int x.2.2.1), (8, .int x.2.2.2)]) rfl ?_
    refine Ev_lload_n 0 (dt_X12_lot.at 59 rfl) rfl ?_
    refine Ev_ldc2 (dt_X12_lot.at 60 rfl) cl_X12_200 ?_
    refine Ev_ldiv (dt_X12_lot.at 61 rfl) (by decide) ?_
    refine Ev_iload 2 (dt_X12_lot.at 62 rfl) rfl ?_
    obtain ⟨q17, hq17, h⟩ := oBind h
    refine Ev_callS (st := [.long (x16 / 65536)]) (st' := [.int q17, .long (x16 / 65536)]) [.int x.2.1] (dt_X12_lot.at 63 rfl) cf_X12_78 (w_m_bits σ x.2.1 q17 hq17) (by decide) rfl rfl (Nat.le_of_ble_eq_true rfl) rfl ?_
    refine Ev_i2l (dt_X12_lot.at 64 rfl) ?_
    obtain ⟨g18, h⟩ := oGuard h
    refine Ev_lrem (dt_X12_lot.at 65 rfl) g18 ?_
    refine Ev_l2i (dt_X12_lot.at 66 rfl) ?_
    refine Ev_nmI (fun x19 ex19 => ?_)
    replace h := oLt h ex19
    refine Ev_istore (dt_X12_lot.at 67 rfl) (by decide) (ls' := [(9, .int x19), (3, .long x16), (2, .int v2), (5, .int x.2.1), (6, .int v6), (7, .int x.2.2.1), (8, .int x.2.2.2)]) rfl ?_
    refine Ev_iload 3 (dt_X12_lot.at 68 rfl) rfl ?_
    refine Ev_istore (dt_X12_lot.at 69 rfl) (by decide) (ls' := [(10, .int x.2.1), (9, .int x19), (3, .long x16), (2, .int v2), (5, .int x.2.1), (6, .int v6), (7, .int x.2.2.1), (8, .int x.2.2.2)]) rfl ?_
    refine Ev_iconst (dt_X12_lot.at 70 rfl) ki_0 ?_
    refine Ev_istore (dt_X12_lot.at 71 rfl) (by decide) (ls' := [(11, .int 0), (10, .int x.2.1), (9, .int x19), (3, .long x16), (2, .int v2), (5, .int x.2.1), (6, .int v6), (7, .int x.2.2.1), (8, .int x.2.2.2)]) rfl ?_
    refine Ev_sub [4, 3, 5, 6, 7, 8, 2, 1, 0] (ls' := [(2, .int v2), (3, .long x16), (5, .int x.2.1), (6, .int v6), (7, .int x.2.2.1), (8, .int x.2.2.2), (9, .int x19), (10, .int x.2.1), (11, .int 0)]) rfl ?_
    obtain ⟨o23, ho23, h⟩ := oBind h
    refine wl_m_lot_125 σ v2 x16 x.2.1 v6 x.2.2.1 x.2.2.2 x19 _ _ 100000 (x.2.1, 0) o23 ho23 (fun y ey => ?_)
    subst ey
    refine Ev_iconst (dt_X12_lot.at 83 rfl) ki_1 ?_
    refine Ev_iload 6 (dt_X12_lot.at 84 rfl) rfl ?_
    obtain ⟨q24, hq24, h⟩ := oBind h
    refine Ev_callS (st := [.int 1]) (st' := [.int q24, .int 1]) [.int o23.1] (dt_X12_lot.at 85 rfl) cf_X12_177 (w_m_least σ o23.1 q24 hq24) (by decide) rfl rfl (Nat.le_of_ble_eq_true rfl) rfl ?_
    refine Ev_ishl (dt_X12_lot.at 86 rfl) ?_
    refine Ev_nmI (fun x25 ex25 => ?_)
    replace h := oLt h ex25
    refine Ev_istore (dt_X12_lot.at 87 rfl) (by decide) (ls' := [(11, .int x25), (2, .int v2), (3, .long x16), (5, .int x.2.1), (6, .int v6), (7, .int x.2.2.1), (8, .int x.2.2.2), (10, .int o23.1)]) rfl ?_
    refine Ev_iload 5 (dt_X12_lot.at 88 rfl) rfl ?_
    refine Ev_iload 0 (dt_X12_lot.at 89 rfl) rfl ?_
    refine Ev_ior (dt_X12_lot.at 90 rfl) ?_
    refine Ev_nmI (fun x26 ex26 => ?_)
    replace h := oLt h ex26
    refine Ev_istore (dt_X12_lot.at 91 rfl) (by decide) (ls' := [(7, .int x26), (11, .int x25), (2, .int v2), (3, .long x16), (5, .int x.2.1), (6, .int v6), (8, .int x.2.2.2), (10, .int o23.1)]) rfl ?_
    refine Ev_iload 4 (dt_X12_lot.at 92 rfl) rfl ?_
    refine Ev_iload 1 (dt_X12_lot.at 93 rfl) rfl ?_
    refine Ev_iconst (dt_X12_lot.at 94 rfl) ki_m1 ?_
    refine Ev_ixor (dt_X12_lot.at 95 rfl) ?_
    refine Ev_iand (dt_X12_lot.at 96 rfl) ?_
    refine Ev_nmI (fun x27 ex27 => ?_)
    replace h := oLt h ex27
    refine Ev_istore (dt_X12_lot.at 97 rfl) (by decide) (ls' := [(5, .int x27), (7, .int x26), (11, .int x25), (2, .int v2), (3, .long x16), (6, .int v6), (8, .int x.2.2.2), (10, .int o23.1)]) rfl ?_
    obtain ⟨x28, ex28⟩ : ∃ z : Int32, z = x.2.2.2 + 1 := ⟨_, rfl⟩
    replace h := oLt h ex28
    refine Ev_iinc (v := x28) 6 (dt_X12_lot.at 98 rfl) rfl (ex28.trans (congrArg (fun z => x.2.2.2 + z) ki_1.symm)) (by decide) (ls' := [(8, .int x28), (5, .int x27), (7, .int x26), (11, .int x25), (2, .int v2), (3, .long x16), (6, .int v6), (10, .int o23.1)]) rfl ?_
    refine Ev_goto (tgt := 83) (dt_X12_lot.at 99 rfl) (by decide) ?_
    refine Ev_sub [4, 5, 1, 6, 2, 0] (ls' := [(2, .int v2), (3, .long x16), (5, .int x27), (6, .int v6), (7, .int x26), (8, .int x28)]) rfl ?_
    exact hc (x16, x27, x26, x28) (Option.some.inj h).symm
set_option maxRecDepth 100000 in
set_option maxHeartbeats 4000000 in
theorem wl_m_lot_83 (σ : Sg) (v2 : Int32) (v6 : Int32) (r : Option Value) (τ : Sg) (n : Nat) (x : (Int64 × Int32 × Int32 × Int32)) (z : (Int64 × Int32 × Int32 × Int32)) (h : lp (b_m_lot_83 σ v2 v6) n x = some z) (he : ∀ y : (Int64 × Int32 × Int32 × Int32), z = y → Ev M_X12_lot 2 r τ 178 [(2, .int v2), (3, .long y.1), (5, .int y.2.1), (6, .int v6), (7, .int y.2.2.1)] [] σ) : Ev M_X12_lot 2 r τ 83 [(2, .int v2), (3, .long x.1), (5, .int x.2.1), (6, .int v6), (7, .int x.2.2.1), (8, .int x.2.2.2)] [] σ := by
  refine lp_ind (E := fun x : (Int64 × Int32 × Int32 × Int32) => Ev M_X12_lot 2 r τ 83 [(2, .int v2), (3, .long x.1), (5, .int x.2.1), (6, .int v6), (7, .int x.2.2.1), (8, .int x.2.2.2)] [] σ) (fun x => ⟨fun y hb hy => ?_, fun hb => ?_⟩) n x h
  · exact wb_m_lot_83 σ v2 v6 x r τ _ hb (fun y' e => by cases e; exact hy) (fun y' e => by cases e)
  · exact wb_m_lot_83 σ v2 v6 x r τ _ hb (fun y' e => by cases e) (fun y' e => he y' (Sum.inr.inj e))
set_option maxRecDepth 100000 in
set_option maxHeartbeats 4000000 in
theorem wb_m_lot_57 (σ : Sg) (v2 : Int32) (x : (Int64 × Int32 × Int32)) (r : Option Value) (τ : Sg) (o : ((Int64 × Int32 × Int32) ⊕ (Int64 × Int32 × Int32))) (h : (b_m_lot_57 σ v2 x) = some o) (hc : ∀ y : (Int64 × Int32 × Int32), o = .inl y → Ev M_X12_lot 2 r τ 57 [(2, .int v2), (3, .long y.1), (5, .int y.2.1), (6, .int y.2.2)] [] σ) (he : ∀ y : (Int64 × Int32 × Int32), o = .inr y → Ev M_X12_lot 2 r τ 200 [(6, .int y.2.2)] [] σ) : Ev M_X12_lot 2 r τ 57 [(2, .int v2), (3, .long x.1), (5, .int x.2.1), (6, .int x.2.2)] [] σ := by
  unfold b_m_lot_57 at h
  refine Ev_iload 2 (dt_X12_lot.at 33 rfl) rfl ?_
  refine Ev_if_eq (tgt := 200) (dt_X12_lot.at 34 rfl) (by decide) (fun c11 => ?_) (fun c11 => ?_)
  · replace h := oPos h c11
    refine Ev_sub [3] (ls' := [(6, .int x.2.2)]) rfl ?_
    exact he (x.1, x.2.1, x.2.2) (Option.some.inj h).symm
  · replace h := oNeg h c11
    refine Ev_iconst (dt_X12_lot.at 35 rfl) ki_1 ?_
    refine Ev_iload 2 (dt_X12_lot.at 36 rfl) rfl ?_
    obtain ⟨q12, hq12, h⟩ := oBind h
    refine Ev_callS (st := [.int 1]) (st' := [.int q12, .int 1]) [.int x.2.1] (dt_X12_lot.at 37 rfl) cf_X12_177 (w_m_least σ x.2.1 q12 hq12) (by decide) rfl rfl (Nat.le_of_ble_eq_true rfl) rfl ?_
    refine Ev_ishl (dt_X12_lot.at 38 rfl) ?_
    refine Ev_nmI (fun x13 ex13 => ?_)
    replace h := oLt h ex13
    refine Ev_istore (dt_X12_lot.at 39 rfl) (by decide) (ls' := [(7, .int x13), (2, .int v2), (3, .long x.1), (5, .int x.2.1), (6, .int x.2.2)]) rfl ?_
    refine Ev_iload 3 (dt_X12_lot.at 40 rfl) rfl ?_
    refine Ev_iload 0 (dt_X12_lot.at 41 rfl) rfl ?_
    refine Ev_iconst (dt_X12_lot.at 42 rfl) ki_m1 ?_
    refine Ev_ixor (dt_X12_lot.at 43 rfl) ?_
    refine Ev_iand (dt_X12_lot.at 44 rfl) ?_
    refine Ev_nmI (fun x14 ex14 => ?_)
    replace h := oLt h ex14
    refine Ev_istore (dt_X12_lot.at 45 rfl) (by decide) (ls' := [(5, .int x14), (7, .int x13), (2, .int v2), (3, .long x.1), (6, .int x.2.2)]) rfl ?_
    refine Ev_iconst (dt_X12_lot.at 46 rfl) ki_0 ?_
    refine Ev_istore (dt_X12_lot.at 47 rfl) (by decide) (ls' := [(8, .int 0), (5, .int x14), (7, .int x13), (2, .int v2), (3, .long x.1), (6, .int x.2.2)]) rfl ?_
    refine Ev_sub [3, 4, 1, 5, 2, 0] (ls' := [(2, .int v2), (3, .long x.1), (5, .int x14), (6, .int x.2.2), (7, .int x13), (8, .int 0)]) rfl ?_
    obtain ⟨o29, ho29, h⟩ := oBind h
    refine wl_m_lot_83 σ v2 x.2.2 _ _ 100000 (x.1, x14, x13, 0) o29 ho29 (fun y ey => ?_)
    subst ey
    refine Ev_iload 4 (dt_X12_lot.at 100 rfl) rfl ?_
    refine Ev_iload_n 0 (dt_X12_lot.at 101 rfl) rfl ?_
    refine Ev_ishr (dt_X12_lot.at 102 rfl) ?_
    refine Ev_iconst (dt_X12_lot.at 103 rfl) ki_1 ?_
    refine Ev_iand (dt_X12_lot.at 104 rfl) ?_
    refine Ev_iconst (dt_X12_lot.at 105 rfl) ki_1 ?_
    refine Ev_icmp_ne (tgt := 193) (dt_X12_lot.at 106 rfl) (by decide) (fun c30 => ?_) (fun c30 => ?_)
    · replace h := oNeg h c30
      refine Ev_iload 3 (dt_X12_lot.at 109 rfl) rfl ?_
      refine Ev_istore (dt_X12_lot.at 110 rfl) (by decide) (ls' := [(6, .int x.2.2), (2, .int v2), (3, .long o29.1), (5, .int o29.2.1), (7, .int o29.2.2.1)]) rfl ?_
      refine Ev_goto (tgt := 57) (dt_X12_lot.at 111 rfl) (by decide) ?_
      refine Ev_sub [1, 2, 3, 0] (ls' := [(2, .int v2), (3, .long o29.1), (5, .int o29.2.1), (6, .int x.2.2)]) rfl ?_
      exact hc (o29.1, o29.2.1, x.2.2) (Option.some.inj h).symm
    · replace h := oPos h c30
      refine Ev_iload 4 (dt_X12_lot.at 107 rfl) rfl ?_
      refine Ev_goto (tgt := 195) (dt_X12_lot.at 108 rfl) (by decide) ?_
      refine Ev_istore (dt_X12_lot.at 110 rfl) (by decide) (ls' := [(6, .int o29.2.2.1), (2, .int v2), (3, .long o29.1), (5, .int o29.2.1), (7, .int o29.2.2.1)]) rfl ?_
      refine Ev_goto (tgt := 57) (dt_X12_lot.at 111 rfl) (by decide) ?_
      refine Ev_sub [1, 2, 3, 0] (ls' := [(2, .int v2), (3, .long o29.1), (5, .int o29.2.1), (6, .int o29.2.2.1)]) rfl ?_
      exact hc (o29.1, o29.2.1, o29.2.2.1) (Option.some.inj h).symm
set_option maxRecDepth 100000 in
set_option maxHeartbeats 4000000 in
theorem wl_m_lot_57 (σ : Sg) (v2 : Int32) (r : Option Value) (τ : Sg) (n : Nat) (x : (Int64 × Int32 × Int32)) (z : (Int64 × Int32 × Int32)) (h : lp (b_m_lot_57 σ v2) n x = some z) (he : ∀ y : (Int64 × Int32 × Int32), z = y → Ev M_X12_lot 2 r τ 200 [(6, .int y.2.2)] [] σ) : Ev M_X12_lot 2 r τ 57 [(2, .int v2), (3, .long x.1), (5, .int x.2.1), (6, .int x.2.2)] [] σ := by
  refine lp_ind (E := fun x : (Int64 × Int32 × Int32) => Ev M_X12_lot 2 r τ 57 [(2, .int v2), (3, .long x.1), (5, .int x.2.1), (6, .int x.2.2)] [] σ) (fun x => ⟨fun y hb hy => ?_, fun hb => ?_⟩) n x h
  · exact wb_m_lot_57 σ v2 x r τ _ hb (fun y' e => by cases e; exact hy) (fun y' e => by cases e)
  · exact wb_m_lot_57 σ v2 x r τ _ hb (fun y' e => by cases e) (fun y' e => he y' (Sum.inr.inj e))
set_option maxRecDepth 100000 in
set_option maxHeartbeats 4000000 in
theorem w_m_lot (σ : Sg) (a1 : Int32) (a2 : Int32) (q : (Int32 × Sg)) (h : s_m_lot σ a1 a2 = some q) : Cal M_X12_lot 2 [.ref 71, .int a1, .int a2] σ (some (.int q.1)) q.2 := by
  refine Cal.of (M := M_X12_lot) (by decide +kernel) (Nat.le_of_ble_eq_true rfl) ?_
  show Ev _ _ _ _ 0 [(0, .ref 71), (1, .int a1), (2, .int a2)] [] σ
  unfold s_m_lot at h
  refine Ev_iload_n 1 (dt_X12_lot.at 0 rfl) rfl ?_
  refine Ev_i2l (dt_X12_lot.at 1 rfl) ?_
  refine Ev_lconst (dt_X12_lot.at 2 rfl) kl_0 ?_
  refine Ev_ldc2 (dt_X12_lot.at 3 rfl) cl_X12_192 ?_
  obtain ⟨q1, hq1, h⟩ := oBind h
  refine Ev_callS (st := []) (st' := [.int q1]) [.long (Int32.toInt64 a1), .long 0, .long 999999] (dt_X12_lot.at 4 rfl) cf_X12_74 (w_m_in σ (Int32.toInt64 a1) 0 999999 q1 hq1) (by decide) rfl rfl (Nat.le_of_ble_eq_true rfl) rfl ?_
  refine Ev_if_eq (tgt := 20) (dt_X12_lot.at 5 rfl) (by decide) (fun c2 => ?_) (fun c2 => ?_)
  · replace h := oPos h c2
    refine Ev_aload_n 0 (dt_X12_lot.at 10 rfl) rfl ?_
    refine Ev_bipush (dt_X12_lot.at 11 rfl) kb_m2 ?_
    obtain ⟨q3, hq3, h⟩ := oBind h
    refine Ev_callV (st := []) (st' := [.int q3.1]) [.int (-2)] (dt_X12_lot.at 12 rfl) cf_X12_88 (w_m_bad σ (-2) q3 hq3) (by decide) sk_71 rfl rfl rfl (Nat.le_of_ble_eq_true rfl) rfl ?_
    exact Ev_iret (dt_X12_lot.at 13 rfl) rfl h
  · replace h := oNeg h c2
    refine Ev_aload_n 0 (dt_X12_lot.at 6 rfl) rfl ?_
    refine Ev_iload_n 2 (dt_X12_lot.at 7 rfl) rfl ?_
    obtain ⟨q4, hq4, h⟩ := oBind h
    refine Ev_callV (st := []) (st' := [.int q4]) [.int a2] (dt_X12_lot.at 8 rfl) cf_X12_105 (w_m_isOne σ a2 q4 hq4) (by decide) sk_71 rfl rfl rfl (Nat.le_of_ble_eq_true rfl) rfl ?_
    refine Ev_if_ne (tgt := 27) (dt_X12_lot.at 9 rfl) (by decide) (fun c5 => ?_) (fun c5 => ?_)
    · replace h := oNeg h c5
      refine Ev_aload_n 0 (dt_X12_lot.at 14 rfl) rfl ?_
      obtain ⟨q6, hq6, h⟩ := oBind h
      refine Ev_callV (st := []) (st' := [.int q6]) [] (dt_X12_lot.at 15 rfl) cf_X12_183 (w_m_areThrees σ  q6 hq6) (by decide) sk_71 rfl rfl rfl (Nat.le_of_ble_eq_true rfl) rfl ?_
      refine Ev_if_ne (tgt := 41) (dt_X12_lot.at 16 rfl) (by decide) (fun c7 => ?_) (fun c7 => ?_)
      · replace h := oNeg h c7
        refine Ev_iload_n 1 (dt_X12_lot.at 21 rfl) rfl ?_
        refine Ev_i2l (dt_X12_lot.at 22 rfl) ?_
        refine Ev_nmL (fun x8 ex8 => ?_)
        replace h := oLt h ex8
        refine Ev_lstore_n (dt_X12_lot.at 23 rfl) (by decide) (ls' := [(3, .long x8), (0, .ref 71), (1, .int a1), (2, .int a2)]) rfl ?_
        refine Ev_iconst (dt_X12_lot.at 24 rfl) ki_1 ?_
        refine Ev_aload_n 1 (dt_X12_lot.at 25 rfl) rfl ?_
        obtain ⟨q9, hq9, h⟩ := oBind h
        refine Ev_callV (st := [.int 1]) (st' := [.int q9, .int 1]) [] (dt_X12_lot.at 26 rfl) cf_X12_70 (w_m_people σ  q9 hq9) (by decide) sk_71 rfl rfl rfl (Nat.le_of_ble_eq_true rfl) rfl ?_
        refine Ev_ishl (dt_X12_lot.at 27 rfl) ?_
        refine Ev_iconst (dt_X12_lot.at 28 rfl) ki_1 ?_
        refine Ev_isub (dt_X12_lot.at 29 rfl) ?_
        refine Ev_nmI (fun x10 ex10 => ?_)
        replace h := oLt h ex10
        refine Ev_istore (dt_X12_lot.at 30 rfl) (by decide) (ls' := [(5, .int x10), (3, .long x8), (0, .ref 71), (1, .int a1), (2, .int a2)]) rfl ?_
        refine Ev_iconst (dt_X12_lot.at 31 rfl) ki_m1 ?_
        refine Ev_istore (dt_X12_lot.at 32 rfl) (by decide) (ls' := [(6, .int (-1)), (5, .int x10), (3, .long x8), (0, .ref 71), (1, .int a1), (2, .int a2)]) rfl ?_
        refine Ev_sub [5, 2, 1, 0] (ls' := [(2, .int a2), (3, .long x8), (5, .int x10), (6, .int (-1))]) rfl ?_
        obtain ⟨o31, ho31, h⟩ := oBind h
        refine wl_m_lot_57 σ a2 _ _ 100000 (x8, x10, (-1)) o31 ho31 (fun y ey => ?_)
        subst ey
        refine Ev_iload 0 (dt_X12_lot.at 112 rfl) rfl ?_
        exact Ev_iret (dt_X12_lot.at 113 rfl) rfl h
      · replace h := oPos h c7
        refine Ev_aload_n 0 (dt_X12_lot.at 17 rfl) rfl ?_
        refine Ev_bipush (dt_X12_lot.at 18 rfl) kb_m3 ?_
        obtain ⟨q32, hq32, h⟩ := oBind h
        refine Ev_callV (st := []) (st' := [.int q32.1]) [.int (-3)] (dt_X12_lot.at 19 rfl) cf_X12_113 (w_m_no σ (-3) q32 hq32) (by decide) sk_71 rfl rfl rfl (Nat.le_of_ble_eq_true rfl) rfl ?_
        exact Ev_iret (dt_X12_lot.at 20 rfl) rfl h
    · replace h := oPos h c5
      refine Ev_aload_n 0 (dt_X12_lot.at 10 rfl) rfl ?_
      refine Ev_bipush (dt_X12_lot.at 11 rfl) kb_m2 ?_
      obtain ⟨q33, hq33, h⟩ := oBind h
      refine Ev_callV (st := []) (st' := [.int q33.1]) [.int (-2)] (dt_X12_lot.at 12 rfl) cf_X12_88 (w_m_bad σ (-2) q33 hq33) (by decide) sk_71 rfl rfl rfl (Nat.le_of_ble_eq_true rfl) rfl ?_
      exact Ev_iret (dt_X12_lot.at 13 rfl) rfl h
