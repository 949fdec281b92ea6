def s_m_part (σ : Sg) (a1 : Int32) : Option (Int64 × Sg) :=
  if a1 = 0 then
    some ((gL σ 71 4), σ)
  else
    if a1 = 1 then
      some ((gL σ 71 5), σ)
    else
      (s_m_bad σ (-1000)).bind fun q3 =>
      some ((Int32.toInt64 q3.1), q3.2)
set_option maxRecDepth 100000 in
set_option maxHeartbeats 4000000 in
theorem w_m_part (σ : Sg) (a1 : Int32) (q : (Int64 × Sg)) (h : s_m_part σ a1 = some q) : Cal M_X12_part 1 [.ref 71, .int a1] σ (some (.long q.1)) q.2 := by
  refine Cal.of (M := M_X12_part) (by decide +kernel) (Nat.le_of_ble_eq_true rfl) ?_
  show Ev _ _ _ _ 0 [(0, .ref 71), (1, .int a1)] [] σ
  unfold s_m_part at h
  refine Ev_iload_n 1 (dt_X12_part.at 0 rfl) rfl ?_
  refine Ev_if_ne (tgt := 11) (dt_X12_part.at 1 rfl) (by decide) (fun c1 => ?_) (fun c1 => ?_)
  · replace h := oNeg h c1
    refine Ev_iload_n 1 (dt_X12_part.at 5 rfl) rfl ?_
    refine Ev_iconst (dt_X12_part.at 6 rfl) ki_1 ?_
    refine Ev_icmp_ne (tgt := 23) (dt_X12_part.at 7 rfl) (by decide) (fun c2 => ?_) (fun c2 => ?_)
    · replace h := oNeg h c2
      refine Ev_aload_n 0 (dt_X12_part.at 11 rfl) rfl ?_
      refine Ev_sipush (dt_X12_part.at 12 rfl) ks_m1000 ?_
      obtain ⟨q3, hq3, h⟩ := oBind h
      refine Ev_callV (st := []) (st' := [.int q3.1]) [.int (-1000)] (dt_X12_part.at 13 rfl) cf_X12_88 (w_m_bad σ (-1000) q3 hq3) (by decide) sk_71 rfl rfl rfl (Nat.le_of_ble_eq_true rfl) rfl ?_
      refine Ev_i2l (dt_X12_part.at 14 rfl) ?_
      exact Ev_lret (dt_X12_part.at 15 rfl) rfl h
    · replace h := oPos h c2
      refine Ev_aload_n 0 (dt_X12_part.at 8 rfl) rfl ?_
      refine Ev_get (i := 5) (v := .long (gL σ 71 5)) (dt_X12_part.at 9 rfl) ff_X12_23 sk_71 rfl rfl ?_
      refine Ev_goto (tgt := 31) (dt_X12_part.at 10 rfl) (by decide) ?_
      exact Ev_lret (dt_X12_part.at 15 rfl) rfl h
  · replace h := oPos h c1
    refine Ev_aload_n 0 (dt_X12_part.at 2 rfl) rfl ?_
    refine Ev_get (i := 4) (v := .long (gL σ 71 4)) (dt_X12_part.at 3 rfl) ff_X12_226 sk_71 rfl rfl ?_
    refine Ev_goto (tgt := 31) (dt_X12_part.at 4 rfl) (by decide) ?_
    exact Ev_lret (dt_X12_part.at 15 rfl) rfl h
def b_m_image_19 (v1 : Int32) (x : (Sg × Int32)) : Option ((Sg × Int32) ⊕ (Sg × Int32)) :=
  if 143 ≤ x.2 then
    some (.inr (x.1, x.2))
  else
    if inB x.2 143 = true then
      if inB ((143 * v1) + x.2) 286 = true then
        lt (pI x.1 73 (Int32.toNatClampNeg ((143 * v1) + x.2)) (gI x.1 72 (Int32.toNatClampNeg x.2)) : Sg) fun s6 =>
        lt (x.2 + 1 : Int32) fun x7 =>
        some (.inl (s6, x7))
      else none
    else none
def s_m_image (σ : Sg) (a1 : Int32) : Option (Int32 × Sg) :=
  (s_m_in (Int32.toInt64 a1) 0 1).bind fun q1 =>
  if q1 = 0 then
    (s_m_bad σ (-2)).bind fun q11 =>
    some (q11.1, q11.2)
  else
    (lp (b_m_image_19 a1) 100000 (σ, 0)).bind fun o8 =>
    if inB a1 2 = true then
      lt (pI o8.1 74 (Int32.toNatClampNeg a1) (1 &&& 1) : Sg) fun s10 =>
      some (1, s10)
    else none
set_option maxRecDepth 100000 in
set_option maxHeartbeats 4000000 in
theorem wb_m_image_19 (v1 : Int32) (x : (Sg × Int32)) (r : Option Value) (τ : Sg) (o : ((Sg × Int32) ⊕ (Sg × Int32))) (h : (b_m_image_19 v1 x) = some o) (hc : ∀ y : (Sg × Int32), o = .inl y → Ev M_X12_image 1 r τ 19 [(0, .ref 71), (1, .int v1), (2, .int y.2)] [] y.1) (he : ∀ y : (Sg × Int32), o = .inr y → Ev M_X12_image 1 r τ 50 [(0, .ref 71), (1, .int v1)] [] y.1) : Ev M_X12_image 1 r τ 19 [(0, .ref 71), (1, .int v1), (2, .int x.2)] [] x.1 := by
  unfold b_m_image_19 at h
  refine Ev_iload_n 2 (dt_X12_image.at 12 rfl) rfl ?_
  refine Ev_sipush (dt_X12_image.at 13 rfl) ks_143 ?_
  refine Ev_icmp_ge (tgt := 50) (dt_X12_image.at 14 rfl) (by decide) (fun c3 => ?_) (fun c3 => ?_)
  · replace h := oPos h c3
    refine Ev_sub [0, 1] (ls' := [(0, .ref 71), (1, .int v1)]) rfl ?_
    exact he (x.1, x.2) (Option.some.inj h).symm
  · replace h := oNeg h c3
    refine Ev_aload_n 0 (dt_X12_image.at 15 rfl) rfl ?_
    refine Ev_get (i := 1) (v := .ref 73) (dt_X12_image.at 16 rfl) ff_X12_13 sk_71 rfl rfl ?_
    refine Ev_sipush (dt_X12_image.at 17 rfl) ks_143 ?_
    refine Ev_iload_n 1 (dt_X12_image.at 18 rfl) rfl ?_
    refine Ev_imul (dt_X12_image.at 19 rfl) ?_
    refine Ev_iload_n 2 (dt_X12_image.at 20 rfl) rfl ?_
    refine Ev_iadd (dt_X12_image.at 21 rfl) ?_
    refine Ev_aload_n 0 (dt_X12_image.at 22 rfl) rfl ?_
    refine Ev_get (i := 0) (v := .ref 72) (dt_X12_image.at 23 rfl) ff_X12_7 sk_71 rfl rfl ?_
    refine Ev_iload_n 2 (dt_X12_image.at 24 rfl) rfl ?_
    obtain ⟨g4, h⟩ := oGuard h
    refine Ev_iaload 72 (dt_X12_image.at 25 rfl) sk_72 g4 ?_
    obtain ⟨g5, h⟩ := oGuard h
    refine Ev_iastore 73 (dt_X12_image.at 26 rfl) sk_73 g5 ?_
    refine Ev_nmS (fun s6 es6 => ?_)
    replace h := oLt h es6
    obtain ⟨x7, ex7⟩ : ∃ z : Int32, z = x.2 + 1 := ⟨_, rfl⟩
    replace h := oLt h ex7
    refine Ev_iinc (v := x7) 2 (dt_X12_image.at 27 rfl) rfl (ex7.trans (congrArg (fun z => x.2 + z) ki_1.symm)) (by decide) (ls' := [(2, .int x7), (0, .ref 71), (1, .int v1)]) rfl ?_
    refine Ev_goto (tgt := 19) (dt_X12_image.at 28 rfl) (by decide) ?_
    refine Ev_sub [1, 2, 0] (ls' := [(0, .ref 71), (1, .int v1), (2, .int x7)]) rfl ?_
    exact hc (s6, x7) (Option.some.inj h).symm
set_option maxRecDepth 100000 in
set_option maxHeartbeats 4000000 in
theorem wl_m_image_19 (v1 : Int32) (r : Option Value) (τ : Sg) (n : Nat) (x : (Sg × Int32)) (z : (Sg × Int32)) (h : lp (b_m_image_19 v1) n x = some z) (he : ∀ y : (Sg × Int32), z = y → Ev M_X12_image 1 r τ 50 [(0, .ref 71), (1, .int v1)] [] y.1) : Ev M_X12_image 1 r τ 19 [(0, .ref 71), (1, .int v1), (2, .int x.2)] [] x.1 := by
  refine lp_ind (E := fun x : (Sg × Int32) => Ev M_X12_image 1 r τ 19 [(0, .ref 71), (1, .int v1), (2, .int x.2)] [] x.1) (fun x => ⟨fun y hb hy => ?_, fun hb => ?_⟩) n x h
  · exact wb_m_image_19 v1 x r τ _ hb (fun y' e => by cases e; exact hy) (fun y' e => by cases e)
  · exact wb_m_image_19 v1 x r τ _ hb (fun y' e => by cases e) (fun y' e => he y' (Sum.inr.inj e))
set_option maxRecDepth 100000 in
set_option maxHeartbeats 4000000 in
theorem w_m_image (σ : Sg) (a1 : Int32) (q : (Int32 × Sg)) (h : s_m_image σ a1 = some q) : Cal M_X12_image 1 [.ref 71, .int a1] σ (some (.int q.1)) q.2 := by
  refine Cal.of (M := M_X12_image) (by decide +kernel) (Nat.le_of_ble_eq_true rfl) ?_
  show Ev _ _ _ _ 0 [(0, .ref 71), (1, .int a1)] [] σ
  unfold s_m_image at h
  refine Ev_iload_n 1 (dt_X12_image.at 0 rfl) rfl ?_
  refine Ev_i2l (dt_X12_image.at 1 rfl) ?_
  refine Ev_lconst (dt_X12_image.at 2 rfl) kl_0 ?_
  refine Ev_lconst (dt_X12_image.at 3 rfl) kl_1 ?_
  obtain ⟨q1, hq1, h⟩ := oBind h
  refine Ev_callS (st := []) (st' := [.int q1]) [.long (Int32.toInt64 a1), .long 0, .long 1] (dt_X12_image.at 4 rfl) cf_X12_74 (w_m_in σ (Int32.toInt64 a1) 0 1 q1 hq1) (by decide) rfl rfl (Nat.le_of_ble_eq_true rfl) rfl ?_
  refine Ev_if_ne (tgt := 17) (dt_X12_image.at 5 rfl) (by decide) (fun c2 => ?_) (fun c2 => ?_)
  · replace h := oNeg h c2
    refine Ev_iconst (dt_X12_image.at 10 rfl) ki_0 ?_
    refine Ev_istore_n (dt_X12_image.at 11 rfl) (by decide) (ls' := [(2, .int 0), (0, .ref 71), (1, .int a1)]) rfl ?_
    refine Ev_sub [1, 2, 0] (ls' := [(0, .ref 71), (1, .int a1), (2, .int 0)]) rfl ?_
    obtain ⟨o8, ho8, h⟩ := oBind h
    refine wl_m_image_19 a1 _ _ 100000 (σ, 0) o8 ho8 (fun y ey => ?_)
    subst ey
    refine Ev_aload_n 0 (dt_X12_image.at 29 rfl) rfl ?_
    refine Ev_get (i := 2) (v := .ref 74) (dt_X12_image.at 30 rfl) ff_X12_16 sk_71 rfl rfl ?_
    refine Ev_iload_n 1 (dt_X12_image.at 31 rfl) rfl ?_
    refine Ev_iconst (dt_X12_image.at 32 rfl) ki_1 ?_
    obtain ⟨g9, h⟩ := oGuard h
    refine Ev_bastore 74 (dt_X12_image.at 33 rfl) sk_74 g9 ?_
    refine Ev_nmS (fun s10 es10 => ?_)
    replace h := oLt h es10
    refine Ev_iconst (dt_X12_image.at 34 rfl) ki_1 ?_
    exact Ev_iret (dt_X12_image.at 35 rfl) rfl h
  · replace h := oPos h c2
    refine Ev_aload_n 0 (dt_X12_image.at 6 rfl) rfl ?_
    refine Ev_bipush (dt_X12_image.at 7 rfl) kb_m2 ?_
    obtain ⟨q11, hq11, h⟩ := oBind h
    refine Ev_callV (st := []) (st' := [.int q11.1]) [.int (-2)] (dt_X12_image.at 8 rfl) cf_X12_88 (w_m_bad σ (-2) q11 hq11) (by decide) sk_71 rfl rfl rfl (Nat.le_of_ble_eq_true rfl) rfl ?_
    exact Ev_iret (dt_X12_image.at 9 rfl) rfl h
def b_m_from_35 (v1 : Int32) (x : (Sg × Int32)) : Option ((Sg × Int32) ⊕ (Sg × Int32)) :=
  if 143 ≤ x.2 then
    some (.inr (x.1, x.2))
  else
    if inB ((143 * v1) + x.2) 286 = true then
      if inB x.2 143 = true then
        lt (pI x.1 72 (Int32.toNatClampNeg x.2) (gI x.1 73 (Int32.toNatClampNeg ((143 * v1) + x.2))) : Sg) fun s8 =>
        lt (x.2 + 1 : Int32) fun x9 =>
        some (.inl (s8, x9))
      else none
    else none
def s_m_from (σ : Sg) (a1 : Int32) : Option (Int32 × Sg) :=
  (s_m_in (Int32.toInt64 a1) 0 1).bind fun q1 =>
  if q1 = 0 then
    (s_m_bad σ (-2)).bind fun q12 =>
    some (q12.1, q12.2)
  else
    if inB a1 2 = true then
      if (gI σ 74 (Int32.toNatClampNeg a1)) = 0 then
        (s_m_no σ (-3)).bind fun q11 =>
        some (q11.1, q11.2)
      else
        (lp (b_m_from_35 a1) 100000 (σ, 0)).bind fun o10 =>
        some (1, o10.1)
    else none
set_option maxRecDepth 100000 in
set_option maxHeartbeats 4000000 in
theorem wb_m_from_35 (v1 : Int32) (x : (Sg × Int32)) (r : Option Value) (τ : Sg) (o : ((Sg × Int32) ⊕ (Sg × Int32))) (h : (b_m_from_35 v1 x) = some o) (hc : ∀ y : (Sg × Int32), o = .inl y → Ev M_X12_from 1 r τ 35 [(0, .ref 71), (1, .int v1), (2, .int y.2)] [] y.1) (he : ∀ y : (Sg × Int32), o = .inr y → Ev M_X12_from 1 r τ 66 [] [] y.1) : Ev M_X12_from 1 r τ 35 [(0, .ref 71), (1, .int v1), (2, .int x.2)] [] x.1 := by
  unfold b_m_from_35 at h
  refine Ev_iload_n 2 (dt_X12_from.at 21 rfl) rfl ?_
  refine Ev_sipush (dt_X12_from.at 22 rfl) ks_143 ?_
  refine Ev_icmp_ge (tgt := 66) (dt_X12_from.at 23 rfl) (by decide) (fun c5 => ?_) (fun c5 => ?_)
  · replace h := oPos h c5
    refine Ev_sub [] (ls' := []) rfl ?_
    exact he (x.1, x.2) (Option.some.inj h).symm
  · replace h := oNeg h c5
    refine Ev_aload_n 0 (dt_X12_from.at 24 rfl) rfl ?_
    refine Ev_get (i := 0) (v := .ref 72) (dt_X12_from.at 25 rfl) ff_X12_7 sk_71 rfl rfl ?_
    refine Ev_iload_n 2 (dt_X12_from.at 26 rfl) rfl ?_
    refine Ev_aload_n 0 (dt_X12_from.at 27 rfl) rfl ?_
    refine Ev_get (i := 1) (v := .ref 73) (dt_X12_from.at 28 rfl) ff_X12_13 sk_71 rfl rfl ?_
    refine Ev_sipush (dt_X12_from.at 29 rfl) ks_143 ?_
    refine Ev_iload_n 1 (dt_X12_from.at 30 rfl) rfl ?_
    refine Ev_imul (dt_X12_from.at 31 rfl) ?_
    refine Ev_iload_n 2 (dt_X12_from.at 32 rfl) rfl ?_
    refine Ev_iadd (dt_X12_from.at 33 rfl) ?_
    obtain ⟨g6, h⟩ := oGuard h
    refine Ev_iaload 73 (dt_X12_from.at 34 rfl) sk_73 g6 ?_
    obtain ⟨g7, h⟩ := oGuard h
    refine Ev_iastore 72 (dt_X12_from.at 35 rfl) sk_72 g7 ?_
    refine Ev_nmS (fun s8 es8 => ?_)
    replace h := oLt h es8
    obtain ⟨x9, ex9⟩ : ∃ z : Int32, z = x.2 + 1 := ⟨_, rfl⟩
    replace h := oLt h ex9
    refine Ev_iinc (v := x9) 2 (dt_X12_from.at 36 rfl) rfl (ex9.trans (congrArg (fun z => x.2 + z) ki_1.symm)) (by decide) (ls' := [(2, .int x9), (0, .ref 71), (1, .int v1)]) rfl ?_
    refine Ev_goto (tgt := 35) (dt_X12_from.at 37 rfl) (by decide) ?_
    refine Ev_sub [1, 2, 0] (ls' := [(0, .ref 71), (1, .int v1), (2, .int x9)]) rfl ?_
    exact hc (s8, x9) (Option.some.inj h).symm
set_option maxRecDepth 100000 in
set_option maxHeartbeats 4000000 in
theorem wl_m_from_35 (v1 : Int32) (r : Option Value) (τ : Sg) (n : Nat) (x : (Sg × Int32)) (z : (Sg × Int32)) (h : lp (b_m_from_35 v1) n x = some z) (he : ∀ y : (Sg × Int32), z = y → Ev M_X12_from 1 r τ 66 [] [] y.1) : Ev M_X12_from 1 r τ 35 [(0, .ref 71), (1, .int v1), (2, .int x.2)] [] x.1 := by
  refine lp_ind (E := fun x : (Sg × Int32) => Ev M_X12_from 1 r τ 35 [(0, .ref 71), (1, .int v1), (2, .int x.2)] [] x.1) (fun x => ⟨fun y hb hy => ?_, fun hb => ?_⟩) n x h
  · exact wb_m_from_35 v1 x r τ _ hb (fun y' e => by cases e; exact hy) (fun y' e => by cases e)
  · exact wb_m_from_35 v1 x r τ _ hb (fun y' e => by cases e) (fun y' e => he y' (Sum.inr.inj e))
set_option maxRecDepth 100000 in
set_option maxHeartbeats 4000000 in
theorem w_m_from (σ : Sg) (a1 : Int32) (q : (Int32 × Sg)) (h : s_m_from σ a1 = some q) : Cal M_X12_from 1 [.ref 71, .int a1] σ (some (.int q.1)) q.2 := by
  refine Cal.of (M := M_X12_from) (by decide +kernel) (Nat.le_of_ble_eq_true rfl) ?_
  show Ev _ _ _ _ 0 [(0, .ref 71), (1, .int a1)] [] σ
  unfold s_m_from at h
  refine Ev_iload_n 1 (dt_X12_from.at 0 rfl) rfl ?_
  refine Ev_i2l (dt_X12_from.at 1 rfl) ?_
  refine Ev_lconst (dt_X12_from.at 2 rfl) kl_0 ?_
  refine Ev_lconst (dt_X12_from.at 3 rfl) kl_1 ?_
  obtain ⟨q1, hq1, h⟩ := oBind h
  refine Ev_callS (st := []) (st' := [.int q1]) [.long (Int32.toInt64 a1), .long 0, .long 1] (dt_X12_from.at 4 rfl) cf_X12_74 (w_m_in σ (Int32.toInt64 a1) 0 1 q1 hq1) (by decide) rfl rfl (Nat.le_of_ble_eq_true rfl) rfl ?_
  refine Ev_if_ne (tgt := 17) (dt_X12_from.at 5 rfl) (by decide) (fun c2 => ?_) (fun c2 => ?_)
  · replace h := oNeg h c2
    refine Ev_aload_n 0 (dt_X12_from.at 10 rfl) rfl ?_
    refine Ev_get (i := 2) (v := .ref 74) (dt_X12_from.at 11 rfl) ff_X12_16 sk_71 rfl rfl ?_
    refine Ev_iload_n 1 (dt_X12_from.at 12 rfl) rfl ?_
    obtain ⟨g3, h⟩ := oGuard h
    refine Ev_baload 74 (dt_X12_from.at 13 rfl) sk_74 g3 ?_
    refine Ev_if_ne (tgt := 33) (dt_X12_from.at 14 rfl) (by decide) (fun c4 => ?_) (fun c4 => ?_)
    · replace h := oNeg h c4
      refine Ev_iconst (dt_X12_from.at 19 rfl) ki_0 ?_
      refine Ev_istore_n (dt_X12_from.at 20 rfl) (by decide) (ls' := [(2, .int 0), (0, .ref 71), (1, .int a1)]) rfl ?_
      refine Ev_sub [1, 2, 0] (ls' := [(0, .ref 71), (1, .int a1), (2, .int 0)]) rfl ?_
      obtain ⟨o10, ho10, h⟩ := oBind h
      refine wl_m_from_35 a1 _ _ 100000 (σ, 0) o10 ho10 (fun y ey => ?_)
      subst ey
      refine Ev_iconst (dt_X12_from.at 38 rfl) ki_1 ?_
      exact Ev_iret (dt_X12_from.at 39 rfl) rfl h
    · replace h := oPos h c4
      refine Ev_aload_n 0 (dt_X12_from.at 15 rfl) rfl ?_
      refine Ev_bipush (dt_X12_from.at 16 rfl) kb_m3 ?_
      obtain ⟨q11, hq11, h⟩ := oBind h
      refine Ev_callV (st := []) (st' := [.int q11.1]) [.int (-3)] (dt_X12_from.at 17 rfl) cf_X12_113 (w_m_no σ (-3) q11 hq11) (by decide) sk_71 rfl rfl rfl (Nat.le_of_ble_eq_true rfl) rfl ?_
      exact Ev_iret (dt_X12_from.at 18 rfl) rfl h
  · replace h := oPos h c2
    refine Ev_aload_n 0 (dt_X12_from.at 6 rfl) rfl ?_
    refine Ev_bipush (dt_X12_from.at 7 rfl) kb_m2 ?_
    obtain ⟨q12, hq12, h⟩ := oBind h
    refine Ev_callV (st := []) (st' := [.int q12.1]) [.int (-2)] (dt_X12_from.at 8 rfl) cf_X12_88 (w_m_bad σ (-2) q12 hq12) (by decide) sk_71 rfl rfl rfl (Nat.le_of_ble_eq_true rfl) rfl ?_
    exact Ev_iret (dt_X12_from.at 9 rfl) rfl h
def s_m_status (σ : Sg) (a1 : Int32) : Option (Int32 × Sg) :=
  (s_m_in (Int32.toInt64 a1) 0 2).bind fun q1 =>
  if q1 = 0 then
    (s_m_bad σ (-1)).bind fun q3 =>
    some (q3.1, q3.2)
  else
    if inB a1 3 = true then
      some ((gI σ 75 (Int32.toNatClampNeg a1)), σ)
    else none
set_option maxRecDepth 100000 in
set_option maxHeartbeats 4000000 in
theorem w_m_status (σ : Sg) (a1 : Int32) (q : (Int32 × Sg)) (h : s_m_status σ a1 = some q) : Cal M_X12_status 1 [.ref 71, .int a1] σ (some (.int q.1)) q.2 := by
  refine Cal.of (M := M_X12_status) (by decide +kernel) (Nat.le_of_ble_eq_true rfl) ?_
  show Ev _ _ _ _ 0 [(0, .ref 71), (1, .int a1)] [] σ
  unfold s_m_status at h
  refine Ev_iload_n 1 (dt_X12_status.at 0 rfl) rfl ?_
  refine Ev_i2l (dt_X12_status.at 1 rfl) ?_
  refine Ev_lconst (dt_X12_status.at 2 rfl) kl_0 ?_
  refine Ev_ldc2 (dt_X12_status.at 3 rfl) cl_X12_229 ?_
  obtain ⟨q1, hq1, h⟩ := oBind h
  refine Ev_callS (st := []) (st' := [.int q1]) [.long (Int32.toInt64 a1), .long 0, .long 2] (dt_X12_status.at 4 rfl) cf_X12_74 (w_m_in σ (Int32.toInt64 a1) 0 2 q1 hq1) (by decide) rfl rfl (Nat.le_of_ble_eq_true rfl) rfl ?_
  refine Ev_if_eq (tgt := 21) (dt_X12_status.at 5 rfl) (by decide) (fun c2 => ?_) (fun c2 => ?_)
  · replace h := oPos h c2
    refine Ev_aload_n 0 (dt_X12_status.at 11 rfl) rfl ?_
    refine Ev_iconst (dt_X12_status.at 12 rfl) ki_m1 ?_
    obtain ⟨q3, hq3, h⟩ := oBind h
    refine Ev_callV (st := []) (st' := [.int q3.1]) [.int (-1)] (dt_X12_status.at 13 rfl) cf_X12_88 (w_m_bad σ (-1) q3 hq3) (by decide) sk_71 rfl rfl rfl (Nat.le_of_ble_eq_true rfl) rfl ?_
    exact Ev_iret (dt_X12_status.at 14 rfl) rfl h
  · replace h := oNeg h c2
    refine Ev_aload_n 0 (dt_X12_status.at 6 rfl) rfl ?_
    refine Ev_get (i := 3) (v := .ref 75) (dt_X12_status.at 7 rfl) ff_X12_20 sk_71 rfl rfl ?_
    refine Ev_iload_n 1 (dt_X12_status.at 8 rfl) rfl ?_
    obtain ⟨g4, h⟩ := oGuard h
    refine Ev_iaload 75 (dt_X12_status.at 9 rfl) sk_75 g4 ?_
    refine Ev_goto (tgt := 26) (dt_X12_status.at 10 rfl) (by decide) ?_
    exact Ev_iret (dt_X12_status.at 14 rfl) rfl h
def b_m_allErrands_4 (σ : Sg) (x : (Int32 × Int32)) : Option ((Int32 × Int32) ⊕ (Int32 × Int32)) :=
  (s_m_people σ ).bind fun q1 =>
  if q1 ≤ x.2 then
    some (.inr (x.1, x.2))
  else
    (s_m_of σ x.2 2).bind fun q3 =>
    lt ((x.1 + q3) : Int32) fun x4 =>
    lt (x.2 + 1 : Int32) fun x5 =>
    some (.inl (x4, x5))
def s_m_allErrands (σ : Sg)  : Option Int32 :=
  (lp (b_m_allErrands_4 σ) 100000 (0, 0)).bind fun o6 =>
  some o6.1
set_option maxRecDepth 100000 in
set_option maxHeartbeats 4000000 in
theorem wb_m_allErrands_4 (σ : Sg) (x : (Int32 × Int32)) (r : Option Value) (τ : Sg) (o : ((Int32 × Int32) ⊕ (Int32 × Int32))) (h : (b_m_allErrands_4 σ x) = some o) (hc : ∀ y : (Int32 × Int32), o = .inl y → Ev M_X12_allErrands 1 r τ 4 [(0, .ref 71), (1, .int y.1), (2, .int y.2)] [] σ) (he : ∀ y : (Int32 × Int32), o = .inr y → Ev M_X12_allErrands 1 r τ 27 [(1, .int y.1)] [] σ) : Ev M_X12_allErrands 1 r τ 4 [(0, .ref 71), (1, .int x.1), (2, .int x.2)] [] σ := by
  unfold b_m_allErrands_4 at h
  refine Ev_iload_n 2 (dt_X12_allErrands.at 4 rfl) rfl ?_
  refine Ev_aload_n 0 (dt_X12_allErrands.at 5 rfl) rfl ?_
  obtain ⟨q1, hq1, h⟩ := oBind h
  refine Ev_callV (st := [.int x.2]) (st' := [.int q1, .int x.2]) [] (dt_X12_allErrands.at 6 rfl) cf_X12_70 (w_m_people σ  q1 hq1) (by decide) sk_71 rfl rfl rfl (Nat.le_of_ble_eq_true rfl) rfl ?_
  refine Ev_icmp_ge (tgt := 27) (dt_X12_allErrands.at 7 rfl) (by decide) (fun c2 => ?_) (fun c2 => ?_)
  · replace h := oPos h c2
    refine Ev_sub [1] (ls' := [(1, .int x.1)]) rfl ?_
    exact he (x.1, x.2) (Option.some.inj h).symm
  · replace h := oNeg h c2
    refine Ev_iload_n 1 (dt_X12_allErrands.at 8 rfl) rfl ?_
    refine Ev_aload_n 0 (dt_X12_allErrands.at 9 rfl) rfl ?_
    refine Ev_iload_n 2 (dt_X12_allErrands.at 10 rfl) rfl ?_
    refine Ev_iconst (dt_X12_allErrands.at 11 rfl) ki_2 ?_
    obtain ⟨q3, hq3, h⟩ := oBind h
    refine Ev_callV (st := [.int x.1]) (st' := [.int q3, .int x.1]) [.int x.2, .int 2] (dt_X12_allErrands.at 12 rfl) cf_X12_82 (w_m_of σ x.2 2 q3 hq3) (by decide) sk_71 rfl rfl rfl (Nat.le_of_ble_eq_true rfl) rfl ?_
    refine Ev_iadd (dt_X12_allErrands.at 13 rfl) ?_
    refine Ev_nmI (fun x4 ex4 => ?_)
    replace h := oLt h ex4
    refine Ev_istore_n (dt_X12_allErrands.at 14 rfl) (by decide) (ls' := [(1, .int x4), (0, .ref 71), (2, .int x.2)]) rfl ?_
    obtain ⟨x5, ex5⟩ : ∃ z : Int32, z = x.2 + 1 := ⟨_, rfl⟩
    replace h := oLt h ex5
    refine Ev_iinc (v := x5) 2 (dt_X12_allErrands.at 15 rfl) rfl (ex5.trans (congrArg (fun z => x.2 + z) ki_1.symm)) (by decide) (ls' := [(2, .int x5), (1, .int x4), (0, .ref 71)]) rfl ?_
    refine Ev_goto (tgt := 4) (dt_X12_allErrands.at 16 rfl) (by decide) ?_
    refine Ev_sub [2, 1, 0] (ls' := [(0, .ref 71), (1, .int x4), (2, .int x5)]) rfl ?_
    exact hc (x4, x5) (Option.some.inj h).symm
set_option maxRecDepth 100000 in
set_option maxHeartbeats 4000000 in
theorem wl_m_allErrands_4 (σ : Sg) (r : Option Value) (τ : Sg) (n : Nat) (x : (Int32 × Int32)) (z : (Int32 × Int32)) (h : lp (b_m_allErrands_4 σ) n x = some z) (he : ∀ y : (Int32 × Int32), z = y → Ev M_X12_allErrands 1 r τ 27 [(1, .int y.1)] [] σ) : Ev M_X12_allErrands 1 r τ 4 [(0, .ref 71), (1, .int x.1), (2, .int x.2)] [] σ := by
  refine lp_ind (E := fun x : (Int32 × Int32) => Ev M_X12_allErrands 1 r τ 4 [(0, .ref 71), (1, .int x.1), (2, .int x.2)] [] σ) (fun x => ⟨fun y hb hy => ?_, fun hb => ?_⟩) n x h
  · exact wb_m_allErrands_4 σ x r τ _ hb (fun y' e => by cases e; exact hy) (fun y' e => by cases e)
  · exact wb_m_allErrands_4 σ x r τ _ hb (fun y' e => by cases e) (fun y' e => he y' (Sum.inr.inj e))
set_option maxRecDepth 100000 in
set_option maxHeartbeats 4000000 in
theorem w_m_allErrands (σ : Sg)  (q : Int32) (h : s_m_allErrands σ  = some q) : Cal M_X12_allErrands 1 [.ref 71] σ (some (.int q)) σ := by
  refine Cal.of (M := M_X12_allErrands) (by decide +kernel) (Nat.le_of_ble_eq_true rfl) ?_
  show Ev _ _ _ _ 0 [(0, .ref 71)] [] σ
  unfold s_m_allErrands at h
  refine Ev_iconst (dt_X12_allErrands.at 0 rfl) ki_0 ?_
  refine Ev_istore_n (dt_X12_allErrands.at 1 rfl) (by decide) (ls' := [(1, .int 0), (0, .ref 71)]) rfl ?_
  refine Ev_iconst (dt_X12_allErrands.at 2 rfl) ki_0 ?_
  refine Ev_istore_n (dt_X12_allErrands.at 3 rfl) (by decide) (ls' := [(2, .int 0), (1, .int 0), (0, .ref 71)]) rfl ?_
  refine Ev_sub [2, 1, 0] (ls' := [(0, .ref 71), (1, .int 0), (2, .int 0)]) rfl ?_
  obtain ⟨o6, ho6, h⟩ := oBind h
  refine wl_m_allErrands_4 σ _ _ 100000 (0, 0) o6 ho6 (fun y ey => ?_)
  subst ey
  refine Ev_iload_n 0 (dt_X12_allErrands.at 17 rfl) rfl ?_
  exact Ev_iret (dt_X12_allErrands.at 18 rfl) rfl (oRet h)
def s_m_counted (σ : Sg) (a1 : Int32) : Option Int32 :=
  if a1 = 0 then
    (s_m_ring σ ).bind fun q2 =>
    some q2
  else
    if a1 = 1 then
      (s_m_people σ ).bind fun q4 =>
      some q4
    else
      if a1 = 2 then
        (s_m_allErrands σ ).bind fun q6 =>
        some q6
      else
        if a1 = 3 then
          some (gI σ 72 (Int32.toNatClampNeg 108))
        else
          if a1 = 4 then
            some (gI σ 72 (Int32.toNatClampNeg 127))
          else
            some (gI σ 71 21)
set_option maxRecDepth 100000 in
set_option maxHeartbeats 4000000 in
theorem w_m_counted (σ : Sg) (a1 : Int32) (q : Int32) (h : s_m_counted σ a1 = some q) : Cal M_X12_counted 2 [.ref 71, .int a1] σ (some (.int q)) σ := by
  refine Cal.of (M := M_X12_counted) (by decide +kernel) (Nat.le_of_ble_eq_true rfl) ?_
  show Ev _ _ _ _ 0 [(0, .ref 71), (1, .int a1)] [] σ
  unfold s_m_counted at h
  refine Ev_iload_n 1 (dt_X12_counted.at 0 rfl) rfl ?_
  by_cases c1 : a1 = 0
  · replace h := oPos h c1
    refine Ev_tblIn (tgt := 36) (off := 35) (dt_X12_counted.at 1 rfl) (by rw [c1]; decide) (by rw [c1]; decide) (by rw [c1]; decide) (by decide) ?_
    refine Ev_aload_n 0 (dt_X12_counted.at 2 rfl) rfl ?_
    obtain ⟨q2, hq2, h⟩ := oBind h
    refine Ev_callV (st := []) (st' := [.int q2]) [] (dt_X12_counted.at 3 rfl) cf_X12_91 (w_m_ring σ  q2 hq2) (by decide) sk_71 rfl rfl rfl (Nat.le_of_ble_eq_true rfl) rfl ?_
    exact Ev_iret (dt_X12_counted.at 4 rfl) rfl (oRet h)
  replace h := oNeg h c1
  by_cases c3 : a1 = 1
  · replace h := oPos h c3
    refine Ev_tblIn (tgt := 41) (off := 40) (dt_X12_counted.at 1 rfl) (by rw [c3]; decide) (by rw [c3]; decide) (by rw [c3]; decide) (by decide) ?_
    refine Ev_aload_n 0 (dt_X12_counted.at 5 rfl) rfl ?_
    obtain ⟨q4, hq4, h⟩ := oBind h
    refine Ev_callV (st := []) (st' := [.int q4]) [] (dt_X12_counted.at 6 rfl) cf_X12_70 (w_m_people σ  q4 hq4) (by decide) sk_71 rfl rfl rfl (Nat.le_of_ble_eq_true rfl) rfl ?_
    exact Ev_iret (dt_X12_counted.at 7 rfl) rfl (oRet h)
  replace h := oNeg h c3
  by_cases c5 : a1 = 2
  · replace h := oPos h c5
    refine Ev_tblIn (tgt := 46) (off := 45) (dt_X12_counted.at 1 rfl) (by rw [c5]; decide) (by rw [c5]; decide) (by rw [c5]; decide) (by decide) ?_
    refine Ev_aload_n 0 (dt_X12_counted.at 8 rfl) rfl ?_
    obtain ⟨q6, hq6, h⟩ := oBind h
    refine Ev_callV (st := []) (st' := [.int q6]) [] (dt_X12_counted.at 9 rfl) cf_X12_319 (w_m_allErrands σ  q6 hq6) (by decide) sk_71 rfl rfl rfl (Nat.le_of_ble_eq_true rfl) rfl ?_
    exact Ev_iret (dt_X12_counted.at 10 rfl) rfl (oRet h)
  replace h := oNeg h c5
  by_cases c7 : a1 = 3
  · replace h := oPos h c7
    refine Ev_tblIn (tgt := 51) (off := 50) (dt_X12_counted.at 1 rfl) (by rw [c7]; decide) (by rw [c7]; decide) (by rw [c7]; decide) (by decide) ?_
    refine Ev_aload_n 0 (dt_X12_counted.at 11 rfl) rfl ?_
    refine Ev_get (i := 0) (v := .ref 72) (dt_X12_counted.at 12 rfl) ff_X12_7 sk_71 rfl rfl ?_
    refine Ev_bipush (dt_X12_counted.at 13 rfl) kb_108 ?_
    refine Ev_iaload 72 (dt_X12_counted.at 14 rfl) sk_72 ib_108_143 ?_
    exact Ev_iret (dt_X12_counted.at 15 rfl) rfl (oRet h)
  replace h := oNeg h c7
  by_cases c8 : a1 = 4
  · replace h := oPos h c8
    refine Ev_tblIn (tgt := 59) (off := 58) (dt_X12_counted.at 1 rfl) (by rw [c8]; decide) (by rw [c8]; decide) (by rw [c8]; decide) (by decide) ?_
    refine Ev_aload_n 0 (dt_X12_counted.at 16 rfl) rfl ?_
    refine Ev_get (i := 0) (v := .ref 72) (dt_X12_counted.at 17 rfl) ff_X12_7 sk_71 rfl rfl ?_
    refine Ev_bipush (dt_X12_counted.at 18 rfl) kb_127 ?_
    refine Ev_iaload 72 (dt_X12_counted.at 19 rfl) sk_72 ib_127_143 ?_
    exact Ev_iret (dt_X12_counted.at 20 rfl) rfl (oRet h)
  replace h := oNeg h c8
  refine Ev_tblOut (tgt := 67) (dt_X12_counted.at 1 rfl) (by have zc1 := i32_ne (k := 0) c1 (by decide); have zc3 := i32_ne (k := 1) c3 (by decide); have zc5 := i32_ne (k := 2) c5 (by decide); have zc7 := i32_ne (k := 3) c7 (by decide); have zc8 := i32_ne (k := 4) c8 (by decide); omega) (by decide) ?_
  refine Ev_aload_n 0 (dt_X12_counted.at 21 rfl) rfl ?_
  refine Ev_get (i := 21) (v := .int (gI σ 71 21)) (dt_X12_counted.at 22 rfl) ff_X12_259 sk_71 rfl rfl ?_
  exact Ev_iret (dt_X12_counted.at 23 rfl) rfl (oRet h)
def s_m_count (σ : Sg) (a1 : Int32) : Option (Int32 × Sg) :=
  (s_m_in (Int32.toInt64 a1) 0 5).bind fun q1 =>
  if q1 = 0 then
    (s_m_bad σ (-2)).bind fun q3 =>
    some (q3.1, q3.2)
  else
    (s_m_counted σ a1).bind fun q4 =>
    some (q4, σ)
set_option maxRecDepth 100000 in
set_option maxHeartbeats 4000000 in
theorem w_m_count (σ : Sg) (a1 : Int32) (q : (Int32 × Sg)) (h : s_m_count σ a1 = some q) : Cal M_X12_count 3 [.ref 71, .int a1] σ (some (.int q.1)) q.2 := by
  refine Cal.of (M := M_X12_count) (by decide +kernel) (Nat.le_of_ble_eq_true rfl) ?_
  show Ev _ _ _ _ 0 [(0, .ref 71), (1, .int a1)] [] σ
  unfold s_m_count at h
  refine Ev_iload_n 1 (dt_X12_count.at 0 rfl) rfl ?_
  refine Ev_i2l (dt_X12_count.at 1 rfl) ?_
  refine Ev_lconst (dt_X12_count.at 2 rfl) kl_0 ?_
  refine Ev_ldc2 (dt_X12_count.at 3 rfl) cl_X12_322 ?_
  obtain ⟨q1, hq1, h⟩ := oBind h
  refine Ev_callS (st := []) (st' := [.int q1]) [.long (Int32.toInt64 a1), .long 0, .long 5] (dt_X12_count.at 4 rfl) cf_X12_74 (w_m_in σ (Int32.toInt64 a1) 0 5 q1 hq1) (by decide) rfl rfl (Nat.le_of_ble_eq_true rfl) rfl ?_
  refine Ev_if_eq (tgt := 20) (dt_X12_count.at 5 rfl) (by decide) (fun c2 => ?_) (fun c2 => ?_)
  · replace h := oPos h c2
    refine Ev_aload_n 0 (dt_X12_count.at 10 rfl) rfl ?_
    refine Ev_bipush (dt_X12_count.at 11 rfl) kb_m2 ?_
    obtain ⟨q3, hq3, h⟩ := oBind h
    refine Ev_callV (st := []) (st' := [.int q3.1]) [.int (-2)] (dt_X12_count.at 12 rfl) cf_X12_88 (w_m_bad σ (-2) q3 hq3) (by decide) sk_71 rfl rfl rfl (Nat.le_of_ble_eq_true rfl) rfl ?_
    exact Ev_iret (dt_X12_count.at 13 rfl) rfl h
  · replace h := oNeg h c2
    refine Ev_aload_n 0 (dt_X12_count.at 6 rfl) rfl ?_
    refine Ev_iload_n 1 (dt_X12_count.at 7 rfl) rfl ?_
    obtain ⟨q4, hq4, h⟩ := oBind h
    refine Ev_callV (st := []) (st' := [.int q4]) [.int a1] (dt_X12_count.at 8 rfl) cf_X12_324 (w_m_counted σ a1 q4 hq4) (by decide) sk_71 rfl rfl rfl (Nat.le_of_ble_eq_true rfl) rfl ?_
    refine Ev_goto (tgt := 26) (dt_X12_count.at 9 rfl) (by decide) ?_
    exact Ev_iret (dt_X12_count.at 13 rfl) rfl h
def b_m_sums_6 (σ : Sg) (v3 : Int32) (v4 : Int32) (x : (Int64 × Int32)) : Option ((Int64 × Int32) ⊕ (Int64 × Int32)) :=
  if v4 ≤ x.2 then
    some (.inr (x.1, x.2))
  else
    if inB (v3 + x.2) 143 = true then
      lt (((31 * x.1) + (Int32.toInt64 (gI σ 72 (Int32.toNatClampNeg (v3 + x.2))))) : Int64) fun x3 =>
      lt (x.2 + 1 : Int32) fun x4 =>
      some (.inl (x3, x4))
    else none
def s_m_sums (σ : Sg) (a1 : Int64) (a3 : Int32) (a4 : Int32) : Option Int64 :=
  (lp (b_m_sums_6 σ a3 a4) 100000 (a1, 0)).bind fun o5 =>
  some o5.1
set_option maxRecDepth 100000 in
set_option maxHeartbeats 4000000 in
theorem wb_m_sums_6 (σ : Sg) (v3 : Int32) (v4 : Int32) (x : (Int64 × Int32)) (r : Option Value) (τ : Sg) (o : ((Int64 × Int32) ⊕ (Int64 × Int32))) (h : (b_m_sums_6 σ v3 v4 x) = some o) (hc : ∀ y : (Int64 × Int32), o = .inl y → Ev M_X12_sums 0 r τ 6 [(0, .ref 71), (3, .int v3), (4, .int v4), (5, .long y.1), (7, .int y.2)] [] σ) (he : ∀ y : (Int64 × Int32), o = .inr y → Ev M_X12_sums 0 r τ 38 [(5, .long y.1)] [] σ) : Ev M_X12_sums 0 r τ 6 [(0, .ref 71), (3, .int v3), (4, .int v4), (5, .long x.1), (7, .int x.2)] [] σ := by
  unfold b_m_sums_6 at h
  refine Ev_iload 4 (dt_X12_sums.at 4 rfl) rfl ?_
  refine Ev_iload 2 (dt_X12_sums.at 5 rfl) rfl ?_
  refine Ev_icmp_ge (tgt := 38) (dt_X12_sums.at 6 rfl) (by decide) (fun c1 => ?_) (fun c1 => ?_)
  · replace h := oPos h c1
    refine Ev_sub [3] (ls' := [(5, .long x.1)]) rfl ?_
    exact he (x.1, x.2) (Option.some.inj h).symm
  · replace h := oNeg h c1
    refine Ev_ldc2 (dt_X12_sums.at 7 rfl) cl_X12_327 ?_
    refine Ev_lload 3 (dt_X12_sums.at 8 rfl) rfl ?_
    refine Ev_lmul (dt_X12_sums.at 9 rfl) ?_
    refine Ev_aload_n 0 (dt_X12_sums.at 10 rfl) rfl ?_
    refine Ev_get (i := 0) (v := .ref 72) (dt_X12_sums.at 11 rfl) ff_X12_7 sk_71 rfl rfl ?_
    refine Ev_iload_n 1 (dt_X12_sums.at 12 rfl) rfl ?_
    refine Ev_iload 4 (dt_X12_sums.at 13 rfl) rfl ?_
    refine Ev_iadd (dt_X12_sums.at 14 rfl) ?_
    obtain ⟨g2, h⟩ := oGuard h
    refine Ev_iaload 72 (dt_X12_sums.at 15 rfl) sk_72 g2 ?_
    refine Ev_i2l (dt_X12_sums.at 16 rfl) ?_
    refine Ev_ladd (dt_X12_sums.at 17 rfl) ?_
    refine Ev_nmL (fun x3 ex3 => ?_)
    replace h := oLt h ex3
    refine Ev_lstore (dt_X12_sums.at 18 rfl) (by decide) (ls' := [(5, .long x3), (0, .ref 71), (3, .int v3), (4, .int v4), (7, .int x.2)]) rfl ?_
    obtain ⟨x4, ex4⟩ : ∃ z : Int32, z = x.2 + 1 := ⟨_, rfl⟩
    replace h := oLt h ex4
    refine Ev_iinc (v := x4) 4 (dt_X12_sums.at 19 rfl) rfl (ex4.trans (congrArg (fun z => x.2 + z) ki_1.symm)) (by decide) (ls' := [(7, .int x4), (5, .long x3), (0, .ref 71), (3, .int v3), (4, .int v4)]) rfl ?_
    refine Ev_goto (tgt := 6) (dt_X12_sums.at 20 rfl) (by decide) ?_
    refine Ev_sub [2, 3, 4, 1, 0] (ls' := [(0, .ref 71), (3, .int v3), (4, .int v4), (5, .long x3), (7, .int x4)]) rfl ?_
    exact hc (x3, x4) (Option.some.inj h).symm
set_option maxRecDepth 100000 in
set_option maxHeartbeats 4000000 in
theorem wl_m_sums_6 (σ : Sg) (v3 : Int32) (v4 : Int32) (r : Option Value) (τ : Sg) (n : Nat) (x : (Int64 × Int32)) (z : (Int64 × Int32)) (h : lp (b_m_sums_6 σ v3 v4) n x = some z) (he : ∀ y : (Int64 × Int32), z = y → Ev M_X12_sums 0 r τ 38 [(5, .long y.1)] [] σ) : Ev M_X12_sums 0 r τ 6 [(0, .ref 71), (3, .int v3), (4, .int v4), (5, .long x.1), (7, .int x.2)] [] σ := by
  refine lp_ind (E := fun x : (Int64 × Int32) => Ev M_X12_sums 0 r τ 6 [(0, .ref 71), (3, .int v3), (4, .int v4), (5, .long x.1), (7, .int x.2)] [] σ) (fun x => ⟨fun y hb hy => ?_, fun hb => ?_⟩) n x h
  · exact wb_m_sums_6 σ v3 v4 x r τ _ hb (fun y' e => by cases e; exact hy) (fun y' e => by cases e)
  · exact wb_m_sums_6 σ v3 v4 x r τ _ hb (fun y' e => by cases e) (fun y' e => he y' (Sum.inr.inj e))
set_option maxRecDepth 100000 in
set_option maxHeartbeats 4000000 in
theorem w_m_sums (σ : Sg) (a1 : Int64) (a3 : Int32) (a4 : Int32) (q : Int64) (h : s_m_sums σ a1 a3 a4 = some q) : Cal M_X12_sums 0 [.ref 71, .long a1, .int a3, .int a4] σ (some (.long q)) σ := by
  refine Cal.of (M := M_X12_sums) (by decide +kernel) (Nat.le_of_ble_eq_true rfl) ?_
  show Ev _ _ _ _ 0 [(0, .ref 71), (1, .long a1), (3, .int a3), (4, .int a4)] [] σ
  unfold s_m_sums at h
  refine Ev_lload_n 1 (dt_X12_sums.at 0 rfl) rfl ?_
  refine Ev_lstore (dt_X12_sums.at 1 rfl) (by decide) (ls' := [(5, .long a1), (0, .ref 71), (1, .long a1), (3, .int a3), (4, .int a4)]) rfl ?_
  refine Ev_iconst (dt_X12_sums.at 2 rfl) ki_0 ?_
  refine Ev_istore (dt_X12_sums.at 3 rfl) (by decide) (ls' := [(7, .int 0), (5, .long a1), (0, .ref 71), (1, .long a1), (3, .int a3), (4, .int a4)]) rfl ?_
  refine Ev_sub [2, 4, 5, 1, 0] (ls' := [(0, .ref 71), (3, .int a3), (4, .int a4), (5, .long a1), (7, .int 0)]) rfl ?_
  obtain ⟨o5, ho5, h⟩ := oBind h
  refine wl_m_sums_6 σ a3 a4 _ _ 100000 (a1, 0) o5 ho5 (fun y ey => ?_)
  subst ey
  refine Ev_lload 0 (dt_X12_sums.at 21 rfl) rfl ?_
  exact Ev_lret (dt_X12_sums.at 22 rfl) rfl (oRet h)
