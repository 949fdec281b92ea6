def j_m_isWord_104i27 (σ : Sg) (v1 : Int32) (v2 : Int32) (v3 : Int32) (v4 : Int32) (v5 : Int32) (v6 : Int32) (v8 : Int32) (u0 : Int32) (u1 : Int32) : Option ((Int32 × Int32) ⊕ (Int32 × Int32)) :=
  if u1 = u0 then
    lt (v8 + 1 : Int32) fun x12 =>
    some (.inl (1, x12))
  else
    lt (v8 + 1 : Int32) fun x11 =>
    some (.inl (0, x11))
def b_m_isWord_27 (σ : Sg) (v1 : Int32) (v2 : Int32) (v3 : Int32) (v4 : Int32) (v5 : Int32) (v6 : Int32) (x : (Int32 × Int32)) : Option ((Int32 × Int32) ⊕ (Int32 × Int32)) :=
  if 6 ≤ x.2 then
    some (.inr (x.1, x.2))
  else
    if x.1 = 0 then
      some (.inr (x.1, x.2))
    else
      if inB ((gI σ 71 22) + x.2) 250 = true then
        if x.2 = 0 then
          j_m_isWord_104i27 σ v1 v2 v3 v4 v5 v6 x.2 v1 (gI σ 88 (Int32.toNatClampNeg ((gI σ 71 22) + x.2)))
        else
          if x.2 = 1 then
            j_m_isWord_104i27 σ v1 v2 v3 v4 v5 v6 x.2 v2 (gI σ 88 (Int32.toNatClampNeg ((gI σ 71 22) + x.2)))
          else
            if x.2 = 2 then
              j_m_isWord_104i27 σ v1 v2 v3 v4 v5 v6 x.2 v3 (gI σ 88 (Int32.toNatClampNeg ((gI σ 71 22) + x.2)))
            else
              if x.2 = 3 then
                j_m_isWord_104i27 σ v1 v2 v3 v4 v5 v6 x.2 v4 (gI σ 88 (Int32.toNatClampNeg ((gI σ 71 22) + x.2)))
              else
                if x.2 = 4 then
                  j_m_isWord_104i27 σ v1 v2 v3 v4 v5 v6 x.2 v5 (gI σ 88 (Int32.toNatClampNeg ((gI σ 71 22) + x.2)))
                else
                  j_m_isWord_104i27 σ v1 v2 v3 v4 v5 v6 x.2 v6 (gI σ 88 (Int32.toNatClampNeg ((gI σ 71 22) + x.2)))
      else none
def j_m_isWord_22  (σ : Sg) (v1 : Int32) (v2 : Int32) (v3 : Int32) (v4 : Int32) (v5 : Int32) (v6 : Int32) (u0 : Int32) : Option Int32 :=
  (lp (b_m_isWord_27 σ v1 v2 v3 v4 v5 v6) 100000 (u0, 0)).bind fun o13 =>
  if o13.1 &&& 1 = o13.1 then some o13.1 else none
def j_m_isWord_21  (σ : Sg) (v1 : Int32) (v2 : Int32) (v3 : Int32) (v4 : Int32) (v5 : Int32) (v6 : Int32) : Option Int32 :=
  j_m_isWord_22  σ v1 v2 v3 v4 v5 v6 0
def s_m_isWord (σ : Sg) (a1 : Int32) (a2 : Int32) (a3 : Int32) (a4 : Int32) (a5 : Int32) (a6 : Int32) : Option Int32 :=
  if (gI σ 71 24) = 1 then
    if (gI σ 71 23) = 6 then
      j_m_isWord_22  σ a1 a2 a3 a4 a5 a6 1
    else
      j_m_isWord_21  σ a1 a2 a3 a4 a5 a6
  else
    j_m_isWord_21  σ a1 a2 a3 a4 a5 a6
set_option maxRecDepth 100000 in
set_option maxHeartbeats 4000000 in
theorem wj_m_isWord_104i27 (σ : Sg) (v1 : Int32) (v2 : Int32) (v3 : Int32) (v4 : Int32) (v5 : Int32) (v6 : Int32) (v8 : Int32) (u0 : Int32) (u1 : Int32) (r : Option Value) (τ : Sg) (o : ((Int32 × Int32) ⊕ (Int32 × Int32))) (h : (j_m_isWord_104i27 σ v1 v2 v3 v4 v5 v6 v8 u0 u1) = some o) (hc : ∀ y : (Int32 × Int32), o = .inl y → Ev M_X12_isWord 0 r τ 27 [(0, .ref 71), (1, .int v1), (2, .int v2), (3, .int v3), (4, .int v4), (5, .int v5), (6, .int v6), (7, .int y.1), (8, .int y.2)] [] σ) (he : ∀ y : (Int32 × Int32), o = .inr y → Ev M_X12_isWord 0 r τ 120 [(7, .int y.1)] [] σ) : Ev M_X12_isWord 0 r τ 104 [(0, .ref 71), (1, .int v1), (2, .int v2), (3, .int v3), (4, .int v4), (5, .int v5), (6, .int v6), (8, .int v8)] [.int u0, .int u1] σ := by
  unfold j_m_isWord_104i27 at h
  refine Ev_icmp_ne (tgt := 111) (dt_X12_isWord.at 51 rfl) (by decide) (fun c10 => ?_) (fun c10 => ?_)
  · replace h := oNeg h c10
    refine Ev_iconst (dt_X12_isWord.at 54 rfl) ki_0 ?_
    refine Ev_istore (dt_X12_isWord.at 55 rfl) (by decide) (ls' := [(7, .int 0), (0, .ref 71), (1, .int v1), (2, .int v2), (3, .int v3), (4, .int v4), (5, .int v5), (6, .int v6), (8, .int v8)]) rfl ?_
    obtain ⟨x11, ex11⟩ : ∃ z : Int32, z = v8 + 1 := ⟨_, rfl⟩
    replace h := oLt h ex11
    refine Ev_iinc (v := x11) 8 (dt_X12_isWord.at 56 rfl) rfl (ex11.trans (congrArg (fun z => v8 + z) ki_1.symm)) (by decide) (ls' := [(8, .int x11), (7, .int 0), (0, .ref 71), (1, .int v1), (2, .int v2), (3, .int v3), (4, .int v4), (5, .int v5), (6, .int v6)]) rfl ?_
    refine Ev_goto (tgt := 27) (dt_X12_isWord.at 57 rfl) (by decide) ?_
    refine Ev_sub [2, 3, 4, 5, 6, 7, 8, 1, 0] (ls' := [(0, .ref 71), (1, .int v1), (2, .int v2), (3, .int v3), (4, .int v4), (5, .int v5), (6, .int v6), (7, .int 0), (8, .int x11)]) rfl ?_
    exact hc (0, x11) (Option.some.inj h).symm
  · replace h := oPos h c10
    refine Ev_iconst (dt_X12_isWord.at 52 rfl) ki_1 ?_
    refine Ev_goto (tgt := 112) (dt_X12_isWord.at 53 rfl) (by decide) ?_
    refine Ev_istore (dt_X12_isWord.at 55 rfl) (by decide) (ls' := [(7, .int 1), (0, .ref 71), (1, .int v1), (2, .int v2), (3, .int v3), (4, .int v4), (5, .int v5), (6, .int v6), (8, .int v8)]) rfl ?_
    obtain ⟨x12, ex12⟩ : ∃ z : Int32, z = v8 + 1 := ⟨_, rfl⟩
    replace h := oLt h ex12
    refine Ev_iinc (v := x12) 8 (dt_X12_isWord.at 56 rfl) rfl (ex12.trans (congrArg (fun z => v8 + z) ki_1.symm)) (by decide) (ls' := [(8, .int x12), (7, .int 1), (0, .ref 71), (1, .int v1), (2, .int v2), (3, .int v3), (4, .int v4), (5, .int v5), (6, .int v6)]) rfl ?_
    refine Ev_goto (tgt := 27) (dt_X12_isWord.at 57 rfl) (by decide) ?_
    refine Ev_sub [2, 3, 4, 5, 6, 7, 8, 1, 0] (ls' := [(0, .ref 71), (1, .int v1), (2, .int v2), (3, .int v3), (4, .int v4), (5, .int v5), (6, .int v6), (7, .int 1), (8, .int x12)]) rfl ?_
    exact hc (1, x12) (Option.some.inj h).symm
set_option maxRecDepth 100000 in
set_option maxHeartbeats 4000000 in
theorem wb_m_isWord_27 (σ : Sg) (v1 : Int32) (v2 : Int32) (v3 : Int32) (v4 : Int32) (v5 : Int32) (v6 : Int32) (x : (Int32 × Int32)) (r : Option Value) (τ : Sg) (o : ((Int32 × Int32) ⊕ (Int32 × Int32))) (h : (b_m_isWord_27 σ v1 v2 v3 v4 v5 v6 x) = some o) (hc : ∀ y : (Int32 × Int32), o = .inl y → Ev M_X12_isWord 0 r τ 27 [(0, .ref 71), (1, .int v1), (2, .int v2), (3, .int v3), (4, .int v4), (5, .int v5), (6, .int v6), (7, .int y.1), (8, .int y.2)] [] σ) (he : ∀ y : (Int32 × Int32), o = .inr y → Ev M_X12_isWord 0 r τ 120 [(7, .int y.1)] [] σ) : Ev M_X12_isWord 0 r τ 27 [(0, .ref 71), (1, .int v1), (2, .int v2), (3, .int v3), (4, .int v4), (5, .int v5), (6, .int v6), (7, .int x.1), (8, .int x.2)] [] σ := by
  unfold b_m_isWord_27 at h
  refine Ev_iload 8 (dt_X12_isWord.at 14 rfl) rfl ?_
  refine Ev_bipush (dt_X12_isWord.at 15 rfl) kb_6 ?_
  refine Ev_icmp_ge (tgt := 120) (dt_X12_isWord.at 16 rfl) (by decide) (fun c2 => ?_) (fun c2 => ?_)
  · replace h := oPos h c2
    refine Ev_sub [7] (ls' := [(7, .int x.1)]) rfl ?_
    exact he (x.1, x.2) (Option.some.inj h).symm
  · replace h := oNeg h c2
    refine Ev_iload 7 (dt_X12_isWord.at 17 rfl) rfl ?_
    refine Ev_if_eq (tgt := 120) (dt_X12_isWord.at 18 rfl) (by decide) (fun c3 => ?_) (fun c3 => ?_)
    · replace h := oPos h c3
      refine Ev_sub [7] (ls' := [(7, .int x.1)]) rfl ?_
      exact he (x.1, x.2) (Option.some.inj h).symm
    · replace h := oNeg h c3
      refine Ev_aload_n 0 (dt_X12_isWord.at 19 rfl) rfl ?_
      refine Ev_get (i := 20) (v := .ref 88) (dt_X12_isWord.at 20 rfl) ff_X12_64 sk_71 rfl rfl ?_
      refine Ev_aload_n 0 (dt_X12_isWord.at 21 rfl) rfl ?_
      refine Ev_get (i := 22) (v := .int (gI σ 71 22)) (dt_X12_isWord.at 22 rfl) ff_X12_272 sk_71 rfl rfl ?_
      refine Ev_iload 8 (dt_X12_isWord.at 23 rfl) rfl ?_
      refine Ev_iadd (dt_X12_isWord.at 24 rfl) ?_
      obtain ⟨g4, h⟩ := oGuard h
      refine Ev_iaload 88 (dt_X12_isWord.at 25 rfl) sk_88 g4 ?_
      refine Ev_iload 8 (dt_X12_isWord.at 26 rfl) rfl ?_
      refine Ev_if_ne (tgt := 60) (dt_X12_isWord.at 27 rfl) (by decide) (fun c5 => ?_) (fun c5 => ?_)
      · replace h := oNeg h c5
        refine Ev_iload 8 (dt_X12_isWord.at 30 rfl) rfl ?_
        refine Ev_iconst (dt_X12_isWord.at 31 rfl) ki_1 ?_
        refine Ev_icmp_ne (tgt := 70) (dt_X12_isWord.at 32 rfl) (by decide) (fun c6 => ?_) (fun c6 => ?_)
        · replace h := oNeg h c6
          refine Ev_iload 8 (dt_X12_isWord.at 35 rfl) rfl ?_
          refine Ev_iconst (dt_X12_isWord.at 36 rfl) ki_2 ?_
          refine Ev_icmp_ne (tgt := 80) (dt_X12_isWord.at 37 rfl) (by decide) (fun c7 => ?_) (fun c7 => ?_)
          · replace h := oNeg h c7
            refine Ev_iload 8 (dt_X12_isWord.at 40 rfl) rfl ?_
            refine Ev_iconst (dt_X12_isWord.at 41 rfl) ki_3 ?_
            refine Ev_icmp_ne (tgt := 91) (dt_X12_isWord.at 42 rfl) (by decide) (fun c8 => ?_) (fun c8 => ?_)
            · replace h := oNeg h c8
              refine Ev_iload 8 (dt_X12_isWord.at 45 rfl) rfl ?_
              refine Ev_iconst (dt_X12_isWord.at 46 rfl) ki_4 ?_
              refine Ev_icmp_ne (tgt := 102) (dt_X12_isWord.at 47 rfl) (by decide) (fun c9 => ?_) (fun c9 => ?_)
              · replace h := oNeg h c9
                refine Ev_iload 6 (dt_X12_isWord.at 50 rfl) rfl ?_
                refine Ev_sub [0, 1, 2, 3, 4, 5, 6, 8] (ls' := [(0, .ref 71), (1, .int v1), (2, .int v2), (3, .int v3), (4, .int v4), (5, .int v5), (6, .int v6), (8, .int x.2)]) rfl ?_
                exact wj_m_isWord_104i27 σ v1 v2 v3 v4 v5 v6 x.2 v6 (gI σ 88 (Int32.toNatClampNeg ((gI σ 71 22) + x.2))) _ _ _ h hc he
              · replace h := oPos h c9
                refine Ev_iload 5 (dt_X12_isWord.at 48 rfl) rfl ?_
                refine Ev_goto (tgt := 104) (dt_X12_isWord.at 49 rfl) (by decide) ?_
                refine Ev_sub [0, 1, 2, 3, 4, 5, 6, 8] (ls' := [(0, .ref 71), (1, .int v1), (2, .int v2), (3, .int v3), (4, .int v4), (5, .int v5), (6, .int v6), (8, .int x.2)]) rfl ?_
                exact wj_m_isWord_104i27 σ v1 v2 v3 v4 v5 v6 x.2 v5 (gI σ 88 (Int32.toNatClampNeg ((gI σ 71 22) + x.2))) _ _ _ h hc he
            · replace h := oPos h c8
              refine Ev_iload 4 (dt_X12_isWord.at 43 rfl) rfl ?_
              refine Ev_goto (tgt := 104) (dt_X12_isWord.at 44 rfl) (by decide) ?_
              refine Ev_sub [0, 1, 2, 3, 4, 5, 6, 8] (ls' := [(0, .ref 71), (1, .int v1), (2, .int v2), (3, .int v3), (4, .int v4), (5, .int v5), (6, .int v6), (8, .int x.2)]) rfl ?_
              exact wj_m_isWord_104i27 σ v1 v2 v3 v4 v5 v6 x.2 v4 (gI σ 88 (Int32.toNatClampNeg ((gI σ 71 22) + x.2))) _ _ _ h hc he
          · replace h := oPos h c7
            refine Ev_iload_n 3 (dt_X12_isWord.at 38 rfl) rfl ?_
            refine Ev_goto (tgt := 104) (dt_X12_isWord.at 39 rfl) (by decide) ?_
            refine Ev_sub [0, 1, 2, 3, 4, 5, 6, 8] (ls' := [(0, .ref 71), (1, .int v1), (2, .int v2), (3, .int v3), (4, .int v4), (5, .int v5), (6, .int v6), (8, .int x.2)]) rfl ?_
            exact wj_m_isWord_104i27 σ v1 v2 v3 v4 v5 v6 x.2 v3 (gI σ 88 (Int32.toNatClampNeg ((gI σ 71 22) + x.2))) _ _ _ h hc he
        · replace h := oPos h c6
          refine Ev_iload_n 2 (dt_X12_isWord.at 33 rfl) rfl ?_
          refine Ev_goto (tgt := 104) (dt_X12_isWord.at 34 rfl) (by decide) ?_
          refine Ev_sub [0, 1, 2, 3, 4, 5, 6, 8] (ls' := [(0, .ref 71), (1, .int v1), (2, .int v2), (3, .int v3), (4, .int v4), (5, .int v5), (6, .int v6), (8, .int x.2)]) rfl ?_
          exact wj_m_isWord_104i27 σ v1 v2 v3 v4 v5 v6 x.2 v2 (gI σ 88 (Int32.toNatClampNeg ((gI σ 71 22) + x.2))) _ _ _ h hc he
      · replace h := oPos h c5
        refine Ev_iload_n 1 (dt_X12_isWord.at 28 rfl) rfl ?_
        refine Ev_goto (tgt := 104) (dt_X12_isWord.at 29 rfl) (by decide) ?_
        refine Ev_sub [0, 1, 2, 3, 4, 5, 6, 8] (ls' := [(0, .ref 71), (1, .int v1), (2, .int v2), (3, .int v3), (4, .int v4), (5, .int v5), (6, .int v6), (8, .int x.2)]) rfl ?_
        exact wj_m_isWord_104i27 σ v1 v2 v3 v4 v5 v6 x.2 v1 (gI σ 88 (Int32.toNatClampNeg ((gI σ 71 22) + x.2))) _ _ _ h hc he
set_option maxRecDepth 100000 in
set_option maxHeartbeats 4000000 in
theorem wl_m_isWord_27 (σ : Sg) (v1 : Int32) (v2 : Int32) (v3 : Int32) (v4 : Int32) (v5 : Int32) (v6 : Int32) (r : Option Value) (τ : Sg) (n : Nat) (x : (Int32 × Int32)) (z : (Int32 × Int32)) (h : lp (b_m_isWord_27 σ v1 v2 v3 v4 v5 v6) n x = some z) (he : ∀ y : (Int32 × Int32), z = y → Ev M_X12_isWord 0 r τ 120 [(7, .int y.1)] [] σ) : Ev M_X12_isWord 0 r τ 27 [(0, .ref 71), (1, .int v1), (2, .int v2), (3, .int v3), (4, .int v4), (5, .int v5), (6, .int v6), (7, .int x.1), (8, .int x.2)] [] σ := by
  refine lp_ind (E := fun x : (Int32 × Int32) => Ev M_X12_isWord 0 r τ 27 [(0, .ref 71), (1, .int v1), (2, .int v2), (3, .int v3), (4, .int v4), (5, .int v5), (6, .int v6), (7, .int x.1), (8, .int x.2)] [] σ) (fun x => ⟨fun y hb hy => ?_, fun hb => ?_⟩) n x h
  · exact wb_m_isWord_27 σ v1 v2 v3 v4 v5 v6 x r τ _ hb (fun y' e => by cases e; exact hy) (fun y' e => by cases e)
  · exact wb_m_isWord_27 σ v1 v2 v3 v4 v5 v6 x r τ _ hb (fun y' e => by cases e) (fun y' e => he y' (Sum.inr.inj e))
set_option maxRecDepth 100000 in
set_option maxHeartbeats 4000000 in
theorem wj_m_isWord_22  (σ : Sg) (v1 : Int32) (v2 : Int32) (v3 : Int32) (v4 : Int32) (v5 : Int32) (v6 : Int32) (u0 : Int32) (q : Int32) (h : (j_m_isWord_22  σ v1 v2 v3 v4 v5 v6 u0) = some q) : Ev M_X12_isWord 0 (some (.int q)) σ 22 [(0, .ref 71), (1, .int v1), (2, .int v2), (3, .int v3), (4, .int v4), (5, .int v5), (6, .int v6)] [.int u0] σ := by
  unfold j_m_isWord_22 at h
  refine Ev_istore (dt_X12_isWord.at 11 rfl) (by decide) (ls' := [(7, .int u0), (0, .ref 71), (1, .int v1), (2, .int v2), (3, .int v3), (4, .int v4), (5, .int v5), (6, .int v6)]) rfl ?_
  refine Ev_iconst (dt_X12_isWord.at 12 rfl) ki_0 ?_
  refine Ev_istore (dt_X12_isWord.at 13 rfl) (by decide) (ls' := [(8, .int 0), (7, .int u0), (0, .ref 71), (1, .int v1), (2, .int v2), (3, .int v3), (4, .int v4), (5, .int v5), (6, .int v6)]) rfl ?_
  refine Ev_sub [2, 3, 4, 5, 6, 7, 8, 1, 0] (ls' := [(0, .ref 71), (1, .int v1), (2, .int v2), (3, .int v3), (4, .int v4), (5, .int v5), (6, .int v6), (7, .int u0), (8, .int 0)]) rfl ?_
  obtain ⟨o13, ho13, h⟩ := oBind h
  refine wl_m_isWord_27 σ v1 v2 v3 v4 v5 v6 _ _ 100000 (u0, 0) o13 ho13 (fun y ey => ?_)
  subst ey
  refine Ev_iload 0 (dt_X12_isWord.at 58 rfl) rfl ?_
  obtain ⟨gz, h⟩ := oGuard h
  exact Ev_zret (dt_X12_isWord.at 59 rfl) rfl gz (oRet h)
set_option maxRecDepth 100000 in
set_option maxHeartbeats 4000000 in
theorem wj_m_isWord_21  (σ : Sg) (v1 : Int32) (v2 : Int32) (v3 : Int32) (v4 : Int32) (v5 : Int32) (v6 : Int32) (q : Int32) (h : (j_m_isWord_21  σ v1 v2 v3 v4 v5 v6) = some q) : Ev M_X12_isWord 0 (some (.int q)) σ 21 [(0, .ref 71), (1, .int v1), (2, .int v2), (3, .int v3), (4, .int v4), (5, .int v5), (6, .int v6)] [] σ := by
  unfold j_m_isWord_21 at h
  refine Ev_iconst (dt_X12_isWord.at 10 rfl) ki_0 ?_
  refine Ev_sub [0, 1, 2, 3, 4, 5, 6] (ls' := [(0, .ref 71), (1, .int v1), (2, .int v2), (3, .int v3), (4, .int v4), (5, .int v5), (6, .int v6)]) rfl ?_
  exact wj_m_isWord_22  σ v1 v2 v3 v4 v5 v6 0 q h
set_option maxRecDepth 100000 in
set_option maxHeartbeats 4000000 in
theorem w_m_isWord (σ : Sg) (a1 : Int32) (a2 : Int32) (a3 : Int32) (a4 : Int32) (a5 : Int32) (a6 : Int32) (q : Int32) (h : s_m_isWord σ a1 a2 a3 a4 a5 a6 = some q) : Cal M_X12_isWord 0 [.ref 71, .int a1, .int a2, .int a3, .int a4, .int a5, .int a6] σ (some (.int q)) σ := by
  refine Cal.of (M := M_X12_isWord) (by decide +kernel) (Nat.le_of_ble_eq_true rfl) ?_
  show Ev _ _ _ _ 0 [(0, .ref 71), (1, .int a1), (2, .int a2), (3, .int a3), (4, .int a4), (5, .int a5), (6, .int a6)] [] σ
  unfold s_m_isWord at h
  refine Ev_aload_n 0 (dt_X12_isWord.at 0 rfl) rfl ?_
  refine Ev_get (i := 24) (v := .int (gI σ 71 24)) (dt_X12_isWord.at 1 rfl) ff_X12_278 sk_71 rfl rfl ?_
  refine Ev_iconst (dt_X12_isWord.at 2 rfl) ki_1 ?_
  refine Ev_icmp_ne (tgt := 21) (dt_X12_isWord.at 3 rfl) (by decide) (fun c1 => ?_) (fun c1 => ?_)
  · replace h := oNeg h c1
    refine Ev_sub [0, 1, 2, 3, 4, 5, 6] (ls' := [(0, .ref 71), (1, .int a1), (2, .int a2), (3, .int a3), (4, .int a4), (5, .int a5), (6, .int a6)]) rfl ?_
    exact wj_m_isWord_21  σ a1 a2 a3 a4 a5 a6 q h
  · replace h := oPos h c1
    refine Ev_aload_n 0 (dt_X12_isWord.at 4 rfl) rfl ?_
    refine Ev_get (i := 23) (v := .int (gI σ 71 23)) (dt_X12_isWord.at 5 rfl) ff_X12_275 sk_71 rfl rfl ?_
    refine Ev_bipush (dt_X12_isWord.at 6 rfl) kb_6 ?_
    refine Ev_icmp_ne (tgt := 21) (dt_X12_isWord.at 7 rfl) (by decide) (fun c14 => ?_) (fun c14 => ?_)
    · replace h := oNeg h c14
      refine Ev_sub [0, 1, 2, 3, 4, 5, 6] (ls' := [(0, .ref 71), (1, .int a1), (2, .int a2), (3, .int a3), (4, .int a4), (5, .int a5), (6, .int a6)]) rfl ?_
      exact wj_m_isWord_21  σ a1 a2 a3 a4 a5 a6 q h
    · replace h := oPos h c14
      refine Ev_iconst (dt_X12_isWord.at 8 rfl) ki_1 ?_
      refine Ev_goto (tgt := 22) (dt_X12_isWord.at 9 rfl) (by decide) ?_
      refine Ev_sub [0, 1, 2, 3, 4, 5, 6] (ls' := [(0, .ref 71), (1, .int a1), (2, .int a2), (3, .int a3), (4, .int a4), (5, .int a5), (6, .int a6)]) rfl ?_
      exact wj_m_isWord_22  σ a1 a2 a3 a4 a5 a6 1 q h
def s_m_goNext (σ : Sg)  : Option Sg :=
  (s_m_look σ ((gI σ 71 22) + (gI σ 71 23))).bind fun q1 =>
  some q1
set_option maxRecDepth 100000 in
set_option maxHeartbeats 4000000 in
theorem w_m_goNext (σ : Sg)  (q : Sg) (h : s_m_goNext σ  = some q) : Cal M_X12_goNext 3 [.ref 71] σ none q := by
  refine Cal.of (M := M_X12_goNext) (by decide +kernel) (Nat.le_of_ble_eq_true rfl) ?_
  show Ev _ _ _ _ 0 [(0, .ref 71)] [] σ
  unfold s_m_goNext at h
  refine Ev_aload_n 0 (dt_X12_goNext.at 0 rfl) rfl ?_
  refine Ev_aload_n 0 (dt_X12_goNext.at 1 rfl) rfl ?_
  refine Ev_get (i := 22) (v := .int (gI σ 71 22)) (dt_X12_goNext.at 2 rfl) ff_X12_272 sk_71 rfl rfl ?_
  refine Ev_aload_n 0 (dt_X12_goNext.at 3 rfl) rfl ?_
  refine Ev_get (i := 23) (v := .int (gI σ 71 23)) (dt_X12_goNext.at 4 rfl) ff_X12_275 sk_71 rfl rfl ?_
  refine Ev_iadd (dt_X12_goNext.at 5 rfl) ?_
  obtain ⟨q1, hq1, h⟩ := oBind h
  refine Ev_callV (st := []) (st' := []) [.int ((gI σ 71 22) + (gI σ 71 23))] (dt_X12_goNext.at 6 rfl) cf_X12_290 (w_m_look σ ((gI σ 71 22) + (gI σ 71 23)) q1 hq1) (by decide) sk_71 rfl rfl rfl (Nat.le_of_ble_eq_true rfl) rfl ?_
  exact Ev_vret (dt_X12_goNext.at 7 rfl) rfl h
def s_m_takes (σ : Sg) (a1 : Int32) (a2 : Int32) : Option (Int32 × Sg) :=
  if (gI σ 71 24) = 2 then
    (s_m_in (Int32.toInt64 (gI σ 71 25)) (Int32.toInt64 a1) (Int32.toInt64 a2)).bind fun q2 =>
    if q2 = 0 then
      some (0, σ)
    else
      lt (pI σ 71 28 (gI σ 71 25) : Sg) fun s4 =>
      (s_m_goNext s4 ).bind fun q5 =>
      some (1, q5)
  else
    some (0, σ)
set_option maxRecDepth 100000 in
set_option maxHeartbeats 4000000 in
theorem w_m_takes (σ : Sg) (a1 : Int32) (a2 : Int32) (q : (Int32 × Sg)) (h : s_m_takes σ a1 a2 = some q) : Cal M_X12_takes 4 [.ref 71, .int a1, .int a2] σ (some (.int q.1)) q.2 := by
  refine Cal.of (M := M_X12_takes) (by decide +kernel) (Nat.le_of_ble_eq_true rfl) ?_
  show Ev _ _ _ _ 0 [(0, .ref 71), (1, .int a1), (2, .int a2)] [] σ
  unfold s_m_takes at h
  refine Ev_aload_n 0 (dt_X12_takes.at 0 rfl) rfl ?_
  refine Ev_get (i := 24) (v := .int (gI σ 71 24)) (dt_X12_takes.at 1 rfl) ff_X12_278 sk_71 rfl rfl ?_
  refine Ev_iconst (dt_X12_takes.at 2 rfl) ki_2 ?_
  refine Ev_icmp_ne (tgt := 23) (dt_X12_takes.at 3 rfl) (by decide) (fun c1 => ?_) (fun c1 => ?_)
  · replace h := oNeg h c1
    refine Ev_iconst (dt_X12_takes.at 13 rfl) ki_0 ?_
    exact Ev_zret (dt_X12_takes.at 14 rfl) rfl (by decide) h
  · replace h := oPos h c1
    refine Ev_aload_n 0 (dt_X12_takes.at 4 rfl) rfl ?_
    refine Ev_get (i := 25) (v := .int (gI σ 71 25)) (dt_X12_takes.at 5 rfl) ff_X12_281 sk_71 rfl rfl ?_
    refine Ev_i2l (dt_X12_takes.at 6 rfl) ?_
    refine Ev_iload_n 1 (dt_X12_takes.at 7 rfl) rfl ?_
    refine Ev_i2l (dt_X12_takes.at 8 rfl) ?_
    refine Ev_iload_n 2 (dt_X12_takes.at 9 rfl) rfl ?_
    refine Ev_i2l (dt_X12_takes.at 10 rfl) ?_
    obtain ⟨q2, hq2, h⟩ := oBind h
    refine Ev_callS (st := []) (st' := [.int q2]) [.long (Int32.toInt64 (gI σ 71 25)), .long (Int32.toInt64 a1), .long (Int32.toInt64 a2)] (dt_X12_takes.at 11 rfl) cf_X12_74 (w_m_in σ (Int32.toInt64 (gI σ 71 25)) (Int32.toInt64 a1) (Int32.toInt64 a2) q2 hq2) (by decide) rfl rfl (Nat.le_of_ble_eq_true rfl) rfl ?_
    refine Ev_if_ne (tgt := 25) (dt_X12_takes.at 12 rfl) (by decide) (fun c3 => ?_) (fun c3 => ?_)
    · replace h := oNeg h c3
      refine Ev_aload_n 0 (dt_X12_takes.at 15 rfl) rfl ?_
      refine Ev_aload_n 0 (dt_X12_takes.at 16 rfl) rfl ?_
      refine Ev_get (i := 25) (v := .int (gI σ 71 25)) (dt_X12_takes.at 17 rfl) ff_X12_281 sk_71 rfl rfl ?_
      refine Ev_putI (dt_X12_takes.at 18 rfl) ff_X12_293 fw_12_28 sk_71 rfl ?_
      refine Ev_nmS (fun s4 es4 => ?_)
      replace h := oLt h es4
      refine Ev_aload_n 0 (dt_X12_takes.at 19 rfl) rfl ?_
      obtain ⟨q5, hq5, h⟩ := oBind h
      refine Ev_callV (st := []) (st' := []) [] (dt_X12_takes.at 20 rfl) cf_X12_296 (w_m_goNext s4  q5 hq5) (by decide) sk_71 rfl rfl rfl (Nat.le_of_ble_eq_true rfl) rfl ?_
      refine Ev_iconst (dt_X12_takes.at 21 rfl) ki_1 ?_
      exact Ev_zret (dt_X12_takes.at 22 rfl) rfl (by decide) h
    · replace h := oPos h c3
      refine Ev_iconst (dt_X12_takes.at 13 rfl) ki_0 ?_
      exact Ev_zret (dt_X12_takes.at 14 rfl) rfl (by decide) h
def s_m_layErrand_89 (σ : Sg) (a1 : Int32) (a2 : Int32) (a3 : Int32) : Option Sg :=
  lt ((2 + (11 * a1)) : Int32) fun x1 =>
  if inB (x1 + 2) 101 = true then
    lt ((gI σ 89 (Int32.toNatClampNeg (x1 + 2))) : Int32) fun x3 =>
    if inB ((x1 + 3) + (2 * x3)) 101 = true then
      lt (pI σ 89 (Int32.toNatClampNeg ((x1 + 3) + (2 * x3))) a2 : Sg) fun s5 =>
      if inB (((x1 + 3) + (2 * x3)) + 1) 101 = true then
        lt (pI s5 89 (Int32.toNatClampNeg (((x1 + 3) + (2 * x3)) + 1)) a3 : Sg) fun s7 =>
        if inB (x1 + 2) 101 = true then
          if inB (x1 + 2) 101 = true then
            lt (pI s7 89 (Int32.toNatClampNeg (x1 + 2)) ((gI s7 89 (Int32.toNatClampNeg (x1 + 2))) + 1) : Sg) fun s10 =>
            some s10
          else none
        else none
      else none
    else none
  else none
set_option maxRecDepth 100000 in
set_option maxHeartbeats 4000000 in
theorem w_m_layErrand_89 (σ : Sg) (a1 : Int32) (a2 : Int32) (a3 : Int32) (q : Sg) (h : s_m_layErrand_89 σ a1 a2 a3 = some q) : Cal M_X12_layErrand 0 [.ref 89, .int a1, .int a2, .int a3] σ none q := by
  refine Cal.of (M := M_X12_layErrand) (by decide +kernel) (Nat.le_of_ble_eq_true rfl) ?_
  show Ev _ _ _ _ 0 [(0, .ref 89), (1, .int a1), (2, .int a2), (3, .int a3)] [] σ
  unfold s_m_layErrand_89 at h
  refine Ev_iconst (dt_X12_layErrand.at 0 rfl) ki_2 ?_
  refine Ev_bipush (dt_X12_layErrand.at 1 rfl) kb_11 ?_
  refine Ev_iload_n 1 (dt_X12_layErrand.at 2 rfl) rfl ?_
  refine Ev_imul (dt_X12_layErrand.at 3 rfl) ?_
  refine Ev_iadd (dt_X12_layErrand.at 4 rfl) ?_
  refine Ev_nmI (fun x1 ex1 => ?_)
  replace h := oLt h ex1
  refine Ev_istore (dt_X12_layErrand.at 5 rfl) (by decide) (ls' := [(4, .int x1), (0, .ref 89), (1, .int a1), (2, .int a2), (3, .int a3)]) rfl ?_
  refine Ev_aload_n 1 (dt_X12_layErrand.at 6 rfl) rfl ?_
  refine Ev_iload 0 (dt_X12_layErrand.at 7 rfl) rfl ?_
  refine Ev_iconst (dt_X12_layErrand.at 8 rfl) ki_2 ?_
  refine Ev_iadd (dt_X12_layErrand.at 9 rfl) ?_
  obtain ⟨g2, h⟩ := oGuard h
  refine Ev_iaload 89 (dt_X12_layErrand.at 10 rfl) sk_89 g2 ?_
  refine Ev_nmI (fun x3 ex3 => ?_)
  replace h := oLt h ex3
  refine Ev_istore (dt_X12_layErrand.at 11 rfl) (by decide) (ls' := [(5, .int x3), (4, .int x1), (0, .ref 89), (1, .int a1), (2, .int a2), (3, .int a3)]) rfl ?_
  refine Ev_aload_n 2 (dt_X12_layErrand.at 12 rfl) rfl ?_
  refine Ev_iload 1 (dt_X12_layErrand.at 13 rfl) rfl ?_
  refine Ev_iconst (dt_X12_layErrand.at 14 rfl) ki_3 ?_
  refine Ev_iadd (dt_X12_layErrand.at 15 rfl) ?_
  refine Ev_iconst (dt_X12_layErrand.at 16 rfl) ki_2 ?_
  refine Ev_iload 0 (dt_X12_layErrand.at 17 rfl) rfl ?_
  refine Ev_imul (dt_X12_layErrand.at 18 rfl) ?_
  refine Ev_iadd (dt_X12_layErrand.at 19 rfl) ?_
  refine Ev_iload_n 4 (dt_X12_layErrand.at 20 rfl) rfl ?_
  obtain ⟨g4, h⟩ := oGuard h
  refine Ev_iastore 89 (dt_X12_layErrand.at 21 rfl) sk_89 g4 ?_
  refine Ev_nmS (fun s5 es5 => ?_)
  replace h := oLt h es5
  refine Ev_aload_n 2 (dt_X12_layErrand.at 22 rfl) rfl ?_
  refine Ev_iload 1 (dt_X12_layErrand.at 23 rfl) rfl ?_
  refine Ev_iconst (dt_X12_layErrand.at 24 rfl) ki_3 ?_
  refine Ev_iadd (dt_X12_layErrand.at 25 rfl) ?_
  refine Ev_iconst (dt_X12_layErrand.at 26 rfl) ki_2 ?_
  refine Ev_iload 0 (dt_X12_layErrand.at 27 rfl) rfl ?_
  refine Ev_imul (dt_X12_layErrand.at 28 rfl) ?_
  refine Ev_iadd (dt_X12_layErrand.at 29 rfl) ?_
  refine Ev_iconst (dt_X12_layErrand.at 30 rfl) ki_1 ?_
  refine Ev_iadd (dt_X12_layErrand.at 31 rfl) ?_
  refine Ev_iload_n 5 (dt_X12_layErrand.at 32 rfl) rfl ?_
  obtain ⟨g6, h⟩ := oGuard h
  refine Ev_iastore 89 (dt_X12_layErrand.at 33 rfl) sk_89 g6 ?_
  refine Ev_nmS (fun s7 es7 => ?_)
  replace h := oLt h es7
  refine Ev_aload_n 2 (dt_X12_layErrand.at 34 rfl) rfl ?_
  refine Ev_iload 1 (dt_X12_layErrand.at 35 rfl) rfl ?_
  refine Ev_iconst (dt_X12_layErrand.at 36 rfl) ki_2 ?_
  refine Ev_iadd (dt_X12_layErrand.at 37 rfl) ?_
  refine Ev_dup2 (dt_X12_layErrand.at 38 rfl) rfl rfl ?_
  obtain ⟨g8, h⟩ := oGuard h
  refine Ev_iaload 89 (dt_X12_layErrand.at 39 rfl) sk_89 g8 ?_
  refine Ev_iconst (dt_X12_layErrand.at 40 rfl) ki_1 ?_
  refine Ev_iadd (dt_X12_layErrand.at 41 rfl) ?_
  obtain ⟨g9, h⟩ := oGuard h
  refine Ev_iastore 89 (dt_X12_layErrand.at 42 rfl) sk_89 g9 ?_
  refine Ev_nmS (fun s10 es10 => ?_)
  replace h := oLt h es10
  exact Ev_vret (dt_X12_layErrand.at 43 rfl) rfl h
def s_m_readsErrand (σ : Sg)  : Option (Int32 × Sg) :=
  lt (pI σ 71 27 1 : Sg) fun s1 =>
  (s_m_goNext s1 ).bind fun q2 =>
  if (gI q2 71 24) = 2 then
    if (gI q2 89 (Int32.toNatClampNeg 1)) ≤ (gI q2 71 25) then
      some (0, q2)
    else
      if inB ((2 + (11 * (gI q2 71 25))) + 2) 101 = true then
        if (gI q2 89 (Int32.toNatClampNeg ((2 + (11 * (gI q2 71 25))) + 2))) = 4 then
          some (0, q2)
        else
          lt ((gI q2 71 25) : Int32) fun x7 =>
          (s_m_goNext q2 ).bind fun q8 =>
          (s_m_takes q8 0 ((gI q8 89 (Int32.toNatClampNeg 0)) - 1)).bind fun q9 =>
          if q9.1 = 0 then
            some (0, q9.2)
          else
            lt ((gI q9.2 71 28) : Int32) fun x11 =>
            (s_m_takes q9.2 0 9).bind fun q12 =>
            if q12.1 = 0 then
              some (0, q12.2)
            else
              (s_m_layErrand_89 q12.2 x7 x11 (gI q12.2 71 28)).bind fun q14 =>
              some (1, q14)
      else none
  else
    some (0, q2)
set_option maxRecDepth 100000 in
set_option maxHeartbeats 4000000 in
theorem w_m_readsErrand (σ : Sg)  (q : (Int32 × Sg)) (h : s_m_readsErrand σ  = some q) : Cal M_X12_readsErrand 5 [.ref 71] σ (some (.int q.1)) q.2 := by
  refine Cal.of (M := M_X12_readsErrand) (by decide +kernel) (Nat.le_of_ble_eq_true rfl) ?_
  show Ev _ _ _ _ 0 [(0, .ref 71)] [] σ
  unfold s_m_readsErrand at h
  refine Ev_aload_n 0 (dt_X12_readsErrand.at 0 rfl) rfl ?_
  refine Ev_iconst (dt_X12_readsErrand.at 1 rfl) ki_1 ?_
  refine Ev_putZ (by decide) (dt_X12_readsErrand.at 2 rfl) ff_X12_302 fw_12_27 sk_71 rfl ?_
  refine Ev_nmS (fun s1 es1 => ?_)
  replace h := oLt h es1
  refine Ev_aload_n 0 (dt_X12_readsErrand.at 3 rfl) rfl ?_
  obtain ⟨q2, hq2, h⟩ := oBind h
  refine Ev_callV (st := []) (st' := []) [] (dt_X12_readsErrand.at 4 rfl) cf_X12_296 (w_m_goNext s1  q2 hq2) (by decide) sk_71 rfl rfl rfl (Nat.le_of_ble_eq_true rfl) rfl ?_
  refine Ev_aload_n 0 (dt_X12_readsErrand.at 5 rfl) rfl ?_
  refine Ev_get (i := 24) (v := .int (gI q2 71 24)) (dt_X12_readsErrand.at 6 rfl) ff_X12_278 sk_71 rfl rfl ?_
  refine Ev_iconst (dt_X12_readsErrand.at 7 rfl) ki_2 ?_
  refine Ev_icmp_ne (tgt := 50) (dt_X12_readsErrand.at 8 rfl) (by decide) (fun c3 => ?_) (fun c3 => ?_)
  · replace h := oNeg h c3
    refine Ev_iconst (dt_X12_readsErrand.at 29 rfl) ki_0 ?_
    exact Ev_zret (dt_X12_readsErrand.at 30 rfl) rfl (by decide) h
  · replace h := oPos h c3
    refine Ev_aload_n 0 (dt_X12_readsErrand.at 9 rfl) rfl ?_
    refine Ev_get (i := 25) (v := .int (gI q2 71 25)) (dt_X12_readsErrand.at 10 rfl) ff_X12_281 sk_71 rfl rfl ?_
    refine Ev_aload_n 0 (dt_X12_readsErrand.at 11 rfl) rfl ?_
    refine Ev_get (i := 26) (v := .ref 89) (dt_X12_readsErrand.at 12 rfl) ff_X12_67 sk_71 rfl rfl ?_
    refine Ev_iconst (dt_X12_readsErrand.at 13 rfl) ki_1 ?_
    refine Ev_iaload 89 (dt_X12_readsErrand.at 14 rfl) sk_89 ib_1_101 ?_
    refine Ev_icmp_ge (tgt := 50) (dt_X12_readsErrand.at 15 rfl) (by decide) (fun c4 => ?_) (fun c4 => ?_)
    · replace h := oPos h c4
      refine Ev_iconst (dt_X12_readsErrand.at 29 rfl) ki_0 ?_
      exact Ev_zret (dt_X12_readsErrand.at 30 rfl) rfl (by decide) h
    · replace h := oNeg h c4
      refine Ev_aload_n 0 (dt_X12_readsErrand.at 16 rfl) rfl ?_
      refine Ev_get (i := 26) (v := .ref 89) (dt_X12_readsErrand.at 17 rfl) ff_X12_67 sk_71 rfl rfl ?_
      refine Ev_iconst (dt_X12_readsErrand.at 18 rfl) ki_2 ?_
      refine Ev_bipush (dt_X12_readsErrand.at 19 rfl) kb_11 ?_
      refine Ev_aload_n 0 (dt_X12_readsErrand.at 20 rfl) rfl ?_
      refine Ev_get (i := 25) (v := .int (gI q2 71 25)) (dt_X12_readsErrand.at 21 rfl) ff_X12_281 sk_71 rfl rfl ?_
      refine Ev_imul (dt_X12_readsErrand.at 22 rfl) ?_
      refine Ev_iadd (dt_X12_readsErrand.at 23 rfl) ?_
      refine Ev_iconst (dt_X12_readsErrand.at 24 rfl) ki_2 ?_
      refine Ev_iadd (dt_X12_readsErrand.at 25 rfl) ?_
      obtain ⟨g5, h⟩ := oGuard h
      refine Ev_iaload 89 (dt_X12_readsErrand.at 26 rfl) sk_89 g5 ?_
      refine Ev_iconst (dt_X12_readsErrand.at 27 rfl) ki_4 ?_
      refine Ev_icmp_ne (tgt := 52) (dt_X12_readsErrand.at 28 rfl) (by decide) (fun c6 => ?_) (fun c6 => ?_)
      · replace h := oNeg h c6
        refine Ev_aload_n 0 (dt_X12_readsErrand.at 31 rfl) rfl ?_
        refine Ev_get (i := 25) (v := .int (gI q2 71 25)) (dt_X12_readsErrand.at 32 rfl) ff_X12_281 sk_71 rfl rfl ?_
        refine Ev_nmI (fun x7 ex7 => ?_)
        replace h := oLt h ex7
        refine Ev_istore_n (dt_X12_readsErrand.at 33 rfl) (by decide) (ls' := [(1, .int x7), (0, .ref 71)]) rfl ?_
        refine Ev_aload_n 1 (dt_X12_readsErrand.at 34 rfl) rfl ?_
        obtain ⟨q8, hq8, h⟩ := oBind h
        refine Ev_callV (st := []) (st' := []) [] (dt_X12_readsErrand.at 35 rfl) cf_X12_296 (w_m_goNext q2  q8 hq8) (by decide) sk_71 rfl rfl rfl (Nat.le_of_ble_eq_true rfl) rfl ?_
        refine Ev_aload_n 1 (dt_X12_readsErrand.at 36 rfl) rfl ?_
        refine Ev_iconst (dt_X12_readsErrand.at 37 rfl) ki_0 ?_
        refine Ev_aload_n 1 (dt_X12_readsErrand.at 38 rfl) rfl ?_
        refine Ev_get (i := 26) (v := .ref 89) (dt_X12_readsErrand.at 39 rfl) ff_X12_67 sk_71 rfl rfl ?_
        refine Ev_iconst (dt_X12_readsErrand.at 40 rfl) ki_0 ?_
        refine Ev_iaload 89 (dt_X12_readsErrand.at 41 rfl) sk_89 ib_0_101 ?_
        refine Ev_iconst (dt_X12_readsErrand.at 42 rfl) ki_1 ?_
        refine Ev_isub (dt_X12_readsErrand.at 43 rfl) ?_
        obtain ⟨q9, hq9, h⟩ := oBind h
        refine Ev_callV (st := []) (st' := [.int q9.1]) [.int 0, .int ((gI q8 89 (Int32.toNatClampNeg 0)) - 1)] (dt_X12_readsErrand.at 44 rfl) cf_X12_299 (w_m_takes q8 0 ((gI q8 89 (Int32.toNatClampNeg 0)) - 1) q9 hq9) (by decide) sk_71 rfl rfl rfl (Nat.le_of_ble_eq_true rfl) rfl ?_
        refine Ev_if_ne (tgt := 79) (dt_X12_readsErrand.at 45 rfl) (by decide) (fun c10 => ?_) (fun c10 => ?_)
        · replace h := oNeg h c10
          refine Ev_aload_n 1 (dt_X12_readsErrand.at 48 rfl) rfl ?_
          refine Ev_get (i := 28) (v := .int (gI q9.2 71 28)) (dt_X12_readsErrand.at 49 rfl) ff_X12_293 sk_71 rfl rfl ?_
          refine Ev_nmI (fun x11 ex11 => ?_)
          replace h := oLt h ex11
          refine Ev_istore_n (dt_X12_readsErrand.at 50 rfl) (by decide) (ls' := [(2, .int x11), (1, .int x7), (0, .ref 71)]) rfl ?_
          refine Ev_aload_n 2 (dt_X12_readsErrand.at 51 rfl) rfl ?_
          refine Ev_iconst (dt_X12_readsErrand.at 52 rfl) ki_0 ?_
          refine Ev_bipush (dt_X12_readsErrand.at 53 rfl) kb_9 ?_
          obtain ⟨q12, hq12, h⟩ := oBind h
          refine Ev_callV (st := []) (st' := [.int q12.1]) [.int 0, .int 9] (dt_X12_readsErrand.at 54 rfl) cf_X12_299 (w_m_takes q9.2 0 9 q12 hq12) (by decide) sk_71 rfl rfl rfl (Nat.le_of_ble_eq_true rfl) rfl ?_
          refine Ev_if_ne (tgt := 96) (dt_X12_readsErrand.at 55 rfl) (by decide) (fun c13 => ?_) (fun c13 => ?_)
          · replace h := oNeg h c13
            refine Ev_aload_n 2 (dt_X12_readsErrand.at 58 rfl) rfl ?_
            refine Ev_get (i := 26) (v := .ref 89) (dt_X12_readsErrand.at 59 rfl) ff_X12_67 sk_71 rfl rfl ?_
            refine Ev_iload_n 1 (dt_X12_readsErrand.at 60 rfl) rfl ?_
            refine Ev_iload_n 0 (dt_X12_readsErrand.at 61 rfl) rfl ?_
            refine Ev_aload_n 2 (dt_X12_readsErrand.at 62 rfl) rfl ?_
            refine Ev_get (i := 28) (v := .int (gI q12.2 71 28)) (dt_X12_readsErrand.at 63 rfl) ff_X12_293 sk_71 rfl rfl ?_
            obtain ⟨q14, hq14, h⟩ := oBind h
            refine Ev_callS (st := []) (st' := []) [.ref 89, .int x7, .int x11, .int (gI q12.2 71 28)] (dt_X12_readsErrand.at 64 rfl) cf_X12_109 (w_m_layErrand_89 q12.2 x7 x11 (gI q12.2 71 28) q14 hq14) (by decide) rfl rfl (Nat.le_of_ble_eq_true rfl) rfl ?_
            refine Ev_iconst (dt_X12_readsErrand.at 65 rfl) ki_1 ?_
            exact Ev_zret (dt_X12_readsErrand.at 66 rfl) rfl (by decide) h
          · replace h := oPos h c13
            refine Ev_iconst (dt_X12_readsErrand.at 56 rfl) ki_0 ?_
            exact Ev_zret (dt_X12_readsErrand.at 57 rfl) rfl (by decide) h
        · replace h := oPos h c10
          refine Ev_iconst (dt_X12_readsErrand.at 46 rfl) ki_0 ?_
          exact Ev_zret (dt_X12_readsErrand.at 47 rfl) rfl (by decide) h
      · replace h := oPos h c6
        refine Ev_iconst (dt_X12_readsErrand.at 29 rfl) ki_0 ?_
        exact Ev_zret (dt_X12_readsErrand.at 30 rfl) rfl (by decide) h
