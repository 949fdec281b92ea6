def s_m_ropeAt (a0 : Int32) (a1 : Int32) (a2 : Int32) : Option Int32 :=
  some ((((61 * a0) + a1) * 2) + a2)
set_option maxRecDepth 100000 in
set_option maxHeartbeats 4000000 in
theorem w_m_ropeAt (σ : Sg) (a0 : Int32) (a1 : Int32) (a2 : Int32) (q : Int32) (h : s_m_ropeAt a0 a1 a2 = some q) : Cal M_X12_ropeAt 0 [.int a0, .int a1, .int a2] σ (some (.int q)) σ := by
  refine Cal.of (M := M_X12_ropeAt) (by decide +kernel) (Nat.le_of_ble_eq_true rfl) ?_
  show Ev _ _ _ _ 0 [(0, .int a0), (1, .int a1), (2, .int a2)] [] σ
  unfold s_m_ropeAt at h
  refine Ev_bipush (dt_X12_ropeAt.at 0 rfl) kb_61 ?_
  refine Ev_iload_n 0 (dt_X12_ropeAt.at 1 rfl) rfl ?_
  refine Ev_imul (dt_X12_ropeAt.at 2 rfl) ?_
  refine Ev_iload_n 1 (dt_X12_ropeAt.at 3 rfl) rfl ?_
  refine Ev_iadd (dt_X12_ropeAt.at 4 rfl) ?_
  refine Ev_iconst (dt_X12_ropeAt.at 5 rfl) ki_2 ?_
  refine Ev_imul (dt_X12_ropeAt.at 6 rfl) ?_
  refine Ev_iload_n 2 (dt_X12_ropeAt.at 7 rfl) rfl ?_
  refine Ev_iadd (dt_X12_ropeAt.at 8 rfl) ?_
  exact Ev_iret (dt_X12_ropeAt.at 9 rfl) rfl (oRet h)
def j_m_layEnd_29  (σ : Sg) (v1 : Int32) (u0 : Int32) (u1 : Int32) : Option Sg :=
  if inB u1 7442 = true then
    lt (pI σ 86 (Int32.toNatClampNeg u1) u0 : Sg) fun s6 =>
    if inB v1 7442 = true then
      lt (pI s6 87 (Int32.toNatClampNeg v1) 0 : Sg) fun s8 =>
      some s8
    else none
  else none
def j_m_layEnd_14  (σ : Sg) (v1 : Int32) (v3 : Int32) (u0 : Int32) (u1 : Int32) : Option Sg :=
  if inB u1 7442 = true then
    lt (pI σ 85 (Int32.toNatClampNeg u1) u0 : Sg) fun s3 =>
    if 0 ≤ v3 then
      j_m_layEnd_29  s3 v1 v3 v1
    else
      j_m_layEnd_29  s3 v1 0 v1
  else none
def s_m_layEnd (σ : Sg) (a1 : Int32) (a2 : Int32) (a3 : Int32) : Option Sg :=
  if 0 ≤ a2 then
    j_m_layEnd_14  σ a1 a3 a2 a1
  else
    j_m_layEnd_14  σ a1 a3 0 a1
set_option maxRecDepth 100000 in
set_option maxHeartbeats 4000000 in
theorem wj_m_layEnd_29  (σ : Sg) (v1 : Int32) (u0 : Int32) (u1 : Int32) (q : Sg) (h : (j_m_layEnd_29  σ v1 u0 u1) = some q) : Ev M_X12_layEnd 0 none q 29 [(0, .ref 71), (1, .int v1)] [.int u0, .int u1, .ref 86] σ := by
  unfold j_m_layEnd_29 at h
  obtain ⟨g5, h⟩ := oGuard h
  refine Ev_iastore 86 (dt_X12_layEnd.at 17 rfl) sk_86 g5 ?_
  refine Ev_nmS (fun s6 es6 => ?_)
  replace h := oLt h es6
  refine Ev_aload_n 0 (dt_X12_layEnd.at 18 rfl) rfl ?_
  refine Ev_get (i := 19) (v := .ref 87) (dt_X12_layEnd.at 19 rfl) ff_X12_61 sk_71 rfl rfl ?_
  refine Ev_iload_n 1 (dt_X12_layEnd.at 20 rfl) rfl ?_
  refine Ev_iconst (dt_X12_layEnd.at 21 rfl) ki_0 ?_
  obtain ⟨g7, h⟩ := oGuard h
  refine Ev_iastore 87 (dt_X12_layEnd.at 22 rfl) sk_87 g7 ?_
  refine Ev_nmS (fun s8 es8 => ?_)
  replace h := oLt h es8
  exact Ev_vret (dt_X12_layEnd.at 23 rfl) rfl h
set_option maxRecDepth 100000 in
set_option maxHeartbeats 4000000 in
theorem wj_m_layEnd_14  (σ : Sg) (v1 : Int32) (v3 : Int32) (u0 : Int32) (u1 : Int32) (q : Sg) (h : (j_m_layEnd_14  σ v1 v3 u0 u1) = some q) : Ev M_X12_layEnd 0 none q 14 [(0, .ref 71), (1, .int v1), (3, .int v3)] [.int u0, .int u1, .ref 85] σ := by
  unfold j_m_layEnd_14 at h
  obtain ⟨g2, h⟩ := oGuard h
  refine Ev_iastore 85 (dt_X12_layEnd.at 8 rfl) sk_85 g2 ?_
  refine Ev_nmS (fun s3 es3 => ?_)
  replace h := oLt h es3
  refine Ev_aload_n 0 (dt_X12_layEnd.at 9 rfl) rfl ?_
  refine Ev_get (i := 18) (v := .ref 86) (dt_X12_layEnd.at 10 rfl) ff_X12_58 sk_71 rfl rfl ?_
  refine Ev_iload_n 1 (dt_X12_layEnd.at 11 rfl) rfl ?_
  refine Ev_iload_n 2 (dt_X12_layEnd.at 12 rfl) rfl ?_
  refine Ev_if_ge (tgt := 28) (dt_X12_layEnd.at 13 rfl) (by decide) (fun c4 => ?_) (fun c4 => ?_)
  · replace h := oPos h c4
    refine Ev_iload_n 2 (dt_X12_layEnd.at 16 rfl) rfl ?_
    refine Ev_sub [0, 1] (ls' := [(0, .ref 71), (1, .int v1)]) rfl ?_
    exact wj_m_layEnd_29  s3 v1 v3 v1 q h
  · replace h := oNeg h c4
    refine Ev_iconst (dt_X12_layEnd.at 14 rfl) ki_0 ?_
    refine Ev_goto (tgt := 29) (dt_X12_layEnd.at 15 rfl) (by decide) ?_
    refine Ev_sub [0, 1] (ls' := [(0, .ref 71), (1, .int v1)]) rfl ?_
    exact wj_m_layEnd_29  s3 v1 0 v1 q h
set_option maxRecDepth 100000 in
set_option maxHeartbeats 4000000 in
theorem w_m_layEnd (σ : Sg) (a1 : Int32) (a2 : Int32) (a3 : Int32) (q : Sg) (h : s_m_layEnd σ a1 a2 a3 = some q) : Cal M_X12_layEnd 0 [.ref 71, .int a1, .int a2, .int a3] σ none q := by
  refine Cal.of (M := M_X12_layEnd) (by decide +kernel) (Nat.le_of_ble_eq_true rfl) ?_
  show Ev _ _ _ _ 0 [(0, .ref 71), (1, .int a1), (2, .int a2), (3, .int a3)] [] σ
  unfold s_m_layEnd at h
  refine Ev_aload_n 0 (dt_X12_layEnd.at 0 rfl) rfl ?_
  refine Ev_get (i := 17) (v := .ref 85) (dt_X12_layEnd.at 1 rfl) ff_X12_55 sk_71 rfl rfl ?_
  refine Ev_iload_n 1 (dt_X12_layEnd.at 2 rfl) rfl ?_
  refine Ev_iload_n 2 (dt_X12_layEnd.at 3 rfl) rfl ?_
  refine Ev_if_ge (tgt := 13) (dt_X12_layEnd.at 4 rfl) (by decide) (fun c1 => ?_) (fun c1 => ?_)
  · replace h := oPos h c1
    refine Ev_iload_n 2 (dt_X12_layEnd.at 7 rfl) rfl ?_
    refine Ev_sub [0, 1, 3] (ls' := [(0, .ref 71), (1, .int a1), (3, .int a3)]) rfl ?_
    exact wj_m_layEnd_14  σ a1 a3 a2 a1 q h
  · replace h := oNeg h c1
    refine Ev_iconst (dt_X12_layEnd.at 5 rfl) ki_0 ?_
    refine Ev_goto (tgt := 14) (dt_X12_layEnd.at 6 rfl) (by decide) ?_
    refine Ev_sub [0, 1, 3] (ls' := [(0, .ref 71), (1, .int a1), (3, .int a3)]) rfl ?_
    exact wj_m_layEnd_14  σ a1 a3 0 a1 q h
def j_m_layRope_175  (σ : Sg) (v2 : Int32) (v3 : Int32) (v7 : Int32) (u0 : Int32) (u1 : Int32) : Option Sg :=
  if v3 = 0 then
    (s_m_layEnd σ u1 u0 v2).bind fun q13 =>
    some q13
  else
    (s_m_layEnd σ u1 u0 v7).bind fun q12 =>
    some q12
def j_m_layRope_159  (σ : Sg) (v1 : Int32) (v2 : Int32) (v3 : Int32) (v4 : Int32) (v7 : Int32) (u0 : Int32) (u1 : Int32) : Option Sg :=
  if u1 ≤ u0 then
    some σ
  else
    if v3 = 0 then
      j_m_layRope_175  σ v2 v3 v7 v7 v4
    else
      j_m_layRope_175  σ v2 v3 v7 v1 v4
def j_m_layRope_134  (σ : Sg) (v1 : Int32) (v2 : Int32) (v3 : Int32) (v4 : Int32) (u0 : Int32) : Option Sg :=
  if v3 = 0 then
    if inB v4 7442 = true then
      j_m_layRope_159  σ v1 v2 v3 v4 u0 (gI σ 85 (Int32.toNatClampNeg v4)) u0
    else none
  else
    if inB v4 7442 = true then
      j_m_layRope_159  σ v1 v2 v3 v4 u0 (gI σ 86 (Int32.toNatClampNeg v4)) u0
    else none
def j_m_layRope_117  (σ : Sg) (v1 : Int32) (v2 : Int32) (v3 : Int32) (v4 : Int32) : Option Sg :=
  if v3 = 0 then
    j_m_layRope_134  σ v1 v2 v3 v4 (v1 - (v1 / 2))
  else
    j_m_layRope_134  σ v1 v2 v3 v4 (v2 - (v2 / 2))
def j_m_layRope_48  (σ : Sg) (v1 : Int32) (v2 : Int32) (v3 : Int32) (v4 : Int32) (v5 : Int32) (v6 : Int32) : Option Sg :=
  (s_m_layEnd σ v4 v5 v6).bind fun q5 =>
  j_m_layRope_117  q5 v1 v2 v3 v4
def j_m_layRope_36  (σ : Sg) (v1 : Int32) (v2 : Int32) (v3 : Int32) (v4 : Int32) (v5 : Int32) (u0 : Int32) : Option Sg :=
  if v5 ≤ 0 then
    j_m_layRope_48  σ v1 v2 v3 v4 v5 u0
  else
    if 0 < u0 then
      (s_m_ropeAt v5 u0 (1 - v3)).bind fun q16 =>
      if inB q16 7442 = true then
        if inB v4 7442 = true then
          lt (pI σ 85 (Int32.toNatClampNeg v4) (gI σ 85 (Int32.toNatClampNeg q16)) : Sg) fun s19 =>
          if inB q16 7442 = true then
            if inB v4 7442 = true then
              lt (pI s19 86 (Int32.toNatClampNeg v4) (gI s19 86 (Int32.toNatClampNeg q16)) : Sg) fun s22 =>
              if inB q16 7442 = true then
                if inB v4 7442 = true then
                  lt (pI s22 87 (Int32.toNatClampNeg v4) ((gI s22 87 (Int32.toNatClampNeg q16)) + 1) : Sg) fun s25 =>
                  j_m_layRope_117  s25 v1 v2 v3 v4
                else none
              else none
            else none
          else none
        else none
      else none
    else
      j_m_layRope_48  σ v1 v2 v3 v4 v5 u0
def j_m_layRope_21  (σ : Sg) (v1 : Int32) (v2 : Int32) (v3 : Int32) (v4 : Int32) (u0 : Int32) : Option Sg :=
  if v3 = 0 then
    j_m_layRope_36  σ v1 v2 v3 v4 u0 (v2 - 2)
  else
    j_m_layRope_36  σ v1 v2 v3 v4 u0 (v2 - 1)
def s_m_layRope (σ : Sg) (a1 : Int32) (a2 : Int32) (a3 : Int32) : Option Sg :=
  (s_m_ropeAt a1 a2 a3).bind fun q1 =>
  if a3 = 0 then
    j_m_layRope_21  σ a1 a2 a3 q1 (a1 - 1)
  else
    j_m_layRope_21  σ a1 a2 a3 q1 (a1 - 2)
set_option maxRecDepth 100000 in
set_option maxHeartbeats 4000000 in
theorem wj_m_layRope_175  (σ : Sg) (v2 : Int32) (v3 : Int32) (v7 : Int32) (u0 : Int32) (u1 : Int32) (q : Sg) (h : (j_m_layRope_175  σ v2 v3 v7 u0 u1) = some q) : Ev M_X12_layRope 1 none q 175 [(2, .int v2), (3, .int v3), (7, .int v7)] [.int u0, .int u1, .ref 71] σ := by
  unfold j_m_layRope_175 at h
  refine Ev_iload_n 1 (dt_X12_layRope.at 102 rfl) rfl ?_
  refine Ev_if_ne (tgt := 183) (dt_X12_layRope.at 103 rfl) (by decide) (fun c11 => ?_) (fun c11 => ?_)
  · replace h := oNeg h c11
    refine Ev_iload 2 (dt_X12_layRope.at 106 rfl) rfl ?_
    obtain ⟨q12, hq12, h⟩ := oBind h
    refine Ev_callV (st := []) (st' := []) [.int u1, .int u0, .int v7] (dt_X12_layRope.at 107 rfl) cf_X12_245 (w_m_layEnd σ u1 u0 v7 q12 hq12) (by decide) sk_71 rfl rfl rfl (Nat.le_of_ble_eq_true rfl) rfl ?_
    exact Ev_vret (dt_X12_layRope.at 108 rfl) rfl h
  · replace h := oPos h c11
    refine Ev_iload_n 0 (dt_X12_layRope.at 104 rfl) rfl ?_
    refine Ev_goto (tgt := 185) (dt_X12_layRope.at 105 rfl) (by decide) ?_
    obtain ⟨q13, hq13, h⟩ := oBind h
    refine Ev_callV (st := []) (st' := []) [.int u1, .int u0, .int v2] (dt_X12_layRope.at 107 rfl) cf_X12_245 (w_m_layEnd σ u1 u0 v2 q13 hq13) (by decide) sk_71 rfl rfl rfl (Nat.le_of_ble_eq_true rfl) rfl ?_
    exact Ev_vret (dt_X12_layRope.at 108 rfl) rfl h
set_option maxRecDepth 100000 in
set_option maxHeartbeats 4000000 in
theorem wj_m_layRope_159  (σ : Sg) (v1 : Int32) (v2 : Int32) (v3 : Int32) (v4 : Int32) (v7 : Int32) (u0 : Int32) (u1 : Int32) (q : Sg) (h : (j_m_layRope_159  σ v1 v2 v3 v4 v7 u0 u1) = some q) : Ev M_X12_layRope 1 none q 159 [(0, .ref 71), (1, .int v1), (2, .int v2), (3, .int v3), (4, .int v4), (7, .int v7)] [.int u0, .int u1] σ := by
  unfold j_m_layRope_159 at h
  refine Ev_icmp_le (tgt := 188) (dt_X12_layRope.at 94 rfl) (by decide) (fun c9 => ?_) (fun c9 => ?_)
  · replace h := oPos h c9
    exact Ev_vret (dt_X12_layRope.at 108 rfl) rfl h
  · replace h := oNeg h c9
    refine Ev_aload_n 0 (dt_X12_layRope.at 95 rfl) rfl ?_
    refine Ev_iload 4 (dt_X12_layRope.at 96 rfl) rfl ?_
    refine Ev_iload_n 3 (dt_X12_layRope.at 97 rfl) rfl ?_
    refine Ev_if_ne (tgt := 174) (dt_X12_layRope.at 98 rfl) (by decide) (fun c10 => ?_) (fun c10 => ?_)
    · replace h := oNeg h c10
      refine Ev_iload_n 1 (dt_X12_layRope.at 101 rfl) rfl ?_
      refine Ev_sub [2, 3, 5] (ls' := [(2, .int v2), (3, .int v3), (7, .int v7)]) rfl ?_
      exact wj_m_layRope_175  σ v2 v3 v7 v1 v4 q h
    · replace h := oPos h c10
      refine Ev_iload 5 (dt_X12_layRope.at 99 rfl) rfl ?_
      refine Ev_goto (tgt := 175) (dt_X12_layRope.at 100 rfl) (by decide) ?_
      refine Ev_sub [2, 3, 5] (ls' := [(2, .int v2), (3, .int v3), (7, .int v7)]) rfl ?_
      exact wj_m_layRope_175  σ v2 v3 v7 v7 v4 q h
set_option maxRecDepth 100000 in
set_option maxHeartbeats 4000000 in
theorem wj_m_layRope_134  (σ : Sg) (v1 : Int32) (v2 : Int32) (v3 : Int32) (v4 : Int32) (u0 : Int32) (q : Sg) (h : (j_m_layRope_134  σ v1 v2 v3 v4 u0) = some q) : Ev M_X12_layRope 1 none q 134 [(0, .ref 71), (1, .int v1), (2, .int v2), (3, .int v3), (4, .int v4)] [.int u0] σ := by
  unfold j_m_layRope_134 at h
  refine Ev_istore (dt_X12_layRope.at 81 rfl) (by decide) (ls' := [(7, .int u0), (0, .ref 71), (1, .int v1), (2, .int v2), (3, .int v3), (4, .int v4)]) rfl ?_
  refine Ev_iload 0 (dt_X12_layRope.at 82 rfl) rfl ?_
  refine Ev_iload_n 4 (dt_X12_layRope.at 83 rfl) rfl ?_
  refine Ev_if_ne (tgt := 152) (dt_X12_layRope.at 84 rfl) (by decide) (fun c7 => ?_) (fun c7 => ?_)
  · replace h := oNeg h c7
    refine Ev_aload_n 1 (dt_X12_layRope.at 90 rfl) rfl ?_
    refine Ev_get (i := 18) (v := .ref 86) (dt_X12_layRope.at 91 rfl) ff_X12_58 sk_71 rfl rfl ?_
    refine Ev_iload 5 (dt_X12_layRope.at 92 rfl) rfl ?_
    obtain ⟨g8, h⟩ := oGuard h
    refine Ev_iaload 86 (dt_X12_layRope.at 93 rfl) sk_86 g8 ?_
    refine Ev_sub [1, 2, 3, 4, 5, 0] (ls' := [(0, .ref 71), (1, .int v1), (2, .int v2), (3, .int v3), (4, .int v4), (7, .int u0)]) rfl ?_
    exact wj_m_layRope_159  σ v1 v2 v3 v4 u0 (gI σ 86 (Int32.toNatClampNeg v4)) u0 q h
  · replace h := oPos h c7
    refine Ev_aload_n 1 (dt_X12_layRope.at 85 rfl) rfl ?_
    refine Ev_get (i := 17) (v := .ref 85) (dt_X12_layRope.at 86 rfl) ff_X12_55 sk_71 rfl rfl ?_
    refine Ev_iload 5 (dt_X12_layRope.at 87 rfl) rfl ?_
    obtain ⟨g14, h⟩ := oGuard h
    refine Ev_iaload 85 (dt_X12_layRope.at 88 rfl) sk_85 g14 ?_
    refine Ev_goto (tgt := 159) (dt_X12_layRope.at 89 rfl) (by decide) ?_
    refine Ev_sub [1, 2, 3, 4, 5, 0] (ls' := [(0, .ref 71), (1, .int v1), (2, .int v2), (3, .int v3), (4, .int v4), (7, .int u0)]) rfl ?_
    exact wj_m_layRope_159  σ v1 v2 v3 v4 u0 (gI σ 85 (Int32.toNatClampNeg v4)) u0 q h
set_option maxRecDepth 100000 in
set_option maxHeartbeats 4000000 in
theorem wj_m_layRope_117  (σ : Sg) (v1 : Int32) (v2 : Int32) (v3 : Int32) (v4 : Int32) (q : Sg) (h : (j_m_layRope_117  σ v1 v2 v3 v4) = some q) : Ev M_X12_layRope 1 none q 117 [(0, .ref 71), (1, .int v1), (2, .int v2), (3, .int v3), (4, .int v4)] [] σ := by
  unfold j_m_layRope_117 at h
  refine Ev_iload_n 3 (dt_X12_layRope.at 68 rfl) rfl ?_
  refine Ev_if_ne (tgt := 129) (dt_X12_layRope.at 69 rfl) (by decide) (fun c6 => ?_) (fun c6 => ?_)
  · replace h := oNeg h c6
    refine Ev_iload_n 2 (dt_X12_layRope.at 76 rfl) rfl ?_
    refine Ev_iload_n 2 (dt_X12_layRope.at 77 rfl) rfl ?_
    refine Ev_iconst (dt_X12_layRope.at 78 rfl) ki_2 ?_
    refine Ev_idiv (dt_X12_layRope.at 79 rfl) (by decide) ?_
    refine Ev_isub (dt_X12_layRope.at 80 rfl) ?_
    refine Ev_sub [0, 1, 2, 3, 4] (ls' := [(0, .ref 71), (1, .int v1), (2, .int v2), (3, .int v3), (4, .int v4)]) rfl ?_
    exact wj_m_layRope_134  σ v1 v2 v3 v4 (v2 - (v2 / 2)) q h
  · replace h := oPos h c6
    refine Ev_iload_n 1 (dt_X12_layRope.at 70 rfl) rfl ?_
    refine Ev_iload_n 1 (dt_X12_layRope.at 71 rfl) rfl ?_
    refine Ev_iconst (dt_X12_layRope.at 72 rfl) ki_2 ?_
    refine Ev_idiv (dt_X12_layRope.at 73 rfl) (by decide) ?_
    refine Ev_isub (dt_X12_layRope.at 74 rfl) ?_
    refine Ev_goto (tgt := 134) (dt_X12_layRope.at 75 rfl) (by decide) ?_
    refine Ev_sub [0, 1, 2, 3, 4] (ls' := [(0, .ref 71), (1, .int v1), (2, .int v2), (3, .int v3), (4, .int v4)]) rfl ?_
    exact wj_m_layRope_134  σ v1 v2 v3 v4 (v1 - (v1 / 2)) q h
set_option maxRecDepth 100000 in
set_option maxHeartbeats 4000000 in
theorem wj_m_layRope_48  (σ : Sg) (v1 : Int32) (v2 : Int32) (v3 : Int32) (v4 : Int32) (v5 : Int32) (v6 : Int32) (q : Sg) (h : (j_m_layRope_48  σ v1 v2 v3 v4 v5 v6) = some q) : Ev M_X12_layRope 1 none q 48 [(0, .ref 71), (1, .int v1), (2, .int v2), (3, .int v3), (4, .int v4), (5, .int v5), (6, .int v6)] [] σ := by
  unfold j_m_layRope_48 at h
  refine Ev_aload_n 0 (dt_X12_layRope.at 29 rfl) rfl ?_
  refine Ev_iload 4 (dt_X12_layRope.at 30 rfl) rfl ?_
  refine Ev_iload 5 (dt_X12_layRope.at 31 rfl) rfl ?_
  refine Ev_iload 6 (dt_X12_layRope.at 32 rfl) rfl ?_
  obtain ⟨q5, hq5, h⟩ := oBind h
  refine Ev_callV (st := []) (st' := []) [.int v4, .int v5, .int v6] (dt_X12_layRope.at 33 rfl) cf_X12_245 (w_m_layEnd σ v4 v5 v6 q5 hq5) (by decide) sk_71 rfl rfl rfl (Nat.le_of_ble_eq_true rfl) rfl ?_
  refine Ev_goto (tgt := 117) (dt_X12_layRope.at 34 rfl) (by decide) ?_
  refine Ev_sub [0, 1, 2, 3, 4] (ls' := [(0, .ref 71), (1, .int v1), (2, .int v2), (3, .int v3), (4, .int v4)]) rfl ?_
  exact wj_m_layRope_117  q5 v1 v2 v3 v4 q h
set_option maxRecDepth 100000 in
set_option maxHeartbeats 4000000 in
theorem wj_m_layRope_36  (σ : Sg) (v1 : Int32) (v2 : Int32) (v3 : Int32) (v4 : Int32) (v5 : Int32) (u0 : Int32) (q : Sg) (h : (j_m_layRope_36  σ v1 v2 v3 v4 v5 u0) = some q) : Ev M_X12_layRope 1 none q 36 [(0, .ref 71), (1, .int v1), (2, .int v2), (3, .int v3), (4, .int v4), (5, .int v5)] [.int u0] σ := by
  unfold j_m_layRope_36 at h
  refine Ev_istore (dt_X12_layRope.at 24 rfl) (by decide) (ls' := [(6, .int u0), (0, .ref 71), (1, .int v1), (2, .int v2), (3, .int v3), (4, .int v4), (5, .int v5)]) rfl ?_
  refine Ev_iload 6 (dt_X12_layRope.at 25 rfl) rfl ?_
  refine Ev_if_le (tgt := 48) (dt_X12_layRope.at 26 rfl) (by decide) (fun c4 => ?_) (fun c4 => ?_)
  · replace h := oPos h c4
    refine Ev_sub [1, 2, 3, 4, 5, 6, 0] (ls' := [(0, .ref 71), (1, .int v1), (2, .int v2), (3, .int v3), (4, .int v4), (5, .int v5), (6, .int u0)]) rfl ?_
    exact wj_m_layRope_48  σ v1 v2 v3 v4 v5 u0 q h
  · replace h := oNeg h c4
    refine Ev_iload 0 (dt_X12_layRope.at 27 rfl) rfl ?_
    refine Ev_if_gt (tgt := 61) (dt_X12_layRope.at 28 rfl) (by decide) (fun c15 => ?_) (fun c15 => ?_)
    · replace h := oPos h c15
      refine Ev_iload 6 (dt_X12_layRope.at 35 rfl) rfl ?_
      refine Ev_iload 0 (dt_X12_layRope.at 36 rfl) rfl ?_
      refine Ev_iconst (dt_X12_layRope.at 37 rfl) ki_1 ?_
      refine Ev_iload_n 4 (dt_X12_layRope.at 38 rfl) rfl ?_
      refine Ev_isub (dt_X12_layRope.at 39 rfl) ?_
      obtain ⟨q16, hq16, h⟩ := oBind h
      refine Ev_callS (st := []) (st' := [.int q16]) [.int v5, .int u0, .int (1 - v3)] (dt_X12_layRope.at 40 rfl) cf_X12_241 (w_m_ropeAt σ v5 u0 (1 - v3) q16 hq16) (by decide) rfl rfl (Nat.le_of_ble_eq_true rfl) rfl ?_
      refine Ev_istore (dt_X12_layRope.at 41 rfl) (by decide) (ls' := [(7, .int q16), (6, .int u0), (0, .ref 71), (1, .int v1), (2, .int v2), (3, .int v3), (4, .int v4), (5, .int v5)]) rfl ?_
      refine Ev_aload_n 2 (dt_X12_layRope.at 42 rfl) rfl ?_
      refine Ev_get (i := 17) (v := .ref 85) (dt_X12_layRope.at 43 rfl) ff_X12_55 sk_71 rfl rfl ?_
      refine Ev_iload 6 (dt_X12_layRope.at 44 rfl) rfl ?_
      refine Ev_aload_n 2 (dt_X12_layRope.at 45 rfl) rfl ?_
      refine Ev_get (i := 17) (v := .ref 85) (dt_X12_layRope.at 46 rfl) ff_X12_55 sk_71 rfl rfl ?_
      refine Ev_iload 0 (dt_X12_layRope.at 47 rfl) rfl ?_
      obtain ⟨g17, h⟩ := oGuard h
      refine Ev_iaload 85 (dt_X12_layRope.at 48 rfl) sk_85 g17 ?_
      obtain ⟨g18, h⟩ := oGuard h
      refine Ev_iastore 85 (dt_X12_layRope.at 49 rfl) sk_85 g18 ?_
      refine Ev_nmS (fun s19 es19 => ?_)
      replace h := oLt h es19
      refine Ev_aload_n 2 (dt_X12_layRope.at 50 rfl) rfl ?_
      refine Ev_get (i := 18) (v := .ref 86) (dt_X12_layRope.at 51 rfl) ff_X12_58 sk_71 rfl rfl ?_
      refine Ev_iload 6 (dt_X12_layRope.at 52 rfl) rfl ?_
      refine Ev_aload_n 2 (dt_X12_layRope.at 53 rfl) rfl ?_
      refine Ev_get (i := 18) (v := .ref 86) (dt_X12_layRope.at 54 rfl) ff_X12_58 sk_71 rfl rfl ?_
      refine Ev_iload 0 (dt_X12_layRope.at 55 rfl) rfl ?_
      obtain ⟨g20, h⟩ := oGuard h
      refine Ev_iaload 86 (dt_X12_layRope.at 56 rfl) sk_86 g20 ?_
      obtain ⟨g21, h⟩ := oGuard h
      refine Ev_iastore 86 (dt_X12_layRope.at 57 rfl) sk_86 g21 ?_
      refine Ev_nmS (fun s22 es22 => ?_)
      replace h := oLt h es22
      refine Ev_aload_n 2 (dt_X12_layRope.at 58 rfl) rfl ?_
      refine Ev_get (i := 19) (v := .ref 87) (dt_X12_layRope.at 59 rfl) ff_X12_61 sk_71 rfl rfl ?_
      refine Ev_iload 6 (dt_X12_layRope.at 60 rfl) rfl ?_
      refine Ev_aload_n 2 (dt_X12_layRope.at 61 rfl) rfl ?_
      refine Ev_get (i := 19) (v := .ref 87) (dt_X12_layRope.at 62 rfl) ff_X12_61 sk_71 rfl rfl ?_
      refine Ev_iload 0 (dt_X12_layRope.at 63 rfl) rfl ?_
      obtain ⟨g23, h⟩ := oGuard h
      refine Ev_iaload 87 (dt_X12_layRope.at 64 rfl) sk_87 g23 ?_
      refine Ev_iconst (dt_X12_layRope.at 65 rfl) ki_1 ?_
      refine Ev_iadd (dt_X12_layRope.at 66 rfl) ?_
      obtain ⟨g24, h⟩ := oGuard h
      refine Ev_iastore 87 (dt_X12_layRope.at 67 rfl) sk_87 g24 ?_
      refine Ev_nmS (fun s25 es25 => ?_)
      replace h := oLt h es25
      refine Ev_sub [2, 3, 4, 5, 6] (ls' := [(0, .ref 71), (1, .int v1), (2, .int v2), (3, .int v3), (4, .int v4)]) rfl ?_
      exact wj_m_layRope_117  s25 v1 v2 v3 v4 q h
    · replace h := oNeg h c15
      refine Ev_sub [1, 2, 3, 4, 5, 6, 0] (ls' := [(0, .ref 71), (1, .int v1), (2, .int v2), (3, .int v3), (4, .int v4), (5, .int v5), (6, .int u0)]) rfl ?_
      exact wj_m_layRope_48  σ v1 v2 v3 v4 v5 u0 q h
set_option maxRecDepth 100000 in
set_option maxHeartbeats 4000000 in
theorem wj_m_layRope_21  (σ : Sg) (v1 : Int32) (v2 : Int32) (v3 : Int32) (v4 : Int32) (u0 : Int32) (q : Sg) (h : (j_m_layRope_21  σ v1 v2 v3 v4 u0) = some q) : Ev M_X12_layRope 1 none q 21 [(0, .ref 71), (1, .int v1), (2, .int v2), (3, .int v3), (4, .int v4)] [.int u0] σ := by
  unfold j_m_layRope_21 at h
  refine Ev_istore (dt_X12_layRope.at 14 rfl) (by decide) (ls' := [(5, .int u0), (0, .ref 71), (1, .int v1), (2, .int v2), (3, .int v3), (4, .int v4)]) rfl ?_
  refine Ev_iload_n 4 (dt_X12_layRope.at 15 rfl) rfl ?_
  refine Ev_if_ne (tgt := 33) (dt_X12_layRope.at 16 rfl) (by decide) (fun c3 => ?_) (fun c3 => ?_)
  · replace h := oNeg h c3
    refine Ev_iload_n 3 (dt_X12_layRope.at 21 rfl) rfl ?_
    refine Ev_iconst (dt_X12_layRope.at 22 rfl) ki_1 ?_
    refine Ev_isub (dt_X12_layRope.at 23 rfl) ?_
    refine Ev_sub [1, 2, 3, 4, 5, 0] (ls' := [(0, .ref 71), (1, .int v1), (2, .int v2), (3, .int v3), (4, .int v4), (5, .int u0)]) rfl ?_
    exact wj_m_layRope_36  σ v1 v2 v3 v4 u0 (v2 - 1) q h
  · replace h := oPos h c3
    refine Ev_iload_n 3 (dt_X12_layRope.at 17 rfl) rfl ?_
    refine Ev_iconst (dt_X12_layRope.at 18 rfl) ki_2 ?_
    refine Ev_isub (dt_X12_layRope.at 19 rfl) ?_
    refine Ev_goto (tgt := 36) (dt_X12_layRope.at 20 rfl) (by decide) ?_
    refine Ev_sub [1, 2, 3, 4, 5, 0] (ls' := [(0, .ref 71), (1, .int v1), (2, .int v2), (3, .int v3), (4, .int v4), (5, .int u0)]) rfl ?_
    exact wj_m_layRope_36  σ v1 v2 v3 v4 u0 (v2 - 2) q h
set_option maxRecDepth 100000 in
set_option maxHeartbeats 4000000 in
theorem w_m_layRope (σ : Sg) (a1 : Int32) (a2 : Int32) (a3 : Int32) (q : Sg) (h : s_m_layRope σ a1 a2 a3 = some q) : Cal M_X12_layRope 1 [.ref 71, .int a1, .int a2, .int a3] σ none q := by
  refine Cal.of (M := M_X12_layRope) (by decide +kernel) (Nat.le_of_ble_eq_true rfl) ?_
  show Ev _ _ _ _ 0 [(0, .ref 71), (1, .int a1), (2, .int a2), (3, .int a3)] [] σ
  unfold s_m_layRope at h
  refine Ev_iload_n 1 (dt_X12_layRope.at 0 rfl) rfl ?_
  refine Ev_iload_n 2 (dt_X12_layRope.at 1 rfl) rfl ?_
  refine Ev_iload_n 3 (dt_X12_layRope.at 2 rfl) rfl ?_
  obtain ⟨q1, hq1, h⟩ := oBind h
  refine Ev_callS (st := []) (st' := [.int q1]) [.int a1, .int a2, .int a3] (dt_X12_layRope.at 3 rfl) cf_X12_241 (w_m_ropeAt σ a1 a2 a3 q1 hq1) (by decide) rfl rfl (Nat.le_of_ble_eq_true rfl) rfl ?_
  refine Ev_istore (dt_X12_layRope.at 4 rfl) (by decide) (ls' := [(4, .int q1), (0, .ref 71), (1, .int a1), (2, .int a2), (3, .int a3)]) rfl ?_
  refine Ev_iload_n 4 (dt_X12_layRope.at 5 rfl) rfl ?_
  refine Ev_if_ne (tgt := 18) (dt_X12_layRope.at 6 rfl) (by decide) (fun c2 => ?_) (fun c2 => ?_)
  · replace h := oNeg h c2
    refine Ev_iload_n 2 (dt_X12_layRope.at 11 rfl) rfl ?_
    refine Ev_iconst (dt_X12_layRope.at 12 rfl) ki_2 ?_
    refine Ev_isub (dt_X12_layRope.at 13 rfl) ?_
    refine Ev_sub [1, 2, 3, 4, 0] (ls' := [(0, .ref 71), (1, .int a1), (2, .int a2), (3, .int a3), (4, .int q1)]) rfl ?_
    exact wj_m_layRope_21  σ a1 a2 a3 q1 (a1 - 2) q h
  · replace h := oPos h c2
    refine Ev_iload_n 2 (dt_X12_layRope.at 7 rfl) rfl ?_
    refine Ev_iconst (dt_X12_layRope.at 8 rfl) ki_1 ?_
    refine Ev_isub (dt_X12_layRope.at 9 rfl) ?_
    refine Ev_goto (tgt := 21) (dt_X12_layRope.at 10 rfl) (by decide) ?_
    refine Ev_sub [1, 2, 3, 4, 0] (ls' := [(0, .ref 71), (1, .int a1), (2, .int a2), (3, .int a3), (4, .int q1)]) rfl ?_
    exact wj_m_layRope_21  σ a1 a2 a3 q1 (a1 - 1) q h
def b_m_rope_55 (v1 : Int32) (v2 : Int32) (v3 : Int32) (v4 : Int32) (x : (Sg × Int32)) : Option ((Sg × Int32) ⊕ (Sg × Int32)) :=
  if v2 < x.2 then
    some (.inr (x.1, x.2))
  else
    (s_m_layRope x.1 v4 x.2 0).bind fun q11 =>
    (s_m_layRope q11 v4 x.2 1).bind fun q12 =>
    lt (x.2 + 1 : Int32) fun x13 =>
    some (.inl (q12, x13))
def b_m_rope_46 (v1 : Int32) (v2 : Int32) (v3 : Int32) (x : (Sg × Int32)) : Option ((Sg × Int32) ⊕ (Sg × Int32)) :=
  if v1 < x.2 then
    some (.inr (x.1, x.2))
  else
    (lp (b_m_rope_55 v1 v2 v3 x.2) 100000 (x.1, 1)).bind fun o14 =>
    lt (x.2 + 1 : Int32) fun x15 =>
    some (.inl (o14.1, x15))
def s_m_rope (σ : Sg) (a1 : Int32) (a2 : Int32) (a3 : Int32) : Option (Int32 × Sg) :=
  (s_m_in (Int32.toInt64 a1) 1 60).bind fun q1 =>
  if q1 = 0 then
    (s_m_bad σ (-2)).bind fun q3 =>
    some (q3.1, q3.2)
  else
    (s_m_in (Int32.toInt64 a2) 1 60).bind fun q4 =>
    if q4 = 0 then
      (s_m_bad σ (-2)).bind fun q6 =>
      some (q6.1, q6.2)
    else
      (s_m_in (Int32.toInt64 a3) 0 2).bind fun q7 =>
      if q7 = 0 then
        (s_m_bad σ (-2)).bind fun q23 =>
        some (q23.1, q23.2)
      else
        (lp (b_m_rope_46 a1 a2 a3) 100000 (σ, 1)).bind fun o16 =>
        (s_m_ropeAt a1 a2 0).bind fun q17 =>
        if a3 = 0 then
          if inB q17 7442 = true then
            some ((gI o16.1 85 (Int32.toNatClampNeg q17)), o16.1)
          else none
        else
          if a3 = 1 then
            if inB q17 7442 = true then
              some ((gI o16.1 86 (Int32.toNatClampNeg q17)), o16.1)
            else none
          else
            if inB q17 7442 = true then
              some ((gI o16.1 87 (Int32.toNatClampNeg q17)), o16.1)
            else none
set_option maxRecDepth 100000 in
set_option maxHeartbeats 4000000 in
theorem wb_m_rope_55 (v1 : Int32) (v2 : Int32) (v3 : Int32) (v4 : Int32) (x : (Sg × Int32)) (r : Option Value) (τ : Sg) (o : ((Sg × Int32) ⊕ (Sg × Int32))) (h : (b_m_rope_55 v1 v2 v3 v4 x) = some o) (hc : ∀ y : (Sg × Int32), o = .inl y → Ev M_X12_rope 2 r τ 55 [(0, .ref 71), (1, .int v1), (2, .int v2), (3, .int v3), (4, .int v4), (5, .int y.2)] [] y.1) (he : ∀ y : (Sg × Int32), o = .inr y → Ev M_X12_rope 2 r τ 85 [(0, .ref 71), (1, .int v1), (2, .int v2), (3, .int v3), (4, .int v4)] [] y.1) : Ev M_X12_rope 2 r τ 55 [(0, .ref 71), (1, .int v1), (2, .int v2), (3, .int v3), (4, .int v4), (5, .int x.2)] [] x.1 := by
  unfold b_m_rope_55 at h
  refine Ev_iload 5 (dt_X12_rope.at 29 rfl) rfl ?_
  refine Ev_iload_n 2 (dt_X12_rope.at 30 rfl) rfl ?_
  refine Ev_icmp_gt (tgt := 85) (dt_X12_rope.at 31 rfl) (by decide) (fun c10 => ?_) (fun c10 => ?_)
  · replace h := oPos h c10
    refine Ev_sub [0, 1, 2, 3, 4] (ls' := [(0, .ref 71), (1, .int v1), (2, .int v2), (3, .int v3), (4, .int v4)]) rfl ?_
    exact he (x.1, x.2) (Option.some.inj h).symm
  · replace h := oNeg h c10
    refine Ev_aload_n 0 (dt_X12_rope.at 32 rfl) rfl ?_
    refine Ev_iload 4 (dt_X12_rope.at 33 rfl) rfl ?_
    refine Ev_iload 5 (dt_X12_rope.at 34 rfl) rfl ?_
    refine Ev_iconst (dt_X12_rope.at 35 rfl) ki_0 ?_
    obtain ⟨q11, hq11, h⟩ := oBind h
    refine Ev_callV (st := []) (st' := []) [.int v4, .int x.2, .int 0] (dt_X12_rope.at 36 rfl) cf_X12_250 (w_m_layRope x.1 v4 x.2 0 q11 hq11) (by decide) sk_71 rfl rfl rfl (Nat.le_of_ble_eq_true rfl) rfl ?_
    refine Ev_aload_n 0 (dt_X12_rope.at 37 rfl) rfl ?_
    refine Ev_iload 4 (dt_X12_rope.at 38 rfl) rfl ?_
    refine Ev_iload 5 (dt_X12_rope.at 39 rfl) rfl ?_
    refine Ev_iconst (dt_X12_rope.at 40 rfl) ki_1 ?_
    obtain ⟨q12, hq12, h⟩ := oBind h
    refine Ev_callV (st := []) (st' := []) [.int v4, .int x.2, .int 1] (dt_X12_rope.at 41 rfl) cf_X12_250 (w_m_layRope q11 v4 x.2 1 q12 hq12) (by decide) sk_71 rfl rfl rfl (Nat.le_of_ble_eq_true rfl) rfl ?_
    obtain ⟨x13, ex13⟩ : ∃ z : Int32, z = x.2 + 1 := ⟨_, rfl⟩
    replace h := oLt h ex13
    refine Ev_iinc (v := x13) 5 (dt_X12_rope.at 42 rfl) rfl (ex13.trans (congrArg (fun z => x.2 + z) ki_1.symm)) (by decide) (ls' := [(5, .int x13), (0, .ref 71), (1, .int v1), (2, .int v2), (3, .int v3), (4, .int v4)]) rfl ?_
    refine Ev_goto (tgt := 55) (dt_X12_rope.at 43 rfl) (by decide) ?_
    refine Ev_sub [1, 2, 3, 4, 5, 0] (ls' := [(0, .ref 71), (1, .int v1), (2, .int v2), (3, .int v3), (4, .int v4), (5, .int x13)]) rfl ?_
    exact hc (q12, x13) (Option.some.inj h).symm
set_option maxRecDepth 100000 in
set_option maxHeartbeats 4000000 in
theorem wl_m_rope_55 (v1 : Int32) (v2 : Int32) (v3 : Int32) (v4 : Int32) (r : Option Value) (τ : Sg) (n : Nat) (x : (Sg × Int32)) (z : (Sg × Int32)) (h : lp (b_m_rope_55 v1 v2 v3 v4) n x = some z) (he : ∀ y : (Sg × Int32), z = y → Ev M_X12_rope 2 r τ 85 [(0, .ref 71), (1, .int v1), (2, .int v2), (3, .int v3), (4, .int v4)] [] y.1) : Ev M_X12_rope 2 r τ 55 [(0, .ref 71), (1, .int v1), (2, .int v2), (3, .int v3), (4, .int v4), (5, .int x.2)] [] x.1 := by
  refine lp_ind (E := fun x : (Sg × Int32) => Ev M_X12_rope 2 r τ 55 [(0, .ref 71), (1, .int v1), (2, .int v2), (3, .int v3), (4, .int v4), (5, .int x.2)] [] x.1) (fun x => ⟨fun y hb hy => ?_, fun hb => ?_⟩) n x h
  · exact wb_m_rope_55 v1 v2 v3 v4 x r τ _ hb (fun y' e => by cases e; exact hy) (fun y' e => by cases e)
  · exact wb_m_rope_55 v1 v2 v3 v4 x r τ _ hb (fun y' e => by cases e) (fun y' e => he y' (Sum.inr.inj e))
set_option maxRecDepth 100000 in
set_option maxHeartbeats 4000000 in
theorem wb_m_rope_46 (v1 : Int32) (v2 : Int32) (v3 : Int32) (x : (Sg × Int32)) (r : Option Value) (τ : Sg) (o : ((Sg × Int32) ⊕ (Sg × Int32))) (h : (b_m_rope_46 v1 v2 v3 x) = some o) (hc : ∀ y : (Sg × Int32), o = .inl y → Ev M_X12_rope 2 r τ 46 [(0, .ref 71), (1, .int v1), (2, .int v2), (3, .int v3), (4, .int y.2)] [] y.1) (he : ∀ y : (Sg × Int32), o = .inr y → Ev M_X12_rope 2 r τ 91 [(0, .ref 71), (1, .int v1), (2, .int v2), (3, .int v3)] [] y.1) : Ev M_X12_rope 2 r τ 46 [(0, .ref 71), (1, .int v1), (2, .int v2), (3, .int v3), (4, .int x.2)] [] x.1 := by
  unfold b_m_rope_46 at h
  refine Ev_iload 4 (dt_X12_rope.at 24 rfl) rfl ?_
  refine Ev_iload_n 1 (dt_X12_rope.at 25 rfl) rfl ?_
  refine Ev_icmp_gt (tgt := 91) (dt_X12_rope.at 26 rfl) (by decide) (fun c9 => ?_) (fun c9 => ?_)
  · replace h := oPos h c9
    refine Ev_sub [0, 1, 2, 3] (ls' := [(0, .ref 71), (1, .int v1), (2, .int v2), (3, .int v3)]) rfl ?_
    exact he (x.1, x.2) (Option.some.inj h).symm
  · replace h := oNeg h c9
    refine Ev_iconst (dt_X12_rope.at 27 rfl) ki_1 ?_
    refine Ev_istore (dt_X12_rope.at 28 rfl) (by decide) (ls' := [(5, .int 1), (0, .ref 71), (1, .int v1), (2, .int v2), (3, .int v3), (4, .int x.2)]) rfl ?_
    refine Ev_sub [1, 2, 3, 4, 5, 0] (ls' := [(0, .ref 71), (1, .int v1), (2, .int v2), (3, .int v3), (4, .int x.2), (5, .int 1)]) rfl ?_
    obtain ⟨o14, ho14, h⟩ := oBind h
    refine wl_m_rope_55 v1 v2 v3 x.2 _ _ 100000 (x.1, 1) o14 ho14 (fun y ey => ?_)
    subst ey
    obtain ⟨x15, ex15⟩ : ∃ z : Int32, z = x.2 + 1 := ⟨_, rfl⟩
    replace h := oLt h ex15
    refine Ev_iinc (v := x15) 4 (dt_X12_rope.at 44 rfl) rfl (ex15.trans (congrArg (fun z => x.2 + z) ki_1.symm)) (by decide) (ls' := [(4, .int x15), (0, .ref 71), (1, .int v1), (2, .int v2), (3, .int v3)]) rfl ?_
    refine Ev_goto (tgt := 46) (dt_X12_rope.at 45 rfl) (by decide) ?_
    refine Ev_sub [1, 2, 3, 4, 0] (ls' := [(0, .ref 71), (1, .int v1), (2, .int v2), (3, .int v3), (4, .int x15)]) rfl ?_
    exact hc (o14.1, x15) (Option.some.inj h).symm
set_option maxRecDepth 100000 in
set_option maxHeartbeats 4000000 in
theorem wl_m_rope_46 (v1 : Int32) (v2 : Int32) (v3 : Int32) (r : Option Value) (τ : Sg) (n : Nat) (x : (Sg × Int32)) (z : (Sg × Int32)) (h : lp (b_m_rope_46 v1 v2 v3) n x = some z) (he : ∀ y : (Sg × Int32), z = y → Ev M_X12_rope 2 r τ 91 [(0, .ref 71), (1, .int v1), (2, .int v2), (3, .int v3)] [] y.1) : Ev M_X12_rope 2 r τ 46 [(0, .ref 71), (1, .int v1), (2, .int v2), (3, .int v3), (4, .int x.2)] [] x.1 := by
  refine lp_ind (E := fun x : (Sg × Int32) => Ev M_X12_rope 2 r τ 46 [(0, .ref 71), (1, .int v1), (2, .int v2), (3, .int v3), (4, .int x.2)] [] x.1) (fun x => ⟨fun y hb hy => ?_, fun hb => ?_⟩) n x h
  · exact wb_m_rope_46 v1 v2 v3 x r τ _ hb (fun y' e => by cases e; exact hy) (fun y' e => by cases e)
  · exact wb_m_rope_46 v1 v2 v3 x r τ _ hb (fun y' e => by cases e) (fun y' e => he y' (Sum.inr.inj e))
set_option maxRecDepth 100000 in
set_option maxHeartbeats 4000000 in
theorem w_m_rope (σ : Sg) (a1 : Int32) (a2 : Int32) (a3 : Int32) (q : (Int32 × Sg)) (h : s_m_rope σ a1 a2 a3 = some q) : Cal M_X12_rope 2 [.ref 71, .int a1, .int a2, .int a3] σ (some (.int q.1)) q.2 := by
  refine Cal.of (M := M_X12_rope) (by decide +kernel) (Nat.le_of_ble_eq_true rfl) ?_
  show Ev _ _ _ _ 0 [(0, .ref 71), (1, .int a1), (2, .int a2), (3, .int a3)] [] σ
  unfold s_m_rope at h
  refine Ev_iload_n 1 (dt_X12_rope.at 0 rfl) rfl ?_
  refine Ev_i2l (dt_X12_rope.at 1 rfl) ?_
  refine Ev_lconst (dt_X12_rope.at 2 rfl) kl_1 ?_
  refine Ev_ldc2 (dt_X12_rope.at 3 rfl) cl_X12_248 ?_
  obtain ⟨q1, hq1, h⟩ := oBind h
  refine Ev_callS (st := []) (st' := [.int q1]) [.long (Int32.toInt64 a1), .long 1, .long 60] (dt_X12_rope.at 4 rfl) cf_X12_74 (w_m_in σ (Int32.toInt64 a1) 1 60 q1 hq1) (by decide) rfl rfl (Nat.le_of_ble_eq_true rfl) rfl ?_
  refine Ev_if_eq (tgt := 36) (dt_X12_rope.at 5 rfl) (by decide) (fun c2 => ?_) (fun c2 => ?_)
  · replace h := oPos h c2
    refine Ev_aload_n 0 (dt_X12_rope.at 18 rfl) rfl ?_
    refine Ev_bipush (dt_X12_rope.at 19 rfl) kb_m2 ?_
    obtain ⟨q3, hq3, h⟩ := oBind h
    refine Ev_callV (st := []) (st' := [.int q3.1]) [.int (-2)] (dt_X12_rope.at 20 rfl) cf_X12_88 (w_m_bad σ (-2) q3 hq3) (by decide) sk_71 rfl rfl rfl (Nat.le_of_ble_eq_true rfl) rfl ?_
    exact Ev_iret (dt_X12_rope.at 21 rfl) rfl h
  · replace h := oNeg h c2
    refine Ev_iload_n 2 (dt_X12_rope.at 6 rfl) rfl ?_
    refine Ev_i2l (dt_X12_rope.at 7 rfl) ?_
    refine Ev_lconst (dt_X12_rope.at 8 rfl) kl_1 ?_
    refine Ev_ldc2 (dt_X12_rope.at 9 rfl) cl_X12_248 ?_
    obtain ⟨q4, hq4, h⟩ := oBind h
    refine Ev_callS (st := []) (st' := [.int q4]) [.long (Int32.toInt64 a2), .long 1, .long 60] (dt_X12_rope.at 10 rfl) cf_X12_74 (w_m_in σ (Int32.toInt64 a2) 1 60 q4 hq4) (by decide) rfl rfl (Nat.le_of_ble_eq_true rfl) rfl ?_
    refine Ev_if_eq (tgt := 36) (dt_X12_rope.at 11 rfl) (by decide) (fun c5 => ?_) (fun c5 => ?_)
    · replace h := oPos h c5
      refine Ev_aload_n 0 (dt_X12_rope.at 18 rfl) rfl ?_
      refine Ev_bipush (dt_X12_rope.at 19 rfl) kb_m2 ?_
      obtain ⟨q6, hq6, h⟩ := oBind h
      refine Ev_callV (st := []) (st' := [.int q6.1]) [.int (-2)] (dt_X12_rope.at 20 rfl) cf_X12_88 (w_m_bad σ (-2) q6 hq6) (by decide) sk_71 rfl rfl rfl (Nat.le_of_ble_eq_true rfl) rfl ?_
      exact Ev_iret (dt_X12_rope.at 21 rfl) rfl h
    · replace h := oNeg h c5
      refine Ev_iload_n 3 (dt_X12_rope.at 12 rfl) rfl ?_
      refine Ev_i2l (dt_X12_rope.at 13 rfl) ?_
      refine Ev_lconst (dt_X12_rope.at 14 rfl) kl_0 ?_
      refine Ev_ldc2 (dt_X12_rope.at 15 rfl) cl_X12_229 ?_
      obtain ⟨q7, hq7, h⟩ := oBind h
      refine Ev_callS (st := []) (st' := [.int q7]) [.long (Int32.toInt64 a3), .long 0, .long 2] (dt_X12_rope.at 16 rfl) cf_X12_74 (w_m_in σ (Int32.toInt64 a3) 0 2 q7 hq7) (by decide) rfl rfl (Nat.le_of_ble_eq_true rfl) rfl ?_
      refine Ev_if_ne (tgt := 43) (dt_X12_rope.at 17 rfl) (by decide) (fun c8 => ?_) (fun c8 => ?_)
      · replace h := oNeg h c8
        refine Ev_iconst (dt_X12_rope.at 22 rfl) ki_1 ?_
        refine Ev_istore (dt_X12_rope.at 23 rfl) (by decide) (ls' := [(4, .int 1), (0, .ref 71), (1, .int a1), (2, .int a2), (3, .int a3)]) rfl ?_
        refine Ev_sub [1, 2, 3, 4, 0] (ls' := [(0, .ref 71), (1, .int a1), (2, .int a2), (3, .int a3), (4, .int 1)]) rfl ?_
        obtain ⟨o16, ho16, h⟩ := oBind h
        refine wl_m_rope_46 a1 a2 a3 _ _ 100000 (σ, 1) o16 ho16 (fun y ey => ?_)
        subst ey
        refine Ev_iload_n 1 (dt_X12_rope.at 46 rfl) rfl ?_
        refine Ev_iload_n 2 (dt_X12_rope.at 47 rfl) rfl ?_
        refine Ev_iconst (dt_X12_rope.at 48 rfl) ki_0 ?_
        obtain ⟨q17, hq17, h⟩ := oBind h
        refine Ev_callS (st := []) (st' := [.int q17]) [.int a1, .int a2, .int 0] (dt_X12_rope.at 49 rfl) cf_X12_241 (w_m_ropeAt o16.1 a1 a2 0 q17 hq17) (by decide) rfl rfl (Nat.le_of_ble_eq_true rfl) rfl ?_
        refine Ev_istore (dt_X12_rope.at 50 rfl) (by decide) (ls' := [(4, .int q17), (0, .ref 71), (1, .int a1), (2, .int a2), (3, .int a3)]) rfl ?_
        refine Ev_iload_n 4 (dt_X12_rope.at 51 rfl) rfl ?_
        refine Ev_if_ne (tgt := 113) (dt_X12_rope.at 52 rfl) (by decide) (fun c18 => ?_) (fun c18 => ?_)
        · replace h := oNeg h c18
          refine Ev_iload_n 4 (dt_X12_rope.at 58 rfl) rfl ?_
          refine Ev_iconst (dt_X12_rope.at 59 rfl) ki_1 ?_
          refine Ev_icmp_ne (tgt := 128) (dt_X12_rope.at 60 rfl) (by decide) (fun c19 => ?_) (fun c19 => ?_)
          · replace h := oNeg h c19
            refine Ev_aload_n 1 (dt_X12_rope.at 66 rfl) rfl ?_
            refine Ev_get (i := 19) (v := .ref 87) (dt_X12_rope.at 67 rfl) ff_X12_61 sk_71 rfl rfl ?_
            refine Ev_iload 0 (dt_X12_rope.at 68 rfl) rfl ?_
            obtain ⟨g20, h⟩ := oGuard h
            refine Ev_iaload 87 (dt_X12_rope.at 69 rfl) sk_87 g20 ?_
            exact Ev_iret (dt_X12_rope.at 70 rfl) rfl h
          · replace h := oPos h c19
            refine Ev_aload_n 1 (dt_X12_rope.at 61 rfl) rfl ?_
            refine Ev_get (i := 18) (v := .ref 86) (dt_X12_rope.at 62 rfl) ff_X12_58 sk_71 rfl rfl ?_
            refine Ev_iload 0 (dt_X12_rope.at 63 rfl) rfl ?_
            obtain ⟨g21, h⟩ := oGuard h
            refine Ev_iaload 86 (dt_X12_rope.at 64 rfl) sk_86 g21 ?_
            refine Ev_goto (tgt := 135) (dt_X12_rope.at 65 rfl) (by decide) ?_
            exact Ev_iret (dt_X12_rope.at 70 rfl) rfl h
        · replace h := oPos h c18
          refine Ev_aload_n 1 (dt_X12_rope.at 53 rfl) rfl ?_
          refine Ev_get (i := 17) (v := .ref 85) (dt_X12_rope.at 54 rfl) ff_X12_55 sk_71 rfl rfl ?_
          refine Ev_iload 0 (dt_X12_rope.at 55 rfl) rfl ?_
          obtain ⟨g22, h⟩ := oGuard h
          refine Ev_iaload 85 (dt_X12_rope.at 56 rfl) sk_85 g22 ?_
          refine Ev_goto (tgt := 135) (dt_X12_rope.at 57 rfl) (by decide) ?_
          exact Ev_iret (dt_X12_rope.at 70 rfl) rfl h
      · replace h := oPos h c8
        refine Ev_aload_n 0 (dt_X12_rope.at 18 rfl) rfl ?_
        refine Ev_bipush (dt_X12_rope.at 19 rfl) kb_m2 ?_
        obtain ⟨q23, hq23, h⟩ := oBind h
        refine Ev_callV (st := []) (st' := [.int q23.1]) [.int (-2)] (dt_X12_rope.at 20 rfl) cf_X12_88 (w_m_bad σ (-2) q23 hq23) (by decide) sk_71 rfl rfl rfl (Nat.le_of_ble_eq_true rfl) rfl ?_
        exact Ev_iret (dt_X12_rope.at 21 rfl) rfl h
