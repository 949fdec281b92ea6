def j_m_week_41  (σ : Sg) (v1 : Int32) (v2 : Int32) (v3 : Int32) (u0 : Int32) : Option (Int32 × Sg) :=
  if u0 = 0 then
    (s_m_bad σ (-2)).bind fun q5 =>
    some (q5.1, q5.2)
  else
    if (v1 &&& v2) = 0 then
      if (v1 &&& v3) = 0 then
        if (v2 &&& v3) = 0 then
          lt ((gI σ 72 (Int32.toNatClampNeg 108)) : Int32) fun x11 =>
          if x11 = 6 then
            (s_m_full σ ).bind fun q20 =>
            some (q20.1, q20.2)
          else
            if inB (109 + (3 * x11)) 143 = true then
              lt (pI σ 72 (Int32.toNatClampNeg (109 + (3 * x11))) v1 : Sg) fun s14 =>
              if inB ((109 + (3 * x11)) + 1) 143 = true then
                lt (pI s14 72 (Int32.toNatClampNeg ((109 + (3 * x11)) + 1)) v2 : Sg) fun s16 =>
                if inB ((109 + (3 * x11)) + 2) 143 = true then
                  lt (pI s16 72 (Int32.toNatClampNeg ((109 + (3 * x11)) + 2)) v3 : Sg) fun s18 =>
                  lt (pI s18 72 (Int32.toNatClampNeg 108) ((gI s18 72 (Int32.toNatClampNeg 108)) + 1) : Sg) fun s19 =>
                  some (x11, s19)
                else none
              else none
            else none
        else
          (s_m_bad σ (-2)).bind fun q21 =>
          some (q21.1, q21.2)
      else
        (s_m_bad σ (-2)).bind fun q9 =>
        some (q9.1, q9.2)
    else
      (s_m_bad σ (-2)).bind fun q7 =>
      some (q7.1, q7.2)
def j_m_week_36  (σ : Sg) (v1 : Int32) (v2 : Int32) (v3 : Int32) : Option (Int32 × Sg) :=
  j_m_week_41  σ v1 v2 v3 1
def j_m_week_40  (σ : Sg) (v1 : Int32) (v2 : Int32) (v3 : Int32) : Option (Int32 × Sg) :=
  j_m_week_41  σ v1 v2 v3 0
def j_m_week_24  (σ : Sg) (v1 : Int32) (v2 : Int32) (v3 : Int32) : Option (Int32 × Sg) :=
  if v3 = 0 then
    j_m_week_36  σ v1 v2 v3
  else
    (s_m_isThree σ v3).bind fun q22 =>
    if q22 = 0 then
      j_m_week_40  σ v1 v2 v3
    else
      j_m_week_36  σ v1 v2 v3
def j_m_week_12  (σ : Sg) (v1 : Int32) (v2 : Int32) (v3 : Int32) : Option (Int32 × Sg) :=
  if v2 = 0 then
    j_m_week_24  σ v1 v2 v3
  else
    (s_m_isThree σ v2).bind fun q24 =>
    if q24 = 0 then
      j_m_week_40  σ v1 v2 v3
    else
      j_m_week_24  σ v1 v2 v3
def s_m_week (σ : Sg) (a1 : Int32) (a2 : Int32) (a3 : Int32) : Option (Int32 × Sg) :=
  if a1 = 0 then
    j_m_week_12  σ a1 a2 a3
  else
    (s_m_isThree σ a1).bind fun q26 =>
    if q26 = 0 then
      j_m_week_40  σ a1 a2 a3
    else
      j_m_week_12  σ a1 a2 a3
set_option maxRecDepth 100000 in
set_option maxHeartbeats 4000000 in
theorem wj_m_week_41  (σ : Sg) (v1 : Int32) (v2 : Int32) (v3 : Int32) (u0 : Int32) (q : (Int32 × Sg)) (h : (j_m_week_41  σ v1 v2 v3 u0) = some q) : Ev M_X12_week 2 (some (.int q.1)) q.2 41 [(0, .ref 71), (1, .int v1), (2, .int v2), (3, .int v3)] [.int u0] σ := by
  unfold j_m_week_41 at h
  refine Ev_istore (dt_X12_week.at 21 rfl) (by decide) (ls' := [(4, .int u0), (0, .ref 71), (1, .int v1), (2, .int v2), (3, .int v3)]) rfl ?_
  refine Ev_iload 0 (dt_X12_week.at 22 rfl) rfl ?_
  refine Ev_if_eq (tgt := 66) (dt_X12_week.at 23 rfl) (by decide) (fun c4 => ?_) (fun c4 => ?_)
  · replace h := oPos h c4
    refine Ev_aload_n 1 (dt_X12_week.at 36 rfl) rfl ?_
    refine Ev_bipush (dt_X12_week.at 37 rfl) kb_m2 ?_
    obtain ⟨q5, hq5, h⟩ := oBind h
    refine Ev_callV (st := []) (st' := [.int q5.1]) [.int (-2)] (dt_X12_week.at 38 rfl) cf_X12_88 (w_m_bad σ (-2) q5 hq5) (by decide) sk_71 rfl rfl rfl (Nat.le_of_ble_eq_true rfl) rfl ?_
    exact Ev_iret (dt_X12_week.at 39 rfl) rfl h
  · replace h := oNeg h c4
    refine Ev_iload_n 2 (dt_X12_week.at 24 rfl) rfl ?_
    refine Ev_iload_n 3 (dt_X12_week.at 25 rfl) rfl ?_
    refine Ev_iand (dt_X12_week.at 26 rfl) ?_
    refine Ev_if_ne (tgt := 66) (dt_X12_week.at 27 rfl) (by decide) (fun c6 => ?_) (fun c6 => ?_)
    · replace h := oNeg h c6
      refine Ev_aload_n 1 (dt_X12_week.at 36 rfl) rfl ?_
      refine Ev_bipush (dt_X12_week.at 37 rfl) kb_m2 ?_
      obtain ⟨q7, hq7, h⟩ := oBind h
      refine Ev_callV (st := []) (st' := [.int q7.1]) [.int (-2)] (dt_X12_week.at 38 rfl) cf_X12_88 (w_m_bad σ (-2) q7 hq7) (by decide) sk_71 rfl rfl rfl (Nat.le_of_ble_eq_true rfl) rfl ?_
      exact Ev_iret (dt_X12_week.at 39 rfl) rfl h
    · replace h := oPos h c6
      refine Ev_iload_n 2 (dt_X12_week.at 28 rfl) rfl ?_
      refine Ev_iload_n 4 (dt_X12_week.at 29 rfl) rfl ?_
      refine Ev_iand (dt_X12_week.at 30 rfl) ?_
      refine Ev_if_ne (tgt := 66) (dt_X12_week.at 31 rfl) (by decide) (fun c8 => ?_) (fun c8 => ?_)
      · replace h := oNeg h c8
        refine Ev_aload_n 1 (dt_X12_week.at 36 rfl) rfl ?_
        refine Ev_bipush (dt_X12_week.at 37 rfl) kb_m2 ?_
        obtain ⟨q9, hq9, h⟩ := oBind h
        refine Ev_callV (st := []) (st' := [.int q9.1]) [.int (-2)] (dt_X12_week.at 38 rfl) cf_X12_88 (w_m_bad σ (-2) q9 hq9) (by decide) sk_71 rfl rfl rfl (Nat.le_of_ble_eq_true rfl) rfl ?_
        exact Ev_iret (dt_X12_week.at 39 rfl) rfl h
      · replace h := oPos h c8
        refine Ev_iload_n 3 (dt_X12_week.at 32 rfl) rfl ?_
        refine Ev_iload_n 4 (dt_X12_week.at 33 rfl) rfl ?_
        refine Ev_iand (dt_X12_week.at 34 rfl) ?_
        refine Ev_if_eq (tgt := 73) (dt_X12_week.at 35 rfl) (by decide) (fun c10 => ?_) (fun c10 => ?_)
        · replace h := oPos h c10
          refine Ev_aload_n 1 (dt_X12_week.at 40 rfl) rfl ?_
          refine Ev_get (i := 0) (v := .ref 72) (dt_X12_week.at 41 rfl) ff_X12_7 sk_71 rfl rfl ?_
          refine Ev_bipush (dt_X12_week.at 42 rfl) kb_108 ?_
          refine Ev_iaload 72 (dt_X12_week.at 43 rfl) sk_72 ib_108_143 ?_
          refine Ev_nmI (fun x11 ex11 => ?_)
          replace h := oLt h ex11
          refine Ev_istore (dt_X12_week.at 44 rfl) (by decide) (ls' := [(5, .int x11), (4, .int u0), (0, .ref 71), (1, .int v1), (2, .int v2), (3, .int v3)]) rfl ?_
          refine Ev_iload 0 (dt_X12_week.at 45 rfl) rfl ?_
          refine Ev_bipush (dt_X12_week.at 46 rfl) kb_6 ?_
          refine Ev_icmp_ne (tgt := 94) (dt_X12_week.at 47 rfl) (by decide) (fun c12 => ?_) (fun c12 => ?_)
          · replace h := oNeg h c12
            refine Ev_aload_n 2 (dt_X12_week.at 51 rfl) rfl ?_
            refine Ev_get (i := 0) (v := .ref 72) (dt_X12_week.at 52 rfl) ff_X12_7 sk_71 rfl rfl ?_
            refine Ev_bipush (dt_X12_week.at 53 rfl) kb_109 ?_
            refine Ev_iconst (dt_X12_week.at 54 rfl) ki_3 ?_
            refine Ev_iload 0 (dt_X12_week.at 55 rfl) rfl ?_
            refine Ev_imul (dt_X12_week.at 56 rfl) ?_
            refine Ev_iadd (dt_X12_week.at 57 rfl) ?_
            refine Ev_iload_n 3 (dt_X12_week.at 58 rfl) rfl ?_
            obtain ⟨g13, h⟩ := oGuard h
            refine Ev_iastore 72 (dt_X12_week.at 59 rfl) sk_72 g13 ?_
            refine Ev_nmS (fun s14 es14 => ?_)
            replace h := oLt h es14
            refine Ev_aload_n 2 (dt_X12_week.at 60 rfl) rfl ?_
            refine Ev_get (i := 0) (v := .ref 72) (dt_X12_week.at 61 rfl) ff_X12_7 sk_71 rfl rfl ?_
            refine Ev_bipush (dt_X12_week.at 62 rfl) kb_109 ?_
            refine Ev_iconst (dt_X12_week.at 63 rfl) ki_3 ?_
            refine Ev_iload 0 (dt_X12_week.at 64 rfl) rfl ?_
            refine Ev_imul (dt_X12_week.at 65 rfl) ?_
            refine Ev_iadd (dt_X12_week.at 66 rfl) ?_
            refine Ev_iconst (dt_X12_week.at 67 rfl) ki_1 ?_
            refine Ev_iadd (dt_X12_week.at 68 rfl) ?_
            refine Ev_iload_n 4 (dt_X12_week.at 69 rfl) rfl ?_
            obtain ⟨g15, h⟩ := oGuard h
            refine Ev_iastore 72 (dt_X12_week.at 70 rfl) sk_72 g15 ?_
            refine Ev_nmS (fun s16 es16 => ?_)
            replace h := oLt h es16
            refine Ev_aload_n 2 (dt_X12_week.at 71 rfl) rfl ?_
            refine Ev_get (i := 0) (v := .ref 72) (dt_X12_week.at 72 rfl) ff_X12_7 sk_71 rfl rfl ?_
            refine Ev_bipush (dt_X12_week.at 73 rfl) kb_109 ?_
            refine Ev_iconst (dt_X12_week.at 74 rfl) ki_3 ?_
            refine Ev_iload 0 (dt_X12_week.at 75 rfl) rfl ?_
            refine Ev_imul (dt_X12_week.at 76 rfl) ?_
            refine Ev_iadd (dt_X12_week.at 77 rfl) ?_
            refine Ev_iconst (dt_X12_week.at 78 rfl) ki_2 ?_
            refine Ev_iadd (dt_X12_week.at 79 rfl) ?_
            refine Ev_iload_n 5 (dt_X12_week.at 80 rfl) rfl ?_
            obtain ⟨g17, h⟩ := oGuard h
            refine Ev_iastore 72 (dt_X12_week.at 81 rfl) sk_72 g17 ?_
            refine Ev_nmS (fun s18 es18 => ?_)
            replace h := oLt h es18
            refine Ev_aload_n 2 (dt_X12_week.at 82 rfl) rfl ?_
            refine Ev_get (i := 0) (v := .ref 72) (dt_X12_week.at 83 rfl) ff_X12_7 sk_71 rfl rfl ?_
            refine Ev_bipush (dt_X12_week.at 84 rfl) kb_108 ?_
            refine Ev_dup2 (dt_X12_week.at 85 rfl) rfl rfl ?_
            refine Ev_iaload 72 (dt_X12_week.at 86 rfl) sk_72 ib_108_143 ?_
            refine Ev_iconst (dt_X12_week.at 87 rfl) ki_1 ?_
            refine Ev_iadd (dt_X12_week.at 88 rfl) ?_
            refine Ev_iastore 72 (dt_X12_week.at 89 rfl) sk_72 ib_108_143 ?_
            refine Ev_nmS (fun s19 es19 => ?_)
            replace h := oLt h es19
            refine Ev_iload 0 (dt_X12_week.at 90 rfl) rfl ?_
            exact Ev_iret (dt_X12_week.at 91 rfl) rfl h
          · replace h := oPos h c12
            refine Ev_aload_n 2 (dt_X12_week.at 48 rfl) rfl ?_
            obtain ⟨q20, hq20, h⟩ := oBind h
            refine Ev_callV (st := []) (st' := [.int q20.1]) [] (dt_X12_week.at 49 rfl) cf_X12_98 (w_m_full σ  q20 hq20) (by decide) sk_71 rfl rfl rfl (Nat.le_of_ble_eq_true rfl) rfl ?_
            exact Ev_iret (dt_X12_week.at 50 rfl) rfl h
        · replace h := oNeg h c10
          refine Ev_aload_n 1 (dt_X12_week.at 36 rfl) rfl ?_
          refine Ev_bipush (dt_X12_week.at 37 rfl) kb_m2 ?_
          obtain ⟨q21, hq21, h⟩ := oBind h
          refine Ev_callV (st := []) (st' := [.int q21.1]) [.int (-2)] (dt_X12_week.at 38 rfl) cf_X12_88 (w_m_bad σ (-2) q21 hq21) (by decide) sk_71 rfl rfl rfl (Nat.le_of_ble_eq_true rfl) rfl ?_
          exact Ev_iret (dt_X12_week.at 39 rfl) rfl h
set_option maxRecDepth 100000 in
set_option maxHeartbeats 4000000 in
theorem wj_m_week_36  (σ : Sg) (v1 : Int32) (v2 : Int32) (v3 : Int32) (q : (Int32 × Sg)) (h : (j_m_week_36  σ v1 v2 v3) = some q) : Ev M_X12_week 2 (some (.int q.1)) q.2 36 [(0, .ref 71), (1, .int v1), (2, .int v2), (3, .int v3)] [] σ := by
  unfold j_m_week_36 at h
  refine Ev_iconst (dt_X12_week.at 18 rfl) ki_1 ?_
  refine Ev_goto (tgt := 41) (dt_X12_week.at 19 rfl) (by decide) ?_
  refine Ev_sub [0, 1, 2, 3] (ls' := [(0, .ref 71), (1, .int v1), (2, .int v2), (3, .int v3)]) rfl ?_
  exact wj_m_week_41  σ v1 v2 v3 1 q h
set_option maxRecDepth 100000 in
set_option maxHeartbeats 4000000 in
theorem wj_m_week_40  (σ : Sg) (v1 : Int32) (v2 : Int32) (v3 : Int32) (q : (Int32 × Sg)) (h : (j_m_week_40  σ v1 v2 v3) = some q) : Ev M_X12_week 2 (some (.int q.1)) q.2 40 [(0, .ref 71), (1, .int v1), (2, .int v2), (3, .int v3)] [] σ := by
  unfold j_m_week_40 at h
  refine Ev_iconst (dt_X12_week.at 20 rfl) ki_0 ?_
  refine Ev_sub [0, 1, 2, 3] (ls' := [(0, .ref 71), (1, .int v1), (2, .int v2), (3, .int v3)]) rfl ?_
  exact wj_m_week_41  σ v1 v2 v3 0 q h
set_option maxRecDepth 100000 in
set_option maxHeartbeats 4000000 in
theorem wj_m_week_24  (σ : Sg) (v1 : Int32) (v2 : Int32) (v3 : Int32) (q : (Int32 × Sg)) (h : (j_m_week_24  σ v1 v2 v3) = some q) : Ev M_X12_week 2 (some (.int q.1)) q.2 24 [(0, .ref 71), (1, .int v1), (2, .int v2), (3, .int v3)] [] σ := by
  unfold j_m_week_24 at h
  refine Ev_iload_n 3 (dt_X12_week.at 12 rfl) rfl ?_
  refine Ev_if_eq (tgt := 36) (dt_X12_week.at 13 rfl) (by decide) (fun c3 => ?_) (fun c3 => ?_)
  · replace h := oPos h c3
    refine Ev_sub [0, 1, 2, 3] (ls' := [(0, .ref 71), (1, .int v1), (2, .int v2), (3, .int v3)]) rfl ?_
    exact wj_m_week_36  σ v1 v2 v3 q h
  · replace h := oNeg h c3
    refine Ev_aload_n 0 (dt_X12_week.at 14 rfl) rfl ?_
    refine Ev_iload_n 3 (dt_X12_week.at 15 rfl) rfl ?_
    obtain ⟨q22, hq22, h⟩ := oBind h
    refine Ev_callV (st := []) (st' := [.int q22]) [.int v3] (dt_X12_week.at 16 rfl) cf_X12_159 (w_m_isThree σ v3 q22 hq22) (by decide) sk_71 rfl rfl rfl (Nat.le_of_ble_eq_true rfl) rfl ?_
    refine Ev_if_eq (tgt := 40) (dt_X12_week.at 17 rfl) (by decide) (fun c23 => ?_) (fun c23 => ?_)
    · replace h := oPos h c23
      refine Ev_sub [0, 1, 2, 3] (ls' := [(0, .ref 71), (1, .int v1), (2, .int v2), (3, .int v3)]) rfl ?_
      exact wj_m_week_40  σ v1 v2 v3 q h
    · replace h := oNeg h c23
      refine Ev_sub [0, 1, 2, 3] (ls' := [(0, .ref 71), (1, .int v1), (2, .int v2), (3, .int v3)]) rfl ?_
      exact wj_m_week_36  σ v1 v2 v3 q h
set_option maxRecDepth 100000 in
set_option maxHeartbeats 4000000 in
theorem wj_m_week_12  (σ : Sg) (v1 : Int32) (v2 : Int32) (v3 : Int32) (q : (Int32 × Sg)) (h : (j_m_week_12  σ v1 v2 v3) = some q) : Ev M_X12_week 2 (some (.int q.1)) q.2 12 [(0, .ref 71), (1, .int v1), (2, .int v2), (3, .int v3)] [] σ := by
  unfold j_m_week_12 at h
  refine Ev_iload_n 2 (dt_X12_week.at 6 rfl) rfl ?_
  refine Ev_if_eq (tgt := 24) (dt_X12_week.at 7 rfl) (by decide) (fun c2 => ?_) (fun c2 => ?_)
  · replace h := oPos h c2
    refine Ev_sub [0, 1, 2, 3] (ls' := [(0, .ref 71), (1, .int v1), (2, .int v2), (3, .int v3)]) rfl ?_
    exact wj_m_week_24  σ v1 v2 v3 q h
  · replace h := oNeg h c2
    refine Ev_aload_n 0 (dt_X12_week.at 8 rfl) rfl ?_
    refine Ev_iload_n 2 (dt_X12_week.at 9 rfl) rfl ?_
    obtain ⟨q24, hq24, h⟩ := oBind h
    refine Ev_callV (st := []) (st' := [.int q24]) [.int v2] (dt_X12_week.at 10 rfl) cf_X12_159 (w_m_isThree σ v2 q24 hq24) (by decide) sk_71 rfl rfl rfl (Nat.le_of_ble_eq_true rfl) rfl ?_
    refine Ev_if_eq (tgt := 40) (dt_X12_week.at 11 rfl) (by decide) (fun c25 => ?_) (fun c25 => ?_)
    · replace h := oPos h c25
      refine Ev_sub [0, 1, 2, 3] (ls' := [(0, .ref 71), (1, .int v1), (2, .int v2), (3, .int v3)]) rfl ?_
      exact wj_m_week_40  σ v1 v2 v3 q h
    · replace h := oNeg h c25
      refine Ev_sub [0, 1, 2, 3] (ls' := [(0, .ref 71), (1, .int v1), (2, .int v2), (3, .int v3)]) rfl ?_
      exact wj_m_week_24  σ v1 v2 v3 q h
set_option maxRecDepth 100000 in
set_option maxHeartbeats 4000000 in
theorem w_m_week (σ : Sg) (a1 : Int32) (a2 : Int32) (a3 : Int32) (q : (Int32 × Sg)) (h : s_m_week σ a1 a2 a3 = some q) : Cal M_X12_week 2 [.ref 71, .int a1, .int a2, .int a3] σ (some (.int q.1)) q.2 := by
  refine Cal.of (M := M_X12_week) (by decide +kernel) (Nat.le_of_ble_eq_true rfl) ?_
  show Ev _ _ _ _ 0 [(0, .ref 71), (1, .int a1), (2, .int a2), (3, .int a3)] [] σ
  unfold s_m_week at h
  refine Ev_iload_n 1 (dt_X12_week.at 0 rfl) rfl ?_
  refine Ev_if_eq (tgt := 12) (dt_X12_week.at 1 rfl) (by decide) (fun c1 => ?_) (fun c1 => ?_)
  · replace h := oPos h c1
    refine Ev_sub [0, 1, 2, 3] (ls' := [(0, .ref 71), (1, .int a1), (2, .int a2), (3, .int a3)]) rfl ?_
    exact wj_m_week_12  σ a1 a2 a3 q h
  · replace h := oNeg h c1
    refine Ev_aload_n 0 (dt_X12_week.at 2 rfl) rfl ?_
    refine Ev_iload_n 1 (dt_X12_week.at 3 rfl) rfl ?_
    obtain ⟨q26, hq26, h⟩ := oBind h
    refine Ev_callV (st := []) (st' := [.int q26]) [.int a1] (dt_X12_week.at 4 rfl) cf_X12_159 (w_m_isThree σ a1 q26 hq26) (by decide) sk_71 rfl rfl rfl (Nat.le_of_ble_eq_true rfl) rfl ?_
    refine Ev_if_eq (tgt := 40) (dt_X12_week.at 5 rfl) (by decide) (fun c27 => ?_) (fun c27 => ?_)
    · replace h := oPos h c27
      refine Ev_sub [0, 1, 2, 3] (ls' := [(0, .ref 71), (1, .int a1), (2, .int a2), (3, .int a3)]) rfl ?_
      exact wj_m_week_40  σ a1 a2 a3 q h
    · replace h := oNeg h c27
      refine Ev_sub [0, 1, 2, 3] (ls' := [(0, .ref 71), (1, .int a1), (2, .int a2), (3, .int a3)]) rfl ?_
      exact wj_m_week_12  σ a1 a2 a3 q h
def s_m_loose (σ : Sg)  : Option (Int32 × Sg) :=
  lt ((gI σ 72 (Int32.toNatClampNeg 108)) : Int32) fun x1 =>
  lt (pI σ 72 (Int32.toNatClampNeg 108) 0 : Sg) fun s2 =>
  some (x1, s2)
set_option maxRecDepth 100000 in
set_option maxHeartbeats 4000000 in
theorem w_m_loose (σ : Sg)  (q : (Int32 × Sg)) (h : s_m_loose σ  = some q) : Cal M_X12_loose 0 [.ref 71] σ (some (.int q.1)) q.2 := by
  refine Cal.of (M := M_X12_loose) (by decide +kernel) (Nat.le_of_ble_eq_true rfl) ?_
  show Ev _ _ _ _ 0 [(0, .ref 71)] [] σ
  unfold s_m_loose at h
  refine Ev_aload_n 0 (dt_X12_loose.at 0 rfl) rfl ?_
  refine Ev_get (i := 0) (v := .ref 72) (dt_X12_loose.at 1 rfl) ff_X12_7 sk_71 rfl rfl ?_
  refine Ev_bipush (dt_X12_loose.at 2 rfl) kb_108 ?_
  refine Ev_iaload 72 (dt_X12_loose.at 3 rfl) sk_72 ib_108_143 ?_
  refine Ev_nmI (fun x1 ex1 => ?_)
  replace h := oLt h ex1
  refine Ev_istore_n (dt_X12_loose.at 4 rfl) (by decide) (ls' := [(1, .int x1), (0, .ref 71)]) rfl ?_
  refine Ev_aload_n 1 (dt_X12_loose.at 5 rfl) rfl ?_
  refine Ev_get (i := 0) (v := .ref 72) (dt_X12_loose.at 6 rfl) ff_X12_7 sk_71 rfl rfl ?_
  refine Ev_bipush (dt_X12_loose.at 7 rfl) kb_108 ?_
  refine Ev_iconst (dt_X12_loose.at 8 rfl) ki_0 ?_
  refine Ev_iastore 72 (dt_X12_loose.at 9 rfl) sk_72 ib_108_143 ?_
  refine Ev_nmS (fun s2 es2 => ?_)
  replace h := oLt h es2
  refine Ev_iload_n 0 (dt_X12_loose.at 10 rfl) rfl ?_
  exact Ev_iret (dt_X12_loose.at 11 rfl) rfl h
def s_m_isSet (σ : Sg) (a1 : Int32) : Option Int32 :=
  (s_m_people σ ).bind fun q1 =>
  (s_m_in (Int32.toInt64 a1) 0 (Int32.toInt64 (((1 : Int32) <<< (q1 &&& 31)) - 1))).bind fun q2 =>
  if q2 &&& 1 = q2 then some q2 else none
set_option maxRecDepth 100000 in
set_option maxHeartbeats 4000000 in
theorem w_m_isSet (σ : Sg) (a1 : Int32) (q : Int32) (h : s_m_isSet σ a1 = some q) : Cal M_X12_isSet 1 [.ref 71, .int a1] σ (some (.int q)) σ := by
  refine Cal.of (M := M_X12_isSet) (by decide +kernel) (Nat.le_of_ble_eq_true rfl) ?_
  show Ev _ _ _ _ 0 [(0, .ref 71), (1, .int a1)] [] σ
  unfold s_m_isSet at h
  refine Ev_iload_n 1 (dt_X12_isSet.at 0 rfl) rfl ?_
  refine Ev_i2l (dt_X12_isSet.at 1 rfl) ?_
  refine Ev_lconst (dt_X12_isSet.at 2 rfl) kl_0 ?_
  refine Ev_iconst (dt_X12_isSet.at 3 rfl) ki_1 ?_
  refine Ev_aload_n 0 (dt_X12_isSet.at 4 rfl) rfl ?_
  obtain ⟨q1, hq1, h⟩ := oBind h
  refine Ev_callV (st := [.int 1, .long 0, .long (Int32.toInt64 a1)]) (st' := [.int q1, .int 1, .long 0, .long (Int32.toInt64 a1)]) [] (dt_X12_isSet.at 5 rfl) cf_X12_70 (w_m_people σ  q1 hq1) (by decide) sk_71 rfl rfl rfl (Nat.le_of_ble_eq_true rfl) rfl ?_
  refine Ev_ishl (dt_X12_isSet.at 6 rfl) ?_
  refine Ev_iconst (dt_X12_isSet.at 7 rfl) ki_1 ?_
  refine Ev_isub (dt_X12_isSet.at 8 rfl) ?_
  refine Ev_i2l (dt_X12_isSet.at 9 rfl) ?_
  obtain ⟨q2, hq2, h⟩ := oBind h
  refine Ev_callS (st := []) (st' := [.int q2]) [.long (Int32.toInt64 a1), .long 0, .long (Int32.toInt64 (((1 : Int32) <<< (q1 &&& 31)) - 1))] (dt_X12_isSet.at 10 rfl) cf_X12_74 (w_m_in σ (Int32.toInt64 a1) 0 (Int32.toInt64 (((1 : Int32) <<< (q1 &&& 31)) - 1)) q2 hq2) (by decide) rfl rfl (Nat.le_of_ble_eq_true rfl) rfl ?_
  obtain ⟨gz, h⟩ := oGuard h
  exact Ev_zret (dt_X12_isSet.at 11 rfl) rfl gz (oRet h)
def b_m_known_5 (σ : Sg) (v2 : Int32) (x : (Int32 × Int32)) : Option ((Int32 × Int32) ⊕ (Int32 × Int32)) :=
  if (3 * v2) ≤ x.2 then
    some (.inr (x.1, x.2))
  else
    if inB (109 + x.2) 143 = true then
      lt ((gI σ 72 (Int32.toNatClampNeg (109 + x.2))) : Int32) fun x3 =>
      if (x.1 &&& x3) = 0 then
        lt ((x.1 ||| 0) : Int32) fun x5 =>
        lt (x.2 + 1 : Int32) fun x6 =>
        some (.inl (x5, x6))
      else
        lt ((x.1 ||| x3) : Int32) fun x7 =>
        lt (x.2 + 1 : Int32) fun x8 =>
        some (.inl (x7, x8))
    else none
def s_m_known (σ : Sg) (a1 : Int32) (a2 : Int32) : Option Int32 :=
  (lp (b_m_known_5 σ a2) 100000 (a1, 0)).bind fun o9 =>
  some o9.1
set_option maxRecDepth 100000 in
set_option maxHeartbeats 4000000 in
theorem wb_m_known_5 (σ : Sg) (v2 : Int32) (x : (Int32 × Int32)) (r : Option Value) (τ : Sg) (o : ((Int32 × Int32) ⊕ (Int32 × Int32))) (h : (b_m_known_5 σ v2 x) = some o) (hc : ∀ y : (Int32 × Int32), o = .inl y → Ev M_X12_known 0 r τ 5 [(0, .ref 71), (2, .int v2), (3, .int y.1), (4, .int y.2)] [] σ) (he : ∀ y : (Int32 × Int32), o = .inr y → Ev M_X12_known 0 r τ 47 [(3, .int y.1)] [] σ) : Ev M_X12_known 0 r τ 5 [(0, .ref 71), (2, .int v2), (3, .int x.1), (4, .int x.2)] [] σ := by
  unfold b_m_known_5 at h
  refine Ev_iload 3 (dt_X12_known.at 4 rfl) rfl ?_
  refine Ev_iconst (dt_X12_known.at 5 rfl) ki_3 ?_
  refine Ev_iload_n 1 (dt_X12_known.at 6 rfl) rfl ?_
  refine Ev_imul (dt_X12_known.at 7 rfl) ?_
  refine Ev_icmp_ge (tgt := 47) (dt_X12_known.at 8 rfl) (by decide) (fun c1 => ?_) (fun c1 => ?_)
  · replace h := oPos h c1
    refine Ev_sub [2] (ls' := [(3, .int x.1)]) rfl ?_
    exact he (x.1, x.2) (Option.some.inj h).symm
  · replace h := oNeg h c1
    refine Ev_aload_n 0 (dt_X12_known.at 9 rfl) rfl ?_
    refine Ev_get (i := 0) (v := .ref 72) (dt_X12_known.at 10 rfl) ff_X12_7 sk_71 rfl rfl ?_
    refine Ev_bipush (dt_X12_known.at 11 rfl) kb_109 ?_
    refine Ev_iload 3 (dt_X12_known.at 12 rfl) rfl ?_
    refine Ev_iadd (dt_X12_known.at 13 rfl) ?_
    obtain ⟨g2, h⟩ := oGuard h
    refine Ev_iaload 72 (dt_X12_known.at 14 rfl) sk_72 g2 ?_
    refine Ev_nmI (fun x3 ex3 => ?_)
    replace h := oLt h ex3
    refine Ev_istore (dt_X12_known.at 15 rfl) (by decide) (ls' := [(5, .int x3), (0, .ref 71), (2, .int v2), (3, .int x.1), (4, .int x.2)]) rfl ?_
    refine Ev_iload_n 3 (dt_X12_known.at 16 rfl) rfl ?_
    refine Ev_iload_n 3 (dt_X12_known.at 17 rfl) rfl ?_
    refine Ev_iload 0 (dt_X12_known.at 18 rfl) rfl ?_
    refine Ev_iand (dt_X12_known.at 19 rfl) ?_
    refine Ev_if_eq (tgt := 38) (dt_X12_known.at 20 rfl) (by decide) (fun c4 => ?_) (fun c4 => ?_)
    · replace h := oPos h c4
      refine Ev_iconst (dt_X12_known.at 23 rfl) ki_0 ?_
      refine Ev_ior (dt_X12_known.at 24 rfl) ?_
      refine Ev_nmI (fun x5 ex5 => ?_)
      replace h := oLt h ex5
      refine Ev_istore_n (dt_X12_known.at 25 rfl) (by decide) (ls' := [(3, .int x5), (5, .int x3), (0, .ref 71), (2, .int v2), (4, .int x.2)]) rfl ?_
      obtain ⟨x6, ex6⟩ : ∃ z : Int32, z = x.2 + 1 := ⟨_, rfl⟩
      replace h := oLt h ex6
      refine Ev_iinc (v := x6) 4 (dt_X12_known.at 26 rfl) rfl (ex6.trans (congrArg (fun z => x.2 + z) ki_1.symm)) (by decide) (ls' := [(4, .int x6), (3, .int x5), (5, .int x3), (0, .ref 71), (2, .int v2)]) rfl ?_
      refine Ev_goto (tgt := 5) (dt_X12_known.at 27 rfl) (by decide) ?_
      refine Ev_sub [3, 4, 1, 0] (ls' := [(0, .ref 71), (2, .int v2), (3, .int x5), (4, .int x6)]) rfl ?_
      exact hc (x5, x6) (Option.some.inj h).symm
    · replace h := oNeg h c4
      refine Ev_iload 0 (dt_X12_known.at 21 rfl) rfl ?_
      refine Ev_goto (tgt := 39) (dt_X12_known.at 22 rfl) (by decide) ?_
      refine Ev_ior (dt_X12_known.at 24 rfl) ?_
      refine Ev_nmI (fun x7 ex7 => ?_)
      replace h := oLt h ex7
      refine Ev_istore_n (dt_X12_known.at 25 rfl) (by decide) (ls' := [(3, .int x7), (5, .int x3), (0, .ref 71), (2, .int v2), (4, .int x.2)]) rfl ?_
      obtain ⟨x8, ex8⟩ : ∃ z : Int32, z = x.2 + 1 := ⟨_, rfl⟩
      replace h := oLt h ex8
      refine Ev_iinc (v := x8) 4 (dt_X12_known.at 26 rfl) rfl (ex8.trans (congrArg (fun z => x.2 + z) ki_1.symm)) (by decide) (ls' := [(4, .int x8), (3, .int x7), (5, .int x3), (0, .ref 71), (2, .int v2)]) rfl ?_
      refine Ev_goto (tgt := 5) (dt_X12_known.at 27 rfl) (by decide) ?_
      refine Ev_sub [3, 4, 1, 0] (ls' := [(0, .ref 71), (2, .int v2), (3, .int x7), (4, .int x8)]) rfl ?_
      exact hc (x7, x8) (Option.some.inj h).symm
set_option maxRecDepth 100000 in
set_option maxHeartbeats 4000000 in
theorem wl_m_known_5 (σ : Sg) (v2 : Int32) (r : Option Value) (τ : Sg) (n : Nat) (x : (Int32 × Int32)) (z : (Int32 × Int32)) (h : lp (b_m_known_5 σ v2) n x = some z) (he : ∀ y : (Int32 × Int32), z = y → Ev M_X12_known 0 r τ 47 [(3, .int y.1)] [] σ) : Ev M_X12_known 0 r τ 5 [(0, .ref 71), (2, .int v2), (3, .int x.1), (4, .int x.2)] [] σ := by
  refine lp_ind (E := fun x : (Int32 × Int32) => Ev M_X12_known 0 r τ 5 [(0, .ref 71), (2, .int v2), (3, .int x.1), (4, .int x.2)] [] σ) (fun x => ⟨fun y hb hy => ?_, fun hb => ?_⟩) n x h
  · exact wb_m_known_5 σ v2 x r τ _ hb (fun y' e => by cases e; exact hy) (fun y' e => by cases e)
  · exact wb_m_known_5 σ v2 x r τ _ hb (fun y' e => by cases e) (fun y' e => he y' (Sum.inr.inj e))
set_option maxRecDepth 100000 in
set_option maxHeartbeats 4000000 in
theorem w_m_known (σ : Sg) (a1 : Int32) (a2 : Int32) (q : Int32) (h : s_m_known σ a1 a2 = some q) : Cal M_X12_known 0 [.ref 71, .int a1, .int a2] σ (some (.int q)) σ := by
  refine Cal.of (M := M_X12_known) (by decide +kernel) (Nat.le_of_ble_eq_true rfl) ?_
  show Ev _ _ _ _ 0 [(0, .ref 71), (1, .int a1), (2, .int a2)] [] σ
  unfold s_m_known at h
  refine Ev_iload_n 1 (dt_X12_known.at 0 rfl) rfl ?_
  refine Ev_istore_n (dt_X12_known.at 1 rfl) (by decide) (ls' := [(3, .int a1), (0, .ref 71), (1, .int a1), (2, .int a2)]) rfl ?_
  refine Ev_iconst (dt_X12_known.at 2 rfl) ki_0 ?_
  refine Ev_istore (dt_X12_known.at 3 rfl) (by decide) (ls' := [(4, .int 0), (3, .int a1), (0, .ref 71), (1, .int a1), (2, .int a2)]) rfl ?_
  refine Ev_sub [2, 4, 1, 0] (ls' := [(0, .ref 71), (2, .int a2), (3, .int a1), (4, .int 0)]) rfl ?_
  obtain ⟨o9, ho9, h⟩ := oBind h
  refine wl_m_known_5 σ a2 _ _ 100000 (a1, 0) o9 ho9 (fun y ey => ?_)
  subst ey
  refine Ev_iload_n 0 (dt_X12_known.at 28 rfl) rfl ?_
  exact Ev_iret (dt_X12_known.at 29 rfl) rfl (oRet h)
def s_m_knows (σ : Sg) (a1 : Int32) (a2 : Int32) : Option (Int32 × Sg) :=
  (s_m_isSet σ a1).bind fun q1 =>
  if q1 = 0 then
    (s_m_bad σ (-2)).bind fun q3 =>
    some (q3.1, q3.2)
  else
    (s_m_in (Int32.toInt64 a2) 0 (Int32.toInt64 (gI σ 72 (Int32.toNatClampNeg 108)))).bind fun q4 =>
    if q4 = 0 then
      (s_m_bad σ (-2)).bind fun q7 =>
      some (q7.1, q7.2)
    else
      (s_m_known σ a1 a2).bind fun q6 =>
      some (q6, σ)
set_option maxRecDepth 100000 in
set_option maxHeartbeats 4000000 in
theorem w_m_knows (σ : Sg) (a1 : Int32) (a2 : Int32) (q : (Int32 × Sg)) (h : s_m_knows σ a1 a2 = some q) : Cal M_X12_knows 2 [.ref 71, .int a1, .int a2] σ (some (.int q.1)) q.2 := by
  refine Cal.of (M := M_X12_knows) (by decide +kernel) (Nat.le_of_ble_eq_true rfl) ?_
  show Ev _ _ _ _ 0 [(0, .ref 71), (1, .int a1), (2, .int a2)] [] σ
  unfold s_m_knows at h
  refine Ev_aload_n 0 (dt_X12_knows.at 0 rfl) rfl ?_
  refine Ev_iload_n 1 (dt_X12_knows.at 1 rfl) rfl ?_
  obtain ⟨q1, hq1, h⟩ := oBind h
  refine Ev_callV (st := []) (st' := [.int q1]) [.int a1] (dt_X12_knows.at 2 rfl) cf_X12_235 (w_m_isSet σ a1 q1 hq1) (by decide) sk_71 rfl rfl rfl (Nat.le_of_ble_eq_true rfl) rfl ?_
  refine Ev_if_eq (tgt := 25) (dt_X12_knows.at 3 rfl) (by decide) (fun c2 => ?_) (fun c2 => ?_)
  · replace h := oPos h c2
    refine Ev_aload_n 0 (dt_X12_knows.at 14 rfl) rfl ?_
    refine Ev_bipush (dt_X12_knows.at 15 rfl) kb_m2 ?_
    obtain ⟨q3, hq3, h⟩ := oBind h
    refine Ev_callV (st := []) (st' := [.int q3.1]) [.int (-2)] (dt_X12_knows.at 16 rfl) cf_X12_88 (w_m_bad σ (-2) q3 hq3) (by decide) sk_71 rfl rfl rfl (Nat.le_of_ble_eq_true rfl) rfl ?_
    exact Ev_iret (dt_X12_knows.at 17 rfl) rfl h
  · replace h := oNeg h c2
    refine Ev_iload_n 2 (dt_X12_knows.at 4 rfl) rfl ?_
    refine Ev_i2l (dt_X12_knows.at 5 rfl) ?_
    refine Ev_lconst (dt_X12_knows.at 6 rfl) kl_0 ?_
    refine Ev_aload_n 0 (dt_X12_knows.at 7 rfl) rfl ?_
    refine Ev_get (i := 0) (v := .ref 72) (dt_X12_knows.at 8 rfl) ff_X12_7 sk_71 rfl rfl ?_
    refine Ev_bipush (dt_X12_knows.at 9 rfl) kb_108 ?_
    refine Ev_iaload 72 (dt_X12_knows.at 10 rfl) sk_72 ib_108_143 ?_
    refine Ev_i2l (dt_X12_knows.at 11 rfl) ?_
    obtain ⟨q4, hq4, h⟩ := oBind h
    refine Ev_callS (st := []) (st' := [.int q4]) [.long (Int32.toInt64 a2), .long 0, .long (Int32.toInt64 (gI σ 72 (Int32.toNatClampNeg 108)))] (dt_X12_knows.at 12 rfl) cf_X12_74 (w_m_in σ (Int32.toInt64 a2) 0 (Int32.toInt64 (gI σ 72 (Int32.toNatClampNeg 108))) q4 hq4) (by decide) rfl rfl (Nat.le_of_ble_eq_true rfl) rfl ?_
    refine Ev_if_ne (tgt := 32) (dt_X12_knows.at 13 rfl) (by decide) (fun c5 => ?_) (fun c5 => ?_)
    · replace h := oNeg h c5
      refine Ev_aload_n 0 (dt_X12_knows.at 18 rfl) rfl ?_
      refine Ev_iload_n 1 (dt_X12_knows.at 19 rfl) rfl ?_
      refine Ev_iload_n 2 (dt_X12_knows.at 20 rfl) rfl ?_
      obtain ⟨q6, hq6, h⟩ := oBind h
      refine Ev_callV (st := []) (st' := [.int q6]) [.int a1, .int a2] (dt_X12_knows.at 21 rfl) cf_X12_238 (w_m_known σ a1 a2 q6 hq6) (by decide) sk_71 rfl rfl rfl (Nat.le_of_ble_eq_true rfl) rfl ?_
      exact Ev_iret (dt_X12_knows.at 22 rfl) rfl h
    · replace h := oPos h c5
      refine Ev_aload_n 0 (dt_X12_knows.at 14 rfl) rfl ?_
      refine Ev_bipush (dt_X12_knows.at 15 rfl) kb_m2 ?_
      obtain ⟨q7, hq7, h⟩ := oBind h
      refine Ev_callV (st := []) (st' := [.int q7.1]) [.int (-2)] (dt_X12_knows.at 16 rfl) cf_X12_88 (w_m_bad σ (-2) q7 hq7) (by decide) sk_71 rfl rfl rfl (Nat.le_of_ble_eq_true rfl) rfl ?_
      exact Ev_iret (dt_X12_knows.at 17 rfl) rfl h
def b_m_when_25 (σ : Sg) (v1 : Int32) (v2 : Int32) (x : Int32) : Option (Int32 ⊕ (Int32 ⊕ (Int32 × Sg))) :=
  if (gI σ 72 (Int32.toNatClampNeg 108)) < x then
    some (.inr (.inl x))
  else
    (s_m_known σ v1 x).bind fun q7 =>
    if ((q7 >>> (v2 &&& 31)) &&& 1) = 1 then
      some (.inr (.inr (x, σ)))
    else
      lt (x + 1 : Int32) fun x9 =>
      some (.inl x9)
def s_m_when (σ : Sg) (a1 : Int32) (a2 : Int32) : Option (Int32 × Sg) :=
  (s_m_isSet σ a1).bind fun q1 =>
  if q1 = 0 then
    (s_m_bad σ (-2)).bind fun q3 =>
    some (q3.1, q3.2)
  else
    (s_m_isOne σ a2).bind fun q4 =>
    if q4 = 0 then
      (s_m_bad σ (-2)).bind fun q13 =>
      some (q13.1, q13.2)
    else
      (lp (b_m_when_25 σ a1 a2) 100000 0).bind fun o10 =>
      oElim o10 (fun y11 =>
        some ((-1), σ)) (fun q12 => some q12)
set_option maxRecDepth 100000 in
set_option maxHeartbeats 4000000 in
theorem wb_m_when_25 (σ : Sg) (v1 : Int32) (v2 : Int32) (x : Int32) (r : Option Value) (τ : Sg) (o : (Int32 ⊕ (Int32 ⊕ (Int32 × Sg)))) (h : (b_m_when_25 σ v1 v2 x) = some o) (hc : ∀ y : Int32, o = .inl y → Ev M_X12_when 2 r τ 25 [(0, .ref 71), (1, .int v1), (2, .int v2), (3, .int y)] [] σ) (he : ∀ y : Int32, o = .inr (.inl y) → Ev M_X12_when 2 r τ 58 [] [] σ) (hr : ∀ q : (Int32 × Sg), o = .inr (.inr q) → r = (some (.int q.1)) ∧ τ = q.2) : Ev M_X12_when 2 r τ 25 [(0, .ref 71), (1, .int v1), (2, .int v2), (3, .int x)] [] σ := by
  unfold b_m_when_25 at h
  refine Ev_iload_n 3 (dt_X12_when.at 14 rfl) rfl ?_
  refine Ev_aload_n 0 (dt_X12_when.at 15 rfl) rfl ?_
  refine Ev_get (i := 0) (v := .ref 72) (dt_X12_when.at 16 rfl) ff_X12_7 sk_71 rfl rfl ?_
  refine Ev_bipush (dt_X12_when.at 17 rfl) kb_108 ?_
  refine Ev_iaload 72 (dt_X12_when.at 18 rfl) sk_72 ib_108_143 ?_
  refine Ev_icmp_gt (tgt := 58) (dt_X12_when.at 19 rfl) (by decide) (fun c6 => ?_) (fun c6 => ?_)
  · replace h := oPos h c6
    refine Ev_sub [] (ls' := []) rfl ?_
    exact he x (Option.some.inj h).symm
  · replace h := oNeg h c6
    refine Ev_aload_n 0 (dt_X12_when.at 20 rfl) rfl ?_
    refine Ev_iload_n 1 (dt_X12_when.at 21 rfl) rfl ?_
    refine Ev_iload_n 3 (dt_X12_when.at 22 rfl) rfl ?_
    obtain ⟨q7, hq7, h⟩ := oBind h
    refine Ev_callV (st := []) (st' := [.int q7]) [.int v1, .int x] (dt_X12_when.at 23 rfl) cf_X12_238 (w_m_known σ v1 x q7 hq7) (by decide) sk_71 rfl rfl rfl (Nat.le_of_ble_eq_true rfl) rfl ?_
    refine Ev_iload_n 2 (dt_X12_when.at 24 rfl) rfl ?_
    refine Ev_ishr (dt_X12_when.at 25 rfl) ?_
    refine Ev_iconst (dt_X12_when.at 26 rfl) ki_1 ?_
    refine Ev_iand (dt_X12_when.at 27 rfl) ?_
    refine Ev_iconst (dt_X12_when.at 28 rfl) ki_1 ?_
    refine Ev_icmp_ne (tgt := 52) (dt_X12_when.at 29 rfl) (by decide) (fun c8 => ?_) (fun c8 => ?_)
    · replace h := oNeg h c8
      obtain ⟨x9, ex9⟩ : ∃ z : Int32, z = x + 1 := ⟨_, rfl⟩
      replace h := oLt h ex9
      refine Ev_iinc (v := x9) 3 (dt_X12_when.at 32 rfl) rfl (ex9.trans (congrArg (fun z => x + z) ki_1.symm)) (by decide) (ls' := [(3, .int x9), (0, .ref 71), (1, .int v1), (2, .int v2)]) rfl ?_
      refine Ev_goto (tgt := 25) (dt_X12_when.at 33 rfl) (by decide) ?_
      refine Ev_sub [1, 2, 3, 0] (ls' := [(0, .ref 71), (1, .int v1), (2, .int v2), (3, .int x9)]) rfl ?_
      exact hc x9 (Option.some.inj h).symm
    · replace h := oPos h c8
      refine Ev_iload_n 3 (dt_X12_when.at 30 rfl) rfl ?_
      have hz := hr _ (Option.some.inj h).symm
      rw [hz.1, hz.2]
      exact Ev_iret (dt_X12_when.at 31 rfl) rfl rfl
set_option maxRecDepth 100000 in
set_option maxHeartbeats 4000000 in
theorem wl_m_when_25 (σ : Sg) (v1 : Int32) (v2 : Int32) (r : Option Value) (τ : Sg) (n : Nat) (x : Int32) (z : (Int32 ⊕ (Int32 × Sg))) (h : lp (b_m_when_25 σ v1 v2) n x = some z) (he : ∀ y : Int32, z = .inl y → Ev M_X12_when 2 r τ 58 [] [] σ) (hr : ∀ q : (Int32 × Sg), z = .inr q → r = (some (.int q.1)) ∧ τ = q.2) : Ev M_X12_when 2 r τ 25 [(0, .ref 71), (1, .int v1), (2, .int v2), (3, .int x)] [] σ := by
  refine lp_ind (E := fun x : Int32 => Ev M_X12_when 2 r τ 25 [(0, .ref 71), (1, .int v1), (2, .int v2), (3, .int x)] [] σ) (fun x => ⟨fun y hb hy => ?_, fun hb => ?_⟩) n x h
  · exact wb_m_when_25 σ v1 v2 x r τ _ hb (fun y' e => by cases e; exact hy) (fun y' e => by cases e) (fun y' e => by cases e)
  · exact wb_m_when_25 σ v1 v2 x r τ _ hb (fun y' e => by cases e) (fun y' e => he y' (Sum.inr.inj e)) (fun y' e => hr y' (Sum.inr.inj e))
set_option maxRecDepth 100000 in
set_option maxHeartbeats 4000000 in
theorem w_m_when (σ : Sg) (a1 : Int32) (a2 : Int32) (q : (Int32 × Sg)) (h : s_m_when σ a1 a2 = some q) : Cal M_X12_when 2 [.ref 71, .int a1, .int a2] σ (some (.int q.1)) q.2 := by
  refine Cal.of (M := M_X12_when) (by decide +kernel) (Nat.le_of_ble_eq_true rfl) ?_
  show Ev _ _ _ _ 0 [(0, .ref 71), (1, .int a1), (2, .int a2)] [] σ
  unfold s_m_when at h
  refine Ev_aload_n 0 (dt_X12_when.at 0 rfl) rfl ?_
  refine Ev_iload_n 1 (dt_X12_when.at 1 rfl) rfl ?_
  obtain ⟨q1, hq1, h⟩ := oBind h
  refine Ev_callV (st := []) (st' := [.int q1]) [.int a1] (dt_X12_when.at 2 rfl) cf_X12_235 (w_m_isSet σ a1 q1 hq1) (by decide) sk_71 rfl rfl rfl (Nat.le_of_ble_eq_true rfl) rfl ?_
  refine Ev_if_eq (tgt := 16) (dt_X12_when.at 3 rfl) (by decide) (fun c2 => ?_) (fun c2 => ?_)
  · replace h := oPos h c2
    refine Ev_aload_n 0 (dt_X12_when.at 8 rfl) rfl ?_
    refine Ev_bipush (dt_X12_when.at 9 rfl) kb_m2 ?_
    obtain ⟨q3, hq3, h⟩ := oBind h
    refine Ev_callV (st := []) (st' := [.int q3.1]) [.int (-2)] (dt_X12_when.at 10 rfl) cf_X12_88 (w_m_bad σ (-2) q3 hq3) (by decide) sk_71 rfl rfl rfl (Nat.le_of_ble_eq_true rfl) rfl ?_
    exact Ev_iret (dt_X12_when.at 11 rfl) rfl h
  · replace h := oNeg h c2
    refine Ev_aload_n 0 (dt_X12_when.at 4 rfl) rfl ?_
    refine Ev_iload_n 2 (dt_X12_when.at 5 rfl) rfl ?_
    obtain ⟨q4, hq4, h⟩ := oBind h
    refine Ev_callV (st := []) (st' := [.int q4]) [.int a2] (dt_X12_when.at 6 rfl) cf_X12_105 (w_m_isOne σ a2 q4 hq4) (by decide) sk_71 rfl rfl rfl (Nat.le_of_ble_eq_true rfl) rfl ?_
    refine Ev_if_ne (tgt := 23) (dt_X12_when.at 7 rfl) (by decide) (fun c5 => ?_) (fun c5 => ?_)
    · replace h := oNeg h c5
      refine Ev_iconst (dt_X12_when.at 12 rfl) ki_0 ?_
      refine Ev_istore_n (dt_X12_when.at 13 rfl) (by decide) (ls' := [(3, .int 0), (0, .ref 71), (1, .int a1), (2, .int a2)]) rfl ?_
      refine Ev_sub [1, 2, 3, 0] (ls' := [(0, .ref 71), (1, .int a1), (2, .int a2), (3, .int 0)]) rfl ?_
      obtain ⟨o10, ho10, h⟩ := oBind h
      refine wl_m_when_25 σ a1 a2 _ _ 100000 0 o10 ho10 (fun y11 ey => ?_) (fun q12 eq => ?_)
      · rw [ey] at h
        replace h := oElimL h
        refine Ev_iconst (dt_X12_when.at 34 rfl) ki_m1 ?_
        exact Ev_iret (dt_X12_when.at 35 rfl) rfl h
      · rw [eq] at h
        replace h := oElimR h
        cases h; exact ⟨rfl, rfl⟩
    · replace h := oPos h c5
      refine Ev_aload_n 0 (dt_X12_when.at 8 rfl) rfl ?_
      refine Ev_bipush (dt_X12_when.at 9 rfl) kb_m2 ?_
      obtain ⟨q13, hq13, h⟩ := oBind h
      refine Ev_callV (st := []) (st' := [.int q13.1]) [.int (-2)] (dt_X12_when.at 10 rfl) cf_X12_88 (w_m_bad σ (-2) q13 hq13) (by decide) sk_71 rfl rfl rfl (Nat.le_of_ble_eq_true rfl) rfl ?_
      exact Ev_iret (dt_X12_when.at 11 rfl) rfl h
