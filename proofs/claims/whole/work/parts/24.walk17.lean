def s_Math_min (a0 : Int32) (a1 : Int32) : Option Int32 :=
  if a1 < a0 then
    some a1
  else
    some a0
set_option maxRecDepth 100000 in
set_option maxHeartbeats 4000000 in
theorem w_Math_min (σ : Sg) (a0 : Int32) (a1 : Int32) (q : Int32) (h : s_Math_min a0 a1 = some q) : Cal M_J9_min 0 [.int a0, .int a1] σ (some (.int q)) σ := by
  refine Cal.of (M := M_J9_min) (by decide +kernel) (Nat.le_of_ble_eq_true rfl) ?_
  show Ev _ _ _ _ 0 [(0, .int a0), (1, .int a1)] [] σ
  unfold s_Math_min at h
  refine Ev_iload_n 0 (dt_J9_min.at 0 rfl) rfl ?_
  refine Ev_iload_n 1 (dt_J9_min.at 1 rfl) rfl ?_
  refine Ev_icmp_gt (tgt := 9) (dt_J9_min.at 2 rfl) (by decide) (fun c1 => ?_) (fun c1 => ?_)
  · replace h := oPos h c1
    refine Ev_iload_n 1 (dt_J9_min.at 5 rfl) rfl ?_
    exact Ev_iret (dt_J9_min.at 6 rfl) rfl (oRet h)
  · replace h := oNeg h c1
    refine Ev_iload_n 0 (dt_J9_min.at 3 rfl) rfl ?_
    refine Ev_goto (tgt := 10) (dt_J9_min.at 4 rfl) (by decide) ?_
    exact Ev_iret (dt_J9_min.at 6 rfl) rfl (oRet h)
def s_Town_startOver_6 (σ : Sg) (a1 : Int32) : Option Sg :=
  lt (pI σ 6 5 a1 : Sg) fun s1 =>
  lt (pI s1 6 6 0 : Sg) fun s2 =>
  some s2
set_option maxRecDepth 100000 in
set_option maxHeartbeats 4000000 in
theorem w_Town_startOver_6 (σ : Sg) (a1 : Int32) (q : Sg) (h : s_Town_startOver_6 σ a1 = some q) : Cal M_X9_startOver 0 [.ref 6, .int a1] σ none q := by
  refine Cal.of (M := M_X9_startOver) (by decide +kernel) (Nat.le_of_ble_eq_true rfl) ?_
  show Ev _ _ _ _ 0 [(0, .ref 6), (1, .int a1)] [] σ
  unfold s_Town_startOver_6 at h
  refine Ev_aload_n 0 (dt_X9_startOver.at 0 rfl) rfl ?_
  refine Ev_iload_n 1 (dt_X9_startOver.at 1 rfl) rfl ?_
  refine Ev_putI (dt_X9_startOver.at 2 rfl) ff_X9_27 fw_9_5 sk_6 rfl ?_
  refine Ev_nmS (fun s1 es1 => ?_)
  replace h := oLt h es1
  refine Ev_aload_n 0 (dt_X9_startOver.at 3 rfl) rfl ?_
  refine Ev_iconst (dt_X9_startOver.at 4 rfl) ki_0 ?_
  refine Ev_putI (dt_X9_startOver.at 5 rfl) ff_X9_31 fw_9_6 sk_6 rfl ?_
  refine Ev_nmS (fun s2 es2 => ?_)
  replace h := oLt h es2
  exact Ev_vret (dt_X9_startOver.at 6 rfl) rfl h
def b_TownReader_skipBlanks_0  (x : Sg) : Option (Sg ⊕ Sg) :=
  if (gI x 4 2) ≤ (gI x 4 3) then
    some (.inr x)
  else
    if gR x 4 1 = 3 then
      if inB (gI x 4 3) 250 = true then
        if (gI x 3 (Int32.toNatClampNeg (gI x 4 3))) = 32 then
          lt (pI x 4 3 ((gI x 4 3) + 1) : Sg) fun s5 =>
          some (.inl s5)
        else
          some (.inr x)
      else none
    else
      none
def s_TownReader_skipBlanks (σ : Sg)  : Option Sg :=
  (lp (b_TownReader_skipBlanks_0 ) 100000 σ).bind fun o6 =>
  some o6
set_option maxRecDepth 100000 in
set_option maxHeartbeats 4000000 in
theorem wb_TownReader_skipBlanks_0  (x : Sg) (r : Option Value) (τ : Sg) (o : (Sg ⊕ Sg)) (h : (b_TownReader_skipBlanks_0  x) = some o) (hc : ∀ y : Sg, o = .inl y → Ev M_X10_skipBlanks 0 r τ 0 [(0, .ref 4)] [] y) (he : ∀ y : Sg, o = .inr y → Ev M_X10_skipBlanks 0 r τ 38 [] [] y) : Ev M_X10_skipBlanks 0 r τ 0 [(0, .ref 4)] [] x := by
  unfold b_TownReader_skipBlanks_0 at h
  refine Ev_aload_n 0 (dt_X10_skipBlanks.at 0 rfl) rfl ?_
  refine Ev_get (i := 3) (v := .int (gI x 4 3)) (dt_X10_skipBlanks.at 1 rfl) ff_X10_32 sk_4 rfl rfl ?_
  refine Ev_aload_n 0 (dt_X10_skipBlanks.at 2 rfl) rfl ?_
  refine Ev_get (i := 2) (v := .int (gI x 4 2)) (dt_X10_skipBlanks.at 3 rfl) ff_X10_28 sk_4 rfl rfl ?_
  refine Ev_icmp_ge (tgt := 38) (dt_X10_skipBlanks.at 4 rfl) (by decide) (fun c1 => ?_) (fun c1 => ?_)
  · replace h := oPos h c1
    refine Ev_sub [] (ls' := []) rfl ?_
    exact he x (Option.some.inj h).symm
  · replace h := oNeg h c1
    refine Ev_aload_n 0 (dt_X10_skipBlanks.at 5 rfl) rfl ?_
    obtain ⟨c2, h⟩ := oGuard h
    refine Ev_get (i := 1) (v := .ref 3) (dt_X10_skipBlanks.at 6 rfl) ff_X10_18 sk_4 rfl (congrArg Value.ref c2) ?_
    refine Ev_aload_n 0 (dt_X10_skipBlanks.at 7 rfl) rfl ?_
    refine Ev_get (i := 3) (v := .int (gI x 4 3)) (dt_X10_skipBlanks.at 8 rfl) ff_X10_32 sk_4 rfl rfl ?_
    obtain ⟨g3, h⟩ := oGuard h
    refine Ev_iaload 3 (dt_X10_skipBlanks.at 9 rfl) sk_3 g3 ?_
    refine Ev_bipush (dt_X10_skipBlanks.at 10 rfl) kb_32 ?_
    refine Ev_icmp_ne (tgt := 38) (dt_X10_skipBlanks.at 11 rfl) (by decide) (fun c4 => ?_) (fun c4 => ?_)
    · replace h := oNeg h c4
      refine Ev_sub [] (ls' := []) rfl ?_
      exact he x (Option.some.inj h).symm
    · replace h := oPos h c4
      refine Ev_aload_n 0 (dt_X10_skipBlanks.at 12 rfl) rfl ?_
      refine Ev_dup (dt_X10_skipBlanks.at 13 rfl) rfl ?_
      refine Ev_get (i := 3) (v := .int (gI x 4 3)) (dt_X10_skipBlanks.at 14 rfl) ff_X10_32 sk_4 rfl rfl ?_
      refine Ev_iconst (dt_X10_skipBlanks.at 15 rfl) ki_1 ?_
      refine Ev_iadd (dt_X10_skipBlanks.at 16 rfl) ?_
      refine Ev_putI (dt_X10_skipBlanks.at 17 rfl) ff_X10_32 fw_10_3 sk_4 rfl ?_
      refine Ev_nmS (fun s5 es5 => ?_)
      replace h := oLt h es5
      refine Ev_goto (tgt := 0) (dt_X10_skipBlanks.at 18 rfl) (by decide) ?_
      refine Ev_sub [0] (ls' := [(0, .ref 4)]) rfl ?_
      exact hc s5 (Option.some.inj h).symm
set_option maxRecDepth 100000 in
set_option maxHeartbeats 4000000 in
theorem wl_TownReader_skipBlanks_0  (r : Option Value) (τ : Sg) (n : Nat) (x : Sg) (z : Sg) (h : lp (b_TownReader_skipBlanks_0 ) n x = some z) (he : ∀ y : Sg, z = y → Ev M_X10_skipBlanks 0 r τ 38 [] [] y) : Ev M_X10_skipBlanks 0 r τ 0 [(0, .ref 4)] [] x := by
  refine lp_ind (E := fun x : Sg => Ev M_X10_skipBlanks 0 r τ 0 [(0, .ref 4)] [] x) (fun x => ⟨fun y hb hy => ?_, fun hb => ?_⟩) n x h
  · exact wb_TownReader_skipBlanks_0  x r τ _ hb (fun y' e => by cases e; exact hy) (fun y' e => by cases e)
  · exact wb_TownReader_skipBlanks_0  x r τ _ hb (fun y' e => by cases e) (fun y' e => he y' (Sum.inr.inj e))
set_option maxRecDepth 100000 in
set_option maxHeartbeats 4000000 in
theorem w_TownReader_skipBlanks (σ : Sg)  (q : Sg) (h : s_TownReader_skipBlanks σ  = some q) : Cal M_X10_skipBlanks 0 [.ref 4] σ none q := by
  refine Cal.of (M := M_X10_skipBlanks) (by decide +kernel) (Nat.le_of_ble_eq_true rfl) ?_
  show Ev _ _ _ _ 0 [(0, .ref 4)] [] σ
  unfold s_TownReader_skipBlanks at h
  refine Ev_sub [0] (ls' := [(0, .ref 4)]) rfl ?_
  obtain ⟨o6, ho6, h⟩ := oBind h
  refine wl_TownReader_skipBlanks_0  _ _ 100000 σ o6 ho6 (fun y ey => ?_)
  subst ey
  exact Ev_vret (dt_X10_skipBlanks.at 19 rfl) rfl h
def b_TownReader_skipWord_0  (x : Sg) : Option (Sg ⊕ Sg) :=
  if (gI x 4 2) ≤ (gI x 4 3) then
    some (.inr x)
  else
    if gR x 4 1 = 3 then
      if inB (gI x 4 3) 250 = true then
        if (gI x 3 (Int32.toNatClampNeg (gI x 4 3))) < 97 then
          some (.inr x)
        else
          if inB (gI x 4 3) 250 = true then
            if 122 < (gI x 3 (Int32.toNatClampNeg (gI x 4 3))) then
              some (.inr x)
            else
              lt (pI x 4 3 ((gI x 4 3) + 1) : Sg) fun s7 =>
              some (.inl s7)
          else none
      else none
    else
      none
def s_TownReader_skipWord (σ : Sg)  : Option Sg :=
  (lp (b_TownReader_skipWord_0 ) 100000 σ).bind fun o8 =>
  some o8
set_option maxRecDepth 100000 in
set_option maxHeartbeats 4000000 in
theorem wb_TownReader_skipWord_0  (x : Sg) (r : Option Value) (τ : Sg) (o : (Sg ⊕ Sg)) (h : (b_TownReader_skipWord_0  x) = some o) (hc : ∀ y : Sg, o = .inl y → Ev M_X10_skipWord 0 r τ 0 [(0, .ref 4)] [] y) (he : ∀ y : Sg, o = .inr y → Ev M_X10_skipWord 0 r τ 52 [] [] y) : Ev M_X10_skipWord 0 r τ 0 [(0, .ref 4)] [] x := by
  unfold b_TownReader_skipWord_0 at h
  refine Ev_aload_n 0 (dt_X10_skipWord.at 0 rfl) rfl ?_
  refine Ev_get (i := 3) (v := .int (gI x 4 3)) (dt_X10_skipWord.at 1 rfl) ff_X10_32 sk_4 rfl rfl ?_
  refine Ev_aload_n 0 (dt_X10_skipWord.at 2 rfl) rfl ?_
  refine Ev_get (i := 2) (v := .int (gI x 4 2)) (dt_X10_skipWord.at 3 rfl) ff_X10_28 sk_4 rfl rfl ?_
  refine Ev_icmp_ge (tgt := 52) (dt_X10_skipWord.at 4 rfl) (by decide) (fun c1 => ?_) (fun c1 => ?_)
  · replace h := oPos h c1
    refine Ev_sub [] (ls' := []) rfl ?_
    exact he x (Option.some.inj h).symm
  · replace h := oNeg h c1
    refine Ev_aload_n 0 (dt_X10_skipWord.at 5 rfl) rfl ?_
    obtain ⟨c2, h⟩ := oGuard h
    refine Ev_get (i := 1) (v := .ref 3) (dt_X10_skipWord.at 6 rfl) ff_X10_18 sk_4 rfl (congrArg Value.ref c2) ?_
    refine Ev_aload_n 0 (dt_X10_skipWord.at 7 rfl) rfl ?_
    refine Ev_get (i := 3) (v := .int (gI x 4 3)) (dt_X10_skipWord.at 8 rfl) ff_X10_32 sk_4 rfl rfl ?_
    obtain ⟨g3, h⟩ := oGuard h
    refine Ev_iaload 3 (dt_X10_skipWord.at 9 rfl) sk_3 g3 ?_
    refine Ev_bipush (dt_X10_skipWord.at 10 rfl) kb_97 ?_
    refine Ev_icmp_lt (tgt := 52) (dt_X10_skipWord.at 11 rfl) (by decide) (fun c4 => ?_) (fun c4 => ?_)
    · replace h := oPos h c4
      refine Ev_sub [] (ls' := []) rfl ?_
      exact he x (Option.some.inj h).symm
    · replace h := oNeg h c4
      refine Ev_aload_n 0 (dt_X10_skipWord.at 12 rfl) rfl ?_
      refine Ev_get (i := 1) (v := .ref 3) (dt_X10_skipWord.at 13 rfl) ff_X10_18 sk_4 rfl (congrArg Value.ref c2) ?_
      refine Ev_aload_n 0 (dt_X10_skipWord.at 14 rfl) rfl ?_
      refine Ev_get (i := 3) (v := .int (gI x 4 3)) (dt_X10_skipWord.at 15 rfl) ff_X10_32 sk_4 rfl rfl ?_
      obtain ⟨g5, h⟩ := oGuard h
      refine Ev_iaload 3 (dt_X10_skipWord.at 16 rfl) sk_3 g5 ?_
      refine Ev_bipush (dt_X10_skipWord.at 17 rfl) kb_122 ?_
      refine Ev_icmp_gt (tgt := 52) (dt_X10_skipWord.at 18 rfl) (by decide) (fun c6 => ?_) (fun c6 => ?_)
      · replace h := oPos h c6
        refine Ev_sub [] (ls' := []) rfl ?_
        exact he x (Option.some.inj h).symm
      · replace h := oNeg h c6
        refine Ev_aload_n 0 (dt_X10_skipWord.at 19 rfl) rfl ?_
        refine Ev_dup (dt_X10_skipWord.at 20 rfl) rfl ?_
        refine Ev_get (i := 3) (v := .int (gI x 4 3)) (dt_X10_skipWord.at 21 rfl) ff_X10_32 sk_4 rfl rfl ?_
        refine Ev_iconst (dt_X10_skipWord.at 22 rfl) ki_1 ?_
        refine Ev_iadd (dt_X10_skipWord.at 23 rfl) ?_
        refine Ev_putI (dt_X10_skipWord.at 24 rfl) ff_X10_32 fw_10_3 sk_4 rfl ?_
        refine Ev_nmS (fun s7 es7 => ?_)
        replace h := oLt h es7
        refine Ev_goto (tgt := 0) (dt_X10_skipWord.at 25 rfl) (by decide) ?_
        refine Ev_sub [0] (ls' := [(0, .ref 4)]) rfl ?_
        exact hc s7 (Option.some.inj h).symm
set_option maxRecDepth 100000 in
set_option maxHeartbeats 4000000 in
theorem wl_TownReader_skipWord_0  (r : Option Value) (τ : Sg) (n : Nat) (x : Sg) (z : Sg) (h : lp (b_TownReader_skipWord_0 ) n x = some z) (he : ∀ y : Sg, z = y → Ev M_X10_skipWord 0 r τ 52 [] [] y) : Ev M_X10_skipWord 0 r τ 0 [(0, .ref 4)] [] x := by
  refine lp_ind (E := fun x : Sg => Ev M_X10_skipWord 0 r τ 0 [(0, .ref 4)] [] x) (fun x => ⟨fun y hb hy => ?_, fun hb => ?_⟩) n x h
  · exact wb_TownReader_skipWord_0  x r τ _ hb (fun y' e => by cases e; exact hy) (fun y' e => by cases e)
  · exact wb_TownReader_skipWord_0  x r τ _ hb (fun y' e => by cases e) (fun y' e => he y' (Sum.inr.inj e))
set_option maxRecDepth 100000 in
set_option maxHeartbeats 4000000 in
theorem w_TownReader_skipWord (σ : Sg)  (q : Sg) (h : s_TownReader_skipWord σ  = some q) : Cal M_X10_skipWord 0 [.ref 4] σ none q := by
  refine Cal.of (M := M_X10_skipWord) (by decide +kernel) (Nat.le_of_ble_eq_true rfl) ?_
  show Ev _ _ _ _ 0 [(0, .ref 4)] [] σ
  unfold s_TownReader_skipWord at h
  refine Ev_sub [0] (ls' := [(0, .ref 4)]) rfl ?_
  obtain ⟨o8, ho8, h⟩ := oBind h
  refine wl_TownReader_skipWord_0  _ _ 100000 σ o8 ho8 (fun y ey => ?_)
  subst ey
  exact Ev_vret (dt_X10_skipWord.at 26 rfl) rfl h
def s_String_coder (σ : Sg)  : Option Int32 :=
  if (1 : Int32) = 0 then
    some 1
  else
    some 0
set_option maxRecDepth 100000 in
set_option maxHeartbeats 4000000 in
theorem w_String_coder (σ : Sg)  (q : Int32) (h : s_String_coder σ  = some q) : Cal M_J0_coder 0 [.ref 90] σ (some (.int q)) σ := by
  refine Cal.of (M := M_J0_coder) (by decide +kernel) (Nat.le_of_ble_eq_true rfl) ?_
  show Ev _ _ _ _ 0 [(0, .ref 90)] [] σ
  unfold s_String_coder at h
  refine Ev_getsC (dt_J0_coder.at 0 rfl) fs_J0_38 ?_
  refine Ev_if_eq (tgt := 13) (dt_J0_coder.at 1 rfl) (by decide) (fun c1 => ?_) (fun c1 => ?_)
  · replace h := oPos h c1
    refine Ev_iconst (dt_J0_coder.at 5 rfl) ki_1 ?_
    exact Ev_bret .byte (dt_J0_coder.at 6 rfl) rfl (by decide) (oRet h)
  · replace h := oNeg h c1
    refine Ev_aload_n 0 (dt_J0_coder.at 2 rfl) rfl ?_
    refine Ev_scod 0 (by decide) (dt_J0_coder.at 3 rfl) fs_J0_15 ?_
    refine Ev_goto (tgt := 14) (dt_J0_coder.at 4 rfl) (by decide) ?_
    exact Ev_bret .byte (dt_J0_coder.at 6 rfl) rfl (by decide) (oRet h)
def s_String_length (σ : Sg)  : Option Int32 :=
  (s_String_coder σ ).bind fun q1 =>
  some ((6 : Int32) >>> (q1 &&& 31))
set_option maxRecDepth 100000 in
set_option maxHeartbeats 4000000 in
theorem w_String_length (σ : Sg)  (q : Int32) (h : s_String_length σ  = some q) : Cal M_J0_length 1 [.ref 90] σ (some (.int q)) σ := by
  refine Cal.of (M := M_J0_length) (by decide +kernel) (Nat.le_of_ble_eq_true rfl) ?_
  show Ev _ _ _ _ 0 [(0, .ref 90)] [] σ
  unfold s_String_length at h
  refine Ev_aload_n 0 (dt_J0_length.at 0 rfl) rfl ?_
  refine Ev_sval 0 (by decide) (dt_J0_length.at 1 rfl) fs_J0_9 ?_
  refine Ev_slen 0 (by decide) (dt_J0_length.at 2 rfl) kn_6 ?_
  refine Ev_aload_n 0 (dt_J0_length.at 3 rfl) rfl ?_
  obtain ⟨q1, hq1, h⟩ := oBind h
  refine Ev_callVS 0 (by decide) (st := [.int 6]) (st' := [.int q1, .int 6]) [] (dt_J0_length.at 4 rfl) cf_J0_335 (w_String_coder σ  q1 hq1) (by decide) rfl rfl rfl (Nat.le_of_ble_eq_true rfl) rfl ?_
  refine Ev_ishr (dt_J0_length.at 5 rfl) ?_
  exact Ev_iret (dt_J0_length.at 6 rfl) rfl (oRet h)
def s_String_isLatin1 (σ : Sg)  : Option Int32 :=
  if (1 : Int32) = 0 then
    some 0
  else
    if (0 : Int32) = 0 then
      some 1
    else
      some 0
set_option maxRecDepth 100000 in
set_option maxHeartbeats 4000000 in
theorem w_String_isLatin1 (σ : Sg)  (q : Int32) (h : s_String_isLatin1 σ  = some q) : Cal M_J0_isLatin1 0 [.ref 90] σ (some (.int q)) σ := by
  refine Cal.of (M := M_J0_isLatin1) (by decide +kernel) (Nat.le_of_ble_eq_true rfl) ?_
  show Ev _ _ _ _ 0 [(0, .ref 90)] [] σ
  unfold s_String_isLatin1 at h
  refine Ev_getsC (dt_J0_isLatin1.at 0 rfl) fs_J0_38 ?_
  refine Ev_if_eq (tgt := 17) (dt_J0_isLatin1.at 1 rfl) (by decide) (fun c1 => ?_) (fun c1 => ?_)
  · replace h := oPos h c1
    refine Ev_iconst (dt_J0_isLatin1.at 7 rfl) ki_0 ?_
    exact Ev_zret (dt_J0_isLatin1.at 8 rfl) rfl (by decide) (oRet h)
  · replace h := oNeg h c1
    refine Ev_aload_n 0 (dt_J0_isLatin1.at 2 rfl) rfl ?_
    refine Ev_scod 0 (by decide) (dt_J0_isLatin1.at 3 rfl) fs_J0_15 ?_
    refine Ev_if_ne (tgt := 17) (dt_J0_isLatin1.at 4 rfl) (by decide) (fun c2 => ?_) (fun c2 => ?_)
    · replace h := oNeg h c2
      refine Ev_iconst (dt_J0_isLatin1.at 7 rfl) ki_0 ?_
      exact Ev_zret (dt_J0_isLatin1.at 8 rfl) rfl (by decide) (oRet h)
    · replace h := oPos h c2
      refine Ev_iconst (dt_J0_isLatin1.at 5 rfl) ki_1 ?_
      refine Ev_goto (tgt := 18) (dt_J0_isLatin1.at 6 rfl) (by decide) ?_
      exact Ev_zret (dt_J0_isLatin1.at 8 rfl) rfl (by decide) (oRet h)
def s_StringLatin1_charAt (σ : Sg) (a1 : Int32) : Option Int32 :=
  if 0 ≤ a1 ∧ a1 < 6 then
    if inB a1 6 = true then
      if (((Int32.toUInt32 (((((bytW.getD 0 []).getD (Int32.toNatClampNeg a1) 0) &&& 255).toUInt32 % 65536).toInt32)).toUInt16).toUInt32).toInt32 = (((((bytW.getD 0 []).getD (Int32.toNatClampNeg a1) 0) &&& 255).toUInt32 % 65536).toInt32) then some (((((bytW.getD 0 []).getD (Int32.toNatClampNeg a1) 0) &&& 255).toUInt32 % 65536).toInt32) else none
    else none
  else none
set_option maxRecDepth 100000 in
set_option maxHeartbeats 4000000 in
theorem w_StringLatin1_charAt (σ : Sg) (a1 : Int32) (q : Int32) (h : s_StringLatin1_charAt σ a1 = some q) : Cal M_J1_charAt 2 [.ref 93, .int a1] σ (some (.int q)) σ := by
  refine Cal.of (M := M_J1_charAt) (by decide +kernel) (Nat.le_of_ble_eq_true rfl) ?_
  show Ev _ _ _ _ 0 [(0, .ref 93), (1, .int a1)] [] σ
  unfold s_StringLatin1_charAt at h
  refine Ev_iload_n 1 (dt_J1_charAt.at 0 rfl) rfl ?_
  refine Ev_aload_n 0 (dt_J1_charAt.at 1 rfl) rfl ?_
  refine Ev_slen 0 (by decide) (dt_J1_charAt.at 2 rfl) kn_6 ?_
  obtain ⟨g1, h⟩ := oGuard h
  refine Ev_callS (st := []) (st' := []) [.int a1, .int 6] (dt_J1_charAt.at 3 rfl) cf_J1_9 (w_checkIndex σ a1 6 g1) (by decide) rfl rfl (Nat.le_of_ble_eq_true rfl) rfl ?_
  refine Ev_aload_n 0 (dt_J1_charAt.at 4 rfl) rfl ?_
  refine Ev_iload_n 1 (dt_J1_charAt.at 5 rfl) rfl ?_
  obtain ⟨g2, h⟩ := oGuard h
  refine Ev_sbyte 0 (by decide) (N := 6) rfl (dt_J1_charAt.at 6 rfl) g2 ?_
  refine Ev_sipush (dt_J1_charAt.at 7 rfl) ks_255 ?_
  refine Ev_iand (dt_J1_charAt.at 8 rfl) ?_
  refine Ev_i2c (dt_J1_charAt.at 9 rfl) ?_
  obtain ⟨gz, h⟩ := oGuard h
  exact Ev_bret .char (dt_J1_charAt.at 10 rfl) rfl (congrArg Value.int gz) (oRet h)
def s_String_charAt (σ : Sg) (a1 : Int32) : Option Int32 :=
  (s_String_isLatin1 σ ).bind fun q1 =>
  if q1 = 0 then
    none
  else
    (s_StringLatin1_charAt σ a1).bind fun q3 =>
    if (((Int32.toUInt32 q3).toUInt16).toUInt32).toInt32 = q3 then some q3 else none
set_option maxRecDepth 100000 in
set_option maxHeartbeats 4000000 in
theorem w_String_charAt (σ : Sg) (a1 : Int32) (q : Int32) (h : s_String_charAt σ a1 = some q) : Cal M_J0_charAt 3 [.ref 90, .int a1] σ (some (.int q)) σ := by
  refine Cal.of (M := M_J0_charAt) (by decide +kernel) (Nat.le_of_ble_eq_true rfl) ?_
  show Ev _ _ _ _ 0 [(0, .ref 90), (1, .int a1)] [] σ
  unfold s_String_charAt at h
  refine Ev_aload_n 0 (dt_J0_charAt.at 0 rfl) rfl ?_
  obtain ⟨q1, hq1, h⟩ := oBind h
  refine Ev_callVS 0 (by decide) (st := []) (st' := [.int q1]) [] (dt_J0_charAt.at 1 rfl) cf_J0_492 (w_String_isLatin1 σ  q1 hq1) (by decide) rfl rfl rfl (Nat.le_of_ble_eq_true rfl) rfl ?_
  refine Ev_if_eq (tgt := 16) (dt_J0_charAt.at 2 rfl) (by decide) (fun c2 => ?_) (fun c2 => ?_)
  · replace h := oPos h c2
    refine Ev_aload_n 0 (dt_J0_charAt.at 8 rfl) rfl ?_
    refine Ev_sval 0 (by decide) (dt_J0_charAt.at 9 rfl) fs_J0_9 ?_
    refine Ev_iload_n 1 (dt_J0_charAt.at 10 rfl) rfl ?_
    cases h
  · replace h := oNeg h c2
    refine Ev_aload_n 0 (dt_J0_charAt.at 3 rfl) rfl ?_
    refine Ev_sval 0 (by decide) (dt_J0_charAt.at 4 rfl) fs_J0_9 ?_
    refine Ev_iload_n 1 (dt_J0_charAt.at 5 rfl) rfl ?_
    obtain ⟨q3, hq3, h⟩ := oBind h
    refine Ev_callS (st := []) (st' := [.int q3]) [.ref 93, .int a1] (dt_J0_charAt.at 6 rfl) cf_J0_495 (w_StringLatin1_charAt σ a1 q3 hq3) (by decide) rfl rfl (Nat.le_of_ble_eq_true rfl) rfl ?_
    obtain ⟨gz, h⟩ := oGuard h
    exact Ev_bret .char (dt_J0_charAt.at 7 rfl) rfl (congrArg Value.int gz) (oRet h)
def b_TownReader_isWord_17 (σ : Sg) (v1 : Int32) (x : Int32) : Option (Int32 ⊕ (Int32 ⊕ Int32)) :=
  (s_String_length σ ).bind fun q3 =>
  if q3 ≤ x then
    some (.inr (.inl x))
  else
    if gR σ 4 1 = 3 then
      if inB (v1 + x) 250 = true then
        (s_String_charAt σ x).bind fun q7 =>
        if (gI σ 3 (Int32.toNatClampNeg (v1 + x))) = q7 then
          lt (x + 1 : Int32) fun x9 =>
          some (.inl x9)
        else
          some (.inr (.inr 0))
      else none
    else
      none
def s_TownReader_isWord (σ : Sg) (a1 : Int32) : Option Int32 :=
  (s_String_length σ ).bind fun q1 =>
  if ((gI σ 4 3) - a1) = q1 then
    (lp (b_TownReader_isWord_17 σ a1) 100000 0).bind fun o10 =>
    oElim o10 (fun y11 =>
      some 1) (fun q12 => some q12)
  else
    some 0
set_option maxRecDepth 100000 in
set_option maxHeartbeats 4000000 in
theorem wb_TownReader_isWord_17 (σ : Sg) (v1 : Int32) (x : Int32) (r : Option Value) (τ : Sg) (o : (Int32 ⊕ (Int32 ⊕ Int32))) (h : (b_TownReader_isWord_17 σ v1 x) = some o) (hc : ∀ y : Int32, o = .inl y → Ev M_X10_isWord 4 r τ 17 [(0, .ref 4), (1, .int v1), (2, .ref 90), (3, .int y)] [] σ) (he : ∀ y : Int32, o = .inr (.inl y) → Ev M_X10_isWord 4 r τ 49 [] [] σ) (hr : ∀ q : Int32, o = .inr (.inr q) → r = (some (.int q)) ∧ τ = σ) : Ev M_X10_isWord 4 r τ 17 [(0, .ref 4), (1, .int v1), (2, .ref 90), (3, .int x)] [] σ := by
  unfold b_TownReader_isWord_17 at h
  refine Ev_iload_n 3 (dt_X10_isWord.at 11 rfl) rfl ?_
  refine Ev_aload_n 2 (dt_X10_isWord.at 12 rfl) rfl ?_
  obtain ⟨q3, hq3, h⟩ := oBind h
  refine Ev_callVS 0 (by decide) (st := [.int x]) (st' := [.int q3, .int x]) [] (dt_X10_isWord.at 13 rfl) cf_X10_99 (w_String_length σ  q3 hq3) (by decide) rfl rfl rfl (Nat.le_of_ble_eq_true rfl) rfl ?_
  refine Ev_icmp_ge (tgt := 49) (dt_X10_isWord.at 14 rfl) (by decide) (fun c4 => ?_) (fun c4 => ?_)
  · replace h := oPos h c4
    refine Ev_sub [] (ls' := []) rfl ?_
    exact he x (Option.some.inj h).symm
  · replace h := oNeg h c4
    refine Ev_aload_n 0 (dt_X10_isWord.at 15 rfl) rfl ?_
    obtain ⟨c5, h⟩ := oGuard h
    refine Ev_get (i := 1) (v := .ref 3) (dt_X10_isWord.at 16 rfl) ff_X10_18 sk_4 rfl (congrArg Value.ref c5) ?_
    refine Ev_iload_n 1 (dt_X10_isWord.at 17 rfl) rfl ?_
    refine Ev_iload_n 3 (dt_X10_isWord.at 18 rfl) rfl ?_
    refine Ev_iadd (dt_X10_isWord.at 19 rfl) ?_
    obtain ⟨g6, h⟩ := oGuard h
    refine Ev_iaload 3 (dt_X10_isWord.at 20 rfl) sk_3 g6 ?_
    refine Ev_aload_n 2 (dt_X10_isWord.at 21 rfl) rfl ?_
    refine Ev_iload_n 3 (dt_X10_isWord.at 22 rfl) rfl ?_
    obtain ⟨q7, hq7, h⟩ := oBind h
    refine Ev_callVS 0 (by decide) (st := [.int (gI σ 3 (Int32.toNatClampNeg (v1 + x)))]) (st' := [.int q7, .int (gI σ 3 (Int32.toNatClampNeg (v1 + x)))]) [.int x] (dt_X10_isWord.at 23 rfl) cf_X10_103 (w_String_charAt σ x q7 hq7) (by decide) rfl rfl rfl (Nat.le_of_ble_eq_true rfl) rfl ?_
    refine Ev_icmp_eq (tgt := 43) (dt_X10_isWord.at 24 rfl) (by decide) (fun c8 => ?_) (fun c8 => ?_)
    · replace h := oPos h c8
      obtain ⟨x9, ex9⟩ : ∃ z : Int32, z = x + 1 := ⟨_, rfl⟩
      replace h := oLt h ex9
      refine Ev_iinc (v := x9) 3 (dt_X10_isWord.at 27 rfl) rfl (ex9.trans (congrArg (fun z => x + z) ki_1.symm)) (by decide) (ls' := [(3, .int x9), (0, .ref 4), (1, .int v1), (2, .ref 90)]) rfl ?_
      refine Ev_goto (tgt := 17) (dt_X10_isWord.at 28 rfl) (by decide) ?_
      refine Ev_sub [1, 2, 3, 0] (ls' := [(0, .ref 4), (1, .int v1), (2, .ref 90), (3, .int x9)]) rfl ?_
      exact hc x9 (Option.some.inj h).symm
    · replace h := oNeg h c8
      refine Ev_iconst (dt_X10_isWord.at 25 rfl) ki_0 ?_
      have hz := hr _ (Option.some.inj h).symm
      rw [hz.1, hz.2]
      exact Ev_zret (dt_X10_isWord.at 26 rfl) rfl (by decide) rfl
set_option maxRecDepth 100000 in
set_option maxHeartbeats 4000000 in
theorem wl_TownReader_isWord_17 (σ : Sg) (v1 : Int32) (r : Option Value) (τ : Sg) (n : Nat) (x : Int32) (z : (Int32 ⊕ Int32)) (h : lp (b_TownReader_isWord_17 σ v1) n x = some z) (he : ∀ y : Int32, z = .inl y → Ev M_X10_isWord 4 r τ 49 [] [] σ) (hr : ∀ q : Int32, z = .inr q → r = (some (.int q)) ∧ τ = σ) : Ev M_X10_isWord 4 r τ 17 [(0, .ref 4), (1, .int v1), (2, .ref 90), (3, .int x)] [] σ := by
  refine lp_ind (E := fun x : Int32 => Ev M_X10_isWord 4 r τ 17 [(0, .ref 4), (1, .int v1), (2, .ref 90), (3, .int x)] [] σ) (fun x => ⟨fun y hb hy => ?_, fun hb => ?_⟩) n x h
  · exact wb_TownReader_isWord_17 σ v1 x r τ _ hb (fun y' e => by cases e; exact hy) (fun y' e => by cases e) (fun y' e => by cases e)
  · exact wb_TownReader_isWord_17 σ v1 x r τ _ hb (fun y' e => by cases e) (fun y' e => he y' (Sum.inr.inj e)) (fun y' e => hr y' (Sum.inr.inj e))
set_option maxRecDepth 100000 in
set_option maxHeartbeats 4000000 in
theorem w_TownReader_isWord (σ : Sg) (a1 : Int32) (q : Int32) (h : s_TownReader_isWord σ a1 = some q) : Cal M_X10_isWord 4 [.ref 4, .int a1, .ref 90] σ (some (.int q)) σ := by
  refine Cal.of (M := M_X10_isWord) (by decide +kernel) (Nat.le_of_ble_eq_true rfl) ?_
  show Ev _ _ _ _ 0 [(0, .ref 4), (1, .int a1), (2, .ref 90)] [] σ
  unfold s_TownReader_isWord at h
  refine Ev_aload_n 0 (dt_X10_isWord.at 0 rfl) rfl ?_
  refine Ev_get (i := 3) (v := .int (gI σ 4 3)) (dt_X10_isWord.at 1 rfl) ff_X10_32 sk_4 rfl rfl ?_
  refine Ev_iload_n 1 (dt_X10_isWord.at 2 rfl) rfl ?_
  refine Ev_isub (dt_X10_isWord.at 3 rfl) ?_
  refine Ev_aload_n 2 (dt_X10_isWord.at 4 rfl) rfl ?_
  obtain ⟨q1, hq1, h⟩ := oBind h
  refine Ev_callVS 0 (by decide) (st := [.int ((gI σ 4 3) - a1)]) (st' := [.int q1, .int ((gI σ 4 3) - a1)]) [] (dt_X10_isWord.at 5 rfl) cf_X10_99 (w_String_length σ  q1 hq1) (by decide) rfl rfl rfl (Nat.le_of_ble_eq_true rfl) rfl ?_
  refine Ev_icmp_eq (tgt := 15) (dt_X10_isWord.at 6 rfl) (by decide) (fun c2 => ?_) (fun c2 => ?_)
  · replace h := oPos h c2
    refine Ev_iconst (dt_X10_isWord.at 9 rfl) ki_0 ?_
    refine Ev_istore_n (dt_X10_isWord.at 10 rfl) (by decide) (ls' := [(3, .int 0), (0, .ref 4), (1, .int a1), (2, .ref 90)]) rfl ?_
    refine Ev_sub [1, 2, 3, 0] (ls' := [(0, .ref 4), (1, .int a1), (2, .ref 90), (3, .int 0)]) rfl ?_
    obtain ⟨o10, ho10, h⟩ := oBind h
    refine wl_TownReader_isWord_17 σ a1 _ _ 100000 0 o10 ho10 (fun y11 ey => ?_) (fun q12 eq => ?_)
    · rw [ey] at h
      replace h := oElimL h
      refine Ev_iconst (dt_X10_isWord.at 29 rfl) ki_1 ?_
      exact Ev_zret (dt_X10_isWord.at 30 rfl) rfl (by decide) (oRet h)
    · rw [eq] at h
      replace h := oElimR h
      cases h; exact ⟨rfl, rfl⟩
  · replace h := oNeg h c2
    refine Ev_iconst (dt_X10_isWord.at 7 rfl) ki_0 ?_
    exact Ev_zret (dt_X10_isWord.at 8 rfl) rfl (by decide) (oRet h)
def s_String_coder_91 (σ : Sg)  : Option Int32 :=
  if (1 : Int32) = 0 then
    some 1
  else
    some 0
set_option maxRecDepth 100000 in
set_option maxHeartbeats 4000000 in
theorem w_String_coder_91 (σ : Sg)  (q : Int32) (h : s_String_coder_91 σ  = some q) : Cal M_J0_coder 0 [.ref 91] σ (some (.int q)) σ := by
  refine Cal.of (M := M_J0_coder) (by decide +kernel) (Nat.le_of_ble_eq_true rfl) ?_
  show Ev _ _ _ _ 0 [(0, .ref 91)] [] σ
  unfold s_String_coder_91 at h
  refine Ev_getsC (dt_J0_coder.at 0 rfl) fs_J0_38 ?_
  refine Ev_if_eq (tgt := 13) (dt_J0_coder.at 1 rfl) (by decide) (fun c1 => ?_) (fun c1 => ?_)
  · replace h := oPos h c1
    refine Ev_iconst (dt_J0_coder.at 5 rfl) ki_1 ?_
    exact Ev_bret .byte (dt_J0_coder.at 6 rfl) rfl (by decide) (oRet h)
  · replace h := oNeg h c1
    refine Ev_aload_n 0 (dt_J0_coder.at 2 rfl) rfl ?_
    refine Ev_scod 1 (by decide) (dt_J0_coder.at 3 rfl) fs_J0_15 ?_
    refine Ev_goto (tgt := 14) (dt_J0_coder.at 4 rfl) (by decide) ?_
    exact Ev_bret .byte (dt_J0_coder.at 6 rfl) rfl (by decide) (oRet h)
def s_String_length_91 (σ : Sg)  : Option Int32 :=
  (s_String_coder_91 σ ).bind fun q1 =>
  some ((6 : Int32) >>> (q1 &&& 31))
set_option maxRecDepth 100000 in
set_option maxHeartbeats 4000000 in
theorem w_String_length_91 (σ : Sg)  (q : Int32) (h : s_String_length_91 σ  = some q) : Cal M_J0_length 1 [.ref 91] σ (some (.int q)) σ := by
  refine Cal.of (M := M_J0_length) (by decide +kernel) (Nat.le_of_ble_eq_true rfl) ?_
  show Ev _ _ _ _ 0 [(0, .ref 91)] [] σ
  unfold s_String_length_91 at h
  refine Ev_aload_n 0 (dt_J0_length.at 0 rfl) rfl ?_
  refine Ev_sval 1 (by decide) (dt_J0_length.at 1 rfl) fs_J0_9 ?_
  refine Ev_slen 1 (by decide) (dt_J0_length.at 2 rfl) kn_6 ?_
  refine Ev_aload_n 0 (dt_J0_length.at 3 rfl) rfl ?_
  obtain ⟨q1, hq1, h⟩ := oBind h
  refine Ev_callVS 1 (by decide) (st := [.int 6]) (st' := [.int q1, .int 6]) [] (dt_J0_length.at 4 rfl) cf_J0_335 (w_String_coder_91 σ  q1 hq1) (by decide) rfl rfl rfl (Nat.le_of_ble_eq_true rfl) rfl ?_
  refine Ev_ishr (dt_J0_length.at 5 rfl) ?_
  exact Ev_iret (dt_J0_length.at 6 rfl) rfl (oRet h)
def s_String_isLatin1_91 (σ : Sg)  : Option Int32 :=
  if (1 : Int32) = 0 then
    some 0
  else
    if (0 : Int32) = 0 then
      some 1
    else
      some 0
set_option maxRecDepth 100000 in
set_option maxHeartbeats 4000000 in
theorem w_String_isLatin1_91 (σ : Sg)  (q : Int32) (h : s_String_isLatin1_91 σ  = some q) : Cal M_J0_isLatin1 0 [.ref 91] σ (some (.int q)) σ := by
  refine Cal.of (M := M_J0_isLatin1) (by decide +kernel) (Nat.le_of_ble_eq_true rfl) ?_
  show Ev _ _ _ _ 0 [(0, .ref 91)] [] σ
  unfold s_String_isLatin1_91 at h
  refine Ev_getsC (dt_J0_isLatin1.at 0 rfl) fs_J0_38 ?_
  refine Ev_if_eq (tgt := 17) (dt_J0_isLatin1.at 1 rfl) (by decide) (fun c1 => ?_) (fun c1 => ?_)
  · replace h := oPos h c1
    refine Ev_iconst (dt_J0_isLatin1.at 7 rfl) ki_0 ?_
    exact Ev_zret (dt_J0_isLatin1.at 8 rfl) rfl (by decide) (oRet h)
  · replace h := oNeg h c1
    refine Ev_aload_n 0 (dt_J0_isLatin1.at 2 rfl) rfl ?_
    refine Ev_scod 1 (by decide) (dt_J0_isLatin1.at 3 rfl) fs_J0_15 ?_
    refine Ev_if_ne (tgt := 17) (dt_J0_isLatin1.at 4 rfl) (by decide) (fun c2 => ?_) (fun c2 => ?_)
    · replace h := oNeg h c2
      refine Ev_iconst (dt_J0_isLatin1.at 7 rfl) ki_0 ?_
      exact Ev_zret (dt_J0_isLatin1.at 8 rfl) rfl (by decide) (oRet h)
    · replace h := oPos h c2
      refine Ev_iconst (dt_J0_isLatin1.at 5 rfl) ki_1 ?_
      refine Ev_goto (tgt := 18) (dt_J0_isLatin1.at 6 rfl) (by decide) ?_
      exact Ev_zret (dt_J0_isLatin1.at 8 rfl) rfl (by decide) (oRet h)
def s_StringLatin1_charAt_94 (σ : Sg) (a1 : Int32) : Option Int32 :=
  if 0 ≤ a1 ∧ a1 < 6 then
    if inB a1 6 = true then
      if (((Int32.toUInt32 (((((bytW.getD 1 []).getD (Int32.toNatClampNeg a1) 0) &&& 255).toUInt32 % 65536).toInt32)).toUInt16).toUInt32).toInt32 = (((((bytW.getD 1 []).getD (Int32.toNatClampNeg a1) 0) &&& 255).toUInt32 % 65536).toInt32) then some (((((bytW.getD 1 []).getD (Int32.toNatClampNeg a1) 0) &&& 255).toUInt32 % 65536).toInt32) else none
    else none
  else none
set_option maxRecDepth 100000 in
set_option maxHeartbeats 4000000 in
theorem w_StringLatin1_charAt_94 (σ : Sg) (a1 : Int32) (q : Int32) (h : s_StringLatin1_charAt_94 σ a1 = some q) : Cal M_J1_charAt 2 [.ref 94, .int a1] σ (some (.int q)) σ := by
  refine Cal.of (M := M_J1_charAt) (by decide +kernel) (Nat.le_of_ble_eq_true rfl) ?_
  show Ev _ _ _ _ 0 [(0, .ref 94), (1, .int a1)] [] σ
  unfold s_StringLatin1_charAt_94 at h
  refine Ev_iload_n 1 (dt_J1_charAt.at 0 rfl) rfl ?_
  refine Ev_aload_n 0 (dt_J1_charAt.at 1 rfl) rfl ?_
  refine Ev_slen 1 (by decide) (dt_J1_charAt.at 2 rfl) kn_6 ?_
  obtain ⟨g1, h⟩ := oGuard h
  refine Ev_callS (st := []) (st' := []) [.int a1, .int 6] (dt_J1_charAt.at 3 rfl) cf_J1_9 (w_checkIndex σ a1 6 g1) (by decide) rfl rfl (Nat.le_of_ble_eq_true rfl) rfl ?_
  refine Ev_aload_n 0 (dt_J1_charAt.at 4 rfl) rfl ?_
  refine Ev_iload_n 1 (dt_J1_charAt.at 5 rfl) rfl ?_
  obtain ⟨g2, h⟩ := oGuard h
  refine Ev_sbyte 1 (by decide) (N := 6) rfl (dt_J1_charAt.at 6 rfl) g2 ?_
  refine Ev_sipush (dt_J1_charAt.at 7 rfl) ks_255 ?_
  refine Ev_iand (dt_J1_charAt.at 8 rfl) ?_
  refine Ev_i2c (dt_J1_charAt.at 9 rfl) ?_
  obtain ⟨gz, h⟩ := oGuard h
  exact Ev_bret .char (dt_J1_charAt.at 10 rfl) rfl (congrArg Value.int gz) (oRet h)
