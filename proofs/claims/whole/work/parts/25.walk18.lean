def s_String_charAt_91 (σ : Sg) (a1 : Int32) : Option Int32 :=
  (s_String_isLatin1_91 σ ).bind fun q1 =>
  if q1 = 0 then
    none
  else
    (s_StringLatin1_charAt_94 σ a1).bind fun q3 =>
    if (((Int32.toUInt32 q3).toUInt16).toUInt32).toInt32 = q3 then some q3 else none
set_option maxRecDepth 100000 in
set_option maxHeartbeats 4000000 in
theorem w_String_charAt_91 (σ : Sg) (a1 : Int32) (q : Int32) (h : s_String_charAt_91 σ a1 = some q) : Cal M_J0_charAt 3 [.ref 91, .int a1] σ (some (.int q)) σ := by
  refine Cal.of (M := M_J0_charAt) (by decide +kernel) (Nat.le_of_ble_eq_true rfl) ?_
  show Ev _ _ _ _ 0 [(0, .ref 91), (1, .int a1)] [] σ
  unfold s_String_charAt_91 at h
  refine Ev_aload_n 0 (dt_J0_charAt.at 0 rfl) rfl ?_
  obtain ⟨q1, hq1, h⟩ := oBind h
  refine Ev_callVS 1 (by decide) (st := []) (st' := [.int q1]) [] (dt_J0_charAt.at 1 rfl) cf_J0_492 (w_String_isLatin1_91 σ  q1 hq1) (by decide) rfl rfl rfl (Nat.le_of_ble_eq_true rfl) rfl ?_
  refine Ev_if_eq (tgt := 16) (dt_J0_charAt.at 2 rfl) (by decide) (fun c2 => ?_) (fun c2 => ?_)
  · replace h := oPos h c2
    refine Ev_aload_n 0 (dt_J0_charAt.at 8 rfl) rfl ?_
    refine Ev_sval 1 (by decide) (dt_J0_charAt.at 9 rfl) fs_J0_9 ?_
    refine Ev_iload_n 1 (dt_J0_charAt.at 10 rfl) rfl ?_
    cases h
  · replace h := oNeg h c2
    refine Ev_aload_n 0 (dt_J0_charAt.at 3 rfl) rfl ?_
    refine Ev_sval 1 (by decide) (dt_J0_charAt.at 4 rfl) fs_J0_9 ?_
    refine Ev_iload_n 1 (dt_J0_charAt.at 5 rfl) rfl ?_
    obtain ⟨q3, hq3, h⟩ := oBind h
    refine Ev_callS (st := []) (st' := [.int q3]) [.ref 94, .int a1] (dt_J0_charAt.at 6 rfl) cf_J0_495 (w_StringLatin1_charAt_94 σ a1 q3 hq3) (by decide) rfl rfl (Nat.le_of_ble_eq_true rfl) rfl ?_
    obtain ⟨gz, h⟩ := oGuard h
    exact Ev_bret .char (dt_J0_charAt.at 7 rfl) rfl (congrArg Value.int gz) (oRet h)
def b_TownReader_isWord_4_91_17 (σ : Sg) (v1 : Int32) (x : Int32) : Option (Int32 ⊕ (Int32 ⊕ Int32)) :=
  (s_String_length_91 σ ).bind fun q3 =>
  if q3 ≤ x then
    some (.inr (.inl x))
  else
    if gR σ 4 1 = 3 then
      if inB (v1 + x) 250 = true then
        (s_String_charAt_91 σ x).bind fun q7 =>
        if (gI σ 3 (Int32.toNatClampNeg (v1 + x))) = q7 then
          lt (x + 1 : Int32) fun x9 =>
          some (.inl x9)
        else
          some (.inr (.inr 0))
      else none
    else
      none
def s_TownReader_isWord_4_91 (σ : Sg) (a1 : Int32) : Option Int32 :=
  (s_String_length_91 σ ).bind fun q1 =>
  if ((gI σ 4 3) - a1) = q1 then
    (lp (b_TownReader_isWord_4_91_17 σ a1) 100000 0).bind fun o10 =>
    oElim o10 (fun y11 =>
      some 1) (fun q12 => some q12)
  else
    some 0
set_option maxRecDepth 100000 in
set_option maxHeartbeats 4000000 in
theorem wb_TownReader_isWord_4_91_17 (σ : Sg) (v1 : Int32) (x : Int32) (r : Option Value) (τ : Sg) (o : (Int32 ⊕ (Int32 ⊕ Int32))) (h : (b_TownReader_isWord_4_91_17 σ v1 x) = some o) (hc : ∀ y : Int32, o = .inl y → Ev M_X10_isWord 4 r τ 17 [(0, .ref 4), (1, .int v1), (2, .ref 91), (3, .int y)] [] σ) (he : ∀ y : Int32, o = .inr (.inl y) → Ev M_X10_isWord 4 r τ 49 [] [] σ) (hr : ∀ q : Int32, o = .inr (.inr q) → r = (some (.int q)) ∧ τ = σ) : Ev M_X10_isWord 4 r τ 17 [(0, .ref 4), (1, .int v1), (2, .ref 91), (3, .int x)] [] σ := by
  unfold b_TownReader_isWord_4_91_17 at h
  refine Ev_iload_n 3 (dt_X10_isWord.at 11 rfl) rfl ?_
  refine Ev_aload_n 2 (dt_X10_isWord.at 12 rfl) rfl ?_
  obtain ⟨q3, hq3, h⟩ := oBind h
  refine Ev_callVS 1 (by decide) (st := [.int x]) (st' := [.int q3, .int x]) [] (dt_X10_isWord.at 13 rfl) cf_X10_99 (w_String_length_91 σ  q3 hq3) (by decide) rfl rfl rfl (Nat.le_of_ble_eq_true rfl) rfl ?_
  refine Ev_icmp_ge (tgt := 49) (dt_X10_isWord.at 14 rfl) (by decide) (fun c4 => ?_) (fun c4 => ?_)
  · replace h := oPos h c4
    refine Ev_sub [] (ls' := []) rfl ?_
    exact he x (Option.some.inj h).symm
  · replace h := oNeg h c4
    refine Ev_aload_n 0 (dt_X10_isWord.at 15 rfl) rfl ?_
    obtain ⟨c5, h⟩ := oGuard h
    refine Ev_get (i := 1) (v := .ref 3) (dt_X10_isWord.at 16 rfl) ff_X10_18 sk_4 rfl (congrArg Value.ref c5) ?_
    refine Ev_iload_n 1 (dt_X10_isWord.at 17 rfl) rfl ?_
    refine Ev_iload_n 3 (dt_X10_isWord.at 18 rfl) rfl ?_
    refine Ev_iadd (dt_X10_isWord.at 19 rfl) ?_
    obtain ⟨g6, h⟩ := oGuard h
    refine Ev_iaload 3 (dt_X10_isWord.at 20 rfl) sk_3 g6 ?_
    refine Ev_aload_n 2 (dt_X10_isWord.at 21 rfl) rfl ?_
    refine Ev_iload_n 3 (dt_X10_isWord.at 22 rfl) rfl ?_
    obtain ⟨q7, hq7, h⟩ := oBind h
    refine Ev_callVS 1 (by decide) (st := [.int (gI σ 3 (Int32.toNatClampNeg (v1 + x)))]) (st' := [.int q7, .int (gI σ 3 (Int32.toNatClampNeg (v1 + x)))]) [.int x] (dt_X10_isWord.at 23 rfl) cf_X10_103 (w_String_charAt_91 σ x q7 hq7) (by decide) rfl rfl rfl (Nat.le_of_ble_eq_true rfl) rfl ?_
    refine Ev_icmp_eq (tgt := 43) (dt_X10_isWord.at 24 rfl) (by decide) (fun c8 => ?_) (fun c8 => ?_)
    · replace h := oPos h c8
      obtain ⟨x9, ex9⟩ : ∃ z : Int32, z = x + 1 := ⟨_, rfl⟩
      replace h := oLt h ex9
      refine Ev_iinc (v := x9) 3 (dt_X10_isWord.at 27 rfl) rfl (ex9.trans (congrArg (fun z => x + z) ki_1.symm)) (by decide) (ls' := [(3, .int x9), (0, .ref 4), (1, .int v1), (2, .ref 91)]) rfl ?_
      refine Ev_goto (tgt := 17) (dt_X10_isWord.at 28 rfl) (by decide) ?_
      refine Ev_sub [1, 2, 3, 0] (ls' := [(0, .ref 4), (1, .int v1), (2, .ref 91), (3, .int x9)]) rfl ?_
      exact hc x9 (Option.some.inj h).symm
    · replace h := oNeg h c8
      refine Ev_iconst (dt_X10_isWord.at 25 rfl) ki_0 ?_
      have hz := hr _ (Option.some.inj h).symm
      rw [hz.1, hz.2]
      exact Ev_zret (dt_X10_isWord.at 26 rfl) rfl (by decide) rfl
set_option maxRecDepth 100000 in
set_option maxHeartbeats 4000000 in
theorem wl_TownReader_isWord_4_91_17 (σ : Sg) (v1 : Int32) (r : Option Value) (τ : Sg) (n : Nat) (x : Int32) (z : (Int32 ⊕ Int32)) (h : lp (b_TownReader_isWord_4_91_17 σ v1) n x = some z) (he : ∀ y : Int32, z = .inl y → Ev M_X10_isWord 4 r τ 49 [] [] σ) (hr : ∀ q : Int32, z = .inr q → r = (some (.int q)) ∧ τ = σ) : Ev M_X10_isWord 4 r τ 17 [(0, .ref 4), (1, .int v1), (2, .ref 91), (3, .int x)] [] σ := by
  refine lp_ind (E := fun x : Int32 => Ev M_X10_isWord 4 r τ 17 [(0, .ref 4), (1, .int v1), (2, .ref 91), (3, .int x)] [] σ) (fun x => ⟨fun y hb hy => ?_, fun hb => ?_⟩) n x h
  · exact wb_TownReader_isWord_4_91_17 σ v1 x r τ _ hb (fun y' e => by cases e; exact hy) (fun y' e => by cases e) (fun y' e => by cases e)
  · exact wb_TownReader_isWord_4_91_17 σ v1 x r τ _ hb (fun y' e => by cases e) (fun y' e => he y' (Sum.inr.inj e)) (fun y' e => hr y' (Sum.inr.inj e))
set_option maxRecDepth 100000 in
set_option maxHeartbeats 4000000 in
theorem w_TownReader_isWord_4_91 (σ : Sg) (a1 : Int32) (q : Int32) (h : s_TownReader_isWord_4_91 σ a1 = some q) : Cal M_X10_isWord 4 [.ref 4, .int a1, .ref 91] σ (some (.int q)) σ := by
  refine Cal.of (M := M_X10_isWord) (by decide +kernel) (Nat.le_of_ble_eq_true rfl) ?_
  show Ev _ _ _ _ 0 [(0, .ref 4), (1, .int a1), (2, .ref 91)] [] σ
  unfold s_TownReader_isWord_4_91 at h
  refine Ev_aload_n 0 (dt_X10_isWord.at 0 rfl) rfl ?_
  refine Ev_get (i := 3) (v := .int (gI σ 4 3)) (dt_X10_isWord.at 1 rfl) ff_X10_32 sk_4 rfl rfl ?_
  refine Ev_iload_n 1 (dt_X10_isWord.at 2 rfl) rfl ?_
  refine Ev_isub (dt_X10_isWord.at 3 rfl) ?_
  refine Ev_aload_n 2 (dt_X10_isWord.at 4 rfl) rfl ?_
  obtain ⟨q1, hq1, h⟩ := oBind h
  refine Ev_callVS 1 (by decide) (st := [.int ((gI σ 4 3) - a1)]) (st' := [.int q1, .int ((gI σ 4 3) - a1)]) [] (dt_X10_isWord.at 5 rfl) cf_X10_99 (w_String_length_91 σ  q1 hq1) (by decide) rfl rfl rfl (Nat.le_of_ble_eq_true rfl) rfl ?_
  refine Ev_icmp_eq (tgt := 15) (dt_X10_isWord.at 6 rfl) (by decide) (fun c2 => ?_) (fun c2 => ?_)
  · replace h := oPos h c2
    refine Ev_iconst (dt_X10_isWord.at 9 rfl) ki_0 ?_
    refine Ev_istore_n (dt_X10_isWord.at 10 rfl) (by decide) (ls' := [(3, .int 0), (0, .ref 4), (1, .int a1), (2, .ref 91)]) rfl ?_
    refine Ev_sub [1, 2, 3, 0] (ls' := [(0, .ref 4), (1, .int a1), (2, .ref 91), (3, .int 0)]) rfl ?_
    obtain ⟨o10, ho10, h⟩ := oBind h
    refine wl_TownReader_isWord_4_91_17 σ a1 _ _ 100000 0 o10 ho10 (fun y11 ey => ?_) (fun q12 eq => ?_)
    · rw [ey] at h
      replace h := oElimL h
      refine Ev_iconst (dt_X10_isWord.at 29 rfl) ki_1 ?_
      exact Ev_zret (dt_X10_isWord.at 30 rfl) rfl (by decide) (oRet h)
    · rw [eq] at h
      replace h := oElimR h
      cases h; exact ⟨rfl, rfl⟩
  · replace h := oNeg h c2
    refine Ev_iconst (dt_X10_isWord.at 7 rfl) ki_0 ?_
    exact Ev_zret (dt_X10_isWord.at 8 rfl) rfl (by decide) (oRet h)
def s_String_coder_92 (σ : Sg)  : Option Int32 :=
  if (1 : Int32) = 0 then
    some 1
  else
    some 0
set_option maxRecDepth 100000 in
set_option maxHeartbeats 4000000 in
theorem w_String_coder_92 (σ : Sg)  (q : Int32) (h : s_String_coder_92 σ  = some q) : Cal M_J0_coder 0 [.ref 92] σ (some (.int q)) σ := by
  refine Cal.of (M := M_J0_coder) (by decide +kernel) (Nat.le_of_ble_eq_true rfl) ?_
  show Ev _ _ _ _ 0 [(0, .ref 92)] [] σ
  unfold s_String_coder_92 at h
  refine Ev_getsC (dt_J0_coder.at 0 rfl) fs_J0_38 ?_
  refine Ev_if_eq (tgt := 13) (dt_J0_coder.at 1 rfl) (by decide) (fun c1 => ?_) (fun c1 => ?_)
  · replace h := oPos h c1
    refine Ev_iconst (dt_J0_coder.at 5 rfl) ki_1 ?_
    exact Ev_bret .byte (dt_J0_coder.at 6 rfl) rfl (by decide) (oRet h)
  · replace h := oNeg h c1
    refine Ev_aload_n 0 (dt_J0_coder.at 2 rfl) rfl ?_
    refine Ev_scod 2 (by decide) (dt_J0_coder.at 3 rfl) fs_J0_15 ?_
    refine Ev_goto (tgt := 14) (dt_J0_coder.at 4 rfl) (by decide) ?_
    exact Ev_bret .byte (dt_J0_coder.at 6 rfl) rfl (by decide) (oRet h)
def s_String_length_92 (σ : Sg)  : Option Int32 :=
  (s_String_coder_92 σ ).bind fun q1 =>
  some ((6 : Int32) >>> (q1 &&& 31))
set_option maxRecDepth 100000 in
set_option maxHeartbeats 4000000 in
theorem w_String_length_92 (σ : Sg)  (q : Int32) (h : s_String_length_92 σ  = some q) : Cal M_J0_length 1 [.ref 92] σ (some (.int q)) σ := by
  refine Cal.of (M := M_J0_length) (by decide +kernel) (Nat.le_of_ble_eq_true rfl) ?_
  show Ev _ _ _ _ 0 [(0, .ref 92)] [] σ
  unfold s_String_length_92 at h
  refine Ev_aload_n 0 (dt_J0_length.at 0 rfl) rfl ?_
  refine Ev_sval 2 (by decide) (dt_J0_length.at 1 rfl) fs_J0_9 ?_
  refine Ev_slen 2 (by decide) (dt_J0_length.at 2 rfl) kn_6 ?_
  refine Ev_aload_n 0 (dt_J0_length.at 3 rfl) rfl ?_
  obtain ⟨q1, hq1, h⟩ := oBind h
  refine Ev_callVS 2 (by decide) (st := [.int 6]) (st' := [.int q1, .int 6]) [] (dt_J0_length.at 4 rfl) cf_J0_335 (w_String_coder_92 σ  q1 hq1) (by decide) rfl rfl rfl (Nat.le_of_ble_eq_true rfl) rfl ?_
  refine Ev_ishr (dt_J0_length.at 5 rfl) ?_
  exact Ev_iret (dt_J0_length.at 6 rfl) rfl (oRet h)
def s_String_isLatin1_92 (σ : Sg)  : Option Int32 :=
  if (1 : Int32) = 0 then
    some 0
  else
    if (0 : Int32) = 0 then
      some 1
    else
      some 0
set_option maxRecDepth 100000 in
set_option maxHeartbeats 4000000 in
theorem w_String_isLatin1_92 (σ : Sg)  (q : Int32) (h : s_String_isLatin1_92 σ  = some q) : Cal M_J0_isLatin1 0 [.ref 92] σ (some (.int q)) σ := by
  refine Cal.of (M := M_J0_isLatin1) (by decide +kernel) (Nat.le_of_ble_eq_true rfl) ?_
  show Ev _ _ _ _ 0 [(0, .ref 92)] [] σ
  unfold s_String_isLatin1_92 at h
  refine Ev_getsC (dt_J0_isLatin1.at 0 rfl) fs_J0_38 ?_
  refine Ev_if_eq (tgt := 17) (dt_J0_isLatin1.at 1 rfl) (by decide) (fun c1 => ?_) (fun c1 => ?_)
  · replace h := oPos h c1
    refine Ev_iconst (dt_J0_isLatin1.at 7 rfl) ki_0 ?_
    exact Ev_zret (dt_J0_isLatin1.at 8 rfl) rfl (by decide) (oRet h)
  · replace h := oNeg h c1
    refine Ev_aload_n 0 (dt_J0_isLatin1.at 2 rfl) rfl ?_
    refine Ev_scod 2 (by decide) (dt_J0_isLatin1.at 3 rfl) fs_J0_15 ?_
    refine Ev_if_ne (tgt := 17) (dt_J0_isLatin1.at 4 rfl) (by decide) (fun c2 => ?_) (fun c2 => ?_)
    · replace h := oNeg h c2
      refine Ev_iconst (dt_J0_isLatin1.at 7 rfl) ki_0 ?_
      exact Ev_zret (dt_J0_isLatin1.at 8 rfl) rfl (by decide) (oRet h)
    · replace h := oPos h c2
      refine Ev_iconst (dt_J0_isLatin1.at 5 rfl) ki_1 ?_
      refine Ev_goto (tgt := 18) (dt_J0_isLatin1.at 6 rfl) (by decide) ?_
      exact Ev_zret (dt_J0_isLatin1.at 8 rfl) rfl (by decide) (oRet h)
def s_StringLatin1_charAt_95 (σ : Sg) (a1 : Int32) : Option Int32 :=
  if 0 ≤ a1 ∧ a1 < 6 then
    if inB a1 6 = true then
      if (((Int32.toUInt32 (((((bytW.getD 2 []).getD (Int32.toNatClampNeg a1) 0) &&& 255).toUInt32 % 65536).toInt32)).toUInt16).toUInt32).toInt32 = (((((bytW.getD 2 []).getD (Int32.toNatClampNeg a1) 0) &&& 255).toUInt32 % 65536).toInt32) then some (((((bytW.getD 2 []).getD (Int32.toNatClampNeg a1) 0) &&& 255).toUInt32 % 65536).toInt32) else none
    else none
  else none
set_option maxRecDepth 100000 in
set_option maxHeartbeats 4000000 in
theorem w_StringLatin1_charAt_95 (σ : Sg) (a1 : Int32) (q : Int32) (h : s_StringLatin1_charAt_95 σ a1 = some q) : Cal M_J1_charAt 2 [.ref 95, .int a1] σ (some (.int q)) σ := by
  refine Cal.of (M := M_J1_charAt) (by decide +kernel) (Nat.le_of_ble_eq_true rfl) ?_
  show Ev _ _ _ _ 0 [(0, .ref 95), (1, .int a1)] [] σ
  unfold s_StringLatin1_charAt_95 at h
  refine Ev_iload_n 1 (dt_J1_charAt.at 0 rfl) rfl ?_
  refine Ev_aload_n 0 (dt_J1_charAt.at 1 rfl) rfl ?_
  refine Ev_slen 2 (by decide) (dt_J1_charAt.at 2 rfl) kn_6 ?_
  obtain ⟨g1, h⟩ := oGuard h
  refine Ev_callS (st := []) (st' := []) [.int a1, .int 6] (dt_J1_charAt.at 3 rfl) cf_J1_9 (w_checkIndex σ a1 6 g1) (by decide) rfl rfl (Nat.le_of_ble_eq_true rfl) rfl ?_
  refine Ev_aload_n 0 (dt_J1_charAt.at 4 rfl) rfl ?_
  refine Ev_iload_n 1 (dt_J1_charAt.at 5 rfl) rfl ?_
  obtain ⟨g2, h⟩ := oGuard h
  refine Ev_sbyte 2 (by decide) (N := 6) rfl (dt_J1_charAt.at 6 rfl) g2 ?_
  refine Ev_sipush (dt_J1_charAt.at 7 rfl) ks_255 ?_
  refine Ev_iand (dt_J1_charAt.at 8 rfl) ?_
  refine Ev_i2c (dt_J1_charAt.at 9 rfl) ?_
  obtain ⟨gz, h⟩ := oGuard h
  exact Ev_bret .char (dt_J1_charAt.at 10 rfl) rfl (congrArg Value.int gz) (oRet h)
def s_String_charAt_92 (σ : Sg) (a1 : Int32) : Option Int32 :=
  (s_String_isLatin1_92 σ ).bind fun q1 =>
  if q1 = 0 then
    none
  else
    (s_StringLatin1_charAt_95 σ a1).bind fun q3 =>
    if (((Int32.toUInt32 q3).toUInt16).toUInt32).toInt32 = q3 then some q3 else none
set_option maxRecDepth 100000 in
set_option maxHeartbeats 4000000 in
theorem w_String_charAt_92 (σ : Sg) (a1 : Int32) (q : Int32) (h : s_String_charAt_92 σ a1 = some q) : Cal M_J0_charAt 3 [.ref 92, .int a1] σ (some (.int q)) σ := by
  refine Cal.of (M := M_J0_charAt) (by decide +kernel) (Nat.le_of_ble_eq_true rfl) ?_
  show Ev _ _ _ _ 0 [(0, .ref 92), (1, .int a1)] [] σ
  unfold s_String_charAt_92 at h
  refine Ev_aload_n 0 (dt_J0_charAt.at 0 rfl) rfl ?_
  obtain ⟨q1, hq1, h⟩ := oBind h
  refine Ev_callVS 2 (by decide) (st := []) (st' := [.int q1]) [] (dt_J0_charAt.at 1 rfl) cf_J0_492 (w_String_isLatin1_92 σ  q1 hq1) (by decide) rfl rfl rfl (Nat.le_of_ble_eq_true rfl) rfl ?_
  refine Ev_if_eq (tgt := 16) (dt_J0_charAt.at 2 rfl) (by decide) (fun c2 => ?_) (fun c2 => ?_)
  · replace h := oPos h c2
    refine Ev_aload_n 0 (dt_J0_charAt.at 8 rfl) rfl ?_
    refine Ev_sval 2 (by decide) (dt_J0_charAt.at 9 rfl) fs_J0_9 ?_
    refine Ev_iload_n 1 (dt_J0_charAt.at 10 rfl) rfl ?_
    cases h
  · replace h := oNeg h c2
    refine Ev_aload_n 0 (dt_J0_charAt.at 3 rfl) rfl ?_
    refine Ev_sval 2 (by decide) (dt_J0_charAt.at 4 rfl) fs_J0_9 ?_
    refine Ev_iload_n 1 (dt_J0_charAt.at 5 rfl) rfl ?_
    obtain ⟨q3, hq3, h⟩ := oBind h
    refine Ev_callS (st := []) (st' := [.int q3]) [.ref 95, .int a1] (dt_J0_charAt.at 6 rfl) cf_J0_495 (w_StringLatin1_charAt_95 σ a1 q3 hq3) (by decide) rfl rfl (Nat.le_of_ble_eq_true rfl) rfl ?_
    obtain ⟨gz, h⟩ := oGuard h
    exact Ev_bret .char (dt_J0_charAt.at 7 rfl) rfl (congrArg Value.int gz) (oRet h)
def b_TownReader_isWord_4_92_17 (σ : Sg) (v1 : Int32) (x : Int32) : Option (Int32 ⊕ (Int32 ⊕ Int32)) :=
  (s_String_length_92 σ ).bind fun q3 =>
  if q3 ≤ x then
    some (.inr (.inl x))
  else
    if gR σ 4 1 = 3 then
      if inB (v1 + x) 250 = true then
        (s_String_charAt_92 σ x).bind fun q7 =>
        if (gI σ 3 (Int32.toNatClampNeg (v1 + x))) = q7 then
          lt (x + 1 : Int32) fun x9 =>
          some (.inl x9)
        else
          some (.inr (.inr 0))
      else none
    else
      none
def s_TownReader_isWord_4_92 (σ : Sg) (a1 : Int32) : Option Int32 :=
  (s_String_length_92 σ ).bind fun q1 =>
  if ((gI σ 4 3) - a1) = q1 then
    (lp (b_TownReader_isWord_4_92_17 σ a1) 100000 0).bind fun o10 =>
    oElim o10 (fun y11 =>
      some 1) (fun q12 => some q12)
  else
    some 0
set_option maxRecDepth 100000 in
set_option maxHeartbeats 4000000 in
theorem wb_TownReader_isWord_4_92_17 (σ : Sg) (v1 : Int32) (x : Int32) (r : Option Value) (τ : Sg) (o : (Int32 ⊕ (Int32 ⊕ Int32))) (h : (b_TownReader_isWord_4_92_17 σ v1 x) = some o) (hc : ∀ y : Int32, o = .inl y → Ev M_X10_isWord 4 r τ 17 [(0, .ref 4), (1, .int v1), (2, .ref 92), (3, .int y)] [] σ) (he : ∀ y : Int32, o = .inr (.inl y) → Ev M_X10_isWord 4 r τ 49 [] [] σ) (hr : ∀ q : Int32, o = .inr (.inr q) → r = (some (.int q)) ∧ τ = σ) : Ev M_X10_isWord 4 r τ 17 [(0, .ref 4), (1, .int v1), (2, .ref 92), (3, .int x)] [] σ := by
  unfold b_TownReader_isWord_4_92_17 at h
  refine Ev_iload_n 3 (dt_X10_isWord.at 11 rfl) rfl ?_
  refine Ev_aload_n 2 (dt_X10_isWord.at 12 rfl) rfl ?_
  obtain ⟨q3, hq3, h⟩ := oBind h
  refine Ev_callVS 2 (by decide) (st := [.int x]) (st' := [.int q3, .int x]) [] (dt_X10_isWord.at 13 rfl) cf_X10_99 (w_String_length_92 σ  q3 hq3) (by decide) rfl rfl rfl (Nat.le_of_ble_eq_true rfl) rfl ?_
  refine Ev_icmp_ge (tgt := 49) (dt_X10_isWord.at 14 rfl) (by decide) (fun c4 => ?_) (fun c4 => ?_)
  · replace h := oPos h c4
    refine Ev_sub [] (ls' := []) rfl ?_
    exact he x (Option.some.inj h).symm
  · replace h := oNeg h c4
    refine Ev_aload_n 0 (dt_X10_isWord.at 15 rfl) rfl ?_
    obtain ⟨c5, h⟩ := oGuard h
    refine Ev_get (i := 1) (v := .ref 3) (dt_X10_isWord.at 16 rfl) ff_X10_18 sk_4 rfl (congrArg Value.ref c5) ?_
    refine Ev_iload_n 1 (dt_X10_isWord.at 17 rfl) rfl ?_
    refine Ev_iload_n 3 (dt_X10_isWord.at 18 rfl) rfl ?_
    refine Ev_iadd (dt_X10_isWord.at 19 rfl) ?_
    obtain ⟨g6, h⟩ := oGuard h
    refine Ev_iaload 3 (dt_X10_isWord.at 20 rfl) sk_3 g6 ?_
    refine Ev_aload_n 2 (dt_X10_isWord.at 21 rfl) rfl ?_
    refine Ev_iload_n 3 (dt_X10_isWord.at 22 rfl) rfl ?_
    obtain ⟨q7, hq7, h⟩ := oBind h
    refine Ev_callVS 2 (by decide) (st := [.int (gI σ 3 (Int32.toNatClampNeg (v1 + x)))]) (st' := [.int q7, .int (gI σ 3 (Int32.toNatClampNeg (v1 + x)))]) [.int x] (dt_X10_isWord.at 23 rfl) cf_X10_103 (w_String_charAt_92 σ x q7 hq7) (by decide) rfl rfl rfl (Nat.le_of_ble_eq_true rfl) rfl ?_
    refine Ev_icmp_eq (tgt := 43) (dt_X10_isWord.at 24 rfl) (by decide) (fun c8 => ?_) (fun c8 => ?_)
    · replace h := oPos h c8
      obtain ⟨x9, ex9⟩ : ∃ z : Int32, z = x + 1 := ⟨_, rfl⟩
      replace h := oLt h ex9
      refine Ev_iinc (v := x9) 3 (dt_X10_isWord.at 27 rfl) rfl (ex9.trans (congrArg (fun z => x + z) ki_1.symm)) (by decide) (ls' := [(3, .int x9), (0, .ref 4), (1, .int v1), (2, .ref 92)]) rfl ?_
      refine Ev_goto (tgt := 17) (dt_X10_isWord.at 28 rfl) (by decide) ?_
      refine Ev_sub [1, 2, 3, 0] (ls' := [(0, .ref 4), (1, .int v1), (2, .ref 92), (3, .int x9)]) rfl ?_
      exact hc x9 (Option.some.inj h).symm
    · replace h := oNeg h c8
      refine Ev_iconst (dt_X10_isWord.at 25 rfl) ki_0 ?_
      have hz := hr _ (Option.some.inj h).symm
      rw [hz.1, hz.2]
      exact Ev_zret (dt_X10_isWord.at 26 rfl) rfl (by decide) rfl
set_option maxRecDepth 100000 in
set_option maxHeartbeats 4000000 in
theorem wl_TownReader_isWord_4_92_17 (σ : Sg) (v1 : Int32) (r : Option Value) (τ : Sg) (n : Nat) (x : Int32) (z : (Int32 ⊕ Int32)) (h : lp (b_TownReader_isWord_4_92_17 σ v1) n x = some z) (he : ∀ y : Int32, z = .inl y → Ev M_X10_isWord 4 r τ 49 [] [] σ) (hr : ∀ q : Int32, z = .inr q → r = (some (.int q)) ∧ τ = σ) : Ev M_X10_isWord 4 r τ 17 [(0, .ref 4), (1, .int v1), (2, .ref 92), (3, .int x)] [] σ := by
  refine lp_ind (E := fun x : Int32 => Ev M_X10_isWord 4 r τ 17 [(0, .ref 4), (1, .int v1), (2, .ref 92), (3, .int x)] [] σ) (fun x => ⟨fun y hb hy => ?_, fun hb => ?_⟩) n x h
  · exact wb_TownReader_isWord_4_92_17 σ v1 x r τ _ hb (fun y' e => by cases e; exact hy) (fun y' e => by cases e) (fun y' e => by cases e)
  · exact wb_TownReader_isWord_4_92_17 σ v1 x r τ _ hb (fun y' e => by cases e) (fun y' e => he y' (Sum.inr.inj e)) (fun y' e => hr y' (Sum.inr.inj e))
set_option maxRecDepth 100000 in
set_option maxHeartbeats 4000000 in
theorem w_TownReader_isWord_4_92 (σ : Sg) (a1 : Int32) (q : Int32) (h : s_TownReader_isWord_4_92 σ a1 = some q) : Cal M_X10_isWord 4 [.ref 4, .int a1, .ref 92] σ (some (.int q)) σ := by
  refine Cal.of (M := M_X10_isWord) (by decide +kernel) (Nat.le_of_ble_eq_true rfl) ?_
  show Ev _ _ _ _ 0 [(0, .ref 4), (1, .int a1), (2, .ref 92)] [] σ
  unfold s_TownReader_isWord_4_92 at h
  refine Ev_aload_n 0 (dt_X10_isWord.at 0 rfl) rfl ?_
  refine Ev_get (i := 3) (v := .int (gI σ 4 3)) (dt_X10_isWord.at 1 rfl) ff_X10_32 sk_4 rfl rfl ?_
  refine Ev_iload_n 1 (dt_X10_isWord.at 2 rfl) rfl ?_
  refine Ev_isub (dt_X10_isWord.at 3 rfl) ?_
  refine Ev_aload_n 2 (dt_X10_isWord.at 4 rfl) rfl ?_
  obtain ⟨q1, hq1, h⟩ := oBind h
  refine Ev_callVS 2 (by decide) (st := [.int ((gI σ 4 3) - a1)]) (st' := [.int q1, .int ((gI σ 4 3) - a1)]) [] (dt_X10_isWord.at 5 rfl) cf_X10_99 (w_String_length_92 σ  q1 hq1) (by decide) rfl rfl rfl (Nat.le_of_ble_eq_true rfl) rfl ?_
  refine Ev_icmp_eq (tgt := 15) (dt_X10_isWord.at 6 rfl) (by decide) (fun c2 => ?_) (fun c2 => ?_)
  · replace h := oPos h c2
    refine Ev_iconst (dt_X10_isWord.at 9 rfl) ki_0 ?_
    refine Ev_istore_n (dt_X10_isWord.at 10 rfl) (by decide) (ls' := [(3, .int 0), (0, .ref 4), (1, .int a1), (2, .ref 92)]) rfl ?_
    refine Ev_sub [1, 2, 3, 0] (ls' := [(0, .ref 4), (1, .int a1), (2, .ref 92), (3, .int 0)]) rfl ?_
    obtain ⟨o10, ho10, h⟩ := oBind h
    refine wl_TownReader_isWord_4_92_17 σ a1 _ _ 100000 0 o10 ho10 (fun y11 ey => ?_) (fun q12 eq => ?_)
    · rw [ey] at h
      replace h := oElimL h
      refine Ev_iconst (dt_X10_isWord.at 29 rfl) ki_1 ?_
      exact Ev_zret (dt_X10_isWord.at 30 rfl) rfl (by decide) (oRet h)
    · rw [eq] at h
      replace h := oElimR h
      cases h; exact ⟨rfl, rfl⟩
  · replace h := oNeg h c2
    refine Ev_iconst (dt_X10_isWord.at 7 rfl) ki_0 ?_
    exact Ev_zret (dt_X10_isWord.at 8 rfl) rfl (by decide) (oRet h)
def s_TownReader_isFigure (σ : Sg) (a1 : Int32) : Option Int32 :=
  if (gI σ 4 2) ≤ a1 then
    some 0
  else
    if gR σ 4 1 = 3 then
      if inB a1 250 = true then
        if (gI σ 3 (Int32.toNatClampNeg a1)) < 48 then
          some 0
        else
          if inB a1 250 = true then
            if 57 < (gI σ 3 (Int32.toNatClampNeg a1)) then
              some 0
            else
              some 1
          else none
      else none
    else
      none
set_option maxRecDepth 100000 in
set_option maxHeartbeats 4000000 in
theorem w_TownReader_isFigure (σ : Sg) (a1 : Int32) (q : Int32) (h : s_TownReader_isFigure σ a1 = some q) : Cal M_X10_isFigure 0 [.ref 4, .int a1] σ (some (.int q)) σ := by
  refine Cal.of (M := M_X10_isFigure) (by decide +kernel) (Nat.le_of_ble_eq_true rfl) ?_
  show Ev _ _ _ _ 0 [(0, .ref 4), (1, .int a1)] [] σ
  unfold s_TownReader_isFigure at h
  refine Ev_iload_n 1 (dt_X10_isFigure.at 0 rfl) rfl ?_
  refine Ev_aload_n 0 (dt_X10_isFigure.at 1 rfl) rfl ?_
  refine Ev_get (i := 2) (v := .int (gI σ 4 2)) (dt_X10_isFigure.at 2 rfl) ff_X10_28 sk_4 rfl rfl ?_
  refine Ev_icmp_ge (tgt := 34) (dt_X10_isFigure.at 3 rfl) (by decide) (fun c1 => ?_) (fun c1 => ?_)
  · replace h := oPos h c1
    refine Ev_iconst (dt_X10_isFigure.at 18 rfl) ki_0 ?_
    exact Ev_zret (dt_X10_isFigure.at 19 rfl) rfl (by decide) (oRet h)
  · replace h := oNeg h c1
    refine Ev_aload_n 0 (dt_X10_isFigure.at 4 rfl) rfl ?_
    obtain ⟨c2, h⟩ := oGuard h
    refine Ev_get (i := 1) (v := .ref 3) (dt_X10_isFigure.at 5 rfl) ff_X10_18 sk_4 rfl (congrArg Value.ref c2) ?_
    refine Ev_iload_n 1 (dt_X10_isFigure.at 6 rfl) rfl ?_
    obtain ⟨g3, h⟩ := oGuard h
    refine Ev_iaload 3 (dt_X10_isFigure.at 7 rfl) sk_3 g3 ?_
    refine Ev_bipush (dt_X10_isFigure.at 8 rfl) kb_48 ?_
    refine Ev_icmp_lt (tgt := 34) (dt_X10_isFigure.at 9 rfl) (by decide) (fun c4 => ?_) (fun c4 => ?_)
    · replace h := oPos h c4
      refine Ev_iconst (dt_X10_isFigure.at 18 rfl) ki_0 ?_
      exact Ev_zret (dt_X10_isFigure.at 19 rfl) rfl (by decide) (oRet h)
    · replace h := oNeg h c4
      refine Ev_aload_n 0 (dt_X10_isFigure.at 10 rfl) rfl ?_
      refine Ev_get (i := 1) (v := .ref 3) (dt_X10_isFigure.at 11 rfl) ff_X10_18 sk_4 rfl (congrArg Value.ref c2) ?_
      refine Ev_iload_n 1 (dt_X10_isFigure.at 12 rfl) rfl ?_
      obtain ⟨g5, h⟩ := oGuard h
      refine Ev_iaload 3 (dt_X10_isFigure.at 13 rfl) sk_3 g5 ?_
      refine Ev_bipush (dt_X10_isFigure.at 14 rfl) kb_57 ?_
      refine Ev_icmp_gt (tgt := 34) (dt_X10_isFigure.at 15 rfl) (by decide) (fun c6 => ?_) (fun c6 => ?_)
      · replace h := oPos h c6
        refine Ev_iconst (dt_X10_isFigure.at 18 rfl) ki_0 ?_
        exact Ev_zret (dt_X10_isFigure.at 19 rfl) rfl (by decide) (oRet h)
      · replace h := oNeg h c6
        refine Ev_iconst (dt_X10_isFigure.at 16 rfl) ki_1 ?_
        refine Ev_goto (tgt := 35) (dt_X10_isFigure.at 17 rfl) (by decide) ?_
        exact Ev_zret (dt_X10_isFigure.at 19 rfl) rfl (by decide) (oRet h)
def j_TownReader_number_65  (σ : Sg) : Option (Int32 × Sg) :=
  lt (pI σ 4 4 (gI σ 4 3) : Sg) fun s6 =>
  some ((-1), s6)
def j_TownReader_number_54  (σ : Sg) (v1 : Int32) (v2 : Int32) (u0 : Int32) : Option (Int32 × Sg) :=
  if u0 < v1 then
    j_TownReader_number_65  σ
  else
    if u0 ≤ v2 then
      lt (pI σ 4 3 ((gI σ 4 3) + 1) : Sg) fun s8 =>
      some (u0, s8)
    else
      j_TownReader_number_65  σ
def j_TownReader_number_53  (σ : Sg) (v1 : Int32) (v2 : Int32) : Option (Int32 × Sg) :=
  j_TownReader_number_54  σ v1 v2 (-1)
def s_TownReader_number (σ : Sg) (a1 : Int32) (a2 : Int32) : Option (Int32 × Sg) :=
  if (gI σ 4 4) = (-1) then
    (s_TownReader_skipBlanks σ ).bind fun q2 =>
    (s_TownReader_isFigure q2 (gI q2 4 3)).bind fun q3 =>
    if q3 = 0 then
      j_TownReader_number_53  q2 a1 a2
    else
      (s_TownReader_isFigure q2 ((gI q2 4 3) + 1)).bind fun q9 =>
      if q9 = 0 then
        if gR q2 4 1 = 3 then
          if inB (gI q2 4 3) 250 = true then
            j_TownReader_number_54  q2 a1 a2 ((gI q2 3 (Int32.toNatClampNeg (gI q2 4 3))) - 48)
          else none
        else
          none
      else
        j_TownReader_number_53  q2 a1 a2
  else
    some ((-1), σ)
set_option maxRecDepth 100000 in
set_option maxHeartbeats 4000000 in
theorem wj_TownReader_number_65  (σ : Sg) (q : (Int32 × Sg)) (h : (j_TownReader_number_65  σ) = some q) : Ev M_X10_number 1 (some (.int q.1)) q.2 65 [(0, .ref 4)] [] σ := by
  unfold j_TownReader_number_65 at h
  refine Ev_aload_n 0 (dt_X10_number.at 36 rfl) rfl ?_
  refine Ev_aload_n 0 (dt_X10_number.at 37 rfl) rfl ?_
  refine Ev_get (i := 3) (v := .int (gI σ 4 3)) (dt_X10_number.at 38 rfl) ff_X10_32 sk_4 rfl rfl ?_
  refine Ev_putI (dt_X10_number.at 39 rfl) ff_X10_35 fw_10_4 sk_4 rfl ?_
  refine Ev_nmS (fun s6 es6 => ?_)
  replace h := oLt h es6
  refine Ev_iconst (dt_X10_number.at 40 rfl) ki_m1 ?_
  exact Ev_iret (dt_X10_number.at 41 rfl) rfl h
set_option maxRecDepth 100000 in
set_option maxHeartbeats 4000000 in
theorem wj_TownReader_number_54  (σ : Sg) (v1 : Int32) (v2 : Int32) (u0 : Int32) (q : (Int32 × Sg)) (h : (j_TownReader_number_54  σ v1 v2 u0) = some q) : Ev M_X10_number 1 (some (.int q.1)) q.2 54 [(0, .ref 4), (1, .int v1), (2, .int v2)] [.int u0] σ := by
  unfold j_TownReader_number_54 at h
  refine Ev_istore_n (dt_X10_number.at 29 rfl) (by decide) (ls' := [(3, .int u0), (0, .ref 4), (1, .int v1), (2, .int v2)]) rfl ?_
  refine Ev_iload_n 0 (dt_X10_number.at 30 rfl) rfl ?_
  refine Ev_iload_n 2 (dt_X10_number.at 31 rfl) rfl ?_
  refine Ev_icmp_lt (tgt := 65) (dt_X10_number.at 32 rfl) (by decide) (fun c5 => ?_) (fun c5 => ?_)
  · replace h := oPos h c5
    refine Ev_sub [1] (ls' := [(0, .ref 4)]) rfl ?_
    exact wj_TownReader_number_65  σ q h
  · replace h := oNeg h c5
    refine Ev_iload_n 0 (dt_X10_number.at 33 rfl) rfl ?_
    refine Ev_iload_n 3 (dt_X10_number.at 34 rfl) rfl ?_
    refine Ev_icmp_le (tgt := 75) (dt_X10_number.at 35 rfl) (by decide) (fun c7 => ?_) (fun c7 => ?_)
    · replace h := oPos h c7
      refine Ev_aload_n 1 (dt_X10_number.at 42 rfl) rfl ?_
      refine Ev_dup (dt_X10_number.at 43 rfl) rfl ?_
      refine Ev_get (i := 3) (v := .int (gI σ 4 3)) (dt_X10_number.at 44 rfl) ff_X10_32 sk_4 rfl rfl ?_
      refine Ev_iconst (dt_X10_number.at 45 rfl) ki_1 ?_
      refine Ev_iadd (dt_X10_number.at 46 rfl) ?_
      refine Ev_putI (dt_X10_number.at 47 rfl) ff_X10_32 fw_10_3 sk_4 rfl ?_
      refine Ev_nmS (fun s8 es8 => ?_)
      replace h := oLt h es8
      refine Ev_iload_n 0 (dt_X10_number.at 48 rfl) rfl ?_
      exact Ev_iret (dt_X10_number.at 49 rfl) rfl h
    · replace h := oNeg h c7
      refine Ev_sub [1] (ls' := [(0, .ref 4)]) rfl ?_
      exact wj_TownReader_number_65  σ q h
set_option maxRecDepth 100000 in
set_option maxHeartbeats 4000000 in
theorem wj_TownReader_number_53  (σ : Sg) (v1 : Int32) (v2 : Int32) (q : (Int32 × Sg)) (h : (j_TownReader_number_53  σ v1 v2) = some q) : Ev M_X10_number 1 (some (.int q.1)) q.2 53 [(0, .ref 4), (1, .int v1), (2, .int v2)] [] σ := by
  unfold j_TownReader_number_53 at h
  refine Ev_iconst (dt_X10_number.at 28 rfl) ki_m1 ?_
  refine Ev_sub [0, 1, 2] (ls' := [(0, .ref 4), (1, .int v1), (2, .int v2)]) rfl ?_
  exact wj_TownReader_number_54  σ v1 v2 (-1) q h
set_option maxRecDepth 100000 in
set_option maxHeartbeats 4000000 in
theorem w_TownReader_number (σ : Sg) (a1 : Int32) (a2 : Int32) (q : (Int32 × Sg)) (h : s_TownReader_number σ a1 a2 = some q) : Cal M_X10_number 1 [.ref 4, .int a1, .int a2] σ (some (.int q.1)) q.2 := by
  refine Cal.of (M := M_X10_number) (by decide +kernel) (Nat.le_of_ble_eq_true rfl) ?_
  show Ev _ _ _ _ 0 [(0, .ref 4), (1, .int a1), (2, .int a2)] [] σ
  unfold s_TownReader_number at h
  refine Ev_aload_n 0 (dt_X10_number.at 0 rfl) rfl ?_
  refine Ev_get (i := 4) (v := .int (gI σ 4 4)) (dt_X10_number.at 1 rfl) ff_X10_35 sk_4 rfl rfl ?_
  refine Ev_iconst (dt_X10_number.at 2 rfl) ki_m1 ?_
  refine Ev_icmp_eq (tgt := 10) (dt_X10_number.at 3 rfl) (by decide) (fun c1 => ?_) (fun c1 => ?_)
  · replace h := oPos h c1
    refine Ev_aload_n 0 (dt_X10_number.at 6 rfl) rfl ?_
    obtain ⟨q2, hq2, h⟩ := oBind h
    refine Ev_callV (st := []) (st' := []) [] (dt_X10_number.at 7 rfl) cf_X10_42 (w_TownReader_skipBlanks σ  q2 hq2) (by decide) sk_4 rfl rfl rfl (Nat.le_of_ble_eq_true rfl) rfl ?_
    refine Ev_aload_n 0 (dt_X10_number.at 8 rfl) rfl ?_
    refine Ev_aload_n 0 (dt_X10_number.at 9 rfl) rfl ?_
    refine Ev_get (i := 3) (v := .int (gI q2 4 3)) (dt_X10_number.at 10 rfl) ff_X10_32 sk_4 rfl rfl ?_
    obtain ⟨q3, hq3, h⟩ := oBind h
    refine Ev_callV (st := []) (st' := [.int q3]) [.int (gI q2 4 3)] (dt_X10_number.at 11 rfl) cf_X10_107 (w_TownReader_isFigure q2 (gI q2 4 3) q3 hq3) (by decide) sk_4 rfl rfl rfl (Nat.le_of_ble_eq_true rfl) rfl ?_
    refine Ev_if_eq (tgt := 53) (dt_X10_number.at 12 rfl) (by decide) (fun c4 => ?_) (fun c4 => ?_)
    · replace h := oPos h c4
      refine Ev_sub [0, 1, 2] (ls' := [(0, .ref 4), (1, .int a1), (2, .int a2)]) rfl ?_
      exact wj_TownReader_number_53  q2 a1 a2 q h
    · replace h := oNeg h c4
      refine Ev_aload_n 0 (dt_X10_number.at 13 rfl) rfl ?_
      refine Ev_aload_n 0 (dt_X10_number.at 14 rfl) rfl ?_
      refine Ev_get (i := 3) (v := .int (gI q2 4 3)) (dt_X10_number.at 15 rfl) ff_X10_32 sk_4 rfl rfl ?_
      refine Ev_iconst (dt_X10_number.at 16 rfl) ki_1 ?_
      refine Ev_iadd (dt_X10_number.at 17 rfl) ?_
      obtain ⟨q9, hq9, h⟩ := oBind h
      refine Ev_callV (st := []) (st' := [.int q9]) [.int ((gI q2 4 3) + 1)] (dt_X10_number.at 18 rfl) cf_X10_107 (w_TownReader_isFigure q2 ((gI q2 4 3) + 1) q9 hq9) (by decide) sk_4 rfl rfl rfl (Nat.le_of_ble_eq_true rfl) rfl ?_
      refine Ev_if_ne (tgt := 53) (dt_X10_number.at 19 rfl) (by decide) (fun c10 => ?_) (fun c10 => ?_)
      · replace h := oNeg h c10
        refine Ev_sub [0, 1, 2] (ls' := [(0, .ref 4), (1, .int a1), (2, .int a2)]) rfl ?_
        exact wj_TownReader_number_53  q2 a1 a2 q h
      · replace h := oPos h c10
        refine Ev_aload_n 0 (dt_X10_number.at 20 rfl) rfl ?_
        obtain ⟨c11, h⟩ := oGuard h
        refine Ev_get (i := 1) (v := .ref 3) (dt_X10_number.at 21 rfl) ff_X10_18 sk_4 rfl (congrArg Value.ref c11) ?_
        refine Ev_aload_n 0 (dt_X10_number.at 22 rfl) rfl ?_
        refine Ev_get (i := 3) (v := .int (gI q2 4 3)) (dt_X10_number.at 23 rfl) ff_X10_32 sk_4 rfl rfl ?_
        obtain ⟨g12, h⟩ := oGuard h
        refine Ev_iaload 3 (dt_X10_number.at 24 rfl) sk_3 g12 ?_
        refine Ev_bipush (dt_X10_number.at 25 rfl) kb_48 ?_
        refine Ev_isub (dt_X10_number.at 26 rfl) ?_
        refine Ev_goto (tgt := 54) (dt_X10_number.at 27 rfl) (by decide) ?_
        refine Ev_sub [0, 1, 2] (ls' := [(0, .ref 4), (1, .int a1), (2, .int a2)]) rfl ?_
        exact wj_TownReader_number_54  q2 a1 a2 ((gI q2 3 (Int32.toNatClampNeg (gI q2 4 3))) - 48) q h
  · replace h := oNeg h c1
    refine Ev_iconst (dt_X10_number.at 4 rfl) ki_m1 ?_
    exact Ev_iret (dt_X10_number.at 5 rfl) rfl h
