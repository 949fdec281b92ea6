def REP (σ : Sg) (L : List (Nat × Nat × Nat)) : Prop := gI σ 12 5 = nI L.length ∧ ∀ s e, L[s]? = some e → gI σ 16 (3 * s) = nI e.1 ∧ gI σ 16 (3 * s + 1) = nI e.2.1 ∧ gI σ 16 (3 * s + 2) = nI e.2.2 ∧ gL σ 17 s = gL spT 2 e.1 ||| gL spT 2 e.2.1 ||| gL spT 2 e.2.2
def FRL (σ τ : Sg) : Prop := (∀ c j, ¬ (c = 12 ∧ j = 5 ∨ c = 16) → gI τ c j = gI σ c j) ∧ (∀ c j, ¬ c = 17 → gL τ c j = gL σ c j) ∧ gR τ = gR σ
theorem FRL_self (σ : Sg) : FRL σ σ := ⟨fun _ _ _ => rfl, fun _ _ _ => rfl, rfl⟩
theorem FRL_trans {σ τ κ : Sg} (h : FRL σ τ) (k : FRL τ κ) : FRL σ κ := ⟨fun c j q => (k.1 c j q).trans (h.1 c j q), fun c j q => (k.2.1 c j q).trans (h.2.1 c j q), k.2.2.trans h.2.2⟩
theorem sp_add {σ : Sg} {L : List (Nat × Nat × Nat)} {a b c : Nat} (H : REP σ L) (hL : L.length < 280) (ha : a < 512) (hb : b < 512) (hc : c < 512) (h14 : gL σ 14 = gL spT 2) : ∃ τ, s_Splits_add σ (nI a) (nI b) (nI c) = some τ ∧ REP τ (L ++ [(a, b, c)]) ∧ FRL σ τ := by
  obtain ⟨h1, h2⟩ := H
  have e3 : nI L.length * 3 = nI (3 * L.length) := by rw [show nI L.length * 3 = nI (L.length * 3) from (Int32.ofNat_mul _ 3).symm, Nat.mul_comm]
  generalize hn : L.length = n at *
  refine ⟨pI (pL (pI (pI (pI σ 16 (3 * n) (nI a)) 16 (3 * n + 1) (nI b)) 16 (3 * n + 2) (nI c)) 17 n (gL spT 2 a ||| gL spT 2 b ||| gL spT 2 c)) 12 5 (nI (n + 1)), ?_, ⟨?_, fun s e hs => ?_⟩, fun c j q => ?_, fun c j q => ?_, rfl⟩
  · rw [s_Splits_add, h1, if_pos (by show nI n < nI 280; rw [nI_ltI (by omega) (by omega)]; exact hL), e3, if_pos (inB_nI (by omega) (by omega)), lt_eq, nI_clamp (by omega)]
    show (if inB (gI (pI σ 16 (3 * n) (nI a)) 12 5 * 3 + 1) 840 = true then _ else _) = _
    rw [gI_ne (by omega), h1, e3, show nI (3 * n) + 1 = nI (3 * n + 1) from nI_add _ 1, if_pos (inB_nI (by omega) (by omega)), lt_eq, nI_clamp (by omega)]
    show (if inB (gI (pI (pI σ 16 (3 * n) (nI a)) 16 (3 * n + 1) (nI b)) 12 5 * 3 + 2) 840 = true then _ else _) = _
    rw [gI_ne (by omega), gI_ne (by omega), h1, e3, show nI (3 * n) + 2 = nI (3 * n + 2) from nI_add _ 2, if_pos (inB_nI (by omega) (by omega)), lt_eq, nI_clamp (by omega), if_pos (inB_nI (by omega) (by omega)), if_pos (inB_nI (by omega) (by omega)), if_pos (inB_nI (by omega) (by omega))]
    show (if inB (gI (pI (pI (pI σ 16 (3 * n) (nI a)) 16 (3 * n + 1) (nI b)) 16 (3 * n + 2) (nI c)) 12 5) 280 = true then _ else _) = _
    rw [gI_ne (by omega), gI_ne (by omega), gI_ne (by omega), h1, if_pos (inB_nI (by omega) (by omega)), lt_eq, lt_eq, nI_clamp (by omega), nI_clamp (by omega), nI_clamp (by omega), nI_clamp (by omega)]
    show some (pI (pL _ 17 n (gL σ 14 a ||| gL σ 14 b ||| gL σ 14 c)) 12 5 (gI (pI (pI (pI σ 16 (3 * n) (nI a)) 16 (3 * n + 1) (nI b)) 16 (3 * n + 2) (nI c)) 12 5 + 1)) = _
    rw [gI_ne (by omega), gI_ne (by omega), gI_ne (by omega), h1, nI_1, h14]
  · rw [gI_eq, List.length_append, hn]; rfl
  · rw [List.getElem?_append, hn] at hs
    have eL : ∀ s, gL (pI (pL (pI (pI (pI σ 16 (3 * n) (nI a)) 16 (3 * n + 1) (nI b)) 16 (3 * n + 2) (nI c)) 17 n (gL spT 2 a ||| gL spT 2 b ||| gL spT 2 c)) 12 5 (nI (n + 1))) 17 s = if s = n then (gL spT 2 a ||| gL spT 2 b ||| gL spT 2 c) else gL σ 17 s := fun s => by
      show gL (pL _ 17 n _) 17 s = _
      rw [gL_pL]
      by_cases c : s = n
      · rw [if_pos ⟨rfl, c⟩, if_pos c]
      · rw [if_neg (fun q => c q.2), if_neg c]; rfl
    rw [eL, gI_ne (by omega), gI_ne (by omega), gI_ne (by omega)]
    show gI (pI (pI (pI σ 16 (3 * n) (nI a)) 16 (3 * n + 1) (nI b)) 16 (3 * n + 2) (nI c)) 16 (3 * s) = _ ∧ gI (pI (pI (pI σ 16 (3 * n) (nI a)) 16 (3 * n + 1) (nI b)) 16 (3 * n + 2) (nI c)) 16 (3 * s + 1) = _ ∧ gI (pI (pI (pI σ 16 (3 * n) (nI a)) 16 (3 * n + 1) (nI b)) 16 (3 * n + 2) (nI c)) 16 (3 * s + 2) = _ ∧ _
    by_cases d : s < n
    · rw [if_pos d] at hs
      rw [if_neg (by omega), gI_ne (by omega), gI_ne (by omega), gI_ne (by omega), gI_ne (by omega), gI_ne (by omega), gI_ne (by omega), gI_ne (by omega), gI_ne (by omega), gI_ne (by omega)]
      exact h2 s e hs
    · rw [if_neg d] at hs
      by_cases g : s = n
      · subst g
        rw [Nat.sub_self] at hs
        cases hs
        rw [if_pos rfl, gI_ne (by omega), gI_ne (by omega), gI_eq, gI_ne (by omega), gI_eq, gI_eq]
        exact ⟨rfl, rfl, rfl, rfl⟩
      · obtain ⟨m, hm⟩ : ∃ m, s - n = m + 1 := ⟨s - n - 1, by omega⟩
        rw [hm] at hs; cases hs
  · rw [gI_ne (by omega)]
    show gI (pI (pI (pI σ 16 (3 * n) (nI a)) 16 (3 * n + 1) (nI b)) 16 (3 * n + 2) _) c j = _
    rw [gI_ne (by omega), gI_ne (by omega), gI_ne (by omega)]
  · show gL (pL _ 17 n _) c j = _
    rw [gL_pL, if_neg (fun x => q x.1)]; rfl
theorem bl2_len {a l y : Nat} : ∀ d, (bl2 a l y).length ≤ (bl2 a l (y + d)).length
  | 0 => Nat.le_refl _
  | d + 1 => by
    have := bl2_len (a := a) (l := l) (y := y) d
    show _ ≤ (bl2 a l (y + d) ++ _).length
    rw [List.length_append]; omega
theorem bl1_len {al x : Nat} : ∀ d, (bl1 al x).length ≤ (bl1 al (x + d)).length
  | 0 => Nat.le_refl _
  | d + 1 => by
    have := bl1_len (al := al) (x := x) d
    show _ ≤ (bl1 al (x + d) ++ _).length
    rw [List.length_append]; omega
theorem sp_behind {σ : Sg} {L : List (Nat × Nat × Nat)} {a l : Nat} (H : REP σ L) (ha : a < 512) (hl : l < 512) (h0 : l ≠ 0) (hlen : (L ++ bl2 a l 84).length ≤ 280) (h14 : gL σ 14 = gL spT 2) (h13 : gI σ 13 = gI spT 1) : ∃ τ, s_Splits_listBehind σ (nI a) (nI l) = some τ ∧ REP τ (L ++ bl2 a l 84) ∧ FRL σ τ := by
  rw [s_Splits_listBehind, if_neg (nI_ne0 (by omega) (by omega))]
  obtain ⟨z, hz, g1, g2⟩ := lp_ex (b := b_Splits_listBehind_24 (nI a) (nI l) 84) (I := fun x n => ∃ y, x.2 = nI y ∧ y ≤ 84 ∧ n = 84 - y ∧ REP x.1 (L ++ bl2 a l y) ∧ FRL σ x.1) (G := fun x => REP x.1 (L ++ bl2 a l 84) ∧ FRL σ x.1) (fun x n hx => by
    obtain ⟨ρ, i⟩ := x
    obtain ⟨y, hy, y1, y2, i1, i2⟩ := hx
    have hy : i = nI y := hy
    subst hy
    have i1 : REP ρ (L ++ bl2 a l y) := i1
    have i2 : FRL σ ρ := i2
    by_cases d : y = 84
    · subst d
      refine Or.inr ⟨(ρ, nI 84), ?_, i1, i2⟩
      unfold b_Splits_listBehind_24
      rw [if_pos (show (84 : Int32) ≤ nI 84 by decide)]
    obtain ⟨t5, t3, -⟩ := T3_ok y (by omega)
    have e13 : gI ρ 13 y = nI (T3 y) := by rw [i2.1 _ _ (by omega), h13]; exact spT_ok y (by omega)
    have hb : b_Splits_listBehind_24 (nI a) (nI l) 84 (ρ, nI y) = if tieB (T3 y) l = true then ((s_Splits_add ρ (nI a) (nI (T3 y)) (nI (dif l (T3 y)))).bind fun q8 => some (.inl (q8, nI (y + 1)))) else some (.inl (ρ, nI (y + 1))) := by
      unfold b_Splits_listBehind_24
      show (if nI 84 ≤ nI y then _ else (if inB (nI y) 84 = true then ((s_Splits_tiesLeast (gI ρ 13 (Int32.toNatClampNeg (nI y))) (nI l)).bind fun q5 => if q5 = 0 then some (Sum.inl (ρ, nI y + 1)) else (s_Splits_add ρ (nI a) (gI ρ 13 (Int32.toNatClampNeg (nI y))) (nI l &&& (gI ρ 13 (Int32.toNatClampNeg (nI y)) ^^^ (-1)))).bind fun q8 => some (Sum.inl (q8, nI y + 1))) else none)) = _
      rw [if_neg (by rw [nI_leI (by omega) (by omega)]; omega), if_pos (inB_nI (by omega) (by omega)), nI_clamp (by omega), e13, ties_ok t5 hl h0, Option.bind_some, nI_dif, nI_1]
      by_cases c : tieB (T3 y) l = true
      · rw [if_pos c, if_pos c, if_neg (by decide)]
      · rw [if_neg c, if_neg c, if_pos rfl]
    left
    by_cases c : tieB (T3 y) l = true
    · rw [if_pos c] at hb
      have e2 : L ++ bl2 a l (y + 1) = (L ++ bl2 a l y) ++ [(a, T3 y, dif l (T3 y))] := by
        show L ++ (bl2 a l y ++ _) = _
        rw [if_pos c, List.append_assoc]
      have hle := bl2_len (a := a) (l := l) (y := y + 1) (84 - (y + 1))
      rw [show y + 1 + (84 - (y + 1)) = 84 from by omega] at hle
      have e2l := congrArg List.length e2
      rw [List.length_append, List.length_append (as := L ++ bl2 a l y)] at e2l
      rw [List.length_append] at hlen
      obtain ⟨τ, t1, t2, t3⟩ := sp_add i1 (by have : [(a, T3 y, dif l (T3 y))].length = 1 := rfl; omega) ha t5 (dif_lt hl) (by rw [← h14]; funext j; exact i2.2.1 _ _ (by omega))
      rw [t1, Option.bind_some] at hb
      exact ⟨_, 84 - (y + 1), hb, by omega, y + 1, rfl, by omega, rfl, by rw [e2]; exact t2, FRL_trans i2 t3⟩
    · rw [if_neg c] at hb
      exact ⟨_, 84 - (y + 1), hb, by omega, y + 1, rfl, by omega, rfl, by show REP ρ (L ++ (bl2 a l y ++ _)); rw [if_neg c, List.append_nil]; exact i1, i2⟩) 100000 84 (σ, 0) (by omega) ⟨0, rfl, by omega, by omega, by show REP σ (L ++ []); rw [List.append_nil]; exact H, FRL_self σ⟩
  rw [hz, Option.bind_some]
  exact ⟨_, rfl, g1, g2⟩
theorem sp_list {σ : Sg} {P : Nat} (hP : P ≤ 9) (h1 : 1 ≤ P) (hlen : (bl1 (2 ^ P - 1) 84).length ≤ 280) (h14 : gL σ 14 = gL spT 2) (h13 : gI σ 13 = gI spT 1) : ∃ τ, s_Splits_list σ (nI P) = some τ ∧ REP τ (bl1 (2 ^ P - 1) 84) ∧ FRL σ τ := by
  have hpw := pow_le P (by omega)
  have h2 : 2 ^ 1 ≤ 2 ^ P := Nat.pow_le_pow_right (by omega) h1
  obtain ⟨q, hq⟩ : ∃ q, 2 ^ P = q + 1 := ⟨2 ^ P - 1, by omega⟩
  have hq' : 2 ^ P - 1 = q := by omega
  rw [s_Splits_list, lt_eq, lt_eq, shl_ok P (by omega), hq, nI_pred, Nat.add_sub_cancel]
  rw [hq'] at hlen
  have hσ0 : REP (pI σ 12 5 0) [] := ⟨by rw [gI_eq]; rfl, fun s e h => by cases h⟩
  have hF0 : FRL σ (pI σ 12 5 0) := ⟨fun c j q => gI_ne (by omega), fun _ _ _ => rfl, rfl⟩
  obtain ⟨z, hz, g1, g2⟩ := lp_ex (b := b_Splits_list_23 (nI q) 84) (I := fun x n => ∃ y, x.2 = nI y ∧ y ≤ 84 ∧ n = 84 - y ∧ REP x.1 (bl1 q y) ∧ FRL σ x.1) (G := fun x => REP x.1 (bl1 q 84) ∧ FRL σ x.1) (fun x n hx => by
    obtain ⟨ρ, i⟩ := x
    obtain ⟨y, hy, y1, y2, i1, i2⟩ := hx
    have hy : i = nI y := hy
    subst hy
    have i1 : REP ρ (bl1 q y) := i1
    have i2 : FRL σ ρ := i2
    by_cases d : y = 84
    · subst d
      refine Or.inr ⟨(ρ, nI 84), ?_, i1, i2⟩
      unfold b_Splits_list_23
      rw [if_pos (show (84 : Int32) ≤ nI 84 by decide)]
    obtain ⟨t5, t3, -⟩ := T3_ok y (by omega)
    have e13 : gI ρ 13 y = nI (T3 y) := by rw [i2.1 _ _ (by omega), h13]; exact spT_ok y (by omega)
    have e14 : gL ρ 14 = gL spT 2 := by rw [← h14]; funext j; exact i2.2.1 _ _ (by omega)
    have e13' : gI ρ 13 = gI spT 1 := by rw [← h13]; funext j; exact i2.1 _ _ (by omega)
    have hb : b_Splits_list_23 (nI q) 84 (ρ, nI y) = if tieB (T3 y) q = true then ((s_Splits_listBehind ρ (nI (T3 y)) (nI (dif q (T3 y)))).bind fun q8 => some (.inl (q8, nI (y + 1)))) else some (.inl (ρ, nI (y + 1))) := by
      unfold b_Splits_list_23
      show (if nI 84 ≤ nI y then _ else (if inB (nI y) 84 = true then ((s_Splits_tiesLeast (gI ρ 13 (Int32.toNatClampNeg (nI y))) (nI q)).bind fun q5 => if q5 = 0 then some (Sum.inl (ρ, nI y + 1)) else (s_Splits_listBehind ρ (gI ρ 13 (Int32.toNatClampNeg (nI y))) (nI q &&& (gI ρ 13 (Int32.toNatClampNeg (nI y)) ^^^ (-1)))).bind fun q8 => some (Sum.inl (q8, nI y + 1))) else none)) = _
      rw [if_neg (by rw [nI_leI (by omega) (by omega)]; omega), if_pos (inB_nI (by omega) (by omega)), nI_clamp (by omega), e13, ties_ok t5 (by omega) (by omega), Option.bind_some, nI_dif, nI_1]
      by_cases c : tieB (T3 y) q = true
      · rw [if_pos c, if_pos c, if_neg (by decide)]
      · rw [if_neg c, if_neg c, if_pos rfl]
    left
    by_cases c : tieB (T3 y) q = true
    · rw [if_pos c] at hb
      have e2 : bl1 q (y + 1) = bl1 q y ++ (if dif q (T3 y) = 0 then [(T3 y, 0, 0)] else bl2 (T3 y) (dif q (T3 y)) 84) := by
        show bl1 q y ++ _ = _
        rw [if_pos c]
      have hle := bl1_len (al := q) (x := y + 1) (84 - (y + 1))
      rw [show y + 1 + (84 - (y + 1)) = 84 from by omega] at hle
      by_cases e : dif q (T3 y) = 0
      · rw [if_pos e] at e2
        have e2l := congrArg List.length e2
        rw [List.length_append] at e2l
        obtain ⟨τ, t1, t2, t3⟩ := sp_add (a := T3 y) (b := 0) (c := 0) i1 (by have : [(T3 y, 0, 0)].length = 1 := rfl; omega) t5 (by omega) (by omega) e14
        have hbh : s_Splits_listBehind ρ (nI (T3 y)) (nI (dif q (T3 y))) = some τ := by
          rw [s_Splits_listBehind, if_pos (by rw [e]; rfl)]
          show ((s_Splits_add ρ (nI (T3 y)) (nI 0) (nI 0)).bind _) = _
          rw [t1]; rfl
        rw [hbh, Option.bind_some] at hb
        exact ⟨_, 84 - (y + 1), hb, by omega, y + 1, rfl, by omega, rfl, by rw [e2]; exact t2, FRL_trans i2 t3⟩
      · rw [if_neg e] at e2
        obtain ⟨τ, t1, t2, t3⟩ := sp_behind (a := T3 y) (l := dif q (T3 y)) i1 t5 (dif_lt (by omega)) e (by rw [← e2]; omega) e14 e13'
        rw [t1, Option.bind_some] at hb
        exact ⟨_, 84 - (y + 1), hb, by omega, y + 1, rfl, by omega, rfl, by rw [e2]; exact t2, FRL_trans i2 t3⟩
    · rw [if_neg c] at hb
      exact ⟨_, 84 - (y + 1), hb, by omega, y + 1, rfl, by omega, rfl, by show REP ρ (bl1 q y ++ _); rw [if_neg c, List.append_nil]; exact i1, i2⟩) 100000 84 (pI σ 12 5 0, 0) (by omega) ⟨0, rfl, by omega, by omega, hσ0, hF0⟩
  rw [hz, Option.bind_some]
  exact ⟨_, rfl, g1, g2⟩
/-- the class's list of all splits -/
theorem x_splits {σ : Sg} {P : Nat} (hP : P = 3 ∨ P = 6 ∨ P = 9) (h14 : gL σ 14 = gL spT 2) (h13 : gI σ 13 = gI spT 1) : ∃ τ, s_Splits_list σ (nI P) = some τ ∧ REP τ (SL P) ∧ FRL σ τ := by
  obtain ⟨s3, s6, s9⟩ := SL_ok
  obtain ⟨l3, l6, l9⟩ := SL_len
  rcases hP with rfl | rfl | rfl
  · have := sp_list (P := 3) (by omega) (by omega) (by rw [show 2 ^ 3 - 1 = 7 from rfl, s3, l3]; omega) h14 h13
    rw [show 2 ^ 3 - 1 = 7 from rfl, s3] at this; exact this
  · have := sp_list (P := 6) (by omega) (by omega) (by rw [show 2 ^ 6 - 1 = 63 from rfl, s6, l6]; omega) h14 h13
    rw [show 2 ^ 6 - 1 = 63 from rfl, s6] at this; exact this
  · have := sp_list (P := 9) (by omega) (by omega) (by rw [show 2 ^ 9 - 1 = 511 from rfl, s9, l9]; omega) h14 h13
    rw [show 2 ^ 9 - 1 = 511 from rfl, s9] at this; exact this
