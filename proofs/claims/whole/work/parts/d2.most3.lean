def mv (A : Nat → Nat) (P s : Nat) : Int32 := if s = 0 then -1 else nI (ds A ((SL P).getD (fm A P s) (0, 0, 0)))
theorem m_best {σ : Sg} {A : Nat → Nat} {P : Nat} {v1 : Int32} (hP : P = 3 ∨ P = 6 ∨ P = 9) (h1 : gI σ 72 1 = nI P) (H0 : RGB σ fr3) (hd : ∀ t, t < 2 ^ P → bN t = 3 → gI σ 82 t = nI (dC A t)) (hb : ∀ (s : Nat) (e : Nat × Nat × Nat), (SL P)[s]? = some e → ds A e ≤ 400) : ∃ o, lp (b_m_most_81 v1) 100000 (σ, -1) = some o ∧ o.2 = mv A P (SL P).length ∧ (∀ j, j < 3 → gI o.1 83 j = oI (gt3 (rg P (fm A P (SL P).length)) j)) ∧ (∀ c j, ¬ (c = 81 ∨ c = 83) → gI o.1 c j = gI σ c j) ∧ o.1.2 = σ.2 := by
  obtain ⟨n280, n1⟩ := SL_280 hP
  have hget : ∀ s, s < (SL P).length → (SL P)[s]? = some ((SL P).getD s (0, 0, 0)) := fun s hs => by
    rw [List.getD_eq_getElem?_getD, List.getElem?_eq_getElem hs]; rfl
  refine lp_ex (b := b_m_most_81 v1) (I := fun x n => ∃ s, s ≤ (SL P).length ∧ n = (SL P).length - s ∧ RGB x.1 (rs P s) ∧ x.2 = mv A P s ∧ (1 ≤ s → ∀ j, j < 3 → gI x.1 83 j = oI (gt3 (rg P (fm A P s)) j)) ∧ (∀ c j, ¬ (c = 81 ∨ c = 83) → gI x.1 c j = gI σ c j) ∧ x.1.2 = σ.2) (G := fun o => o.2 = mv A P (SL P).length ∧ (∀ j, j < 3 → gI o.1 83 j = oI (gt3 (rg P (fm A P (SL P).length)) j)) ∧ (∀ c j, ¬ (c = 81 ∨ c = 83) → gI o.1 c j = gI σ c j) ∧ o.1.2 = σ.2) (fun x n hx => ?_) 100000 (SL P).length (σ, -1) (by omega) ⟨0, by omega, by omega, H0, rfl, fun h => by omega, fun _ _ _ => rfl, rfl⟩
  obtain ⟨ρ, m⟩ := x
  obtain ⟨s, s1, s2, i1, hm, i2, i3, i4⟩ := hx
  have hm : m = mv A P s := hm
  subst hm
  have i1 : RGB ρ (rs P s) := i1
  have i2 : 1 ≤ s → ∀ j, j < 3 → gI ρ 83 j = oI (gt3 (rg P (fm A P s)) j) := i2
  have i3 : ∀ c j, ¬ (c = 81 ∨ c = 83) → gI ρ c j = gI σ c j := i3
  have i4 : ρ.2 = σ.2 := i4
  have e1 : gI ρ 72 1 = nI P := (i3 _ _ (by omega)).trans h1
  obtain ⟨κ, k1, k2, k3, k4⟩ := all_next hP e1 s1 i1
  by_cases c : s < (SL P).length
  · rw [if_pos c] at k1
    left
    have he := hget s c
    have hk2 : RGB κ (rg P s) := by have := k2 c; unfold rs at this; rw [if_neg (by omega), Nat.add_sub_cancel] at this; exact this
    have hk2' : RGB κ (rs P (s + 1)) := k2 c
    obtain ⟨w, hw⟩ := m_sum (v1 := v1) (v2 := mv A P s) hP ((k3 _ _ (by omega)).trans e1) he hk2 (fun t ht h3 => (k3 _ _ (by omega)).trans ((i3 _ _ (by omega)).trans (hd t ht h3)))
    have hbs := hb s _ he
    have hb0 : b_m_most_81 v1 (ρ, mv A P s) = if nI (ds A ((SL P).getD s (0, 0, 0))) ≤ mv A P s then some (.inl (κ, mv A P s)) else (lp (b_m_most_135 v1 (nI (ds A ((SL P).getD s (0, 0, 0))))) 100000 (κ, 0)).bind fun o32 => some (.inl (o32.1, nI (ds A ((SL P).getD s (0, 0, 0))))) := by
      unfold b_m_most_81
      show ((s_m_nextAll ρ).bind fun q17 => if q17.1 = 0 then some (Sum.inr (q17.2, mv A P s)) else (lp (b_m_most_93 q17.2 v1 (mv A P s)) 100000 (0, 0)).bind fun o25 => if o25.1 ≤ mv A P s then some (Sum.inl (q17.2, mv A P s)) else (lp (b_m_most_135 v1 o25.1) 100000 (q17.2, 0)).bind fun o32 => some (Sum.inl (o32.1, o25.1))) = _
      rw [k1, Option.bind_some, if_neg (show ¬ (1 : Int32) = 0 by decide), hw, Option.bind_some]
    have hfm : fm A P (s + 1) = if s = 0 then 0 else if ds A ((SL P).getD s (0, 0, 0)) ≤ ds A ((SL P).getD (fm A P s) (0, 0, 0)) then fm A P s else s := rfl
    have htake : ¬ nI (ds A ((SL P).getD s (0, 0, 0))) ≤ mv A P s → fm A P (s + 1) = s → ∃ y m, b_m_most_81 v1 (ρ, mv A P s) = some (.inl y) ∧ m < n ∧ ∃ s, s ≤ (SL P).length ∧ m = (SL P).length - s ∧ RGB y.1 (rs P s) ∧ y.2 = mv A P s ∧ (1 ≤ s → ∀ j, j < 3 → gI y.1 83 j = oI (gt3 (rg P (fm A P s)) j)) ∧ (∀ c j, ¬ (c = 81 ∨ c = 83) → gI y.1 c j = gI σ c j) ∧ y.1.2 = σ.2 := fun hn hf => by
      obtain ⟨o, o1, o2, o3, o4⟩ := m_copy (ρ := κ) (v1 := v1) (v2 := nI (ds A ((SL P).getD s (0, 0, 0))))
      rw [if_neg hn, o1, Option.bind_some] at hb0
      refine ⟨_, (SL P).length - (s + 1), hb0, by omega, s + 1, c, rfl, ⟨fun j hj => by show gI o.1 81 j = _; rw [o3 _ _ (by omega)]; exact hk2'.1 j hj, hk2'.2⟩, ?_, fun _ j hj => ?_, fun c j q => ?_, o4.trans (k4.trans i4)⟩
      · show nI _ = mv A P (s + 1)
        unfold mv; rw [if_neg (by omega), hf]
      · show gI o.1 83 j = _
        rw [o2 j hj, hf]; exact hk2.1 j hj
      · show gI o.1 c j = _
        rw [o3 _ _ (by omega), k3 _ _ (by omega)]; exact i3 c j q
    by_cases s0 : s = 0
    · exact htake (by
        unfold mv; rw [if_pos s0, e32 (nI_toInt (by omega)) (show (-1 : Int32).toInt = -1 from rfl)]; omega) (by rw [hfm, if_pos s0, s0])
    · have hmv : mv A P s = nI (ds A ((SL P).getD (fm A P s) (0, 0, 0))) := by unfold mv; rw [if_neg s0]
      have hfl := fm_lt (A := A) (P := P) s (by omega)
      have hbf := hb _ _ (hget (fm A P s) (by omega))
      by_cases d : ds A ((SL P).getD s (0, 0, 0)) ≤ ds A ((SL P).getD (fm A P s) (0, 0, 0))
      · have hf : fm A P (s + 1) = fm A P s := by rw [hfm, if_neg s0, if_pos d]
        rw [if_pos (by rw [hmv, nI_leI (by omega) (by omega)]; exact d)] at hb0
        refine ⟨_, (SL P).length - (s + 1), hb0, by omega, s + 1, c, rfl, hk2', ?_, fun _ j hj => ?_, fun c j q => ?_, k4.trans i4⟩
        · show mv A P s = mv A P (s + 1)
          unfold mv; rw [if_neg s0, if_neg (by omega), hf]
        · show gI κ 83 j = _
          rw [k3 _ _ (by omega), hf]; exact i2 (by omega) j hj
        · exact (k3 c j (by omega)).trans (i3 c j q)
      · exact htake (by rw [hmv, nI_leI (by omega) (by omega)]; exact d) (by rw [hfm, if_neg s0, if_neg d])
  · rw [if_neg c] at k1
    have hs : s = (SL P).length := by omega
    refine Or.inr ⟨(κ, mv A P s), ?_, by rw [← hs], fun j hj => ?_, fun c j q => (k3 c j (by omega)).trans (i3 c j q), k4.trans i4⟩
    · unfold b_m_most_81
      show ((s_m_nextAll ρ).bind fun q17 => if q17.1 = 0 then some (Sum.inr (q17.2, mv A P s)) else _) = _
      rw [k1, Option.bind_some, if_pos (show (0 : Int32) = 0 from rfl)]
    · show gI κ 83 j = _
      rw [k3 _ _ (by omega), ← hs]; exact i2 (by omega) j hj
theorem m_three {ρ : Sg} {P s p : Nat} {e : Nat × Nat × Nat} {v2 : Int32} (hP : P = 3 ∨ P = 6 ∨ P = 9) (h1 : gI ρ 72 1 = nI P) (he : (SL P)[s]? = some e) (H : ∀ j, j < 3 → gI ρ 83 j = oI (gt3 (rg P s) j)) (hp : p < P) : ∃ w, lp (b_m_most_169 ρ (nI p) v2) 100000 (-1, 0) = some (tl3 P e p, w) := by
  have hd3 : nI P / 3 = nI (P / 3) := by rcases hP with rfl | rfl | rfl <;> rfl
  have hpp : s_m_people ρ = some (nI P) := by rw [s_m_people, va_cl1, h1]
  have hst : ∀ (f : Int32) (k t : Nat), k < P / 3 → gI ρ 83 k = nI t → b_m_most_169 ρ (nI p) v2 (f, nI k) = some (.inl (fd (nI p) t f, nI (k + 1))) := fun f k t hk h83 => by
    unfold b_m_most_169
    show ((s_m_people ρ).bind fun q34 => if q34 / 3 ≤ nI k then _ else (if nI p = (-1) then _ else (if inB (nI k) 3 = true then (if ((gI ρ 83 (Int32.toNatClampNeg (nI k)) >>> (nI p &&& 31)) &&& 1) = 1 then (if inB (nI k) 3 = true then some (Sum.inl (gI ρ 83 (Int32.toNatClampNeg (nI k)), nI k + 1)) else none) else some (Sum.inl (f, nI k + 1))) else none))) = _
    rw [hpp, Option.bind_some, hd3, if_neg (by rw [nI_leI (by omega) (by omega)]; omega), if_neg (nI_nm (by omega)), if_pos (inB_nI (by omega) (by omega)), if_pos (inB_nI (by omega) (by omega)), nI_clamp (by omega), h83, nI_1]
    unfold fd
    by_cases c : ((nI t >>> (nI p &&& 31)) &&& 1) = 1
    · rw [if_pos c, if_pos c]
    · rw [if_neg c, if_neg c]
  have hE : ∀ f k, k = P / 3 → b_m_most_169 ρ (nI p) v2 (f, nI k) = some (.inr (f, nI k)) := fun f k hk => by
    unfold b_m_most_169
    show ((s_m_people ρ).bind fun q34 => if q34 / 3 ≤ nI k then some (Sum.inr (f, nI k)) else _) = _
    rw [hpp, Option.bind_some, hd3, if_pos (by rw [nI_leI (by omega) (by omega)]; omega)]
  rw [rg_of he] at H
  unfold tl3
  rcases hP with rfl | rfl | rfl
  · rw [if_pos rfl] at H ⊢
    exact ⟨_, (lp_step (hst _ 0 e.1 (by omega) (H 0 (by omega)))).trans (lp_end (n := 99998) (hE _ 1 rfl))⟩
  · rw [if_neg (by omega), if_pos rfl] at H ⊢
    exact ⟨_, (lp_step (hst _ 0 e.1 (by omega) (H 0 (by omega)))).trans ((lp_step (hst _ 1 e.2.1 (by omega) (H 1 (by omega)))).trans (lp_end (n := 99997) (hE _ 2 rfl)))⟩
  · rw [if_neg (by omega), if_neg (by omega)] at H ⊢
    exact ⟨_, (lp_step (hst _ 0 e.1 (by omega) (H 0 (by omega)))).trans ((lp_step (hst _ 1 e.2.1 (by omega) (H 1 (by omega)))).trans ((lp_step (hst _ 2 e.2.2 (by omega) (H 2 (by omega)))).trans (lp_end (n := 99996) (hE _ 3 rfl))))⟩
theorem al_most {σ : Sg} (a : Int32) (hR : R σ) : Alike R σ (fun τ => s_x_most τ a) (fun τ => s_m_most τ a) := by
  obtain ⟨⟨A, hM, ⟨x1, x2, x3, x4⟩, w1, w2, w3, w4⟩, -, -, -, -, k13, k14, -, -, k15⟩ := id hR
  have e1 : gI σ 19 6 = nI (A 1) := x1.2.1
  have m1 : gI σ 72 1 = nI (A 1) := M0 hM (by omega)
  have n9 := w1.2.2.1
  have hpw := pow_le (A 1) (by omega)
  have hx : s_x_most σ a = if a = -1 then j_x_most_26 σ a else (if (if 0 ≤ a.toInt ∧ a.toInt ≤ (A 1 : Int) - 1 then (1 : Int32) else 0) = 0 then s_x_refusedBad σ (-10) else j_x_most_26 σ a) := by
    rw [s_x_most, x_hasPerson a e1 (by omega), Option.bind_some, bEta]
  have hm : ∀ ρ, gI ρ 72 1 = nI (A 1) → s_m_most ρ a = if a = -1 then j_m_most_20 ρ a else (if (if 0 ≤ a.toInt ∧ a.toInt ≤ (A 1 : Int) - 1 then (1 : Int32) else 0) = 0 then s_m_bad ρ (-10) else j_m_most_20 ρ a) := fun ρ hρ => by
    rw [s_m_most, m_isOne a hρ (by omega), Option.bind_some, bEta]
  by_cases ha : a = -1 ∨ 0 ≤ a.toInt ∧ a.toInt ≤ (A 1 : Int) - 1
  rotate_left
  · refine al_bad (-10) hR ?_ ?_
    · show s_x_most σ a = _
      rw [hx, if_neg (fun q => ha (Or.inl q)), if_neg (fun q => ha (Or.inr q)), if_pos rfl]
    · show s_m_most _ a = _
      rw [hm _ (by rw [gI_ne (by omega)]; exact m1), if_neg (fun q => ha (Or.inl q)), if_neg (fun q => ha (Or.inr q)), if_pos rfl]
  have hx2 : s_x_most σ a = j_x_most_26 σ a := by
    rw [hx]
    by_cases c : a = -1
    · rw [if_pos c]
    · rw [if_neg c, if_pos (ha.resolve_left c), if_neg (by decide)]
  have hm2 : ∀ ρ, gI ρ 72 1 = nI (A 1) → s_m_most ρ a = j_m_most_20 ρ a := fun ρ hρ => by
    rw [hm ρ hρ]
    by_cases c : a = -1
    · rw [if_pos c]
    · rw [if_neg c, if_pos (ha.resolve_left c), if_neg (by decide)]
  by_cases hP : A 1 = 3 ∨ A 1 = 6 ∨ A 1 = 9
  rotate_left
  · refine al_no (-20) hR ?_ ?_
    · show s_x_most σ a = _
      rw [hx2]; unfold j_x_most_26; rw [x_all3 e1 n9, Option.bind_some, if_neg hP, if_pos rfl, bEta]
    · show s_m_most _ a = _
      rw [hm2 _ (by rw [gI_ne (by omega)]; exact m1)]; unfold j_m_most_20; rw [m_all3 (by rw [gI_ne (by omega)]; exact m1) n9, Option.bind_some, if_neg hP, if_pos rfl, bEta]
  obtain ⟨n280, n1⟩ := SL_280 hP
  have hget : ∀ s, s < (SL (A 1)).length → (SL (A 1))[s]? = some ((SL (A 1)).getD s (0, 0, 0)) := fun s hs => by
    rw [List.getD_eq_getElem?_getD, List.getElem?_eq_getElem hs]; rfl
  obtain ⟨τ1, τ, t1, t2, t3, t4, t5, t6⟩ := x_DN x1 w1 hP k13 k14 k15
  have hfl := fm_lt (A := A) (P := A 1) (SL (A 1)).length n1
  have he := hget _ hfl
  generalize hf : fm A (A 1) (SL (A 1)).length = f at hfl he
  generalize hee : (SL (A 1)).getD f (0, 0, 0) = e at he
  have hmem := List.mem_of_getElem? he
  obtain ⟨l1, l2, l3⟩ := SL_b hP hmem
  have hx3 : s_x_most σ a = if a = -1 then some (nI (ds A e), τ) else (s_Splits_threeOf τ (nI f) a).bind fun q8 => some (q8, τ) := by
    rw [hx2]; unfold j_x_most_26
    rw [x_all3 e1 n9, Option.bind_some, if_pos hP, if_neg (by decide), e1, t1, Option.bind_some, t2, Option.bind_some, x_first hP t3, Option.bind_some, hf, (t3.2 f e he).1]; rfl
  -- the reference
  have m1τ : gI τ 72 1 = nI (A 1) := (t4 _ _ (by omega)).trans m1
  obtain ⟨o, o1, o2, o3, o4⟩ := m_days (σ := τ) (v1 := a) (MS_cong (fun j => t4 _ _ (by omega)) hM) w1
  obtain ⟨ρ, r1, r2, r3, r4⟩ := m_none (σ := o.1)
  have m1ρ : gI ρ 72 1 = nI (A 1) := (r3 _ _ (by omega)).trans ((o3 _ _ (by omega)).trans m1τ)
  obtain ⟨u, u1, u2, u3, u4, u5⟩ := m_best (σ := ρ) (v1 := a) hP m1ρ r2 (fun t ht h3 => (r3 _ _ (by omega)).trans (o2 t ht h3)) (fun s e h => (t3.2 s e h).2)
  have m1u : gI u.1 72 1 = nI (A 1) := (u4 _ _ (by omega)).trans m1ρ
  have hmv : u.2 = nI (ds A e) := by rw [u2]; unfold mv; rw [if_neg (by omega), hf, hee]
  rw [hf] at u3
  have hRu : R u.1 := by
    have hz : ∀ c j, ¬ (c = 12 ∨ c = 15 ∧ ¬ j = 0 ∨ c = 16 ∨ c = 31 ∨ 33 ≤ c ∧ c ≤ 37 ∨ 44 ≤ c ∧ c ≤ 46 ∨ c = 71 ∧ (j = 9 ∨ j = 16) ∨ 76 ≤ c ∧ c ≤ 83) → gI u.1 c j = gI σ c j := fun c j q => (u4 c j (by omega)).trans ((r3 c j (by omega)).trans ((o3 c j (by omega)).trans (t4 c j (by omega))))
    have hL : gL u.1 = gL τ := by show u.1.2.1 = τ.2.1; rw [u5, r4, o4]
    have hr : gR u.1 = gR τ := by show u.1.2.2 = τ.2.2; rw [u5, r4, o4]
    exact R_any hR hz (fun c j q => by rw [hL]; exact t5 c j (by omega)) (hr.trans t6)
  have hm3 : s_m_most τ a = (lp (b_m_most_169 u.1 a u.2) 100000 ((-1), 0)).bind fun o43 => j_m_most_218 u.1 a u.2 o43.1 := by
    rw [hm2 τ m1τ]; unfold j_m_most_20
    rw [m_all3 m1τ n9, Option.bind_some, if_pos hP, if_neg (by decide), o1, Option.bind_some, r1, Option.bind_some, u1, Option.bind_some]
  by_cases c : a = -1
  · subst c
    rw [if_pos rfl] at hx3
    refine ⟨_, τ, u.1, hx3, ?_, hRu⟩
    show s_m_most τ (-1) = _
    have hE : b_m_most_169 u.1 (-1) u.2 (-1, 0) = some (.inr (-1, 0)) := by
      have hd3 : nI (A 1) / 3 = nI (A 1 / 3) := by rcases hP with h | h | h <;> rw [h] <;> rfl
      unfold b_m_most_169
      rw [s_m_people, Option.bind_some, va_cl1, m1u, hd3, if_neg (by show ¬ nI (A 1 / 3) ≤ nI 0; rw [nI_leI (by omega) (by omega)]; omega), if_pos rfl]
    rw [hm3, lp_end (n := 99999) hE, Option.bind_some]
    unfold j_m_most_218
    rw [if_pos rfl, hmv]
  · obtain ⟨p, p1, rfl⟩ := below_nI (n := A 1) (by omega) (ha.resolve_left c)
    rw [if_neg c, x_threeOf t3.1 n280 he ⟨by omega, by omega, by omega⟩ (by omega), Option.bind_some] at hx3
    refine ⟨_, τ, u.1, hx3, ?_, hRu⟩
    show s_m_most τ (nI p) = _
    obtain ⟨w, hw⟩ := m_three (v2 := u.2) hP m1u he u3 p1
    rw [hm3, hw, Option.bind_some]
    unfold j_m_most_218
    rw [if_neg c, tw_P hP hmem p1]
