def RGB (σ : Sg) (r : Option Nat × Option Nat × Option Nat) : Prop := (∀ j, j < 3 → gI σ 81 j = oI (gt3 r j)) ∧ ∀ j t, j < 3 → gt3 r j = some t → t < 512
theorem gt_st {r : Option Nat × Option Nat × Option Nat} {k j : Nat} {v : Option Nat} (hk : k < 3) (hj : j < 3) : gt3 (st3 r k v) j = if j = k then v else gt3 r j := by
  have k3 : k = 0 ∨ k = 1 ∨ k = 2 := by omega
  have j3 : j = 0 ∨ j = 1 ∨ j = 2 := by omega
  rcases k3 with rfl | rfl | rfl <;> rcases j3 with rfl | rfl | rfl <;> rfl
theorem RGB_p {σ : Sg} {r : Option Nat × Option Nat × Option Nat} {k : Nat} {v : Option Nat} (hk : k < 3) (hv : ∀ t, v = some t → t < 512) (H : RGB σ r) : RGB (pI σ 81 k (oI v)) (st3 r k v) := by
  refine ⟨fun j hj => ?_, fun j t hj ht => ?_⟩
  · rw [gt_st hk hj]
    by_cases c : j = k
    · subst c; rw [gI_eq, if_pos rfl]
    · rw [gI_ne (by omega), if_neg c]; exact H.1 j hj
  · rw [gt_st hk hj] at ht
    by_cases c : j = k
    · rw [if_pos c] at ht; exact hv t ht
    · rw [if_neg c] at ht; exact H.2 j t hj ht
theorem lft_lp {σ : Sg} {r : Option Nat × Option Nat × Option Nat} {al k : Nat} {v1 v2 : Int32} (hal : al < 512) (hk : gok al r k = true) (H : RGB σ r) : ∃ w, lp (b_m_nextAll_59 σ v1 v2 (nI k)) 100000 (nI al, 0) = some (nI (lft al r k), w) ∧ lft al r k < 512 ∧ lft al r k ≠ 0 ∧ k < 3 := by
  have hstep : ∀ (l j t : Nat), j < 3 → j < k → k < 3 → gt3 r j = some t → b_m_nextAll_59 σ v1 v2 (nI k) (nI l, nI j) = some (.inl (nI (dif l t), nI (j + 1))) := fun l j t hj hjk hk3 ht => by
    unfold b_m_nextAll_59
    show (if nI k ≤ nI j then _ else (if inB (nI j) 3 = true then some (Sum.inl (nI l &&& (gI σ 81 (Int32.toNatClampNeg (nI j)) ^^^ (-1)), nI j + 1)) else none)) = _
    rw [if_neg (by rw [nI_leI (by omega) (by omega)]; omega), if_pos (inB_nI (by omega) (by omega)), nI_clamp (by omega), H.1 j hj, ht, nI_1]
    show some (Sum.inl (nI l &&& (nI t ^^^ (-1)), _)) = _
    rw [nI_dif]
  have hend : ∀ (l : Nat), k < 3 → b_m_nextAll_59 σ v1 v2 (nI k) (nI l, nI k) = some (.inr (nI l, nI k)) := fun l hk3 => by
    unfold b_m_nextAll_59
    show (if nI k ≤ nI k then some (Sum.inr (nI l, nI k)) else _) = _
    rw [if_pos (by rw [nI_leI (by omega) (by omega)]; omega)]
  unfold gok at hk
  rw [Bool.and_eq_true, Bool.and_eq_true, Bool.and_eq_true] at hk
  obtain ⟨⟨a1, a2⟩, a3, a4⟩ := hk
  have k3 : k < 3 := by have := Nat.le_of_ble_eq_true a1; omega
  have hne : lft al r k ≠ 0 := fun q => by rw [q] at a2; exact absurd a2 (by decide)
  have hlt : lft al r k < 512 := by
    unfold lft
    by_cases c0 : k = 0
    · rw [if_pos c0]; exact hal
    · rw [if_neg c0]
      by_cases c1 : k = 1
      · rw [if_pos c1]; exact dif_lt hal
      · rw [if_neg c1]; exact dif_lt (dif_lt hal)
  have h3 : k = 0 ∨ k = 1 ∨ k = 2 := by omega
  rcases h3 with rfl | rfl | rfl
  · exact ⟨nI 0, lp_end (n := 99999) (hend al (by omega)), hlt, hne, k3⟩
  · cases h1 : r.1 with
    | none => rw [h1] at a3; exact absurd a3 (by decide)
    | some t =>
      refine ⟨nI 1, ?_, hlt, hne, k3⟩
      have e : lft al r 1 = dif al t := by unfold lft; rw [if_neg (by omega), if_pos rfl, h1]; rfl
      rw [e]
      exact (lp_step (hstep al 0 t (by omega) (by omega) (by omega) h1)).trans (lp_end (n := 99998) (hend _ (by omega)))
  · cases h1 : r.1 with
    | none => rw [h1] at a3; exact absurd a3 (by decide)
    | some t =>
      cases h2 : r.2.1 with
      | none => rw [h2] at a4; exact absurd a4 (by decide)
      | some u =>
        refine ⟨nI 2, ?_, hlt, hne, k3⟩
        have e : lft al r 2 = dif (dif al t) u := by unfold lft; rw [if_neg (by omega), if_neg (by omega), h1, h2]; rfl
        rw [e]
        exact (lp_step (hstep al 0 t (by omega) (by omega) (by omega) h1)).trans ((lp_step (hstep _ 1 u (by omega) (by omega) (by omega) h2)).trans (lp_end (n := 99997) (hend _ (by omega))))
def F81 (σ τ : Sg) : Prop := (∀ c j, ¬ c = 81 → gI τ c j = gI σ c j) ∧ τ.2 = σ.2
def adR (M k : Nat) (w : Nat × Option Nat × Option Nat × Option Nat) (ρ : Sg) : Option ((Sg × Int32) ⊕ ((Sg × Int32) ⊕ (Int32 × Sg))) :=
  if w.1 = 0 then some (.inl (ρ, -1)) else if w.1 = 1 then some (.inr (.inr (1, ρ))) else some (.inl (ρ, nI (w.1 - 2)))
theorem next_step {ρ : Sg} {r : Option Nat × Option Nat × Option Nat} {al M k : Nat} (hal : al < 512) (hM : M ≤ 3) (hk : gok al r k = true) (hkM : k < M) (H : RGB ρ r) : ∃ ρ', F81 ρ ρ' ∧ RGB ρ' (ad1 al M k r).2 ∧ b_m_nextAll_48 (nI al) (nI M) (ρ, nI k) = adR M k (ad1 al M k r) ρ' ∧ (2 ≤ (ad1 al M k r).1 → (ad1 al M k r).1 - 2 < M) := by
  obtain ⟨w, l1, l2, l3, k3⟩ := lft_lp (v1 := nI al) (v2 := nI M) hal hk H
  have hfr : frm (gt3 r k) < 1000 := by
    cases h : gt3 r k with
    | none => show 0 < 1000; omega
    | some t => have := H.2 k t k3 h; show t + 1 < 1000; omega
  have hn := m_next l2 l3 hfr
  have h48 : b_m_nextAll_48 (nI al) (nI M) (ρ, nI k) = j_m_nextAll_110i48 (nI al) (nI M) ρ (nI k) (nI (lft al r k)) (nI (frm (gt3 r k))) := by
    unfold b_m_nextAll_48
    show (if nI k < 0 then _ else (lp (b_m_nextAll_59 ρ (nI al) (nI M) (nI k)) 100000 (nI al, 0)).bind fun o12 => (if inB (nI k) 3 = true then (if gI ρ 81 (Int32.toNatClampNeg (nI k)) = -1 then j_m_nextAll_110i48 (nI al) (nI M) ρ (nI k) o12.1 0 else (if inB (nI k) 3 = true then j_m_nextAll_110i48 (nI al) (nI M) ρ (nI k) o12.1 (gI ρ 81 (Int32.toNatClampNeg (nI k)) + 1) else none)) else none)) = _
    rw [if_neg (by show ¬ nI k < nI 0; rw [nI_ltI (by omega) (by omega)]; omega), l1, Option.bind_some, if_pos (inB_nI (by omega) (by omega)), if_pos (inB_nI (by omega) (by omega)), nI_clamp (by omega), H.1 k k3]
    cases h : gt3 r k with
    | none => rw [if_pos (show oI none = -1 from rfl)]; rfl
    | some t =>
      have := H.2 k t k3 h
      rw [if_neg (show ¬ oI (some t) = -1 from nI_nm (by omega))]
      show j_m_nextAll_110i48 _ _ _ _ _ (nI t + 1) = j_m_nextAll_110i48 _ _ _ _ _ (nI (t + 1))
      rw [nI_1]
  rw [h48]
  unfold j_m_nextAll_110i48
  rw [hn, Option.bind_some, if_pos (inB_nI (by omega) (by omega)), lt_eq, if_pos (inB_nI (by omega) (by omega)), nI_clamp (by omega)]
  unfold ad1
  cases hq : fst1 (okT (lft al r k)) (frm (gt3 r k)) (lft al r k + 1 - frm (gt3 r k)) with
  | none =>
    have HH := RGB_p (v := none) k3 (fun t h => by cases h) H
    rw [gI_eq, if_pos (show oI none = -1 from rfl), lt_eq]
    by_cases c : k = 0
    · subst c
      refine ⟨pI ρ 81 0 (oI none), ⟨fun c j q => gI_ne (by omega), rfl⟩, HH, rfl, fun h => ?_⟩
      exact absurd h (by show ¬ 2 ≤ 0; omega)
    · obtain ⟨m, rfl⟩ : ∃ m, k = m + 1 := ⟨k - 1, by omega⟩
      refine ⟨pI ρ 81 (m + 1) (oI none), ⟨fun c j q => gI_ne (by omega), rfl⟩, ?_, ?_, ?_⟩
      · show RGB _ (if m + 1 = 0 then (0, st3 r (m + 1) none) else (m + 1 + 1, st3 r (m + 1) none)).2
        rw [if_neg c]; exact HH
      · show _ = adR M (m + 1) (if m + 1 = 0 then (0, st3 r (m + 1) none) else (m + 1 + 1, st3 r (m + 1) none)) _
        rw [if_neg c]
        unfold adR
        rw [if_neg (show ¬ m + 1 + 1 = 0 by omega), if_neg (show ¬ m + 1 + 1 = 1 by omega), show nI (m + 1) + (-1) = nI m from by
          rw [← Int32.sub_eq_add_neg]; exact nI_pred m]; rfl
      · show 2 ≤ (if m + 1 = 0 then (0, st3 r (m + 1) none) else (m + 1 + 1, st3 r (m + 1) none)).1 → (if m + 1 = 0 then (0, st3 r (m + 1) none) else (m + 1 + 1, st3 r (m + 1) none)).1 - 2 < M
        rw [if_neg c]; intro _; show m + 1 + 1 - 2 < M; omega
  | some t =>
    have ht := fst1_lt _ _ _ hq
    have t5 : t < 512 := by omega
    have HH := RGB_p (v := some t) k3 (fun u h => by cases h; exact t5) H
    obtain ⟨m, rfl⟩ : ∃ m, M = m + 1 := ⟨M - 1, by omega⟩
    rw [gI_eq, if_neg (show ¬ oI (some t) = -1 from nI_nm (by omega)), nI_pred, lt_eq, nI_1]
    by_cases c : k + 1 = m + 1
    · rw [if_pos (show nI k = nI m by rw [show k = m by omega])]
      refine ⟨pI ρ 81 k (oI (some t)), ⟨fun c j q => gI_ne (by omega), rfl⟩, ?_, ?_, ?_⟩
      · show RGB _ (if k + 1 = m + 1 then (1, st3 r k (some t)) else (k + 3, st3 (st3 r k (some t)) (k + 1) none)).2
        rw [if_pos c]; exact HH
      · show _ = adR (m + 1) k (if k + 1 = m + 1 then (1, st3 r k (some t)) else (k + 3, st3 (st3 r k (some t)) (k + 1) none)) _
        rw [if_pos c]; rfl
      · show 2 ≤ (if k + 1 = m + 1 then (1, st3 r k (some t)) else (k + 3, st3 (st3 r k (some t)) (k + 1) none)).1 → (if k + 1 = m + 1 then (1, st3 r k (some t)) else (k + 3, st3 (st3 r k (some t)) (k + 1) none)).1 - 2 < m + 1
        rw [if_pos c]; intro h; exact absurd h (by show ¬ 2 ≤ 1; omega)
    · rw [if_neg (show ¬ nI k = nI m by rw [nI_eq (by omega) (by omega)]; omega), if_pos (inB_nI (by omega) (by omega)), lt_eq, nI_clamp (by omega)]
      have H2 := RGB_p (k := k + 1) (v := none) (by omega) (fun u h => by cases h) HH
      refine ⟨pI (pI ρ 81 k (oI (some t))) 81 (k + 1) (oI none), ⟨fun c j q => by rw [gI_ne (by omega), gI_ne (by omega)], rfl⟩, ?_, ?_, ?_⟩
      · show RGB _ (if k + 1 = m + 1 then (1, st3 r k (some t)) else (k + 3, st3 (st3 r k (some t)) (k + 1) none)).2
        rw [if_neg c]; exact H2
      · show _ = adR (m + 1) k (if k + 1 = m + 1 then (1, st3 r k (some t)) else (k + 3, st3 (st3 r k (some t)) (k + 1) none)) _
        rw [if_neg c]
        unfold adR
        rw [if_neg (show ¬ k + 3 = 0 by omega), if_neg (show ¬ k + 3 = 1 by omega)]; rfl
      · show 2 ≤ (if k + 1 = m + 1 then (1, st3 r k (some t)) else (k + 3, st3 (st3 r k (some t)) (k + 1) none)).1 → (if k + 1 = m + 1 then (1, st3 r k (some t)) else (k + 3, st3 (st3 r k (some t)) (k + 1) none)).1 - 2 < m + 1
        rw [if_neg c]; intro _; show k + 3 - 2 < m + 1; omega
theorem adv_s {al M n k : Nat} {r : Option Nat × Option Nat × Option Nat} (h : gok al r k = true) : adv al M (n + 1) k r = if (ad1 al M k r).1 ≤ 1 then ad1 al M k r else adv al M n ((ad1 al M k r).1 - 2) (ad1 al M k r).2 := by
  rw [adv, if_pos h]
  obtain ⟨t, r'⟩ := ad1 al M k r
  match t with
  | 0 => rfl
  | 1 => rfl
  | j + 2 => rw [if_neg (show ¬ j + 2 ≤ 1 by omega)]; rfl
theorem next_adv {al M : Nat} (hal : al < 512) (hM : M ≤ 3) : ∀ (n k F : Nat) (r : Option Nat × Option Nat × Option Nat) (ρ : Sg), n + 1 < F → k < M → RGB ρ r → (adv al M n k r).1 ≤ 1 → ∃ ρ', F81 ρ ρ' ∧ RGB ρ' (adv al M n k r).2 ∧ lp (b_m_nextAll_48 (nI al) (nI M)) F (ρ, nI k) = some (if (adv al M n k r).1 = 1 then .inr (1, ρ') else .inl (ρ', -1)) := by
  intro n
  induction n with
  | zero => intro k F r ρ _ _ _ h; exact absurd h (by show ¬ 2 ≤ 1; omega)
  | succ n ih =>
    intro k F r ρ hF hk H h
    by_cases g : gok al r k = true
    rotate_left
    · rw [adv, if_neg g] at h; exact absurd h (by show ¬ 2 ≤ 1; omega)
    obtain ⟨f, rfl⟩ : ∃ f, F = f + 1 := ⟨F - 1, by omega⟩
    obtain ⟨ρ1, a1, a2, a3, a4⟩ := next_step hal hM g hk H
    rw [adv_s g] at h ⊢
    generalize ad1 al M k r = w at *
    by_cases c : w.1 ≤ 1
    · rw [if_pos c]
      refine ⟨ρ1, a1, a2, ?_⟩
      unfold adR at a3
      by_cases d : w.1 = 0
      · rw [if_pos d] at a3
        rw [if_neg (by omega), lp_step a3]
        obtain ⟨f, rfl⟩ : ∃ g, f = g + 1 := ⟨f - 1, by omega⟩
        refine lp_end ?_
        unfold b_m_nextAll_48
        rw [if_pos (show (-1 : Int32) < 0 by decide)]
      · rw [if_neg d, if_pos (by omega)] at a3
        rw [if_pos (by omega), lp_end a3]
    · rw [if_neg c] at h ⊢
      unfold adR at a3
      rw [if_neg (by omega), if_neg (by omega)] at a3
      rw [lp_step a3]
      obtain ⟨ρ2, b1, b2, b3⟩ := ih (w.1 - 2) f w.2 ρ1 (by omega) (a4 (by omega)) a2 h
      exact ⟨ρ2, ⟨fun c j q => (b1.1 c j q).trans (a1.1 c j q), b1.2.trans a1.2⟩, b2, b3⟩
theorem m_none {σ : Sg} : ∃ τ, s_m_noThrees σ = some τ ∧ RGB τ fr3 ∧ F81 σ τ := by
  refine ⟨pI (pI (pI σ 81 0 (-1)) 81 1 (-1)) 81 2 (-1), ?_, ⟨fun j hj => ?_, fun j t hj h => ?_⟩, fun c j q => by rw [gI_ne (by omega), gI_ne (by omega), gI_ne (by omega)], rfl⟩
  · have hs : ∀ (ρ : Sg) (i : Nat), i < 3 → b_m_noThrees_2 (ρ, nI i) = some (.inl (pI ρ 81 i (-1), nI (i + 1))) := fun ρ i hi => by
      unfold b_m_noThrees_2
      rw [if_neg (by show ¬ nI 3 ≤ nI i; rw [nI_leI (by omega) (by omega)]; omega)]
      show (if inB (nI i) 3 = true then some (Sum.inl (pI ρ 81 (Int32.toNatClampNeg (nI i)) (-1), nI i + 1)) else none) = _
      rw [if_pos (inB_nI (by omega) (by omega)), nI_clamp (by omega), nI_1]
    rw [s_m_noThrees, show lp b_m_noThrees_2 100000 (σ, 0) = _ from (lp_step (hs σ 0 (by omega))).trans ((lp_step (hs _ 1 (by omega))).trans ((lp_step (hs _ 2 (by omega))).trans (lp_end (n := 99996) (z := (pI (pI (pI σ 81 0 (-1)) 81 1 (-1)) 81 2 (-1), nI 3)) (by unfold b_m_noThrees_2; rw [if_pos (show (3 : Int32) ≤ nI (2 + 1) by decide)]))))]; rfl
  · have j3 : j = 0 ∨ j = 1 ∨ j = 2 := by omega
    rcases j3 with rfl | rfl | rfl
    · rw [gI_ne (by omega), gI_ne (by omega), gI_eq]; rfl
    · rw [gI_ne (by omega), gI_eq]; rfl
    · rw [gI_eq]; rfl
  · have j3 : j = 0 ∨ j = 1 ∨ j = 2 := by omega
    rcases j3 with rfl | rfl | rfl <;> cases h
theorem m_nextAll {σ : Sg} {P : Nat} {r : Option Nat × Option Nat × Option Nat} (hP : P = 3 ∨ P = 6 ∨ P = 9) (h1 : gI σ 72 1 = nI P) (H : RGB σ r) (ha : (adv (2 ^ P - 1) (P / 3) 6 (if r.1.isSome = true then P / 3 - 1 else 0) r).1 ≤ 1) : ∃ τ, s_m_nextAll σ = some (if (adv (2 ^ P - 1) (P / 3) 6 (if r.1.isSome = true then P / 3 - 1 else 0) r).1 = 1 then 1 else 0, τ) ∧ RGB τ (adv (2 ^ P - 1) (P / 3) 6 (if r.1.isSome = true then P / 3 - 1 else 0) r).2 ∧ F81 σ τ := by
  have hpw := pow_le P (by omega)
  obtain ⟨q, hq⟩ : ∃ q, 2 ^ P = q + 1 := ⟨2 ^ P - 1, by omega⟩
  have hd : nI P / 3 = nI (P / 3) := by rcases hP with rfl | rfl | rfl <;> rfl
  have hp : s_m_people σ = some (nI P) := by rw [s_m_people, va_cl1, h1]
  have hall : ∀ k, k < P / 3 → (adv (2 ^ P - 1) (P / 3) 6 k r).1 ≤ 1 → ∃ τ, j_m_nextAll_43 σ (nI q) (nI (P / 3)) (nI k) = some (if (adv (2 ^ P - 1) (P / 3) 6 k r).1 = 1 then 1 else 0, τ) ∧ RGB τ (adv (2 ^ P - 1) (P / 3) 6 k r).2 ∧ F81 σ τ := fun k hk h => by
    obtain ⟨τ, t1, t2, t3⟩ := next_adv (al := 2 ^ P - 1) (M := P / 3) (by omega) (by omega) 6 k 100000 r σ (by omega) hk H h
    refine ⟨τ, ?_, t2, t1⟩
    unfold j_m_nextAll_43
    rw [show q = 2 ^ P - 1 by omega, t3, Option.bind_some]
    by_cases c : (adv (2 ^ P - 1) (P / 3) 6 k r).1 = 1
    · rw [if_pos c, if_pos c]; rfl
    · rw [if_neg c, if_neg c]; rfl
  rw [s_m_nextAll, hp, Option.bind_some, lt_eq, Option.bind_some, lt_eq, shl_ok P (by omega), hq, nI_pred, hd]
  rw [← hq]
  have e0 := H.1 0 (by omega)
  have e0 : gI σ 81 0 = oI r.1 := e0
  rw [va_cl0, e0]
  unfold j_m_nextAll_31
  cases h : r.1 with
  | none =>
    rw [h] at ha
    rw [if_pos (show oI none = -1 from rfl), if_neg (show ¬ (1 : Int32) = 0 by decide)]
    have := hall 0 (by omega) ha
    exact this
  | some t =>
    rw [h] at ha
    have ht : t < 512 := H.2 0 t (by omega) h
    rw [if_neg (show ¬ oI (some t) = -1 from nI_nm (by omega)), if_pos (show (0 : Int32) = 0 from rfl)]
    obtain ⟨m, hm⟩ : ∃ m, P / 3 = m + 1 := ⟨P / 3 - 1, by omega⟩
    have := hall (P / 3 - 1) (by omega) ha
    rw [show nI (P / 3) - 1 = nI (P / 3 - 1) by rw [hm, nI_pred, Nat.add_sub_cancel]]
    exact this
def rs (P : Nat) (s : Nat) : Option Nat × Option Nat × Option Nat := if s = 0 then fr3 else rg P (s - 1)
/-- the reference goes through all splits in the class's order -/
theorem all_next {σ : Sg} {P s : Nat} (hP : P = 3 ∨ P = 6 ∨ P = 9) (h1 : gI σ 72 1 = nI P) (hs : s ≤ (SL P).length) (H : RGB σ (rs P s)) : ∃ τ, s_m_nextAll σ = some (if s < (SL P).length then 1 else 0, τ) ∧ (s < (SL P).length → RGB τ (rs P (s + 1))) ∧ F81 σ τ := by
  have hkey : (s < (SL P).length → adv (2 ^ P - 1) (P / 3) 6 (if (rs P s).1.isSome = true then P / 3 - 1 else 0) (rs P s) = (1, rs P (s + 1))) ∧ (s = (SL P).length → (adv (2 ^ P - 1) (P / 3) 6 (if (rs P s).1.isSome = true then P / 3 - 1 else 0) (rs P s)).1 = 0) := by
    obtain ⟨l3, l6, l9⟩ := SL_len
    have hrs : ∀ s, s ≠ 0 → (rs P s).1.isSome = true := fun s h => by
      unfold rs; rw [if_neg h]; unfold rg
      obtain ⟨a, b, c⟩ := (SL P).getD (s - 1) (0, 0, 0)
      show (if P = 3 then (some a, (none : Option Nat), (none : Option Nat)) else if P = 6 then (some a, some b, none) else (some a, some b, some c)).1.isSome = true
      by_cases p3 : P = 3
      · rw [if_pos p3]; rfl
      · rw [if_neg p3]
        by_cases p6 : P = 6
        · rw [if_pos p6]; rfl
        · rw [if_neg p6]; rfl
    have h0 : ∀ s, s = 0 → (if (rs P s).1.isSome = true then P / 3 - 1 else 0) = 0 := fun s h => by rw [h]; rfl
    have hS : ∀ s, s ≠ 0 → (if (rs P s).1.isSome = true then P / 3 - 1 else 0) = P / 3 - 1 := fun s h => if_pos (hrs s h)
    have e1 : rs P (s + 1) = rg P s := by unfold rs; rw [if_neg (by omega), Nat.add_sub_cancel]
    rw [e1]
    rcases hP with rfl | rfl | rfl
    · rw [l3] at hs ⊢
      refine ⟨fun h => ?_, fun h => ?_⟩
      · have : s = 0 := by omega
        subst this; rw [h0 0 rfl]; exact adv_3.1
      · subst h; rw [hS 1 (by omega)]; exact adv_3.2
    · rw [l6] at hs ⊢
      refine ⟨fun h => ?_, fun h => ?_⟩
      · by_cases c : s = 0
        · subst c; rw [h0 0 rfl]; exact adv_6.1
        · obtain ⟨m, rfl⟩ : ∃ m, s = m + 1 := ⟨s - 1, by omega⟩
          rw [hS (m + 1) c]; exact adv_6.2.1 m (by omega)
      · subst h; rw [hS 10 (by omega)]; exact adv_6.2.2
    · rw [l9] at hs ⊢
      refine ⟨fun h => ?_, fun h => ?_⟩
      · by_cases c : s = 0
        · subst c; rw [h0 0 rfl]; exact adv_9.1
        · obtain ⟨m, rfl⟩ : ∃ m, s = m + 1 := ⟨s - 1, by omega⟩
          rw [hS (m + 1) c]; exact adv_9.2.1 m (by omega)
      · subst h; rw [hS 280 (by omega)]; exact adv_9.2.2
  by_cases c : s < (SL P).length
  · have k := hkey.1 c
    obtain ⟨τ, t1, t2, t3⟩ := m_nextAll hP h1 H (by rw [k]; show 1 ≤ 1; omega)
    rw [k] at t1 t2
    rw [if_pos c]
    exact ⟨τ, t1, fun _ => t2, t3⟩
  · have k := hkey.2 (by omega)
    obtain ⟨τ, t1, t2, t3⟩ := m_nextAll hP h1 H (by rw [k]; omega)
    rw [k] at t1
    rw [if_neg c]
    exact ⟨τ, t1, fun h => absurd h c, t3⟩
