/-! The reference goes on from a state: by s - r places, in an hour h. -/
def nxq (A w : Nat → Nat) (r h k s : Nat) : Nat := 4096 * mvr (A 0) r (k / 4096) s + stc A w h (mvr (A 0) r (k / 4096) s) (k % 4096)
/-- a town of the reference with a three at hand -/
def M7 (σ : Sg) (A w : Nat → Nat) : Prop := MS σ 72 0 A ∧ ∀ j, j < 3 → gI σ 76 j = nI (w j)
theorem M7_cong {σ τ : Sg} {A w : Nat → Nat} (hz : ∀ c j, (c = 72 ∨ c = 76) → gI τ c j = gI σ c j) (H : M7 σ A w) : M7 τ A w := ⟨MS_cong (fun j => hz _ _ (by omega)) H.1, fun j hj => (hz _ _ (by omega)).trans (H.2 j hj)⟩
theorem m_td {σ : Sg} {n : Nat} (h : n < 4096) : ∃ τ, s_m_takeDone σ (nI n) = some τ ∧ (∀ j, j < 3 → gI τ 77 j = nI (dec n j)) ∧ (∀ c j, ¬ c = 77 → gI τ c j = gI σ c j) ∧ τ.2 = σ.2 := by
  obtain ⟨a, b, c⟩ := tkd_ok h
  refine ⟨pI (pI (pI σ 77 0 (nI n &&& 15)) 77 1 ((nI n >>> ((4 : Int32) &&& 31)) &&& 15)) 77 2 ((nI n >>> ((8 : Int32) &&& 31)) &&& 15), rfl, fun j hj => ?_, fun c j q => ?_, rfl⟩
  · have i3 : j = 0 ∨ j = 1 ∨ j = 2 := by omega
    rcases i3 with rfl | rfl | rfl
    · rw [gI_ne (by omega), gI_ne (by omega), gI_eq, a]
    · rw [gI_ne (by omega), gI_eq, b]
    · rw [gI_eq, c]
  · rw [gI_ne (by omega), gI_ne (by omega), gI_ne (by omega)]
theorem m_dn {σ : Sg} {A w D : Nat → Nat} {at_ : Nat} (H : DM σ A w D at_) : s_m_doneNow σ = some (nI (enc D)) := by
  have h0 := H.2.1 0 (by omega)
  have h1 := H.2.1 1 (by omega)
  have h2 := H.2.1 2 (by omega)
  show some (((gI σ 77 0) ||| ((gI σ 77 1) <<< ((4 : Int32) &&& 31))) ||| ((gI σ 77 2) <<< ((8 : Int32) &&& 31))) = _
  rw [h0.2.1, h1.2.1, h2.2.1, dnn_ok _ h0.2.2 _ h1.2.2 _ h2.2.2]
  rfl
theorem m_step4 {ρ : Sg} {A w : Nat → Nat} {k h r s : Nat} (W : WT A) (hw : ∀ j, j < 3 → w j < A 1) (H : M7 ρ A w) (hk : k < 24576) (ha : k / 4096 < A 0) (hh : h < 10) (hr : r < 3) (hs : s ≤ 2 * r) : ∃ κ, b_m_goOn_4 (nI k) (nI h) (nI r) (ρ, nI s - nI r) = some (.inl (pI κ 80 (nxq A w r h k s) 1, nI (s + 1) - nI r)) ∧ nxq A w r h k s < 24576 ∧ (∀ c j, ¬ (c = 71 ∧ j = 9 ∨ c = 77) → gI κ c j = gI ρ c j) ∧ κ.2 = ρ.2 := by
  obtain ⟨p1, p6, -, -⟩ := id W
  obtain ⟨-, m2, m3⟩ := mv_ok (A 0) (by omega) (k / 4096) ha r hr s (by omega)
  obtain ⟨y1, y2, -⟩ := by_ok r hr s (by omega)
  have hE : ∀ i, i < 3 → A (4 + 11 * w i) ≤ 4 := fun i hi => (W.2.2.2 _ (hw i hi)).2.2.2.1
  unfold nxq
  generalize hto : mvr (A 0) r (k / 4096) s = to at *
  obtain ⟨τ, t1, t2, t3, t4⟩ := m_td (σ := ρ) (n := k % 4096) (by omega)
  have h72 : gI τ 72 0 = nI (A 0) := (t3 _ _ (by omega)).trans (M0 H.1 (by omega))
  have hD : DM (pI τ 71 9 (nI to)) A w (dec (k % 4096)) to := ⟨MS_off (by omega) (MS_cong (fun j => t3 _ _ (by omega)) H.1), fun j hj => ⟨by rw [gI_ne (by omega), t3 _ _ (by omega)]; exact H.2 j hj, by rw [gI_ne (by omega)]; exact t2 j hj, dec_lt⟩, gI_eq⟩
  obtain ⟨κ, c1, c2, c3, c4⟩ := m_do W hw hh m2 hD
  obtain ⟨d1, d2⟩ := stc_dec (h := h) (a := to) (n := k % 4096) hE
  have hn : 4096 * to + stc A w h to (k % 4096) < 24576 := by omega
  refine ⟨κ, ?_, hn, fun c j q => (c3 c j (by omega)).trans ((gI_ne (by omega)).trans (t3 c j (by omega))), c4.trans t4⟩
  unfold b_m_goOn_4
  show (if nI r < nI s - nI r then _ else (s_m_takeDone ρ (nI k - nI k / 4096 * 4096)).bind fun q3 => (s_m_ring q3).bind fun q4 => (s_m_ring q3).bind fun q5 => if ¬ q5 = 0 then (s_m_doAll (pI q3 71 9 ((((nI k / 4096) + (nI s - nI r)) + (2 * q4)) - (((nI k / 4096) + (nI s - nI r)) + (2 * q4)) / q5 * q5)) (nI h)).bind fun q8 => (s_m_doneNow q8.2).bind fun q9 => if inB ((4096 * (gI q8.2 71 9)) + q9) 24576 = true then some (Sum.inl (pI q8.2 80 (Int32.toNatClampNeg ((4096 * (gI q8.2 71 9)) + q9)) (1 &&& 1), (nI s - nI r) + 1)) else none else none) = _
  rw [if_neg (fun q => by have := y2.mp q; omega), rem_nI (by omega), t1, Option.bind_some]
  show (some (gI τ 72 0)).bind (fun q4 => (some (gI τ 72 0)).bind fun q5 => _) = _
  rw [h72, Option.bind_some, Option.bind_some, if_pos (show ¬ nI (A 0) = 0 by rw [show (0 : Int32) = nI 0 from rfl, nI_eq (by omega) (by omega)]; omega), div_nI (by omega), m3, c1, Option.bind_some, m_dn c2, Option.bind_some]
  show (if inB ((4096 * (gI κ 71 9)) + nI (stc A w h to (k % 4096))) 24576 = true then _ else none) = _
  rw [c2.2.2, show (4096 : Int32) * nI to = nI (4096 * to) from (Int32.ofNat_mul 4096 to).symm, nI_add, if_pos (inB_nI hn (by omega)), y1]
  show some (Sum.inl (pI κ 80 (Int32.toNatClampNeg (nI (4096 * to) + nI (stc A w h to (k % 4096)))) 1, nI (s + 1) - nI r)) = _
  rw [nI_add, nI_clamp (by omega)]
