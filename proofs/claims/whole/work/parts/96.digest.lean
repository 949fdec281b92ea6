/-- the digest of a sequence of numbers behind h -/
def hs (f : Nat → Int32) (h : Int64) : Nat → Int64
  | 0 => h
  | n + 1 => 31 * hs f h n + (f n).toInt64
theorem hs_cong {f g : Nat → Int32} {h : Int64} {n : Nat} (e : ∀ k, k < n → f k = g k) : hs f h n = hs g h n := by
  induction n with
  | zero => rfl
  | succ n ih => rw [hs, hs, ih (fun k hk => e k (by omega)), e n (by omega)]
theorem m_sums {σ : Sg} {h : Int64} {a n : Nat} (hn : a + n ≤ 143) : s_m_sums σ h (nI a) (nI n) = some (hs (fun k => gI σ 72 (a + k)) h n) := by
  have := lp_run (b := b_m_sums_6 σ (nI a) (nI n)) (fun k => (hs (fun k => gI σ 72 (a + k)) h k, nI k)) (z := (hs (fun k => gI σ 72 (a + k)) h n, nI n)) n 100000 (by omega) (fun k hk => by
    unfold b_m_sums_6
    rw [if_neg (by show ¬ nI n ≤ nI k; rw [nI_leI (by omega) (by omega)]; omega)]
    show (if inB (nI a + nI k) 143 = true then _ else _) = _
    rw [nI_add, if_pos (inB_nI (by omega) (by omega)), nI_clamp (by omega), hs]
    show some (Sum.inl (_, nI k + 1)) = _
    rw [nI_1]) (by
    unfold b_m_sums_6
    rw [if_pos (by show nI n ≤ nI n; rw [nI_leI (by omega) (by omega)]; omega)])
  rw [s_m_sums]
  rw [show lp (b_m_sums_6 σ (nI a) (nI n)) 100000 (h, 0) = _ from this]; rfl
/-- the digest of the first p of the people behind h -/
def dgP (A : Nat → Nat) (h : Int64) : Nat → Int64
  | 0 => h
  | p + 1 => hs (fun k => nI (A (2 + 11 * p + k))) (dgP A h p) (3 + 2 * A (4 + 11 * p))
theorem m_dgP {σ : Sg} {A : Nat → Nat} {h : Int64} (hM : MS σ 72 0 A) (W : WT A) : lp (b_m_digest_33 σ) 100000 (h, 0) = some (dgP A h (A 1), nI (A 1)) := by
  have n9 := W.2.2.1
  have m1 : gI σ 72 1 = nI (A 1) := M0 hM (by omega)
  exact lp_run (b := b_m_digest_33 σ) (fun k => (dgP A h k, nI k)) (A 1) 100000 (by omega) (fun k hk => by
    unfold b_m_digest_33
    have hE := (W.2.2.2 k hk).2.2.2.1
    rw [s_m_people, Option.bind_some, va_cl1, m1, if_neg (by rw [nI_leI (by omega) (by omega)]; omega)]
    show ((s_m_of σ (nI k) 2).bind fun q8 => (s_m_sums σ (dgP A h k) (2 + 11 * nI k) (3 + 2 * q8)).bind _) = _
    rw [m_of2 (E := A (4 + 11 * k)) (M0 hM (by omega)) (by omega), Option.bind_some, mul11, show (2 : Int32) * nI (A (4 + 11 * k)) = nI (2 * A (4 + 11 * k)) from (Int32.ofNat_mul 2 _).symm, show (3 : Int32) + nI (2 * A (4 + 11 * k)) = nI (3 + 2 * A (4 + 11 * k)) from nI_add 3 _, m_sums (by omega), Option.bind_some, dgP]
    show some (Sum.inl (hs (fun j => gI σ 72 (2 + 11 * k + j)) (dgP A h k) (3 + 2 * A (4 + 11 * k)), nI k + 1)) = _
    rw [nI_1, hs_cong (g := fun j => nI (A (2 + 11 * k + j))) (fun j hj => M0 hM (by omega))]) (by
    unfold b_m_digest_33
    rw [s_m_people, Option.bind_some, va_cl1, m1, if_pos (by rw [nI_leI (by omega) (by omega)]; omega)])
theorem x_dgE {σ : Sg} {A : Nat → Nat} {h : Int64} {p : Nat} (hX : XP σ 19 p A) (hp : p < 9) (hE : A (4 + 11 * p) ≤ 4) : lp (b_Town_digested_62 σ (nI p)) 100000 (h, 0) = some (hs (fun k => nI (A (2 + 11 * p + (3 + k)))) h (2 * A (4 + 11 * p)), nI (A (4 + 11 * p))) := by
  obtain ⟨x1, x2, x3, x4⟩ := hX
  have x3' : gI σ 22 p = nI (A (4 + 11 * p)) := x3
  exact lp_run (b := b_Town_digested_62 σ (nI p)) (fun e => (hs (fun k => nI (A (2 + 11 * p + (3 + k)))) h (2 * e), nI e)) (A (4 + 11 * p)) 100000 (by omega) (fun e he => by
    have x4' : gI σ 23 (4 * p + e) = _ ∧ gI σ 24 (4 * p + e) = _ := x4 e he
    unfold b_Town_digested_62
    rw [if_pos (inB_nI (by omega) (by omega)), nI_clamp (by omega), x3', if_neg (by rw [nI_leI (by omega) (by omega)]; omega), show nI p * 4 = nI (4 * p) from by rw [show nI p * 4 = nI (p * 4) from (Int32.ofNat_mul p 4).symm, Nat.mul_comm], show nI (4 * p) + nI e = nI (4 * p + e) from nI_add _ _, if_pos (inB_nI (by omega) (by omega)), nI_clamp (by omega), x4'.1]
    show (if inB (nI (4 * p + e)) 36 = true then _ else _) = _
    rw [if_pos (inB_nI (by omega) (by omega)), x4'.2]
    show some (Sum.inl (31 * (31 * hs _ h (2 * e) + _) + _, nI e + 1)) = _
    rw [nI_1, show 2 * (e + 1) = 2 * e + 1 + 1 from by omega, hs, hs, show 2 + 11 * p + (3 + 2 * e) = 5 + 11 * p + 2 * e from by omega, show 2 + 11 * p + (3 + (2 * e + 1)) = 6 + 11 * p + 2 * e from by omega]) (by
    unfold b_Town_digested_62
    rw [if_pos (inB_nI (by omega) (by omega)), nI_clamp (by omega), x3', if_pos (by rw [nI_leI (by omega) (by omega)]; omega)])
theorem hs_behind {f : Nat → Int32} {h : Int64} {m n : Nat} : hs f h (m + n) = hs (fun k => f (m + k)) (hs f h m) n := by
  induction n with
  | zero => rfl
  | succ n ih => rw [show m + (n + 1) = (m + n) + 1 from rfl, hs, hs, ih]
theorem x_dgP {σ : Sg} {A : Nat → Nat} {h : Int64} (hX : XT σ 19 A) (W : WT A) : s_Town_digested σ h = some (dgP A h (A 1)) := by
  have n9 := W.2.2.1
  have m1 : gI σ 19 6 = nI (A 1) := hX.2.1
  have := lp_run (b := b_Town_digested_5 σ) (fun k => (dgP A h k, nI k)) (z := (dgP A h (A 1), nI (A 1))) (A 1) 100000 (by omega) (fun k hk => by
    have hE := (W.2.2.2 k hk).2.2.2.1
    have x := hX.2.2 k hk
    obtain ⟨x1, x2, x3, -⟩ := id x
    have x1' : gI σ 20 k = nI (A (2 + 11 * k)) := x1
    have x2' : gI σ 21 k = nI (A (3 + 11 * k)) := x2
    have x3' : gI σ 22 k = nI (A (4 + 11 * k)) := x3
    unfold b_Town_digested_5
    rw [m1, if_neg (by rw [nI_leI (by omega) (by omega)]; omega), if_pos (inB_nI (by omega) (by omega)), nI_clamp (by omega), x1', x2', x3']
    show (if inB (nI k) 9 = true then (if inB (nI k) 9 = true then ((lp (b_Town_digested_62 σ (nI k)) 100000 (31 * (31 * (31 * dgP A h k + _) + _) + _, 0)).bind _) else _) else _) = _
    rw [if_pos (inB_nI (by omega) (by omega)), if_pos (inB_nI (by omega) (by omega)), x_dgE x (by omega) hE, Option.bind_some, dgP, hs_behind]
    show some (Sum.inl (_, nI k + 1)) = some (Sum.inl (hs _ (31 * (31 * (31 * dgP A h k + (nI (A (2 + 11 * k))).toInt64) + (nI (A (2 + 11 * k + 1))).toInt64) + (nI (A (2 + 11 * k + 2))).toInt64) _, _))
    rw [nI_1, show 2 + 11 * k + 1 = 3 + 11 * k from by omega, show 2 + 11 * k + 2 = 4 + 11 * k from by omega]) (by
    unfold b_Town_digested_5
    rw [m1, if_pos (by rw [nI_leI (by omega) (by omega)]; omega)])
  rw [s_Town_digested, show lp (b_Town_digested_5 σ) 100000 (h, 0) = _ from this]; rfl
theorem x_dgG {σ : Sg} {A : Nat → Nat} {h : Int64} (hX : XG σ 19 A) : lp (b_Scene_digested_12 σ) 100000 (h, 1) = some (hs (fun k => nI (A (101 + k))) h 7, nI 8) :=
  lp_run (b := b_Scene_digested_12 σ) (fun k => (hs (fun k => nI (A (101 + k))) h k, nI (k + 1))) 7 100000 (by omega) (fun k hk => by
    have x : gI σ 26 (k + 1) = nI (A (100 + (k + 1))) := hX (k + 1) (by omega) (by omega)
    unfold b_Scene_digested_12
    rw [if_neg (by show ¬ nI 7 < nI (k + 1); rw [nI_ltI (by omega) (by omega)]; omega)]
    show (if inB (nI (k + 1)) 8 = true then _ else _) = _
    rw [if_pos (inB_nI (by omega) (by omega)), nI_clamp (by omega), x]
    show some (Sum.inl (31 * hs _ h k + _, nI (k + 1) + 1)) = _
    rw [nI_1, hs, show 100 + (k + 1) = 101 + k from by omega]) (by
    unfold b_Scene_digested_12
    rw [if_pos (by show nI 7 < nI 8; rw [nI_ltI (by omega) (by omega)]; omega)])
theorem x_dgW {σ : Sg} {A : Nat → Nat} {h : Int64} (hX : XW σ 19 A) (W : WW A) : lp (b_Scene_digested_43 σ) 100000 (h, 0) = some (hs (fun k => nI (A (109 + k))) h (3 * A 108), nI (3 * A 108)) := by
  have w := W.1
  have x0 : gI σ 25 6 = nI (A 108) := hX.1
  have em : nI (A 108) * 3 = nI (3 * A 108) := by rw [show nI (A 108) * 3 = nI (A 108 * 3) from (Int32.ofNat_mul _ 3).symm, Nat.mul_comm]
  exact lp_run (b := b_Scene_digested_43 σ) (fun k => (hs (fun k => nI (A (109 + k))) h k, nI k)) (3 * A 108) 100000 (by omega) (fun k hk => by
    have x : gI σ 27 k = nI (A (109 + k)) := hX.2 k hk
    unfold b_Scene_digested_43
    rw [x0, em, if_neg (by rw [nI_leI (by omega) (by omega)]; omega), if_pos (inB_nI (by omega) (by omega)), nI_clamp (by omega), x]
    show some (Sum.inl (31 * hs _ h k + _, nI k + 1)) = _
    rw [nI_1, hs]) (by
    unfold b_Scene_digested_43
    rw [x0, em, if_pos (by rw [nI_leI (by omega) (by omega)]; omega)])
theorem x_dgO {σ : Sg} {A : Nat → Nat} {h : Int64} (hX : XO σ 19 A) (W : WO A) : lp (b_Scene_digested_78 σ) 100000 (h, 0) = some (hs (fun k => nI (A (128 + k))) h (3 * A 127), nI (A 127)) := by
  have w := W.1
  have x0 : gI σ 25 7 = nI (A 127) := hX.1
  exact lp_run (b := b_Scene_digested_78 σ) (fun k => (hs (fun k => nI (A (128 + k))) h (3 * k), nI k)) (A 127) 100000 (by omega) (fun k hk => by
    obtain ⟨x1, x2, x3⟩ := hX.2 k hk
    have x1' : gI σ 28 k = nI (A (128 + 3 * k)) := x1
    have x2' : gI σ 29 k = nI (A (129 + 3 * k)) := x2
    have x3' : gI σ 30 k = nI (A (130 + 3 * k)) := x3
    unfold b_Scene_digested_78
    rw [x0, if_neg (by rw [nI_leI (by omega) (by omega)]; omega), if_pos (inB_nI (by omega) (by omega)), nI_clamp (by omega), x1', x2', x3']
    show (if inB (nI k) 5 = true then (if inB (nI k) 5 = true then some (Sum.inl (31 * (31 * (31 * hs _ h (3 * k) + _) + _) + _, nI k + 1)) else _) else _) = _
    rw [if_pos (inB_nI (by omega) (by omega)), if_pos (inB_nI (by omega) (by omega)), nI_1, show 3 * (k + 1) = 3 * k + 1 + 1 + 1 from by omega, hs, hs, hs, show 128 + (3 * k + 1) = 129 + 3 * k from by omega, show 128 + (3 * k + 1 + 1) = 130 + 3 * k from by omega]) (by
    unfold b_Scene_digested_78
    rw [x0, if_pos (by rw [nI_leI (by omega) (by omega)]; omega)])
theorem al_digest {σ : Sg} (hR : R σ) : ∃ v, s_x_digest σ = some v ∧ s_m_digest σ = some v := by
  obtain ⟨C, hC⟩ : ∃ C : Nat → Int32, ∀ k, s_x_howMany σ (nI k) = some (C k) ∧ s_m_counted σ (nI k) = some (C k) := ⟨fun k => (counted_eq hR k).choose, fun k => (counted_eq hR k).choose_spec⟩
  have hx : lp (b_x_digest_6 σ) 100000 (769, 0) = some (hs C 769 6, nI 6) := lp_run (b := b_x_digest_6 σ) (fun k => (hs C 769 k, nI k)) 6 100000 (by omega) (fun k hk => by
    unfold b_x_digest_6
    rw [if_neg (by show ¬ nI 5 < nI k; rw [nI_ltI (by omega) (by omega)]; omega)]
    show ((s_x_howMany σ (nI k)).bind _) = _
    rw [(hC k).1, Option.bind_some]
    show some (Sum.inl (31 * hs C 769 k + _, nI k + 1)) = _
    rw [nI_1, hs]) (by
    unfold b_x_digest_6
    rw [if_pos (by show nI 5 < nI 6; rw [nI_ltI (by omega) (by omega)]; omega)])
  have hm : lp (b_m_digest_6 σ) 100000 (769, 0) = some (hs C 769 6, nI 6) := lp_run (b := b_m_digest_6 σ) (fun k => (hs C 769 k, nI k)) 6 100000 (by omega) (fun k hk => by
    unfold b_m_digest_6
    rw [if_neg (by show ¬ nI 6 ≤ nI k; rw [nI_leI (by omega) (by omega)]; omega)]
    show ((s_m_counted σ (nI k)).bind _) = _
    rw [(hC k).2, Option.bind_some]
    show some (Sum.inl (31 * hs C 769 k + _, nI k + 1)) = _
    rw [nI_1, hs]) (by
    unfold b_m_digest_6
    rw [if_pos (by show nI 6 ≤ nI 6; rw [nI_leI (by omega) (by omega)]; omega)])
  obtain ⟨⟨A, hM, ⟨x1, x2, x3, x4⟩, w1, w2, w3, w4⟩, -, -, ⟨f1, f2⟩, -⟩ := hR
  have w31 := w3.1
  have w41 := w4.1
  have m108 : gI σ 72 108 = nI (A 108) := M0 hM (by omega)
  have m127 : gI σ 72 127 = nI (A 127) := M0 hM (by omega)
  refine ⟨31 * (31 * hs (fun k => nI (A (128 + k))) (hs (fun k => nI (A (109 + k))) (hs (fun k => nI (A (101 + k))) (dgP A (hs C 769 6) (A 1)) 7) (3 * A 108)) (3 * A 127) + gL σ 71 4) + gL σ 71 5, ?_, ?_⟩
  · rw [s_x_digest, hx, Option.bind_some, s_Scene_digested, x_dgP x1 w1, Option.bind_some, x_dgG x2, Option.bind_some, x_dgW x3 w3, Option.bind_some, x_dgO x4 w4, Option.bind_some, Option.bind_some, f1, f2]; rfl
  · rw [s_m_digest, hm, Option.bind_some, m_dgP hM w1, Option.bind_some]
    show ((s_m_sums σ _ (nI 101) (nI 7)).bind _) = _
    rw [m_sums (by omega), Option.bind_some]
    show ((s_m_sums σ _ (nI 109) (3 * gI σ 72 108)).bind fun q13 => (s_m_sums σ q13 (nI 128) (3 * gI σ 72 127)).bind _) = _
    rw [m108, m127, show (3 : Int32) * nI (A 108) = nI (3 * A 108) from (Int32.ofNat_mul 3 _).symm, show (3 : Int32) * nI (A 127) = nI (3 * A 127) from (Int32.ofNat_mul 3 _).symm, m_sums (by omega), Option.bind_some, m_sums (by omega), Option.bind_some]
    rw [hs_cong (g := fun k => nI (A (101 + k))) (n := 7) (fun j hj => M0 hM (by omega)), hs_cong (f := fun k => gI σ 72 (109 + k)) (g := fun k => nI (A (109 + k))) (fun j hj => M0 hM (by omega)), hs_cong (f := fun k => gI σ 72 (128 + k)) (g := fun k => nI (A (128 + k))) (fun j hj => M0 hM (by omega))]
