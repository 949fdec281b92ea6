/-- the reference's day -/
def DM (σ : Sg) (A w D : Nat → Nat) (at_ : Nat) : Prop := MS σ 72 0 A ∧ (∀ j, j < 3 → gI σ 76 j = nI (w j) ∧ gI σ 77 j = nI (D j) ∧ D j < 16) ∧ gI σ 71 9 = nI at_
theorem DM_cong {σ τ : Sg} {A w D : Nat → Nat} {at_ : Nat} (hz : ∀ c j, (c = 72 ∨ c = 76 ∨ c = 77 ∨ c = 71 ∧ j = 9) → gI τ c j = gI σ c j) (H : DM σ A w D at_) : DM τ A w D at_ :=
  ⟨MS_cong (fun j => hz _ _ (by omega)) H.1, fun j hj => by rw [hz _ _ (by omega), hz _ _ (by omega)]; exact H.2.1 j hj, (hz _ _ (by omega)).trans H.2.2⟩
theorem m_ofN {σ : Sg} {A : Nat → Nat} {p x : Nat} (hM : MS σ 72 0 A) (hp : p < 9) (hx : x < 11) : s_m_of σ (nI p) (nI x) = some (nI (A (2 + 11 * p + x))) := by
  rw [s_m_of, mul11, nI_add, if_pos (inB_nI (by omega) (by omega)), nI_clamp (by omega), M0 hM (by omega)]
theorem m_placeOf {σ : Sg} {A : Nat → Nat} {p e : Nat} (hM : MS σ 72 0 A) (hp : p < 9) (he : e < 4) : s_m_placeOf σ (nI p) (nI e) = some (nI (A (5 + 11 * p + 2 * e))) := by
  rw [s_m_placeOf, show (3 : Int32) + 2 * nI e = nI (3 + 2 * e) from by rw [show (2 : Int32) * nI e = nI (2 * e) from (Int32.ofNat_mul 2 e).symm]; exact nI_add 3 _, m_ofN hM hp (by omega), Option.bind_some, show 2 + 11 * p + (3 + 2 * e) = 5 + 11 * p + 2 * e from by omega]
theorem m_hourOf {σ : Sg} {A : Nat → Nat} {p e : Nat} (hM : MS σ 72 0 A) (hp : p < 9) (he : e < 4) : s_m_hourOf σ (nI p) (nI e) = some (nI (A (6 + 11 * p + 2 * e))) := by
  rw [s_m_hourOf, show (3 : Int32) + 2 * nI e + 1 = nI (3 + 2 * e + 1) from by rw [show (2 : Int32) * nI e = nI (2 * e) from (Int32.ofNat_mul 2 e).symm, show (3 : Int32) + nI (2 * e) = nI (3 + 2 * e) from nI_add 3 _, nI_1], m_ofN hM hp (by omega), Option.bind_some, show 2 + 11 * p + (3 + 2 * e + 1) = 6 + 11 * p + 2 * e from by omega]
theorem tb0_ok : ∀ m, m < 16 → ∀ p, p < 4 → (((nI m >>> (nI p &&& 31)) &&& 1) = 0 ↔ m.testBit p = false) ∧ (nI m ||| ((1 : Int32) <<< (nI p &&& 31))) = nI (m ||| 2 ^ p) ∧ m ||| 2 ^ p < 16 := by decide +kernel
theorem tb1_ok : ∀ m, m < 16 → (nI m &&& 1 = 0 ↔ m.testBit 0 = false) := by decide +kernel
theorem DM_E {σ : Sg} {A w D : Nat → Nat} {at_ i : Nat} (W : WT A) (hw : ∀ j, j < 3 → w j < A 1) (H : DM σ A w D at_) (hi : i < 3) : (w i < 9 ∧ A (4 + 11 * w i) ≤ 4) ∧ gI σ 76 i = nI (w i) ∧ s_m_of σ (nI (w i)) 2 = some (nI (A (4 + 11 * w i))) ∧ s_m_of σ (nI (w i)) 0 = some (nI (A (2 + 11 * w i))) ∧ s_m_of σ (nI (w i)) 1 = some (nI (A (3 + 11 * w i))) := by
  have n9 := W.2.2.1
  have hp := hw i hi
  have b4 := (W.2.2.2 (w i) hp).2.2.2.1
  refine ⟨⟨by omega, b4⟩, (H.2.1 i hi).1, ?_, ?_, ?_⟩
  · have := m_ofN (x := 2) H.1 (p := w i) (by omega) (by omega)
    rw [show 2 + 11 * w i + 2 = 4 + 11 * w i from by omega] at this; exact this
  · exact m_ofN (x := 0) H.1 (p := w i) (by omega) (by omega)
  · have := m_ofN (x := 1) H.1 (p := w i) (by omega) (by omega)
    rw [show 2 + 11 * w i + 1 = 3 + 11 * w i from by omega] at this; exact this
theorem m_opn {σ : Sg} {A w D : Nat → Nat} {h at_ i e : Nat} (W : WT A) (hw : ∀ j, j < 3 → w j < A 1) (hh : h < 10) (H : DM σ A w D at_) (hi : i < 3) (he : e < A (4 + 11 * w i)) : s_m_isOpen σ (nI i) (nI e) (nI h) = some (if opn A w D h i e = true then 1 else 0) := by
  obtain ⟨⟨e1, e2⟩, e3, -⟩ := DM_E W hw H hi
  obtain ⟨-, d1, d2⟩ := H.2.1 i hi
  have e7 := ((W.2.2.2 (w i) (hw i hi)).2.2.2.2 e he).2
  obtain ⟨t1, -⟩ := tb0_ok (D i) d2 e (by omega)
  rw [s_m_isOpen, if_pos (inB_nI (by omega) (by omega)), nI_clamp (by omega), d1, if_pos (inB_nI (by omega) (by omega)), e3, m_hourOf H.1 e1 (by omega), Option.bind_some]
  unfold opn
  cases c : (D i).testBit e with
  | true =>
    rw [c] at t1
    rw [if_neg (fun q => absurd (t1.mp q) (by decide))]; rfl
  | false =>
    rw [if_pos (t1.mpr c)]
    by_cases d : h ≤ A (6 + 11 * w i + 2 * e)
    · rw [if_neg (by rw [nI_ltI (by omega) (by omega)]; omega), if_pos (by rw [decide_eq_true d]; rfl)]
    · rw [if_pos (by rw [nI_ltI (by omega) (by omega)]; omega), if_neg (by rw [decide_eq_false d]; decide)]
def oI : Option Nat → Int32
  | none => -1
  | some e => nI e
theorem m_first1 {σ : Sg} {A w D : Nat → Nat} {h at_ i : Nat} (W : WT A) (hw : ∀ j, j < 3 → w j < A 1) (hh : h < 10) (H : DM σ A w D at_) (hi : i < 3) : ∀ (m k F : Nat), m < F → k + m = A (4 + 11 * w i) → ∃ o, lp (b_m_firstOpen_2 σ (nI i) (nI h)) F (nI k) = some o ∧ oElim o (fun _ => some (-1)) (fun q => some q) = some (oI (fst1 (opn A w D h i) k m)) := by
  obtain ⟨⟨e1, e2⟩, e3, e4, -⟩ := DM_E W hw H hi
  have hbody : ∀ k, k ≤ A (4 + 11 * w i) → b_m_firstOpen_2 σ (nI i) (nI h) (nI k) = if A (4 + 11 * w i) ≤ k then some (.inr (.inl (nI k))) else (s_m_isOpen σ (nI i) (nI k) (nI h)).bind fun q4 => if q4 = 0 then some (.inl (nI (k + 1))) else some (.inr (.inr (nI k))) := fun k hk => by
    unfold b_m_firstOpen_2
    rw [if_pos (inB_nI (by omega) (by omega)), nI_clamp (by omega), e3, e4, Option.bind_some]
    by_cases c : A (4 + 11 * w i) ≤ k
    · rw [if_pos c, if_pos (by rw [nI_leI (by omega) (by omega)]; exact c)]
    · rw [if_neg c, if_neg (by rw [nI_leI (by omega) (by omega)]; exact c), ← nI_1]; rfl
  intro m
  induction m with
  | zero =>
    intro k F hF hk
    obtain ⟨f, rfl⟩ : ∃ f, F = f + 1 := ⟨F - 1, by omega⟩
    exact ⟨.inl (nI k), lp_end ((hbody k (by omega)).trans (if_pos (by omega))), rfl⟩
  | succ m ih =>
    intro k F hF hk
    obtain ⟨f, rfl⟩ : ∃ f, F = f + 1 := ⟨F - 1, by omega⟩
    have hbd := hbody k (by omega)
    rw [if_neg (by omega), m_opn W hw hh H hi (by omega), Option.bind_some] at hbd
    rw [fst1]
    by_cases c : opn A w D h i k = true
    · rw [if_pos c, if_neg (by decide)] at hbd
      rw [if_pos c]
      exact ⟨_, lp_end hbd, rfl⟩
    · rw [if_neg c, if_pos rfl] at hbd
      rw [if_neg c, lp_step hbd]
      exact ih (k + 1) f (by omega) (by omega)
theorem m_first {σ : Sg} {A w D : Nat → Nat} {h at_ i : Nat} (W : WT A) (hw : ∀ j, j < 3 → w j < A 1) (hh : h < 10) (H : DM σ A w D at_) (hi : i < 3) : s_m_firstOpen σ (nI i) (nI h) = some (oI (frs A w D h i)) := by
  have e2 := (W.2.2.2 (w i) (hw i hi)).2.2.2.1
  obtain ⟨o, o1, o2⟩ := m_first1 W hw hh H hi (A (4 + 11 * w i)) 0 100000 (by omega) (by omega)
  rw [s_m_firstOpen, show lp (b_m_firstOpen_2 σ (nI i) (nI h)) 100000 0 = _ from o1, Option.bind_some]
  exact o2
theorem m_plc {σ : Sg} {A w D : Nat → Nat} {at_ i : Nat} {o : Option Nat} (W : WT A) (hw : ∀ j, j < 3 → w j < A 1) (H : DM σ A w D at_) (hi : i < 3) (ho : ∀ e, o = some e → e < A (4 + 11 * w i)) : (if oI o = -1 then some (gI σ 71 9) else if inB (nI i) 3 = true then (s_m_placeOf σ (gI σ 76 (Int32.toNatClampNeg (nI i))) (oI o)).bind fun q4 => some q4 else none) = some (nI (plc A w at_ i o)) := by
  obtain ⟨⟨e1, e2⟩, e3, -⟩ := DM_E W hw H hi
  cases o with
  | none => rw [if_pos (show oI none = -1 from rfl), H.2.2]; rfl
  | some e =>
    have he := ho e rfl
    rw [if_neg (show ¬ oI (some e) = -1 from nI_nm (by omega)), if_pos (inB_nI (by omega) (by omega)), nI_clamp (by omega), e3]
    show ((s_m_placeOf σ (nI (w i)) (nI e)).bind _) = _
    rw [m_placeOf H.1 e1 (by omega), Option.bind_some]; rfl
theorem m_plain {σ : Sg} {A w D : Nat → Nat} {h at_ i : Nat} (W : WT A) (hw : ∀ j, j < 3 → w j < A 1) (hh : h < 10) (H : DM σ A w D at_) (hi : i < 3) : s_m_plainVote σ (nI i) (nI h) = some (nI (wsh A w D h at_ i)) := by
  rw [s_m_plainVote, m_first W hw hh H hi, Option.bind_some]
  exact m_plc W hw H hi (fun e he => by have := fst1_lt _ _ _ he; omega)
theorem m_hasty1 {σ : Sg} {A w D : Nat → Nat} {h at_ i : Nat} (W : WT A) (hw : ∀ j, j < 3 → w j < A 1) (hh : h < 10) (H : DM σ A w D at_) (hi : i < 3) : ∀ (m k F : Nat) (b : Option Nat), m < F → k + m = A (4 + 11 * w i) → (∀ c, b = some c → c < A (4 + 11 * w i)) → ∃ o, lp (b_m_hastyVote_5 σ (nI i) (nI h)) F (oI b, nI k) = some o ∧ o.1 = oI (hst1 (opn A w D h i) (fun e => A (6 + 11 * w i + 2 * e)) k m b) := by
  obtain ⟨⟨e1, e2⟩, e3, e4, -⟩ := DM_E W hw H hi
  intro m
  induction m with
  | zero =>
    intro k F b hF hk hb
    obtain ⟨f, rfl⟩ : ∃ f, F = f + 1 := ⟨F - 1, by omega⟩
    refine ⟨(oI b, nI k), lp_end ?_, rfl⟩
    unfold b_m_hastyVote_5
    rw [if_pos (inB_nI (by omega) (by omega)), nI_clamp (by omega), e3, e4, Option.bind_some, if_pos (by show _ ≤ nI k; rw [nI_leI (by omega) (by omega)]; omega)]
  | succ m ih =>
    intro k F b hF hk hb
    obtain ⟨f, rfl⟩ : ∃ f, F = f + 1 := ⟨F - 1, by omega⟩
    have ho := m_opn W hw hh H hi (e := k) (by omega)
    have h57 : ∀ u, j_m_hastyVote_57i5 σ (nI i) (nI h) (oI b) (nI k) u = some (.inl (if opn A w D h i k = true then (if u = 0 then oI b else nI k) else oI b, nI (k + 1))) := fun u => by
      unfold j_m_hastyVote_57i5
      rw [ho, Option.bind_some, lt_eq, lt_eq, nI_1]
      by_cases c : opn A w D h i k = true
      · rw [if_pos c, if_pos c, if_neg (by decide)]
        by_cases d : u = 0
        · rw [if_pos d, if_pos d]
        · rw [if_neg d, if_neg d]
      · rw [if_neg c, if_neg c, if_pos rfl]
    have g0 : j_m_hastyVote_57i5 σ (nI i) (nI h) (oI b) (nI k) 0 = some (.inl (oI b, nI (k + 1))) := by
      rw [h57]
      by_cases c : opn A w D h i k = true
      · rw [if_pos c, if_pos (show (0 : Int32) = 0 from rfl)]
      · rw [if_neg c]
    have g1 : j_m_hastyVote_57i5 σ (nI i) (nI h) (oI b) (nI k) 1 = some (.inl (if opn A w D h i k = true then nI k else oI b, nI (k + 1))) := by
      rw [h57]
      by_cases c : opn A w D h i k = true
      · rw [if_pos c, if_pos c, if_neg (show ¬ (1 : Int32) = 0 from by decide)]
      · rw [if_neg c, if_neg c]
    have hbody : b_m_hastyVote_5 σ (nI i) (nI h) (oI b, nI k) = some (.inl (oI (if opn A w D h i k = true then hbt (fun e => A (6 + 11 * w i + 2 * e)) k b else b), nI (k + 1))) := by
      unfold b_m_hastyVote_5
      rw [if_pos (inB_nI (by omega) (by omega)), nI_clamp (by omega), e3, e4, Option.bind_some, if_neg (by show ¬ _ ≤ nI k; rw [nI_leI (by omega) (by omega)]; omega)]
      show (if oI b = -1 then j_m_hastyVote_57i5 σ (nI i) (nI h) (oI b) (nI k) 1 else (if inB (nI i) 3 = true then (s_m_hourOf σ (nI (w i)) (nI k)).bind fun q12 => (if inB (nI i) 3 = true then (s_m_hourOf σ (nI (w i)) (oI b)).bind fun q14 => (if q14 ≤ q12 then j_m_hastyVote_57i5 σ (nI i) (nI h) (oI b) (nI k) 0 else j_m_hastyVote_57i5 σ (nI i) (nI h) (oI b) (nI k) 1) else none) else none)) = _
      rw [g0, g1, m_hourOf H.1 e1 (by omega), Option.bind_some, if_pos (inB_nI (by omega) (by omega)), if_pos (inB_nI (by omega) (by omega))]
      have q3 := ((W.2.2.2 (w i) (hw i hi)).2.2.2.2 k (by omega)).2
      cases b with
      | none =>
        rw [if_pos (show oI none = -1 from rfl)]
        by_cases c : opn A w D h i k = true
        · rw [if_pos c, if_pos c]; rfl
        · rw [if_neg c, if_neg c]
      | some d =>
        have hd := hb d rfl
        have q4 := ((W.2.2.2 (w i) (hw i hi)).2.2.2.2 d hd).2
        rw [if_neg (show ¬ oI (some d) = -1 from nI_nm (by omega))]
        show ((s_m_hourOf σ (nI (w i)) (nI d)).bind _) = _
        rw [m_hourOf H.1 e1 (by omega), Option.bind_some]
        by_cases c : opn A w D h i k = true
        · rw [if_pos c, if_pos c]
          show _ = some (Sum.inl (oI (if A (6 + 11 * w i + 2 * k) < A (6 + 11 * w i + 2 * d) then some k else some d), nI (k + 1)))
          by_cases e : A (6 + 11 * w i + 2 * k) < A (6 + 11 * w i + 2 * d)
          · rw [if_pos e, if_neg (by rw [nI_leI (by omega) (by omega)]; omega)]; rfl
          · rw [if_neg e, if_pos (by rw [nI_leI (by omega) (by omega)]; omega)]
        · rw [if_neg c, if_neg c]
          by_cases e : A (6 + 11 * w i + 2 * d) ≤ A (6 + 11 * w i + 2 * k)
          · rw [if_pos (by rw [nI_leI (by omega) (by omega)]; omega)]
          · rw [if_neg (by rw [nI_leI (by omega) (by omega)]; omega)]
    rw [lp_step hbody, hst1]
    refine ih (k + 1) f _ (by omega) (by omega) (fun c hc => ?_)
    by_cases q : opn A w D h i k = true
    · rw [if_pos q] at hc
      cases b with
      | none => cases hc; omega
      | some d =>
        have hc : (if A (6 + 11 * w i + 2 * k) < A (6 + 11 * w i + 2 * d) then some k else some d) = some c := hc
        have := hb d rfl
        by_cases r : A (6 + 11 * w i + 2 * k) < A (6 + 11 * w i + 2 * d)
        · rw [if_pos r] at hc; cases hc; omega
        · rw [if_neg r] at hc; cases hc; omega
    · rw [if_neg q] at hc; exact hb c hc
theorem m_hasty {σ : Sg} {A w D : Nat → Nat} {h at_ i : Nat} (W : WT A) (hw : ∀ j, j < 3 → w j < A 1) (hh : h < 10) (H : DM σ A w D at_) (hi : i < 3) : s_m_hastyVote σ (nI i) (nI h) = some (nI (hst A w D h at_ i)) := by
  have e2 := (W.2.2.2 (w i) (hw i hi)).2.2.2.1
  obtain ⟨o, o1, o2⟩ := m_hasty1 W hw hh H hi (A (4 + 11 * w i)) 0 100000 none (by omega) (by omega) (fun c hc => by cases hc)
  rw [s_m_hastyVote, show lp (b_m_hastyVote_5 σ (nI i) (nI h)) 100000 (-1, 0) = _ from o1, Option.bind_some, o2]
  exact m_plc W hw H hi (fun e he => by have := hst1_lt _ _ _ _ (fun c hc => by cases hc) he; omega)
