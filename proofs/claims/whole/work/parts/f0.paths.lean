/-! BEST: paths of a three along the ring; n = what is done (four bits for each of the three), b = the places they have been at, v = how many errands are done. -/
def b1 (x : Bool) : Nat := if x = true then 1 else 0
def nw (A w : Nat → Nat) (h a i d e : Nat) : Bool := (!d.testBit e && decide (h ≤ A (6 + 11 * w i + 2 * e))) && decide (A (5 + 11 * w i + 2 * e) = a)
theorem dE_spec {A w : Nat → Nat} {h a i : Nat} : ∀ (m k : Nat) (s : Nat × Nat), (∀ e, (dE A w h a i k m s).1.testBit e = (s.1.testBit e || (decide (k ≤ e ∧ e < k + m) && nw A w h a i s.1 e))) ∧ (dE A w h a i k m s).2 = s.2 + sm (fun j => b1 (nw A w h a i s.1 (k + j))) m := by
  intro m
  induction m with
  | zero =>
    intro k s
    refine ⟨fun e => ?_, rfl⟩
    show s.1.testBit e = _
    rw [decide_eq_false (show ¬ (k ≤ e ∧ e < k + 0) by omega), Bool.false_and, Bool.or_false]
  | succ m ih =>
    intro k s
    have hsum : ∀ f : Nat → Nat, sm f (m + 1) = f 0 + sm (fun j => f (j + 1)) m := by
      intro f
      have : ∀ n (g : Nat → Nat), sm g (n + 1) = g 0 + sm (fun j => g (j + 1)) n := by
        intro n
        induction n with
        | zero => intro g; show 0 + g 0 = g 0 + 0; omega
        | succ n ih => intro g; rw [sm, ih g, sm]; omega
      exact this m f
    rw [dE_s, hsum]
    by_cases x : (!s.1.testBit k && decide (h ≤ A (6 + 11 * w i + 2 * k))) = true ∧ A (5 + 11 * w i + 2 * k) = a
    · rw [if_pos x]
      obtain ⟨i1, i2⟩ := ih (k + 1) (s.1 ||| 2 ^ k, s.2 + 1)
      have hnk : nw A w h a i s.1 k = true := by unfold nw; rw [x.1, decide_eq_true x.2]; rfl
      have hne : ∀ e, ¬ e = k → nw A w h a i (s.1 ||| 2 ^ k) e = nw A w h a i s.1 e := fun e he => by
        unfold nw; rw [or_bit, decide_eq_false (show ¬ k = e from fun q => he q.symm), Bool.or_false]
      refine ⟨fun e => ?_, ?_⟩
      · rw [i1 e]
        show ((s.1 ||| 2 ^ k).testBit e || _) = _
        by_cases c : e = k
        · subst c
          rw [or_bit, decide_eq_true rfl, Bool.or_true, Bool.true_or, decide_eq_true (show e ≤ e ∧ e < e + (m + 1) by omega), hnk]; cases s.1.testBit e <;> rfl
        · rw [or_bit, decide_eq_false (show ¬ k = e from fun q => c q.symm), Bool.or_false, hne e c]
          by_cases d : k + 1 ≤ e ∧ e < k + 1 + m
          · rw [decide_eq_true d, decide_eq_true (show k ≤ e ∧ e < k + (m + 1) by omega)]
          · rw [decide_eq_false d, decide_eq_false (show ¬ (k ≤ e ∧ e < k + (m + 1)) by omega)]
      · rw [i2]
        show s.2 + 1 + _ = _
        rw [sm_congr (g := fun j => b1 (nw A w h a i s.1 (k + (j + 1)))) m (fun j _ => by
          show b1 (nw A w h a i (s.1 ||| 2 ^ k) (k + 1 + j)) = _
          rw [hne _ (by omega), show k + 1 + j = k + (j + 1) by omega])]
        show s.2 + 1 + _ = s.2 + (b1 (nw A w h a i s.1 k) + _)
        rw [hnk]
        show s.2 + 1 + _ = s.2 + (1 + _)
        omega
    · rw [if_neg x]
      obtain ⟨i1, i2⟩ := ih (k + 1) s
      have hnk : nw A w h a i s.1 k = false := by
        cases g : nw A w h a i s.1 k
        · rfl
        · exfalso; apply x
          unfold nw at g
          rw [Bool.and_eq_true] at g
          exact ⟨g.1, of_decide_eq_true g.2⟩
      refine ⟨fun e => ?_, ?_⟩
      · rw [i1 e]
        by_cases c : e = k
        · subst c
          rw [hnk, Bool.and_false, Bool.and_false]
        · by_cases d : k + 1 ≤ e ∧ e < k + 1 + m
          · rw [decide_eq_true d, decide_eq_true (show k ≤ e ∧ e < k + (m + 1) by omega)]
          · rw [decide_eq_false d, decide_eq_false (show ¬ (k ≤ e ∧ e < k + (m + 1)) by omega)]
      · rw [i2, sm_congr (g := fun j => b1 (nw A w h a i s.1 (k + (j + 1)))) m (fun j _ => by rw [show k + 1 + j = k + (j + 1) by omega])]
        show s.2 + _ = s.2 + (b1 (nw A w h a i s.1 k) + _)
        rw [hnk]
        show s.2 + _ = s.2 + (0 + _)
        omega
theorem do3_spec {A w D : Nat → Nat} {h a : Nat} : (∀ i, i < 3 → (do3 A w D h a 0).1 i = (dos A w D h a i 0).1) ∧ (do3 A w D h a 0).2 = (dos A w D h a 0 0).2 + (dos A w D h a 1 0).2 + (dos A w D h a 2 0).2 := by
  have e1 : ∀ v c, dos A w (updA D 0 v) h a 1 c = dos A w D h a 1 c := fun v c => by unfold dos; rw [updA_ne (show ¬ 1 = 0 by omega)]
  have e2 : ∀ u v c, dos A w (updA (updA D 0 u) 1 v) h a 2 c = dos A w D h a 2 c := fun u v c => by unfold dos; rw [updA_ne (show ¬ 2 = 1 by omega), updA_ne (show ¬ 2 = 0 by omega)]
  have hadd : ∀ i c, dos A w D h a i c = ((dos A w D h a i 0).1, c + (dos A w D h a i 0).2) := fun i c => dE_add _ _ _ _
  unfold do3
  dsimp only
  rw [e1, e2]
  refine ⟨fun i hi => ?_, ?_⟩
  · have i3 : i = 0 ∨ i = 1 ∨ i = 2 := by omega
    rcases i3 with rfl | rfl | rfl
    · rw [updA_ne (show ¬ 0 = 2 by omega), updA_ne (show ¬ 0 = 1 by omega), updA_eq rfl]
    · rw [updA_ne (show ¬ 1 = 2 by omega), updA_eq rfl, hadd 1 _]
    · rw [updA_eq rfl, hadd 2 _]
  · rw [hadd 2 _, hadd 1 (dos A w D h a 0 0).2]
def dec (n i : Nat) : Nat := n / 16 ^ i % 16
def enc (D : Nat → Nat) : Nat := D 0 + 16 * D 1 + 256 * D 2
theorem dec_lt {n i : Nat} : dec n i < 16 := Nat.mod_lt _ (by omega)
theorem dec_enc {D : Nat → Nat} (h : ∀ i, i < 3 → D i < 16) : enc D < 4096 ∧ ∀ i, i < 3 → dec (enc D) i = D i := by
  have h0 := h 0 (by omega)
  have h1 := h 1 (by omega)
  have h2 := h 2 (by omega)
  unfold enc dec
  refine ⟨by omega, fun i hi => ?_⟩
  have i3 : i = 0 ∨ i = 1 ∨ i = 2 := by omega
  rcases i3 with rfl | rfl | rfl
  · show (D 0 + 16 * D 1 + 256 * D 2) / 1 % 16 = D 0; omega
  · show (D 0 + 16 * D 1 + 256 * D 2) / 16 % 16 = D 1; omega
  · show (D 0 + 16 * D 1 + 256 * D 2) / 256 % 16 = D 2; omega
def stc (A w : Nat → Nat) (h a n : Nat) : Nat := enc (do3 A w (dec n) h a 0).1
def cnt (A w : Nat → Nat) (h a n : Nat) : Nat := (do3 A w (dec n) h a 0).2
/-- errands of the i-th that are done by coming to a first in the hour h -/
def ce (A : Nat → Nat) (p a h : Nat) : Nat := sm (fun e => b1 (decide (h ≤ A (6 + 11 * p + 2 * e)) && decide (A (5 + 11 * p + 2 * e) = a))) (A (4 + 11 * p))
def wo (A w : Nat → Nat) (a h : Nat) : Nat := ce A (w 0) a h + ce A (w 1) a h + ce A (w 2) a h
def mvr (P r a s : Nat) : Nat := (a + s + 2 * P - r) % P
def Pth (A w : Nat → Nat) (r : Nat) : Nat → Nat → Nat → Nat → Nat → Prop
  | 0, a, b, n, v => a = 0 ∧ b = 0 ∧ n = 0 ∧ v = 0
  | h + 1, a, b, n, v => ∃ a' b' n' v' s, Pth A w r h a' b' n' v' ∧ s ≤ 2 * r ∧ a = mvr (A 0) r a' s ∧ b = b' ||| 2 ^ a ∧ n = stc A w h a n' ∧ v = v' + cnt A w h a n'
def pc4 (d : Nat) : Nat := sm (fun e => b1 (d.testBit e)) 4
def pcn (n : Nat) : Nat := pc4 (dec n 0) + pc4 (dec n 1) + pc4 (dec n 2)
/-- where they have been and what is done fit -/
def INV (A w : Nat → Nat) (h b n : Nat) : Prop := ∀ i e, i < 3 → e < A (4 + 11 * w i) → (b.testBit (A (5 + 11 * w i + 2 * e)) = false → (dec n i).testBit e = false) ∧ (b.testBit (A (5 + 11 * w i + 2 * e)) = true → (dec n i).testBit e = true ∨ A (6 + 11 * w i + 2 * e) < h)
theorem dos_bit {A w D : Nat → Nat} {h a i e : Nat} : (dos A w D h a i 0).1.testBit e = ((D i).testBit e || (decide (e < A (4 + 11 * w i)) && nw A w h a i (D i) e)) := by
  unfold dos
  rw [(dE_spec _ _ _).1 e]
  show ((D i).testBit e || _) = _
  by_cases c : e < A (4 + 11 * w i)
  · rw [decide_eq_true c, decide_eq_true (show 0 ≤ e ∧ e < 0 + A (4 + 11 * w i) by omega)]
  · rw [decide_eq_false c, decide_eq_false (show ¬ (0 ≤ e ∧ e < 0 + A (4 + 11 * w i)) by omega)]
theorem dos_cnt {A w D : Nat → Nat} {h a i : Nat} : (dos A w D h a i 0).2 = sm (fun e => b1 (nw A w h a i (D i) e)) (A (4 + 11 * w i)) := by
  unfold dos
  rw [(dE_spec _ _ _).2]
  show 0 + sm (fun j => b1 (nw A w h a i (D i) (0 + j))) _ = _
  rw [Nat.zero_add]
  exact sm_congr _ (fun j _ => by rw [Nat.zero_add])
theorem lt16 {d : Nat} (h : ∀ e, 4 ≤ e → d.testBit e = false) : d < 16 := by
  apply Nat.lt_pow_two_of_testBit (n := 4)
  intro i hi; exact h i hi
theorem dos_lt {A w D : Nat → Nat} {h a i : Nat} (hE : A (4 + 11 * w i) ≤ 4) (hD : D i < 16) : (dos A w D h a i 0).1 < 16 := by
  apply lt16
  intro e he
  rw [dos_bit, decide_eq_false (by omega), Bool.false_and, Bool.or_false]
  exact Nat.testBit_lt_two_pow (Nat.lt_of_lt_of_le hD (Nat.pow_le_pow_right (n := 2) (by omega) he))
theorem stc_dec {A w : Nat → Nat} {h a n : Nat} (hE : ∀ i, i < 3 → A (4 + 11 * w i) ≤ 4) : stc A w h a n < 4096 ∧ ∀ i, i < 3 → dec (stc A w h a n) i = (dos A w (dec n) h a i 0).1 := by
  have hs := do3_spec (A := A) (w := w) (D := dec n) (h := h) (a := a)
  obtain ⟨e1, e2⟩ := dec_enc (D := (do3 A w (dec n) h a 0).1) (fun i hi => by rw [hs.1 i hi]; exact dos_lt (hE i hi) dec_lt)
  exact ⟨e1, fun i hi => (e2 i hi).trans (hs.1 i hi)⟩
theorem sm_add {f g : Nat → Nat} : ∀ n, sm (fun i => f i + g i) n = sm f n + sm g n
  | 0 => rfl
  | n + 1 => by
    rw [sm, sm, sm, sm_add n]; omega
theorem sm_cut {f : Nat → Nat} {E : Nat} : ∀ N, E ≤ N → sm (fun e => if e < E then f e else 0) N = sm f E
  | 0, h => by have : E = 0 := by omega
               subst this; rfl
  | N + 1, h => by
    by_cases c : E = N + 1
    · subst c; exact sm_congr _ (fun i hi => if_pos hi)
    · rw [sm, sm_cut N (by omega), if_neg (by omega)]; rfl
/-- so many more are done -/
theorem pcn_st {A w : Nat → Nat} {h a n : Nat} (hE : ∀ i, i < 3 → A (4 + 11 * w i) ≤ 4) : pcn (stc A w h a n) = pcn n + cnt A w h a n := by
  obtain ⟨-, hd⟩ := stc_dec (h := h) (a := a) (n := n) hE
  have hs := do3_spec (A := A) (w := w) (D := dec n) (h := h) (a := a)
  have hp : ∀ i, i < 3 → pc4 (dec (stc A w h a n) i) = pc4 (dec n i) + (dos A w (dec n) h a i 0).2 := fun i hi => by
    rw [hd i hi, dos_cnt]
    unfold pc4
    rw [← sm_cut 4 (hE i hi), ← sm_add]
    refine sm_congr _ (fun e _ => ?_)
    rw [dos_bit]
    by_cases c : e < A (4 + 11 * w i)
    · rw [decide_eq_true c, if_pos c]
      unfold nw
      cases (dec n i).testBit e
      · rw [Bool.false_or, Bool.true_and]; show _ = 0 + _; rw [Nat.zero_add]
      · rfl
    · rw [decide_eq_false c, if_neg c, Bool.false_and, Bool.or_false]; rfl
  unfold pcn cnt
  rw [hp 0 (by omega), hp 1 (by omega), hp 2 (by omega), hs.2]; omega
theorem INV_cnt {A w : Nat → Nat} {h a b n : Nat} (H : INV A w h b n) : cnt A w h a n = if b.testBit a = true then 0 else wo A w a h := by
  have hs := do3_spec (A := A) (w := w) (D := dec n) (h := h) (a := a)
  have hi : ∀ i, i < 3 → (dos A w (dec n) h a i 0).2 = if b.testBit a = true then 0 else ce A (w i) a h := fun i hi => by
    rw [dos_cnt]
    by_cases c : b.testBit a = true
    · rw [if_pos c]
      have : sm (fun e => b1 (nw A w h a i (dec n i) e)) (A (4 + 11 * w i)) = sm (fun _ => 0) (A (4 + 11 * w i)) := sm_congr _ (fun e he => by
        have h2 := (H i e hi he).2
        unfold nw
        by_cases g : A (5 + 11 * w i + 2 * e) = a
        · rw [g] at h2
          rcases h2 c with q | q
          · rw [q]; rfl
          · rw [decide_eq_false (show ¬ h ≤ A (6 + 11 * w i + 2 * e) by omega), Bool.and_false]; rfl
        · rw [decide_eq_false g, Bool.and_false]; rfl)
      rw [this, sm_const, Nat.mul_zero]
    · rw [if_neg c]
      unfold ce
      refine sm_congr _ (fun e he => ?_)
      have h1 := (H i e hi he).1
      unfold nw
      by_cases g : A (5 + 11 * w i + 2 * e) = a
      · rw [g] at h1
        have : b.testBit a = false := by cases k : b.testBit a; rfl; exact absurd k c
        rw [h1 this, decide_eq_true g]; rfl
      · rw [decide_eq_false g, Bool.and_false, Bool.and_false]
  unfold cnt
  rw [hs.2, hi 0 (by omega), hi 1 (by omega), hi 2 (by omega)]
  by_cases c : b.testBit a = true
  · rw [if_pos c, if_pos c, if_pos c, if_pos c]
  · rw [if_neg c, if_neg c, if_neg c, if_neg c]; rfl
theorem INV_st {A w : Nat → Nat} {h a b n : Nat} (hE : ∀ i, i < 3 → A (4 + 11 * w i) ≤ 4) (H : INV A w h b n) : INV A w (h + 1) (b ||| 2 ^ a) (stc A w h a n) := by
  obtain ⟨-, hd⟩ := stc_dec (h := h) (a := a) (n := n) hE
  intro i e hi he
  obtain ⟨h1, h2⟩ := H i e hi he
  rw [hd i hi, dos_bit, or_bit, decide_eq_true he]
  unfold nw
  by_cases g : A (5 + 11 * w i + 2 * e) = a
  · rw [g] at h1 h2
    rw [decide_eq_true g, g, decide_eq_true rfl, Bool.or_true]
    refine ⟨fun q => (by cases q), fun _ => ?_⟩
    by_cases k : h ≤ A (6 + 11 * w i + 2 * e)
    · left; rw [decide_eq_true k]; cases (dec n i).testBit e <;> rfl
    · right; omega
  · rw [decide_eq_false g, Bool.and_false, Bool.and_false, Bool.or_false, decide_eq_false (show ¬ a = A (5 + 11 * w i + 2 * e) from fun q => g q.symm), Bool.or_false]
    refine ⟨h1, fun q => ?_⟩
    rcases h2 q with x | x
    · exact Or.inl x
    · exact Or.inr (by omega)
theorem Pth_all {A w : Nat → Nat} {r : Nat} (h0 : 1 ≤ A 0) (h6 : A 0 ≤ 6) (hE : ∀ i, i < 3 → A (4 + 11 * w i) ≤ 4) : ∀ h a b n v, Pth A w r h a b n v → a < A 0 ∧ b < 64 ∧ n < 4096 ∧ v = pcn n ∧ INV A w h b n := by
  intro h
  induction h with
  | zero =>
    intro a b n v hp
    obtain ⟨rfl, rfl, rfl, rfl⟩ := hp
    refine ⟨by omega, by omega, by omega, by decide, fun i e _ _ => ⟨fun _ => ?_, fun q => ?_⟩⟩
    · have : dec 0 i = 0 := by unfold dec; rw [Nat.zero_div]
      rw [this]; exact Nat.zero_testBit e
    · rw [Nat.zero_testBit] at q; cases q
  | succ h ih =>
    intro a b n v hp
    obtain ⟨a', b', n', v', s, p1, p2, p3, p4, p5, p6⟩ := hp
    obtain ⟨i1, i2, i3, i4, i5⟩ := ih a' b' n' v' p1
    have ha : a < A 0 := by rw [p3]; exact Nat.mod_lt _ (by omega)
    refine ⟨ha, ?_, ?_, ?_, ?_⟩
    · rw [p4]
      exact Nat.or_lt_two_pow (n := 6) i2 (Nat.pow_lt_pow_right (by omega) (by omega))
    · rw [p5]; exact (stc_dec hE).1
    · rw [p6, p5, pcn_st hE, i4]
    · rw [p4, p5]; exact INV_st hE i5
