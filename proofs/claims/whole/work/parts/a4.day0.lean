/-! A DAY, as both sides tell it: numbers alone. w = the three of it, D = what each has done (bits), at = where they are. -/
def opn (A w D : Nat → Nat) (h i e : Nat) : Bool := !(D i).testBit e && decide (h ≤ A (6 + 11 * w i + 2 * e))
/-- the first from k on, of m, that P holds of -/
def fst1 (P : Nat → Bool) : Nat → Nat → Option Nat
  | _, 0 => none
  | k, m + 1 => if P k = true then some k else fst1 P (k + 1) m
/-- the first of the soonest -/
def hbt (H : Nat → Nat) (k : Nat) : Option Nat → Option Nat
  | none => some k
  | some c => if H k < H c then some k else some c
def hst1 (P : Nat → Bool) (H : Nat → Nat) : Nat → Nat → Option Nat → Option Nat
  | _, 0, b => b
  | k, m + 1, b => hst1 P H (k + 1) m (if P k = true then hbt H k b else b)
def dE (A w : Nat → Nat) (h at_ i : Nat) : Nat → Nat → Nat × Nat → Nat × Nat
  | _, 0, s => s
  | k, m + 1, s => dE A w h at_ i (k + 1) m (if (!s.1.testBit k && decide (h ≤ A (6 + 11 * w i + 2 * k))) = true ∧ A (5 + 11 * w i + 2 * k) = at_ then (s.1 ||| 2 ^ k, s.2 + 1) else s)
def frs (A w D : Nat → Nat) (h i : Nat) : Option Nat := fst1 (opn A w D h i) 0 (A (4 + 11 * w i))
def plc (A w : Nat → Nat) (at_ i : Nat) : Option Nat → Nat
  | none => at_
  | some e => A (5 + 11 * w i + 2 * e)
def wsh (A w D : Nat → Nat) (h at_ i : Nat) : Nat := plc A w at_ i (frs A w D h i)
def bsy (A w D : Nat → Nat) (h i : Nat) : Bool := (frs A w D h i).isSome
def hst (A w D : Nat → Nat) (h at_ i : Nat) : Nat := plc A w at_ i (hst1 (opn A w D h i) (fun e => A (6 + 11 * w i + 2 * e)) 0 (A (4 + 11 * w i)) none)
def knd (A w D : Nat → Nat) (h at_ i : Nat) : Nat := if bsy A w D h i = true then wsh A w D h at_ i else wsh A w D h at_ (if i = 0 then 1 else 0)
def vt (A w D : Nat → Nat) (h at_ i : Nat) : Nat :=
  if A (2 + 11 * w i) = 1 then hst A w D h at_ i
  else if A (2 + 11 * w i) = 2 then (if 0 < A (4 + 11 * w i) ∧ (D i).testBit 0 = false then A (5 + 11 * w i) else wsh A w D h at_ i)
  else if A (2 + 11 * w i) = 3 then knd A w D h at_ i
  else if A (2 + 11 * w i) = 4 then (if h % 2 = 0 then at_ else knd A w D h at_ i)
  else wsh A w D h at_ i
def tgt (A w D : Nat → Nat) (h at_ : Nat) : Nat := if vt A w D h at_ 1 = vt A w D h at_ 2 then vt A w D h at_ 1 else vt A w D h at_ 0
def stp (P at_ to : Nat) : Nat := if (to + P - at_) % P = 0 then at_ else if P < 2 * ((to + P - at_) % P) then (at_ + P - 1) % P else (at_ + 1) % P
def stps (A : Nat → Nat) (fast : Bool) (at_ to : Nat) : Nat := if fast = true then stp (A 0) (stp (A 0) at_ to) to else stp (A 0) at_ to
def dos (A w D : Nat → Nat) (h at_ i c : Nat) : Nat × Nat := dE A w h at_ i 0 (A (4 + 11 * w i)) (D i, c)
/-- what each has done behind an hour that ends at at_, and how many in all -/
def do3 (A w D : Nat → Nat) (h at_ c : Nat) : (Nat → Nat) × Nat :=
  let r0 := dos A w D h at_ 0 c
  let D1 := updA D 0 r0.1
  let r1 := dos A w D1 h at_ 1 r0.2
  let D2 := updA D1 1 r1.1
  let r2 := dos A w D2 h at_ 2 r1.2
  (updA D2 2 r2.1, r2.2)
def hour1 (A w : Nat → Nat) (fast : Bool) (h : Nat) (s : (Nat → Nat) × Nat × Nat) : (Nat → Nat) × Nat × Nat :=
  let a := stps A fast s.2.1 (tgt A w s.1 h s.2.1)
  let r := do3 A w s.1 h a s.2.2
  (r.1, a, r.2)
def dst (A w : Nat → Nat) (fast : Bool) : Nat → (Nat → Nat) × Nat × Nat
  | 0 => (fun _ => 0, 0, 0)
  | h + 1 => hour1 A w fast h (dst A w fast h)
theorem fst1_lt {P : Nat → Bool} : ∀ m k e, fst1 P k m = some e → k ≤ e ∧ e < k + m ∧ P e = true := by
  intro m
  induction m with
  | zero => intro k e h; cases h
  | succ m ih =>
    intro k e h
    rw [fst1] at h
    by_cases c : P k = true
    · rw [if_pos c] at h; cases h; exact ⟨Nat.le_refl _, by omega, c⟩
    · rw [if_neg c] at h
      obtain ⟨a, b, c⟩ := ih (k + 1) e h
      exact ⟨by omega, by omega, c⟩
theorem hst1_lt {P : Nat → Bool} {H : Nat → Nat} : ∀ m k b e, (∀ c, b = some c → c < k + m) → hst1 P H k m b = some e → e < k + m := by
  intro m
  induction m with
  | zero => intro k b e hb h; exact hb e h
  | succ m ih =>
    intro k b e hb h
    rw [hst1] at h
    have := ih (k + 1) _ e (fun c hc => ?_) h
    · omega
    · by_cases q : P k = true
      · rw [if_pos q] at hc
        cases b with
        | none => cases hc; omega
        | some d =>
          have hc : (if H k < H d then some k else some d) = some c := hc
          have := hb d rfl
          by_cases r : H k < H d
          · rw [if_pos r] at hc; cases hc; omega
          · rw [if_neg r] at hc; cases hc; omega
      · rw [if_neg q] at hc; have := hb c hc; omega
theorem plc_lt {A w : Nat → Nat} {at_ i P : Nat} (W : WT A) (hw : w i < A 1) (ha : at_ < A 0) {o : Option Nat} (ho : ∀ e, o = some e → e < A (4 + 11 * w i)) : plc A w at_ i o < A 0 := by
  cases o with
  | none => exact ha
  | some e => exact ((W.2.2.2 (w i) hw).2.2.2.2 e (ho e rfl)).1
theorem wsh_lt {A w D : Nat → Nat} {h at_ i : Nat} (W : WT A) (hw : w i < A 1) (ha : at_ < A 0) : wsh A w D h at_ i < A 0 :=
  plc_lt (P := 0) W hw ha (fun e he => by have := fst1_lt _ _ _ he; omega)
theorem hst_lt {A w D : Nat → Nat} {h at_ i : Nat} (W : WT A) (hw : w i < A 1) (ha : at_ < A 0) : hst A w D h at_ i < A 0 :=
  plc_lt (P := 0) W hw ha (fun e he => by have := hst1_lt _ _ _ _ (fun c hc => by cases hc) he; omega)
theorem knd_lt {A w D : Nat → Nat} {h at_ i : Nat} (W : WT A) (hw : ∀ j, j < 3 → w j < A 1) (hi : i < 3) (ha : at_ < A 0) : knd A w D h at_ i < A 0 := by
  unfold knd
  by_cases c : bsy A w D h i = true
  · rw [if_pos c]; exact wsh_lt W (hw i hi) ha
  · rw [if_neg c]
    by_cases d : i = 0
    · rw [if_pos d]; exact wsh_lt W (hw 1 (by omega)) ha
    · rw [if_neg d]; exact wsh_lt W (hw 0 (by omega)) ha
theorem vt_lt {A w D : Nat → Nat} {h at_ i : Nat} (W : WT A) (hw : ∀ j, j < 3 → w j < A 1) (hi : i < 3) (ha : at_ < A 0) : vt A w D h at_ i < A 0 := by
  have a := wsh_lt (D := D) (h := h) W (hw i hi) ha
  have b := hst_lt (D := D) (h := h) W (hw i hi) ha
  have c := knd_lt (D := D) (h := h) W hw hi ha
  unfold vt
  by_cases c1 : A (2 + 11 * w i) = 1
  · rw [if_pos c1]; exact b
  rw [if_neg c1]
  by_cases c2 : A (2 + 11 * w i) = 2
  · rw [if_pos c2]
    by_cases d : 0 < A (4 + 11 * w i) ∧ (D i).testBit 0 = false
    · rw [if_pos d]; exact ((W.2.2.2 (w i) (hw i hi)).2.2.2.2 0 d.1).1
    · rw [if_neg d]; exact a
  rw [if_neg c2]
  by_cases c3 : A (2 + 11 * w i) = 3
  · rw [if_pos c3]; exact c
  rw [if_neg c3]
  by_cases c4 : A (2 + 11 * w i) = 4
  · rw [if_pos c4]
    by_cases d : h % 2 = 0
    · rw [if_pos d]; exact ha
    · rw [if_neg d]; exact c
  rw [if_neg c4]; exact a
theorem tgt_lt {A w D : Nat → Nat} {h at_ : Nat} (W : WT A) (hw : ∀ j, j < 3 → w j < A 1) (ha : at_ < A 0) : tgt A w D h at_ < A 0 := by
  unfold tgt
  by_cases c : vt A w D h at_ 1 = vt A w D h at_ 2
  · rw [if_pos c]; exact vt_lt W hw (by omega) ha
  · rw [if_neg c]; exact vt_lt W hw (by omega) ha
theorem stp_lt {P at_ to : Nat} (hP : 1 ≤ P) (ha : at_ < P) : stp P at_ to < P := by
  unfold stp
  by_cases c : (to + P - at_) % P = 0
  · rw [if_pos c]; exact ha
  rw [if_neg c]
  by_cases d : P < 2 * ((to + P - at_) % P)
  · rw [if_pos d]; exact Nat.mod_lt _ (by omega)
  · rw [if_neg d]; exact Nat.mod_lt _ (by omega)
theorem stps_lt {A : Nat → Nat} {f : Bool} {at_ to : Nat} (hP : 1 ≤ A 0) (ha : at_ < A 0) : stps A f at_ to < A 0 := by
  unfold stps
  by_cases c : f = true
  · rw [if_pos c]; exact stp_lt hP (stp_lt hP ha)
  · rw [if_neg c]; exact stp_lt hP ha
theorem dst_lt {A w : Nat → Nat} {f : Bool} (hP : 1 ≤ A 0) : ∀ h, (dst A w f h).2.1 < A 0
  | 0 => hP
  | h + 1 => stps_lt hP (dst_lt hP h)
