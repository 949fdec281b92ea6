/-- the three String constants by their places in the pool -/
def tmW : Nat → Term := fun i => match i with
  | 0 => .string "TiedThrees$TownReader" 51
  | 1 => .string "TiedThrees$TownReader" 64
  | _ => .string "TiedThrees$TownReader" 72
set_option maxRecDepth 100000 in
set_option maxHeartbeats 4000000 in
theorem start_S {b : Nat} {s : State} (hts : ∀ w ∈ lw_tbl, w.before #[Value.ref b] s = true) (hgv : (Jvm.Cond.and given_1 narrow_1).before #[Value.ref b] s = true) : ∃ (adK adV : Nat → Nat) (fm : Nat), vk_S 3 lenW bytW adK adV (fun q => s.heap.size ≤ q) s s.heap ∧ (vk_R RX10 51 "places" (adK 0) s ∧ vk_R RX10 64 "person" (adK 1) s ∧ vk_R RX10 72 "errand" (adK 2) s) ∧ va_Z "java/lang/String" "COMPACT_STRINGS" "Z" (.int 1) (fun q => s.heap.size ≤ q) s s.heap ∧ (va_Z "jdk/internal/util/Preconditions" "SIOOBE_FORMATTER" "Ljava/util/function/BiFunction;" .null (fun q => s.heap.size ≤ q) s s.heap ∨ va_Z "jdk/internal/util/Preconditions" "SIOOBE_FORMATTER" "Ljava/util/function/BiFunction;" (.ref fm) (fun q => s.heap.size ≤ q) s s.heap) := by
  have hs := flat_of_before _ hgv
  have hA : ∀ a : Nat, a < s.heap.size → ¬ (fun q => s.heap.size ≤ q) a := fun a h q => Nat.not_le.mpr h q
  obtain ⟨adK, adV, hS, hT⟩ := vk_Sof (args := #[Value.ref b]) (s := s) (N := 3) (tm := tmW) (len := lenW) (byt := bytW) (A := fun q => s.heap.size ≤ q)
    (fun i hi => by match i, hi with | 0, _ => decide | 1, _ => decide | 2, _ => decide)
    (fun i hi => by match i, hi with | 0, _ => exact hs _ (by decide +kernel) | 1, _ => exact hs _ (by decide +kernel) | 2, _ => exact hs _ (by decide +kernel))
    (fun i hi => by match i, hi with | 0, _ => exact hs _ (by decide +kernel) | 1, _ => exact hs _ (by decide +kernel) | 2, _ => exact hs _ (by decide +kernel))
    (fun i hi => by match i, hi with | 0, _ => exact hs _ (by decide +kernel) | 1, _ => exact hs _ (by decide +kernel) | 2, _ => exact hs _ (by decide +kernel))
    (fun i hi => by match i, hi with | 0, _ => exact hs _ (by decide +kernel) | 1, _ => exact hs _ (by decide +kernel) | 2, _ => exact hs _ (by decide +kernel))
    (fun i hi j hj => by
      match i, hi, j, hj with
      | 0, _, 0, _ => exact hs _ (by decide +kernel)
      | 0, _, 1, _ => exact hs _ (by decide +kernel)
      | 0, _, 2, _ => exact hs _ (by decide +kernel)
      | 0, _, 3, _ => exact hs _ (by decide +kernel)
      | 0, _, 4, _ => exact hs _ (by decide +kernel)
      | 0, _, 5, _ => exact hs _ (by decide +kernel)
      | 1, _, 0, _ => exact hs _ (by decide +kernel)
      | 1, _, 1, _ => exact hs _ (by decide +kernel)
      | 1, _, 2, _ => exact hs _ (by decide +kernel)
      | 1, _, 3, _ => exact hs _ (by decide +kernel)
      | 1, _, 4, _ => exact hs _ (by decide +kernel)
      | 1, _, 5, _ => exact hs _ (by decide +kernel)
      | 2, _, 0, _ => exact hs _ (by decide +kernel)
      | 2, _, 1, _ => exact hs _ (by decide +kernel)
      | 2, _, 2, _ => exact hs _ (by decide +kernel)
      | 2, _, 3, _ => exact hs _ (by decide +kernel)
      | 2, _, 4, _ => exact hs _ (by decide +kernel)
      | 2, _, 5, _ => exact hs _ (by decide +kernel)
      | 0, _, j + 6, hj => exact absurd hj (Nat.not_lt.mpr (Nat.le_add_left 6 j))
      | 1, _, j + 6, hj => exact absurd hj (Nat.not_lt.mpr (Nat.le_add_left 6 j))
      | 2, _, j + 6, hj => exact absurd hj (Nat.not_lt.mpr (Nat.le_add_left 6 j)))
    (fun i j hi hj hij => by
      match i, hi, j, hj, hij with
      | 0, _, 1, _, _ => first | exact Or.inl (hs _ (by decide +kernel)) | exact Or.inr (hs _ (by decide +kernel))
      | 0, _, 2, _, _ => first | exact Or.inl (hs _ (by decide +kernel)) | exact Or.inr (hs _ (by decide +kernel))
      | 1, _, 0, _, _ => first | exact Or.inl (hs _ (by decide +kernel)) | exact Or.inr (hs _ (by decide +kernel))
      | 1, _, 2, _, _ => first | exact Or.inl (hs _ (by decide +kernel)) | exact Or.inr (hs _ (by decide +kernel))
      | 2, _, 0, _, _ => first | exact Or.inl (hs _ (by decide +kernel)) | exact Or.inr (hs _ (by decide +kernel))
      | 2, _, 1, _, _ => first | exact Or.inl (hs _ (by decide +kernel)) | exact Or.inr (hs _ (by decide +kernel))
      | 0, _, 0, _, h => exact absurd rfl h
      | 1, _, 1, _, h => exact absurd rfl h
      | 2, _, 2, _, h => exact absurd rfl h) hA
  have hZ : va_Z "java/lang/String" "COMPACT_STRINGS" "Z" (.int 1) (fun q => s.heap.size ≤ q) s s.heap := va_Zof (hts _ (List.mem_of_getElem? (i := 530) (by decide +kernel))) (hts _ (List.mem_of_getElem? (i := 123) (by decide +kernel))) (va_eqt (hs _ (by decide +kernel))) hA
  have hF := va_Zqof (C := "jdk/internal/util/Preconditions") (n := "SIOOBE_FORMATTER") (d := "Ljava/util/function/BiFunction;") (A := fun q => s.heap.size ≤ q) (hts _ (List.mem_of_getElem? (i := 546) (by decide +kernel))) (hts _ (List.mem_of_getElem? (i := 125) (by decide +kernel))) (hs _ (by decide +kernel)) hA
  have hR : vk_R RX10 51 "places" (adK 0) s ∧ vk_R RX10 64 "person" (adK 1) s ∧ vk_R RX10 72 "errand" (adK 2) s := ⟨vk_R.of (hts _ (List.mem_of_getElem? (i := 516) (by decide +kernel))) (hT 0 (by decide)), vk_R.of (hts _ (List.mem_of_getElem? (i := 589) (by decide +kernel))) (hT 1 (by decide)), vk_R.of (hts _ (List.mem_of_getElem? (i := 595) (by decide +kernel))) (hT 2 (by decide))⟩
  rcases hF with hF | ⟨fm, hF⟩
  · exact ⟨adK, adV, 0, hS, hR, hZ, Or.inl hF⟩
  · exact ⟨adK, adV, fm, hS, hR, hZ, Or.inr hF⟩
