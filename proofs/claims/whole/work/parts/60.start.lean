theorem nc_L_7 : NC RL 7 11 15 [.null, .null, .null, .null, .null, .null, .null, .null, .null, .int 0, .int 0, .int 0, .int 0, .int 0, .int 0] := ⟨RX11, TX11, tyX11, rfl, tbl_in 130 (by decide +kernel) (by decide +kernel), tbl_in 131 (by decide +kernel) (by decide +kernel), tbl_in 109 (by decide +kernel) (by decide +kernel), lay_11, tyX11_ok, fun j hj => by
  match j, hj with
  | 0, _ => rfl
  | 1, _ => rfl
  | 2, _ => rfl
  | 3, _ => rfl
  | 4, _ => rfl
  | 5, _ => rfl
  | 6, _ => rfl
  | 7, _ => rfl
  | 8, _ => rfl
  | 9, _ => rfl
  | 10, _ => rfl
  | 11, _ => rfl
  | 12, _ => rfl
  | 13, _ => rfl
  | 14, _ => rfl
  | j + 15, hj => omega⟩
theorem nc_L_10 : NC RL 10 12 29 [.null, .null, .null, .null, .long 0, .long 0, .null, .null, .null, .int 0, .null, .null, .null, .null, .null, .null, .int 0, .null, .null, .null, .null, .int 0, .int 0, .int 0, .int 0, .int 0, .null, .int 0, .int 0] := ⟨RX12, TX12, tyX12, rfl, tbl_in 943 (by decide +kernel) (by decide +kernel), tbl_in 944 (by decide +kernel) (by decide +kernel), tbl_in 121 (by decide +kernel) (by decide +kernel), lay_12, tyX12_ok, fun j hj => by
  match j, hj with
  | 0, _ => rfl
  | 1, _ => rfl
  | 2, _ => rfl
  | 3, _ => rfl
  | 4, _ => rfl
  | 5, _ => rfl
  | 6, _ => rfl
  | 7, _ => rfl
  | 8, _ => rfl
  | 9, _ => rfl
  | 10, _ => rfl
  | 11, _ => rfl
  | 12, _ => rfl
  | 13, _ => rfl
  | 14, _ => rfl
  | 15, _ => rfl
  | 16, _ => rfl
  | 17, _ => rfl
  | 18, _ => rfl
  | 19, _ => rfl
  | 20, _ => rfl
  | 21, _ => rfl
  | 22, _ => rfl
  | 23, _ => rfl
  | 24, _ => rfl
  | 25, _ => rfl
  | 26, _ => rfl
  | 27, _ => rfl
  | 28, _ => rfl
  | j + 29, hj => omega⟩
theorem ci_L_9 : CFI RL 9 M_X11_init 0 := ⟨cn_X11_init, Or.inl (tbl_in 132 (by decide +kernel) (by decide +kernel)), tbl_in 133 (by decide +kernel) (by decide +kernel), rfl, rfl⟩
theorem ci_L_12 : CFI RL 12 M_X12_init 0 := ⟨cn_X12_init, Or.inl (tbl_in 945 (by decide +kernel) (by decide +kernel)), tbl_in 946 (by decide +kernel) (by decide +kernel), rfl, rfl⟩
/-- what Splits' constructor leaves -/
def spT : Sg := (s_spl sgZ).getD sgZ
/-- the state behind both constructors -/
def rw0 : List (Nat → Int32) := [fun j => if j = 11 then 1 else 0, fun _ => 0, fun _ => 0, fun _ => 0, fun _ => 0, fun _ => 0, fun j => if j = 5 then 4 else 0, fun _ => 0, fun _ => 0, fun _ => 0, fun _ => 0, fun _ => 0, fun _ => 0, gI spT 1, fun _ => 0, fun _ => 0, fun _ => 0, fun _ => 0, fun _ => 0, fun j => if j = 5 then 4 else 0, fun _ => 0, fun _ => 0, fun _ => 0, fun _ => 0, fun _ => 0, fun _ => 0, fun _ => 0, fun _ => 0, fun _ => 0, fun _ => 0, fun _ => 0, fun _ => 0, fun _ => 0, fun _ => 0, fun _ => 0, fun _ => 0, fun _ => 0, fun _ => 0, fun _ => 0, fun _ => 0, fun _ => 0, fun _ => 0, fun _ => 0, fun _ => 0, fun _ => 0, fun _ => 0, fun _ => 0, fun j => if j = 5 then 4 else 0, fun _ => 0, fun _ => 0, fun _ => 0, fun _ => 0, fun _ => 0, fun _ => 0, fun _ => 0, fun _ => 0, fun _ => 0, fun _ => 0, fun _ => 0, fun j => if j = 5 then 4 else 0, fun _ => 0, fun _ => 0, fun _ => 0, fun _ => 0, fun _ => 0, fun _ => 0, fun _ => 0, fun _ => 0, fun _ => 0, fun _ => 0, fun _ => 0, fun _ => 0, upd (fun _ => 0) (Int32.toNatClampNeg 0) 4, fun _ => 0, fun _ => 0, fun _ => 0, fun _ => 0, fun _ => 0, fun _ => 0, fun _ => 0, fun _ => 0, fun _ => 0, fun _ => 0, fun _ => 0, fun _ => 0, fun _ => 0, fun _ => 0, fun _ => 0, fun _ => 0, fun _ => 0]
def sg0 : Sg := (fun a => rw0.getD a (fun _ => 0), fun a => if a = 14 then gL spT 2 else fun j => if a = 71 then (if j = 5 then 1 else 0) else 0, fun a j => if a = 4 then 5 else if j = 2 then 45 else 46)
theorem arr_of {ty : FieldType} {args : Array Value} {s : State} (h : (Cond.arrayClass ty).before args s = true) : ∃ cA, ArrOfT s cA ty ∧ s.vm.findClass ("[" ++ ty.toString) = some cA := by
  obtain ⟨cA, kA, comp, h1, h2, h3⟩ := Cond.arrayClass_spec h
  exact ⟨cA, fun n z => ⟨fun k h => (by cases h), kA, h2, comp, h3⟩, h1⟩
theorem arr_ofO {C : String} {args : Array Value} {s : State} (h : (Cond.arrayOver (.object C)).before args s = true) : ∃ cA, ArrOfT s cA (.object C) ∧ va_RA s cA (.object C) := by
  obtain ⟨comp, cA, kA, h1, h2, h3, h4, h5⟩ := Cond.arrayOver_spec h
  exact ⟨cA, fun N z => ⟨(fun k h => by cases h), kA, h3, comp, h4⟩, kA, comp, h3, h4, h1, h5⟩
theorem start_K {args : Array Value} {s : State} (hts : ∀ w ∈ lw_tbl, w.before args s = true) : ∃ (D : va_G) (tc : Nat → ClassId), va_K D vwCl (tysO tc) s := by
  have htT : ∀ w ∈ tbl, w.before args s = true := fun w hw => hts w (List.mem_filter.mp hw).1
  have h0 : ∀ k : Nat, ∃ z : ClassId × (Nat → Nat), ∀ q, vwCl[k]? = some q → u_Kn s q.1 q.2.1 q.2.2 z.1 z.2 := by
    intro k
    match k with
    | 0 =>
      obtain ⟨c0, i0, h⟩ := u_known (C := RX0) (T := TX0) (N := 10) (n := 10) htT lay_0 (hts _ (List.mem_of_getElem? (i := 280) (by decide +kernel)))
      exact ⟨(c0, i0), fun q hq => by cases hq; exact h⟩
    | 1 =>
      obtain ⟨c0, i0, h⟩ := u_known (C := RX1) (T := TX1) (N := 4) (n := 4) htT lay_1 (hts _ (List.mem_of_getElem? (i := 361) (by decide +kernel)))
      exact ⟨(c0, i0), fun q hq => by cases hq; exact h⟩
    | 2 =>
      obtain ⟨c0, i0, h⟩ := u_known (C := RX2) (T := TX2) (N := 0) (n := 0) htT (fun w hw => by simp [u_ws] at hw) (hts _ (List.mem_of_getElem? (i := 294) (by decide +kernel)))
      exact ⟨(c0, i0), fun q hq => by cases hq; exact h⟩
    | 3 =>
      obtain ⟨c0, i0, h⟩ := u_known (C := RX3) (T := TX3) (N := 0) (n := 0) htT (fun w hw => by simp [u_ws] at hw) (hts _ (List.mem_of_getElem? (i := 315) (by decide +kernel)))
      exact ⟨(c0, i0), fun q hq => by cases hq; exact h⟩
    | 4 =>
      obtain ⟨c0, i0, h⟩ := u_known (C := RX4) (T := TX4) (N := 0) (n := 0) htT (fun w hw => by simp [u_ws] at hw) (hts _ (List.mem_of_getElem? (i := 308) (by decide +kernel)))
      exact ⟨(c0, i0), fun q hq => by cases hq; exact h⟩
    | 5 =>
      obtain ⟨c0, i0, h⟩ := u_known (C := RX5) (T := TX5) (N := 0) (n := 0) htT (fun w hw => by simp [u_ws] at hw) (hts _ (List.mem_of_getElem? (i := 287) (by decide +kernel)))
      exact ⟨(c0, i0), fun q hq => by cases hq; exact h⟩
    | 6 =>
      obtain ⟨c0, i0, h⟩ := u_known (C := RX6) (T := TX6) (N := 8) (n := 8) htT lay_6 (hts _ (List.mem_of_getElem? (i := 242) (by decide +kernel)))
      exact ⟨(c0, i0), fun q hq => by cases hq; exact h⟩
    | 7 =>
      obtain ⟨c0, i0, h⟩ := u_known (C := RX7) (T := TX7) (N := 6) (n := 6) htT lay_7 (hts _ (List.mem_of_getElem? (i := 210) (by decide +kernel)))
      exact ⟨(c0, i0), fun q hq => by cases hq; exact h⟩
    | 8 =>
      obtain ⟨c0, i0, h⟩ := u_known (C := RX8) (T := TX8) (N := 0) (n := 0) htT (fun w hw => by simp [u_ws] at hw) (hts _ (List.mem_of_getElem? (i := 301) (by decide +kernel)))
      exact ⟨(c0, i0), fun q hq => by cases hq; exact h⟩
    | 9 =>
      obtain ⟨c0, i0, h⟩ := u_known (C := RX9) (T := TX9) (N := 7) (n := 7) htT lay_9 (hts _ (List.mem_of_getElem? (i := 147) (by decide +kernel)))
      exact ⟨(c0, i0), fun q hq => by cases hq; exact h⟩
    | 10 =>
      obtain ⟨c0, i0, h⟩ := u_known (C := RX10) (T := TX10) (N := 5) (n := 5) htT lay_10 (hts _ (List.mem_of_getElem? (i := 141) (by decide +kernel)))
      exact ⟨(c0, i0), fun q hq => by cases hq; exact h⟩
    | 11 =>
      obtain ⟨c0, i0, h⟩ := u_known (C := RX11) (T := TX11) (N := 15) (n := 15) htT lay_11 (hts _ (List.mem_of_getElem? (i := 131) (by decide +kernel)))
      exact ⟨(c0, i0), fun q hq => by cases hq; exact h⟩
    | 12 =>
      obtain ⟨c0, i0, h⟩ := u_known (C := RX12) (T := TX12) (N := 29) (n := 29) htT lay_12 (hts _ (List.mem_of_getElem? (i := 944) (by decide +kernel)))
      exact ⟨(c0, i0), fun q hq => by cases hq; exact h⟩
    | k + 13 => exact ⟨(0, fun _ => 0), fun q hq => by simp [vwCl] at hq⟩
  obtain ⟨z, hz⟩ := Classical.axiomOfChoice h0
  obtain ⟨c0, a0, b0⟩ := arr_of (ty := .int) (hts _ (List.mem_of_getElem? (i := 191) (by decide +kernel)))
  obtain ⟨c1, a1, b1⟩ := arr_of (ty := .boolean) (hts _ (List.mem_of_getElem? (i := 190) (by decide +kernel)))
  obtain ⟨c2, a2, b2⟩ := arr_of (ty := .long) (hts _ (List.mem_of_getElem? (i := 239) (by decide +kernel)))
  obtain ⟨c3, a3, b3⟩ := arr_ofO (C := RX6) (hts _ (List.mem_of_getElem? (i := 139) (by decide +kernel)))
  obtain ⟨c4, a4, b4⟩ := arr_ofO (C := RX5) (hts _ (List.mem_of_getElem? (i := 286) (by decide +kernel)))
  refine ⟨(fun k => (z k).1, fun k => (z k).2), fun i => [c0, c1, c2, c3, c4].getD i c0, fun k q hq => hz k q hq, fun k q hq => ?_⟩
  match k, hq with
  | 0, hq => cases hq; exact ⟨a0, b0⟩
  | 1, hq => cases hq; exact ⟨a1, b1⟩
  | 2, hq => cases hq; exact ⟨a2, b2⟩
  | 3, hq => cases hq; exact ⟨a3, b3⟩
  | 4, hq => cases hq; exact ⟨a4, b4⟩
  | k + 5, hq => simp [tysO] at hq
theorem start_AO {args : Array Value} {s : State} (hts : ∀ w ∈ lw_tbl, w.before args s = true) : AOs s := ⟨va_AO.of (hts _ (List.mem_of_getElem? (i := 139) (by decide +kernel))), va_AO.of (hts _ (List.mem_of_getElem? (i := 286) (by decide +kernel))), va_Nw.of rfl (hts _ (List.mem_of_getElem? (i := 1397) (by decide +kernel))), va_Nw.of rfl (hts _ (List.mem_of_getElem? (i := 1398) (by decide +kernel))), va_Nw.of rfl (hts _ (List.mem_of_getElem? (i := 1399) (by decide +kernel))), va_Nw.of rfl (hts _ (List.mem_of_getElem? (i := 1400) (by decide +kernel)))⟩
theorem start_N {args : Array Value} {s : State} (hts : ∀ w ∈ lw_tbl, w.before args s = true) : ∀ w ∈ nst, va_Nw w s := fun w hw => by
  have h1 := (List.mem_filter.mp hw).2
  have h2 := hts w (List.mem_filter.mp hw).1
  cases w <;> first | exact va_Nw.of rfl h2 | exact absurd h1 Bool.false_ne_true
/-- the three String constants by their places in the pool -/
def tmW : Nat → Term := fun i => match i with
  | 0 => .string "TiedThrees$TownReader" 51
  | 1 => .string "TiedThrees$TownReader" 64
  | _ => .string "TiedThrees$TownReader" 72
set_option maxRecDepth 100000 in
set_option maxHeartbeats 4000000 in
theorem start_S {b : Nat} {s : State} (hts : ∀ w ∈ lw_tbl, w.before #[Value.ref b] s = true) (hgv : (Jvm.Cond.and given_1 narrow_1).before #[Value.ref b] s = true) : ∃ (adK adV : Nat → Nat) (fm : Nat), vk_S 3 lenW bytW adK adV (fun q => s.heap.size ≤ q) s s.heap ∧ (vk_R RX10 51 "places" (adK 0) s ∧ vk_R RX10 64 "person" (adK 1) s ∧ vk_R RX10 72 "errand" (adK 2) s) ∧ va_Z "java/lang/String" "COMPACT_STRINGS" "Z" (.int 1) (fun q => s.heap.size ≤ q) s s.heap ∧ (va_Z "jdk/internal/util/Preconditions" "SIOOBE_FORMATTER" "Ljava/util/function/BiFunction;" .null (fun q => s.heap.size ≤ q) s s.heap ∨ va_Z "jdk/internal/util/Preconditions" "SIOOBE_FORMATTER" "Ljava/util/function/BiFunction;" (.ref fm) (fun q => s.heap.size ≤ q) s s.heap) := by
  have hs := flat_of_before _ hgv
  have hA : ∀ a : Nat, a < s.heap.size → ¬ (fun q => s.heap.size ≤ q) a := fun a h q => Nat.not_le.mpr h q
  obtain ⟨adK, adV, hS, hT⟩ := vk_Sof (args := #[Value.ref b]) (s := s) (N := 3) (tm := tmW) (len := lenW) (byt := bytW) (A := fun q => s.heap.size ≤ q)
    (fun i hi => by match i, hi with | 0, _ => decide | 1, _ => decide | 2, _ => decide)
    (fun i hi => by match i, hi with | 0, _ => exact hs _ (by decide +kernel) | 1, _ => exact hs _ (by decide +kernel) | 2, _ => exact hs _ (by decide +kernel))
    (fun i hi => by match i, hi with | 0, _ => exact hs _ (by decide +kernel) | 1, _ => exact hs _ (by decide +kernel) | 2, _ => exact hs _ (by decide +kernel))
    (fun i hi => by match i, hi with | 0, _ => exact hs _ (by decide +kernel) | 1, _ => exact hs _ (by decide +kernel) | 2, _ => exact hs _ (by decide +kernel))
    (fun i hi => by match i, hi with | 0, _ => exact hs _ (by decide +kernel) | 1, _ => exact hs _ (by decide +kernel) | 2, _ => exact hs _ (by decide +kernel))
    (fun i hi j hj => by
      match i, hi, j, hj with
      | 0, _, 0, _ => exact hs _ (by decide +kernel)
      | 0, _, 1, _ => exact hs _ (by decide +kernel)
      | 0, _, 2, _ => exact hs _ (by decide +kernel)
      | 0, _, 3, _ => exact hs _ (by decide +kernel)
      | 0, _, 4, _ => exact hs _ (by decide +kernel)
      | 0, _, 5, _ => exact hs _ (by decide +kernel)
      | 1, _, 0, _ => exact hs _ (by decide +kernel)
      | 1, _, 1, _ => exact hs _ (by decide +kernel)
      | 1, _, 2, _ => exact hs _ (by decide +kernel)
      | 1, _, 3, _ => exact hs _ (by decide +kernel)
      | 1, _, 4, _ => exact hs _ (by decide +kernel)
      | 1, _, 5, _ => exact hs _ (by decide +kernel)
      | 2, _, 0, _ => exact hs _ (by decide +kernel)
      | 2, _, 1, _ => exact hs _ (by decide +kernel)
      | 2, _, 2, _ => exact hs _ (by decide +kernel)
      | 2, _, 3, _ => exact hs _ (by decide +kernel)
      | 2, _, 4, _ => exact hs _ (by decide +kernel)
      | 2, _, 5, _ => exact hs _ (by decide +kernel)
      | 0, _, j + 6, hj => exact absurd hj (Nat.not_lt.mpr (Nat.le_add_left 6 j))
      | 1, _, j + 6, hj => exact absurd hj (Nat.not_lt.mpr (Nat.le_add_left 6 j))
      | 2, _, j + 6, hj => exact absurd hj (Nat.not_lt.mpr (Nat.le_add_left 6 j)))
    (fun i j hi hj hij => by
      match i, hi, j, hj, hij with
      | 0, _, 1, _, _ => first | exact Or.inl (hs _ (by decide +kernel)) | exact Or.inr (hs _ (by decide +kernel))
      | 0, _, 2, _, _ => first | exact Or.inl (hs _ (by decide +kernel)) | exact Or.inr (hs _ (by decide +kernel))
      | 1, _, 0, _, _ => first | exact Or.inl (hs _ (by decide +kernel)) | exact Or.inr (hs _ (by decide +kernel))
      | 1, _, 2, _, _ => first | exact Or.inl (hs _ (by decide +kernel)) | exact Or.inr (hs _ (by decide +kernel))
      | 2, _, 0, _, _ => first | exact Or.inl (hs _ (by decide +kernel)) | exact Or.inr (hs _ (by decide +kernel))
      | 2, _, 1, _, _ => first | exact Or.inl (hs _ (by decide +kernel)) | exact Or.inr (hs _ (by decide +kernel))
      | 0, _, 0, _, h => exact absurd rfl h
      | 1, _, 1, _, h => exact absurd rfl h
      | 2, _, 2, _, h => exact absurd rfl h) hA
  have hZ : va_Z "java/lang/String" "COMPACT_STRINGS" "Z" (.int 1) (fun q => s.heap.size ≤ q) s s.heap := va_Zof (hts _ (List.mem_of_getElem? (i := 530) (by decide +kernel))) (hts _ (List.mem_of_getElem? (i := 123) (by decide +kernel))) (va_eqt (hs _ (by decide +kernel))) hA
  have hF := va_Zqof (C := "jdk/internal/util/Preconditions") (n := "SIOOBE_FORMATTER") (d := "Ljava/util/function/BiFunction;") (A := fun q => s.heap.size ≤ q) (hts _ (List.mem_of_getElem? (i := 546) (by decide +kernel))) (hts _ (List.mem_of_getElem? (i := 125) (by decide +kernel))) (hs _ (by decide +kernel)) hA
  have hR : vk_R RX10 51 "places" (adK 0) s ∧ vk_R RX10 64 "person" (adK 1) s ∧ vk_R RX10 72 "errand" (adK 2) s := ⟨vk_R.of (hts _ (List.mem_of_getElem? (i := 516) (by decide +kernel))) (hT 0 (by decide)), vk_R.of (hts _ (List.mem_of_getElem? (i := 589) (by decide +kernel))) (hT 1 (by decide)), vk_R.of (hts _ (List.mem_of_getElem? (i := 595) (by decide +kernel))) (hT 2 (by decide))⟩
  rcases hF with hF | ⟨fm, hF⟩
  · exact ⟨adK, adV, 0, hS, hR, hZ, Or.inl hF⟩
  · exact ⟨adK, adV, fm, hS, hR, hZ, Or.inr hF⟩
def R_law : String := "TiedThreesLaw"
def lw_P (b : Addr) (xs : List Int32) (args : Array Value) (s : State) : Prop := args = #[.ref b] ∧ s.IntsAt b xs ∧ xs.length ≤ 2048 ∧ (Jvm.Cond.and given_1 narrow_1).before args s = true
def lw_Q (_ : Array Value) (s : State) (o : Outcome) (t : State) : Prop := o = .returned (some (.int 1)) ∧ Framed s o t [] 600000 7302250
def lw_Z (below : List Frame) (a : Array Value) (s : State) : State → Prop := fun t => ∃ o, t.status = .running ∧ Ended t below o ∧ lw_Q a s o t
/-- the law's own end, with 1 on the stack, nothing written that was there before, its room as the claim has it -/
theorem lw_ret {p : Program} {l : Launch} {e : Env} {s : State} {m : MethodId} {below : List Frame} {meth : Method} {c : Code} {b : Nat} (hx : p.tables.exec = Jvm.exec) (hb : c.code = code) (hr : meth.sig.returnType = ret) (hlocks : meth.locks = false) {pc : Nat} {H : Heap} {ls : Array Slot} (hdg : decode code pc = .ok (.ireturn, 1)) : W p l e room_1 s m #[Value.ref b] below meth c H [] 600000 7302250 (lw_Z below #[Value.ref b] s) (F0 m pc ls [.int 1]) := by
  intro T hT X
  obtain ⟨fs, hret, hrun, hended, hW, hframe⟩ := X.leave (v := some (.int 1)) (hlocks := hlocks) (fun h => by rw [hr] at h; cases h)
  have hmeth' : T.vm.method? m = some meth := X.method'
  refine ⟨T.setFrames fs, ?_, .returned (some (.int 1)), hrun, hended, rfl, ⟨_, rfl⟩, hW, hframe⟩
  jvm_step X.here [X.here.top, hx, hb, hdg, hmeth', hr, ret, narrow_b1]
  (try refine ⟨rfl, ?_⟩); (try refine ⟨rfl, ?_⟩)
  first | (intro acts; rw [hret _ acts rfl rfl rfl]) | rw [hret _ _ rfl rfl rfl]
  exact Steps.refl _
/-- what holds at the law's entry: the machine, the code, the tables' words (any of lw_tbl by 'hts w (by decide +kernel)'), the script of L ints xs at the cell b, what the Statement gives of the start (any of its parts by flat_of_before) -/
def lw_At (p : Program) (s : State) (m : MethodId) (meth : Method) (c : Code) (b L : Nat) (xs : Nat → Int32) : Prop :=
  p.tables.exec = Jvm.exec ∧ c.code = code ∧ meth.sig.returnType = ret ∧ c.maxLocals = 4 ∧ s.vm.findClass R_law = some m.cls ∧ (∀ w ∈ lw_tbl, w.before #[Value.ref b] s = true) ∧ va_X b L xs s s.heap ∧ b < s.heap.size ∧ meth.locks = false ∧ (Jvm.Cond.and given_1 narrow_1).before #[Value.ref b] s = true
set_option maxRecDepth 100000 in
set_option maxHeartbeats 16000000 in
theorem start_ws {tc : Nat → ClassId} {adK adV : Nat → Nat} {fm b : Nat} {x0 x1 x2 x3 x4 x5 x6 x7 x8 x9 x10 x11 x12 x13 x14 x15 x16 x17 x21 x22 x23 x24 x25 x26 x27 x28 x29 x30 x31 x32 x33 x34 x35 x36 x37 x38 x39 x40 x41 x42 x43 x44 x45 x46 x47 x48 x49 x51 x52 x53 x54 x55 x56 x50 x57 x58 x59 x60 x61 x63 x64 x65 x66 x67 x68 x62 x69 x70 x71 x72 x73 m0 m1 m2 m3 m4 m5 m6 m7 m8 m9 m10 m11 m12 m13 m14 m15 m16 m17 m18 : Nat} : ([(x0, .inr (11, [.ref x28, .ref x1, .ref x2, .ref x3, .ref x4, .ref x34, .ref x46, .ref x12, .ref x21, .int 0, .int 0, .int 1, .int 0, .int 0, .int 0])), (x1, .inl (tc 3, 2, .inr (.inr (.inr (.inr (va_up (va_up (fun _ => none) (Int32.toNatClampNeg 0) (some x50)) (Int32.toNatClampNeg 1) (some x62))))))), (x2, .inl (tc 1, 2, .inl (fun _ => 0))), (x3, .inl (tc 0, 250, .inl (fun _ => 0))), (x4, .inr (10, [.ref x6, .ref x5, .int 0, .int 0, .int 0])), (x5, .inl (tc 0, 0, .inl (fun _ => 0))), (x6, .inr (9, [.ref x7, .ref x8, .ref x9, .ref x10, .ref x11, .int 4, .int 0])), (x7, .inl (tc 0, 9, .inl (fun _ => 0))), (x8, .inl (tc 0, 9, .inl (fun _ => 0))), (x9, .inl (tc 0, 9, .inl (fun _ => 0))), (x10, .inl (tc 0, 36, .inl (fun _ => 0))), (x11, .inl (tc 0, 36, .inl (fun _ => 0))), (x12, .inr (7, [.ref x13, .ref x14, .ref x15, .ref x16, .ref x17, .int 0])), (x13, .inl (tc 0, 84, .inl (gI spT 1))), (x14, .inl (tc 2, 512, .inr (.inl (gL spT 2)))), (x15, .inl (tc 0, 512, .inl (fun _ => 0))), (x16, .inl (tc 0, 840, .inl (fun _ => 0))), (x17, .inl (tc 2, 280, .inr (.inl (fun _ => 0)))), (x21, .inl (tc 0, 3, .inl (fun _ => 0))), (x22, .inr (9, [.ref x23, .ref x24, .ref x25, .ref x26, .ref x27, .int 4, .int 0])), (x23, .inl (tc 0, 9, .inl (fun _ => 0))), (x24, .inl (tc 0, 9, .inl (fun _ => 0))), (x25, .inl (tc 0, 9, .inl (fun _ => 0))), (x26, .inl (tc 0, 36, .inl (fun _ => 0))), (x27, .inl (tc 0, 36, .inl (fun _ => 0))), (x28, .inr (6, [.ref x22, .ref x29, .ref x30, .ref x31, .ref x32, .ref x33, .int 0, .int 0])), (x29, .inl (tc 0, 8, .inl (fun _ => 0))), (x30, .inl (tc 0, 18, .inl (fun _ => 0))), (x31, .inl (tc 0, 5, .inl (fun _ => 0))), (x32, .inl (tc 0, 5, .inl (fun _ => 0))), (x33, .inl (tc 0, 5, .inl (fun _ => 0))), (x34, .inr (0, [.ref x22, .ref x35, .ref x36, .ref x37, .ref x38, .ref x39, .ref x40, .int 0, .int 0, .int 0])), (x35, .inl (tc 4, 5, .inr (.inr (.inr (.inr (va_up (va_up (va_up (va_up (va_up (fun _ => none) (Int32.toNatClampNeg 0) (some x41)) (Int32.toNatClampNeg 1) (some x42)) (Int32.toNatClampNeg 2) (some x43)) (Int32.toNatClampNeg 3) (some x44)) (Int32.toNatClampNeg 4) (some x45))))))), (x36, .inl (tc 0, 3, .inl (fun _ => 0))), (x37, .inl (tc 0, 3, .inl (fun _ => 0))), (x38, .inl (tc 1, 3, .inl (fun _ => 0))), (x39, .inl (tc 1, 36, .inl (fun _ => 0))), (x40, .inl (tc 0, 10, .inl (fun _ => 0))), (x41, .inr (5, [])), (x42, .inr (2, [])), (x43, .inr (8, [])), (x44, .inr (4, [])), (x45, .inr (3, [])), (x46, .inr (1, [.ref x22, .ref x47, .ref x48, .ref x49])), (x47, .inl (tc 0, 60, .inl (fun _ => 0))), (x48, .inl (tc 0, 384, .inl (fun _ => 0))), (x49, .inl (tc 0, 384, .inl (fun _ => 0))), (x51, .inr (9, [.ref x52, .ref x53, .ref x54, .ref x55, .ref x56, .int 4, .int 0])), (x52, .inl (tc 0, 9, .inl (fun _ => 0))), (x53, .inl (tc 0, 9, .inl (fun _ => 0))), (x54, .inl (tc 0, 9, .inl (fun _ => 0))), (x55, .inl (tc 0, 36, .inl (fun _ => 0))), (x56, .inl (tc 0, 36, .inl (fun _ => 0))), (x50, .inr (6, [.ref x51, .ref x57, .ref x58, .ref x59, .ref x60, .ref x61, .int 0, .int 0])), (x57, .inl (tc 0, 8, .inl (fun _ => 0))), (x58, .inl (tc 0, 18, .inl (fun _ => 0))), (x59, .inl (tc 0, 5, .inl (fun _ => 0))), (x60, .inl (tc 0, 5, .inl (fun _ => 0))), (x61, .inl (tc 0, 5, .inl (fun _ => 0))), (x63, .inr (9, [.ref x64, .ref x65, .ref x66, .ref x67, .ref x68, .int 4, .int 0])), (x64, .inl (tc 0, 9, .inl (fun _ => 0))), (x65, .inl (tc 0, 9, .inl (fun _ => 0))), (x66, .inl (tc 0, 9, .inl (fun _ => 0))), (x67, .inl (tc 0, 36, .inl (fun _ => 0))), (x68, .inl (tc 0, 36, .inl (fun _ => 0))), (x62, .inr (6, [.ref x63, .ref x69, .ref x70, .ref x71, .ref x72, .ref x73, .int 0, .int 0])), (x69, .inl (tc 0, 8, .inl (fun _ => 0))), (x70, .inl (tc 0, 18, .inl (fun _ => 0))), (x71, .inl (tc 0, 5, .inl (fun _ => 0))), (x72, .inl (tc 0, 5, .inl (fun _ => 0))), (x73, .inl (tc 0, 5, .inl (fun _ => 0))), (m0, .inr (12, [.ref m1, .ref m2, .ref m3, .ref m4, .long 0, .long 1, .ref m5, .ref m6, .ref m7, .int 0, .ref m8, .ref m9, .ref m10, .ref m11, .ref m12, .ref m13, .int 0, .ref m14, .ref m15, .ref m16, .ref m17, .int 0, .int 0, .int 0, .int 0, .int 0, .ref m18, .int 0, .int 0])), (m1, .inl (tc 0, 143, .inl (upd (fun _ => 0) (Int32.toNatClampNeg 0) 4))), (m2, .inl (tc 0, 286, .inl (fun _ => 0))), (m3, .inl (tc 1, 2, .inl (fun _ => 0))), (m4, .inl (tc 0, 3, .inl (fun _ => 0))), (m5, .inl (tc 0, 3, .inl (fun _ => 0))), (m6, .inl (tc 0, 3, .inl (fun _ => 0))), (m7, .inl (tc 0, 10, .inl (fun _ => 0))), (m8, .inl (tc 1, 24576, .inl (fun _ => 0))), (m9, .inl (tc 1, 24576, .inl (fun _ => 0))), (m10, .inl (tc 0, 3, .inl (fun _ => 0))), (m11, .inl (tc 0, 512, .inl (fun _ => 0))), (m12, .inl (tc 0, 3, .inl (fun _ => 0))), (m13, .inl (tc 2, 280, .inr (.inl (fun _ => 0)))), (m14, .inl (tc 0, 7442, .inl (fun _ => 0))), (m15, .inl (tc 0, 7442, .inl (fun _ => 0))), (m16, .inl (tc 0, 7442, .inl (fun _ => 0))), (m17, .inl (tc 0, 250, .inl (fun _ => 0))), (m18, .inl (tc 0, 101, .inl (fun _ => 0)))] : va_W) = wsG SK tc (fun k => if k < 90 then [x0, x1, x2, x3, x4, x5, x6, x7, x8, x9, x10, x11, x12, x13, x14, x15, x16, x17, x21, x22, x23, x24, x25, x26, x27, x28, x29, x30, x31, x32, x33, x34, x35, x36, x37, x38, x39, x40, x41, x42, x43, x44, x45, x46, x47, x48, x49, x51, x52, x53, x54, x55, x56, x50, x57, x58, x59, x60, x61, x63, x64, x65, x66, x67, x68, x62, x69, x70, x71, x72, x73, m0, m1, m2, m3, m4, m5, m6, m7, m8, m9, m10, m11, m12, m13, m14, m15, m16, m17, m18].getD k 0 else if k < 93 then adK (k - 90) else if k < 96 then adV (k - 93) else if k = 96 then fm else b) sg0 := by
  rfl
set_option maxRecDepth 100000 in
set_option maxHeartbeats 16000000 in
/-- the law from its entry, but for the numbers: hp -/
theorem whole_start_open (hp : ∀ (xs : Nat → Int32) (L : Nat), L ≤ 2048 → ∃ τ, s_law xs L sg0 = some (1, τ)) {p : Program} {e : Env} {s : State} {m : MethodId} {below : List Frame} {meth : Method} {c : Code} (l : Launch) {b L : Nat} {xs : Nat → Int32} (hL : L ≤ 2048) (C0 : lw_At p s m meth c b L xs) : W p l e room_1 s m #[Value.ref b] below meth c s.heap [] 0 0 (lw_Z below #[Value.ref b] s) (entryFrame m ([Value.ref b] : List Value).toArray 4) := by
  obtain ⟨hx, hb, hr, hml, hown, hts, hX, hbl, hlocks, hgv⟩ := C0
  obtain ⟨D, tc, hK⟩ := start_K hts
  obtain ⟨adK, adV, fm, hVS, hVR, hVZ, hVF⟩ := start_S hts hgv
  obtain ⟨τ, hτ⟩ := hp xs L hL
  have htT : ∀ w ∈ tbl, w.before #[Value.ref b] s = true := fun w hw => hts w (List.mem_filter.mp hw).1
  have hC : CxC M_L_law p s m #[Value.ref b] meth c D tc (fun q => s.heap.size ≤ q) := ⟨hx, hb, hml, hr, htT, hown, hlocks, hK, start_N hts, fun _ h => h, start_AO hts⟩
  have hl := lv_entry ([.ref b]) (n := 4) (Nat.le_of_ble_eq_true rfl)
  rw [lg_entry_eq]
  have key : Ec M_L_law p l e room_1 s m #[Value.ref b] below meth c D (fun q => s.heap.size ≤ q) (lw_Z below #[Value.ref b] s) [] 0 0 0 [(0, .ref b)] [] := by
    refine Ec_new hC (dt_L_law.at 0 rfl) nc_L_7 ⟨Nat.le_of_ble_eq_true rfl, Nat.le_of_ble_eq_true rfl⟩ (fun x0 => ?_)
    refine Ec_dup hC (dt_L_law.at 1 rfl) rfl ?_
    refine Ec_ctor hC (wc := [(x0, .inr (11, [.null, .null, .null, .null, .null, .null, .null, .null, .null, .int 0, .int 0, .int 0, .int 0, .int 0, .int 0]))]) (wr := []) (Bt := Bc_X11_init tc x0) [] [0] [] (dt_L_law.at 2 rfl) ci_L_9 (w_c_X11_init tc x0) ⟨Nat.le_of_ble_eq_true rfl, Nat.le_of_ble_eq_true rfl⟩ ⟨Nat.le_of_ble_eq_true rfl, Nat.le_of_ble_eq_true rfl⟩ rfl rfl ⟨by decide, by decide⟩ (by decide) rfl rfl (Nat.le_of_ble_eq_true rfl) (fun w1 hB => ?_)
    obtain ⟨x1, x2, x3, x4, x5, x6, x7, x8, x9, x10, x11, x12, x13, x14, x15, x16, x17, x21, x22, x23, x24, x25, x26, x27, x28, x29, x30, x31, x32, x33, x34, x35, x36, x37, x38, x39, x40, x41, x42, x43, x44, x45, x46, x47, x48, x49, x51, x52, x53, x54, x55, x56, x50, x57, x58, x59, x60, x61, x63, x64, x65, x66, x67, x68, x62, x69, x70, x71, x72, x73, g18, g19, hspl, rfl⟩ := hB
    show Ec _ _ _ _ _ _ _ _ _ _ _ _ _ _ [(x0, .inr (11, [.ref x28, .ref x1, .ref x2, .ref x3, .ref x4, .ref x34, .ref x46, .ref x12, .ref x21, .int 0, .int 0, .int 1, .int 0, .int 0, .int 0])), (x1, .inl (tc 3, 2, .inr (.inr (.inr (.inr (va_up (va_up (fun _ => none) (Int32.toNatClampNeg 0) (some x50)) (Int32.toNatClampNeg 1) (some x62))))))), (x2, .inl (tc 1, 2, .inl (fun _ => 0))), (x3, .inl (tc 0, 250, .inl (fun _ => 0))), (x4, .inr (10, [.ref x6, .ref x5, .int 0, .int 0, .int 0])), (x5, .inl (tc 0, 0, .inl (fun _ => 0))), (x6, .inr (9, [.ref x7, .ref x8, .ref x9, .ref x10, .ref x11, .int 4, .int 0])), (x7, .inl (tc 0, 9, .inl (fun _ => 0))), (x8, .inl (tc 0, 9, .inl (fun _ => 0))), (x9, .inl (tc 0, 9, .inl (fun _ => 0))), (x10, .inl (tc 0, 36, .inl (fun _ => 0))), (x11, .inl (tc 0, 36, .inl (fun _ => 0))), (x12, .inr (7, [.ref x13, .ref x14, .ref x15, .ref x16, .ref x17, .int 0])), (x13, .inl (tc 0, 84, .inl g18)), (x14, .inl (tc 2, 512, .inr (.inl g19))), (x15, .inl (tc 0, 512, .inl (fun _ => 0))), (x16, .inl (tc 0, 840, .inl (fun _ => 0))), (x17, .inl (tc 2, 280, .inr (.inl (fun _ => 0)))), (x21, .inl (tc 0, 3, .inl (fun _ => 0))), (x22, .inr (9, [.ref x23, .ref x24, .ref x25, .ref x26, .ref x27, .int 4, .int 0])), (x23, .inl (tc 0, 9, .inl (fun _ => 0))), (x24, .inl (tc 0, 9, .inl (fun _ => 0))), (x25, .inl (tc 0, 9, .inl (fun _ => 0))), (x26, .inl (tc 0, 36, .inl (fun _ => 0))), (x27, .inl (tc 0, 36, .inl (fun _ => 0))), (x28, .inr (6, [.ref x22, .ref x29, .ref x30, .ref x31, .ref x32, .ref x33, .int 0, .int 0])), (x29, .inl (tc 0, 8, .inl (fun _ => 0))), (x30, .inl (tc 0, 18, .inl (fun _ => 0))), (x31, .inl (tc 0, 5, .inl (fun _ => 0))), (x32, .inl (tc 0, 5, .inl (fun _ => 0))), (x33, .inl (tc 0, 5, .inl (fun _ => 0))), (x34, .inr (0, [.ref x22, .ref x35, .ref x36, .ref x37, .ref x38, .ref x39, .ref x40, .int 0, .int 0, .int 0])), (x35, .inl (tc 4, 5, .inr (.inr (.inr (.inr (va_up (va_up (va_up (va_up (va_up (fun _ => none) (Int32.toNatClampNeg 0) (some x41)) (Int32.toNatClampNeg 1) (some x42)) (Int32.toNatClampNeg 2) (some x43)) (Int32.toNatClampNeg 3) (some x44)) (Int32.toNatClampNeg 4) (some x45))))))), (x36, .inl (tc 0, 3, .inl (fun _ => 0))), (x37, .inl (tc 0, 3, .inl (fun _ => 0))), (x38, .inl (tc 1, 3, .inl (fun _ => 0))), (x39, .inl (tc 1, 36, .inl (fun _ => 0))), (x40, .inl (tc 0, 10, .inl (fun _ => 0))), (x41, .inr (5, [])), (x42, .inr (2, [])), (x43, .inr (8, [])), (x44, .inr (4, [])), (x45, .inr (3, [])), (x46, .inr (1, [.ref x22, .ref x47, .ref x48, .ref x49])), (x47, .inl (tc 0, 60, .inl (fun _ => 0))), (x48, .inl (tc 0, 384, .inl (fun _ => 0))), (x49, .inl (tc 0, 384, .inl (fun _ => 0))), (x51, .inr (9, [.ref x52, .ref x53, .ref x54, .ref x55, .ref x56, .int 4, .int 0])), (x52, .inl (tc 0, 9, .inl (fun _ => 0))), (x53, .inl (tc 0, 9, .inl (fun _ => 0))), (x54, .inl (tc 0, 9, .inl (fun _ => 0))), (x55, .inl (tc 0, 36, .inl (fun _ => 0))), (x56, .inl (tc 0, 36, .inl (fun _ => 0))), (x50, .inr (6, [.ref x51, .ref x57, .ref x58, .ref x59, .ref x60, .ref x61, .int 0, .int 0])), (x57, .inl (tc 0, 8, .inl (fun _ => 0))), (x58, .inl (tc 0, 18, .inl (fun _ => 0))), (x59, .inl (tc 0, 5, .inl (fun _ => 0))), (x60, .inl (tc 0, 5, .inl (fun _ => 0))), (x61, .inl (tc 0, 5, .inl (fun _ => 0))), (x63, .inr (9, [.ref x64, .ref x65, .ref x66, .ref x67, .ref x68, .int 4, .int 0])), (x64, .inl (tc 0, 9, .inl (fun _ => 0))), (x65, .inl (tc 0, 9, .inl (fun _ => 0))), (x66, .inl (tc 0, 9, .inl (fun _ => 0))), (x67, .inl (tc 0, 36, .inl (fun _ => 0))), (x68, .inl (tc 0, 36, .inl (fun _ => 0))), (x62, .inr (6, [.ref x63, .ref x69, .ref x70, .ref x71, .ref x72, .ref x73, .int 0, .int 0])), (x69, .inl (tc 0, 8, .inl (fun _ => 0))), (x70, .inl (tc 0, 18, .inl (fun _ => 0))), (x71, .inl (tc 0, 5, .inl (fun _ => 0))), (x72, .inl (tc 0, 5, .inl (fun _ => 0))), (x73, .inl (tc 0, 5, .inl (fun _ => 0)))] _ _ _ _ _
    refine Ec_astore_n hC (dt_L_law.at 3 rfl) (by decide) (ls' := [(1, .ref x0), (0, .ref b)]) rfl ?_
    refine Ec_new hC (dt_L_law.at 4 rfl) nc_L_10 ⟨Nat.le_of_ble_eq_true rfl, Nat.le_of_ble_eq_true rfl⟩ (fun m0 => ?_)
    refine Ec_dup hC (dt_L_law.at 5 rfl) rfl ?_
    refine Ec_ctor hC (wc := [(m0, .inr (12, [.null, .null, .null, .null, .long 0, .long 0, .null, .null, .null, .int 0, .null, .null, .null, .null, .null, .null, .int 0, .null, .null, .null, .null, .int 0, .int 0, .int 0, .int 0, .int 0, .null, .int 0, .int 0]))]) (wr := [(x0, .inr (11, [.ref x28, .ref x1, .ref x2, .ref x3, .ref x4, .ref x34, .ref x46, .ref x12, .ref x21, .int 0, .int 0, .int 1, .int 0, .int 0, .int 0])), (x1, .inl (tc 3, 2, .inr (.inr (.inr (.inr (va_up (va_up (fun _ => none) (Int32.toNatClampNeg 0) (some x50)) (Int32.toNatClampNeg 1) (some x62))))))), (x2, .inl (tc 1, 2, .inl (fun _ => 0))), (x3, .inl (tc 0, 250, .inl (fun _ => 0))), (x4, .inr (10, [.ref x6, .ref x5, .int 0, .int 0, .int 0])), (x5, .inl (tc 0, 0, .inl (fun _ => 0))), (x6, .inr (9, [.ref x7, .ref x8, .ref x9, .ref x10, .ref x11, .int 4, .int 0])), (x7, .inl (tc 0, 9, .inl (fun _ => 0))), (x8, .inl (tc 0, 9, .inl (fun _ => 0))), (x9, .inl (tc 0, 9, .inl (fun _ => 0))), (x10, .inl (tc 0, 36, .inl (fun _ => 0))), (x11, .inl (tc 0, 36, .inl (fun _ => 0))), (x12, .inr (7, [.ref x13, .ref x14, .ref x15, .ref x16, .ref x17, .int 0])), (x13, .inl (tc 0, 84, .inl g18)), (x14, .inl (tc 2, 512, .inr (.inl g19))), (x15, .inl (tc 0, 512, .inl (fun _ => 0))), (x16, .inl (tc 0, 840, .inl (fun _ => 0))), (x17, .inl (tc 2, 280, .inr (.inl (fun _ => 0)))), (x21, .inl (tc 0, 3, .inl (fun _ => 0))), (x22, .inr (9, [.ref x23, .ref x24, .ref x25, .ref x26, .ref x27, .int 4, .int 0])), (x23, .inl (tc 0, 9, .inl (fun _ => 0))), (x24, .inl (tc 0, 9, .inl (fun _ => 0))), (x25, .inl (tc 0, 9, .inl (fun _ => 0))), (x26, .inl (tc 0, 36, .inl (fun _ => 0))), (x27, .inl (tc 0, 36, .inl (fun _ => 0))), (x28, .inr (6, [.ref x22, .ref x29, .ref x30, .ref x31, .ref x32, .ref x33, .int 0, .int 0])), (x29, .inl (tc 0, 8, .inl (fun _ => 0))), (x30, .inl (tc 0, 18, .inl (fun _ => 0))), (x31, .inl (tc 0, 5, .inl (fun _ => 0))), (x32, .inl (tc 0, 5, .inl (fun _ => 0))), (x33, .inl (tc 0, 5, .inl (fun _ => 0))), (x34, .inr (0, [.ref x22, .ref x35, .ref x36, .ref x37, .ref x38, .ref x39, .ref x40, .int 0, .int 0, .int 0])), (x35, .inl (tc 4, 5, .inr (.inr (.inr (.inr (va_up (va_up (va_up (va_up (va_up (fun _ => none) (Int32.toNatClampNeg 0) (some x41)) (Int32.toNatClampNeg 1) (some x42)) (Int32.toNatClampNeg 2) (some x43)) (Int32.toNatClampNeg 3) (some x44)) (Int32.toNatClampNeg 4) (some x45))))))), (x36, .inl (tc 0, 3, .inl (fun _ => 0))), (x37, .inl (tc 0, 3, .inl (fun _ => 0))), (x38, .inl (tc 1, 3, .inl (fun _ => 0))), (x39, .inl (tc 1, 36, .inl (fun _ => 0))), (x40, .inl (tc 0, 10, .inl (fun _ => 0))), (x41, .inr (5, [])), (x42, .inr (2, [])), (x43, .inr (8, [])), (x44, .inr (4, [])), (x45, .inr (3, [])), (x46, .inr (1, [.ref x22, .ref x47, .ref x48, .ref x49])), (x47, .inl (tc 0, 60, .inl (fun _ => 0))), (x48, .inl (tc 0, 384, .inl (fun _ => 0))), (x49, .inl (tc 0, 384, .inl (fun _ => 0))), (x51, .inr (9, [.ref x52, .ref x53, .ref x54, .ref x55, .ref x56, .int 4, .int 0])), (x52, .inl (tc 0, 9, .inl (fun _ => 0))), (x53, .inl (tc 0, 9, .inl (fun _ => 0))), (x54, .inl (tc 0, 9, .inl (fun _ => 0))), (x55, .inl (tc 0, 36, .inl (fun _ => 0))), (x56, .inl (tc 0, 36, .inl (fun _ => 0))), (x50, .inr (6, [.ref x51, .ref x57, .ref x58, .ref x59, .ref x60, .ref x61, .int 0, .int 0])), (x57, .inl (tc 0, 8, .inl (fun _ => 0))), (x58, .inl (tc 0, 18, .inl (fun _ => 0))), (x59, .inl (tc 0, 5, .inl (fun _ => 0))), (x60, .inl (tc 0, 5, .inl (fun _ => 0))), (x61, .inl (tc 0, 5, .inl (fun _ => 0))), (x63, .inr (9, [.ref x64, .ref x65, .ref x66, .ref x67, .ref x68, .int 4, .int 0])), (x64, .inl (tc 0, 9, .inl (fun _ => 0))), (x65, .inl (tc 0, 9, .inl (fun _ => 0))), (x66, .inl (tc 0, 9, .inl (fun _ => 0))), (x67, .inl (tc 0, 36, .inl (fun _ => 0))), (x68, .inl (tc 0, 36, .inl (fun _ => 0))), (x62, .inr (6, [.ref x63, .ref x69, .ref x70, .ref x71, .ref x72, .ref x73, .int 0, .int 0])), (x69, .inl (tc 0, 8, .inl (fun _ => 0))), (x70, .inl (tc 0, 18, .inl (fun _ => 0))), (x71, .inl (tc 0, 5, .inl (fun _ => 0))), (x72, .inl (tc 0, 5, .inl (fun _ => 0))), (x73, .inl (tc 0, 5, .inl (fun _ => 0)))]) (Bt := Bc_X12_init tc m0) [] [71] [0, 1, 2, 3, 4, 5, 6, 7, 8, 9, 10, 11, 12, 13, 14, 15, 16, 17, 18, 19, 20, 21, 22, 23, 24, 25, 26, 27, 28, 29, 30, 31, 32, 33, 34, 35, 36, 37, 38, 39, 40, 41, 42, 43, 44, 45, 46, 47, 48, 49, 50, 51, 52, 53, 54, 55, 56, 57, 58, 59, 60, 61, 62, 63, 64, 65, 66, 67, 68, 69, 70] (dt_L_law.at 6 rfl) ci_L_12 (w_c_X12_init tc m0) ⟨Nat.le_of_ble_eq_true rfl, Nat.le_of_ble_eq_true rfl⟩ ⟨Nat.le_of_ble_eq_true rfl, Nat.le_of_ble_eq_true rfl⟩ rfl rfl ⟨by decide, by decide⟩ (by decide) rfl rfl (Nat.le_of_ble_eq_true rfl) (fun w1 hB => ?_)
    obtain ⟨m1, m2, m3, m4, m5, m6, m7, m8, m9, m10, m11, m12, m13, m14, m15, m16, m17, m18, rfl⟩ := hB
    show Ec _ _ _ _ _ _ _ _ _ _ _ _ _ _ [(x0, .inr (11, [.ref x28, .ref x1, .ref x2, .ref x3, .ref x4, .ref x34, .ref x46, .ref x12, .ref x21, .int 0, .int 0, .int 1, .int 0, .int 0, .int 0])), (x1, .inl (tc 3, 2, .inr (.inr (.inr (.inr (va_up (va_up (fun _ => none) (Int32.toNatClampNeg 0) (some x50)) (Int32.toNatClampNeg 1) (some x62))))))), (x2, .inl (tc 1, 2, .inl (fun _ => 0))), (x3, .inl (tc 0, 250, .inl (fun _ => 0))), (x4, .inr (10, [.ref x6, .ref x5, .int 0, .int 0, .int 0])), (x5, .inl (tc 0, 0, .inl (fun _ => 0))), (x6, .inr (9, [.ref x7, .ref x8, .ref x9, .ref x10, .ref x11, .int 4, .int 0])), (x7, .inl (tc 0, 9, .inl (fun _ => 0))), (x8, .inl (tc 0, 9, .inl (fun _ => 0))), (x9, .inl (tc 0, 9, .inl (fun _ => 0))), (x10, .inl (tc 0, 36, .inl (fun _ => 0))), (x11, .inl (tc 0, 36, .inl (fun _ => 0))), (x12, .inr (7, [.ref x13, .ref x14, .ref x15, .ref x16, .ref x17, .int 0])), (x13, .inl (tc 0, 84, .inl g18)), (x14, .inl (tc 2, 512, .inr (.inl g19))), (x15, .inl (tc 0, 512, .inl (fun _ => 0))), (x16, .inl (tc 0, 840, .inl (fun _ => 0))), (x17, .inl (tc 2, 280, .inr (.inl (fun _ => 0)))), (x21, .inl (tc 0, 3, .inl (fun _ => 0))), (x22, .inr (9, [.ref x23, .ref x24, .ref x25, .ref x26, .ref x27, .int 4, .int 0])), (x23, .inl (tc 0, 9, .inl (fun _ => 0))), (x24, .inl (tc 0, 9, .inl (fun _ => 0))), (x25, .inl (tc 0, 9, .inl (fun _ => 0))), (x26, .inl (tc 0, 36, .inl (fun _ => 0))), (x27, .inl (tc 0, 36, .inl (fun _ => 0))), (x28, .inr (6, [.ref x22, .ref x29, .ref x30, .ref x31, .ref x32, .ref x33, .int 0, .int 0])), (x29, .inl (tc 0, 8, .inl (fun _ => 0))), (x30, .inl (tc 0, 18, .inl (fun _ => 0))), (x31, .inl (tc 0, 5, .inl (fun _ => 0))), (x32, .inl (tc 0, 5, .inl (fun _ => 0))), (x33, .inl (tc 0, 5, .inl (fun _ => 0))), (x34, .inr (0, [.ref x22, .ref x35, .ref x36, .ref x37, .ref x38, .ref x39, .ref x40, .int 0, .int 0, .int 0])), (x35, .inl (tc 4, 5, .inr (.inr (.inr (.inr (va_up (va_up (va_up (va_up (va_up (fun _ => none) (Int32.toNatClampNeg 0) (some x41)) (Int32.toNatClampNeg 1) (some x42)) (Int32.toNatClampNeg 2) (some x43)) (Int32.toNatClampNeg 3) (some x44)) (Int32.toNatClampNeg 4) (some x45))))))), (x36, .inl (tc 0, 3, .inl (fun _ => 0))), (x37, .inl (tc 0, 3, .inl (fun _ => 0))), (x38, .inl (tc 1, 3, .inl (fun _ => 0))), (x39, .inl (tc 1, 36, .inl (fun _ => 0))), (x40, .inl (tc 0, 10, .inl (fun _ => 0))), (x41, .inr (5, [])), (x42, .inr (2, [])), (x43, .inr (8, [])), (x44, .inr (4, [])), (x45, .inr (3, [])), (x46, .inr (1, [.ref x22, .ref x47, .ref x48, .ref x49])), (x47, .inl (tc 0, 60, .inl (fun _ => 0))), (x48, .inl (tc 0, 384, .inl (fun _ => 0))), (x49, .inl (tc 0, 384, .inl (fun _ => 0))), (x51, .inr (9, [.ref x52, .ref x53, .ref x54, .ref x55, .ref x56, .int 4, .int 0])), (x52, .inl (tc 0, 9, .inl (fun _ => 0))), (x53, .inl (tc 0, 9, .inl (fun _ => 0))), (x54, .inl (tc 0, 9, .inl (fun _ => 0))), (x55, .inl (tc 0, 36, .inl (fun _ => 0))), (x56, .inl (tc 0, 36, .inl (fun _ => 0))), (x50, .inr (6, [.ref x51, .ref x57, .ref x58, .ref x59, .ref x60, .ref x61, .int 0, .int 0])), (x57, .inl (tc 0, 8, .inl (fun _ => 0))), (x58, .inl (tc 0, 18, .inl (fun _ => 0))), (x59, .inl (tc 0, 5, .inl (fun _ => 0))), (x60, .inl (tc 0, 5, .inl (fun _ => 0))), (x61, .inl (tc 0, 5, .inl (fun _ => 0))), (x63, .inr (9, [.ref x64, .ref x65, .ref x66, .ref x67, .ref x68, .int 4, .int 0])), (x64, .inl (tc 0, 9, .inl (fun _ => 0))), (x65, .inl (tc 0, 9, .inl (fun _ => 0))), (x66, .inl (tc 0, 9, .inl (fun _ => 0))), (x67, .inl (tc 0, 36, .inl (fun _ => 0))), (x68, .inl (tc 0, 36, .inl (fun _ => 0))), (x62, .inr (6, [.ref x63, .ref x69, .ref x70, .ref x71, .ref x72, .ref x73, .int 0, .int 0])), (x69, .inl (tc 0, 8, .inl (fun _ => 0))), (x70, .inl (tc 0, 18, .inl (fun _ => 0))), (x71, .inl (tc 0, 5, .inl (fun _ => 0))), (x72, .inl (tc 0, 5, .inl (fun _ => 0))), (x73, .inl (tc 0, 5, .inl (fun _ => 0))), (m0, .inr (12, [.ref m1, .ref m2, .ref m3, .ref m4, .long 0, .long 1, .ref m5, .ref m6, .ref m7, .int 0, .ref m8, .ref m9, .ref m10, .ref m11, .ref m12, .ref m13, .int 0, .ref m14, .ref m15, .ref m16, .ref m17, .int 0, .int 0, .int 0, .int 0, .int 0, .ref m18, .int 0, .int 0])), (m1, .inl (tc 0, 143, .inl (upd (fun _ => 0) (Int32.toNatClampNeg 0) 4))), (m2, .inl (tc 0, 286, .inl (fun _ => 0))), (m3, .inl (tc 1, 2, .inl (fun _ => 0))), (m4, .inl (tc 0, 3, .inl (fun _ => 0))), (m5, .inl (tc 0, 3, .inl (fun _ => 0))), (m6, .inl (tc 0, 3, .inl (fun _ => 0))), (m7, .inl (tc 0, 10, .inl (fun _ => 0))), (m8, .inl (tc 1, 24576, .inl (fun _ => 0))), (m9, .inl (tc 1, 24576, .inl (fun _ => 0))), (m10, .inl (tc 0, 3, .inl (fun _ => 0))), (m11, .inl (tc 0, 512, .inl (fun _ => 0))), (m12, .inl (tc 0, 3, .inl (fun _ => 0))), (m13, .inl (tc 2, 280, .inr (.inl (fun _ => 0)))), (m14, .inl (tc 0, 7442, .inl (fun _ => 0))), (m15, .inl (tc 0, 7442, .inl (fun _ => 0))), (m16, .inl (tc 0, 7442, .inl (fun _ => 0))), (m17, .inl (tc 0, 250, .inl (fun _ => 0))), (m18, .inl (tc 0, 101, .inl (fun _ => 0)))] _ _ _ _ _
    refine Ec_astore_n hC (dt_L_law.at 7 rfl) (by decide) (ls' := [(2, .ref m0), (1, .ref x0), (0, .ref b)]) rfl ?_
    obtain ⟨τs, hs0, hs1, hs2⟩ := hspl
    have hsT : spT = τs := by rw [spT, hs0]; rfl
    rw [← hsT] at hs1 hs2
    subst hs1; subst hs2
    refine Ec_toW (S := SK) (ad := (fun k => if k < 90 then [x0, x1, x2, x3, x4, x5, x6, x7, x8, x9, x10, x11, x12, x13, x14, x15, x16, x17, x21, x22, x23, x24, x25, x26, x27, x28, x29, x30, x31, x32, x33, x34, x35, x36, x37, x38, x39, x40, x41, x42, x43, x44, x45, x46, x47, x48, x49, x51, x52, x53, x54, x55, x56, x50, x57, x58, x59, x60, x61, x63, x64, x65, x66, x67, x68, x62, x69, x70, x71, x72, x73, m0, m1, m2, m3, m4, m5, m6, m7, m8, m9, m10, m11, m12, m13, m14, m15, m16, m17, m18].getD k 0 else if k < 93 then adK (k - 90) else if k < 96 then adV (k - 93) else if k = 96 then fm else b)) (σ := sg0) (ls' := [(2, .ref 71), (1, .ref 0), (0, .ref 99)]) hC start_ws rfl (fun hW => ?_)
    have hAo : ∀ q, Ao (fun k => if k < 90 then [x0, x1, x2, x3, x4, x5, x6, x7, x8, x9, x10, x11, x12, x13, x14, x15, x16, x17, x21, x22, x23, x24, x25, x26, x27, x28, x29, x30, x31, x32, x33, x34, x35, x36, x37, x38, x39, x40, x41, x42, x43, x44, x45, x46, x47, x48, x49, x51, x52, x53, x54, x55, x56, x50, x57, x58, x59, x60, x61, x63, x64, x65, x66, x67, x68, x62, x69, x70, x71, x72, x73, m0, m1, m2, m3, m4, m5, m6, m7, m8, m9, m10, m11, m12, m13, m14, m15, m16, m17, m18].getD k 0 else if k < 93 then adK (k - 90) else if k < 96 then adV (k - 93) else if k = 96 then fm else b) q → s.heap.size ≤ q := fun q hq => by
      obtain ⟨k, h1, h2⟩ := hq
      rw [h2]; exact hW.2.2.2.2.2.2.2.2.2.2 k h1
    generalize hAD : (fun k => if k < 90 then [x0, x1, x2, x3, x4, x5, x6, x7, x8, x9, x10, x11, x12, x13, x14, x15, x16, x17, x21, x22, x23, x24, x25, x26, x27, x28, x29, x30, x31, x32, x33, x34, x35, x36, x37, x38, x39, x40, x41, x42, x43, x44, x45, x46, x47, x48, x49, x51, x52, x53, x54, x55, x56, x50, x57, x58, x59, x60, x61, x63, x64, x65, x66, x67, x68, x62, x69, x70, x71, x72, x73, m0, m1, m2, m3, m4, m5, m6, m7, m8, m9, m10, m11, m12, m13, m14, m15, m16, m17, m18].getD k 0 else if k < 93 then adK (k - 90) else if k < 96 then adV (k - 93) else if k = 96 then fm else b) = ad at hW hAo ⊢
    have a0 : ad 90 = adK 0 := by rw [← hAD]; rfl
    have a1 : ad 91 = adK 1 := by rw [← hAD]; rfl
    have a2 : ad 92 = adK 2 := by rw [← hAD]; rfl
    have v0 : ad 93 = adV 0 := by rw [← hAD]; rfl
    have v1 : ad 94 = adV 1 := by rw [← hAD]; rfl
    have v2 : ad 95 = adV 2 := by rw [← hAD]; rfl
    have f0 : ad 96 = fm := by rw [← hAD]; rfl
    have b0 : ad 99 = b := by rw [← hAD]; rfl
    have hSX : SX ad s s.heap := by
      refine ⟨?_, ?_, hVZ.narrow hAo, ?_⟩
      · have h1 : vk_S 3 lenW bytW adK adV (Ao ad) s s.heap := hVS.narrow hAo
        refine ⟨fun i hi => ?_, fun i j hi hj hij => ?_⟩
        · match i, hi with
          | 0, _ => have := h1.1 0 (by decide); rw [← a0, ← v0] at this; exact this
          | 1, _ => have := h1.1 1 (by decide); rw [← a1, ← v1] at this; exact this
          | 2, _ => have := h1.1 2 (by decide); rw [← a2, ← v2] at this; exact this
        · have e : ∀ i, i < 3 → ad (90 + i) = adK i := fun i hi => by
            match i, hi with
            | 0, _ => exact a0
            | 1, _ => exact a1
            | 2, _ => exact a2
          have hij : ad (90 + i) = ad (90 + j) := hij
          rw [e i hi, e j hj] at hij
          exact h1.2 i j hi hj hij
      · rw [a0, a1, a2]; exact hVR
      · rw [f0]; exact hVF.imp (fun z => z.narrow hAo) (fun z => z.narrow hAo)
    have hxs : va_X (ad 99) L xs s s.heap := by rw [b0]; exact hX
    have hbl2 : ad 99 < s.heap.size := by rw [b0]; exact hbl
    refine Ew_sub hW [2, 1, 0] (ls' := [(0, .ref 99), (1, .ref 0), (2, .ref 71)]) rfl ?_
    refine w_law xs L hW hSX (fun q h1 h2 => Nat.not_le.mpr h1 h2) ⟨Nat.le_of_ble_eq_true rfl, Nat.le_of_ble_eq_true rfl⟩ hxs hbl2 (fun q => Nat.not_le.mpr hbl2 q) (fun pc pc' ls σ hd => ?_) sg0 τ hτ
    intro H locs LS hP hS hl
    obtain ⟨h1, -⟩ := hd
    refine va_forget (fun q hq => hS.2.2 q hq) ?_
    refine W.widen (k := 600000) (n := 7302250) (Nat.le_of_ble_eq_true rfl) (Nat.le_of_ble_eq_true rfl) ?_
    exact lw_ret hx hb hr hlocks h1
  exact key s.heap [] _ (fun k q h => by simp at h) ⟨fun i j p q h => by simp at h, fun k q h => by simp at h⟩ va_S.rf hl
