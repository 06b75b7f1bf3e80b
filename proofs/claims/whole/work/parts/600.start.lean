/-! WHAT HOLDS AT THE LAW'S ENTRY -/
theorem tm {args : Array Value} {s : State} {w : Cond} (hts : ∀ w ∈ lw_tbl, w.before args s = true) (i : Nat) (h : tables_1[i]? = some w) : w.before args s = true := hts _ (List.mem_append_right _ (List.mem_of_getElem? h))
theorem tgd {args : Array Value} {s : State} (hts : ∀ w ∈ lw_tbl, w.before args s = true) : ∀ w ∈ gd, w.before args s = true := fun w hw => hts w (List.mem_filter.mp hw).1
theorem st_arr {args : Array Value} {s : State} {ty : FieldType} (h : (Cond.arrayClass ty).before args s = true) (hp : ∀ C, ty ≠ .object C) : ∃ c : ClassId, ArrOfT s c ty ∧ va_RA s c ty := by
  obtain ⟨c, k, comp, h1, h2, h3⟩ := Cond.arrayClass_spec h
  refine ⟨c, fun N z => ⟨(fun k h => by cases h), k, h2, comp, h3⟩, ?_⟩
  cases ty with
  | object C => exact absurd rfl (hp C)
  | _ => exact h1
theorem st_arrO {args : Array Value} {s : State} {C : String} (h : (Cond.arrayOver (.object C)).before args s = true) : ∃ c : ClassId, ArrOfT s c (.object C) ∧ va_RA s c (.object C) := by
  obtain ⟨comp, c, k, h1, h2, h3, h4, h5⟩ := Cond.arrayOver_spec h
  exact ⟨c, fun N z => ⟨(fun k h => by cases h), k, h3, comp, h4⟩, k, comp, h3, h4, h1, h5⟩
theorem st_K {args : Array Value} {s : State} (hts : ∀ w ∈ lw_tbl, w.before args s = true) : ∃ (D : va_G) (g : Nat → ClassId), va_K D classes (tyG g) s := by
  obtain ⟨c0, i0, k0⟩ := u_known (C := R_X) (T := F_X) (N := 10) (n := 10) (tgd hts) i_X (tm hts 16 (by decide +kernel))
  obtain ⟨c1, i1, k1⟩ := u_known (C := R_Edge) (T := F_Edge) (N := 6) (n := 6) (tgd hts) i_Edge (tm hts 130 (by decide +kernel))
  obtain ⟨c2, i2, k2⟩ := u_known (C := R_Layout) (T := F_Layout) (N := 4) (n := 4) (tgd hts) i_Layout (tm hts 26 (by decide +kernel))
  obtain ⟨c3, i3, k3⟩ := u_known (C := R_Pair) (T := F_Pair) (N := 7) (n := 7) (tgd hts) i_Pair (tm hts 62 (by decide +kernel))
  obtain ⟨c4, i4, k4⟩ := u_known (C := R_Ranking) (T := F_Ranking) (N := 2) (n := 2) (tgd hts) i_Ranking (tm hts 55 (by decide +kernel))
  obtain ⟨c5, i5, k5⟩ := u_known (C := R_Board) (T := F_Board) (N := 6) (n := 6) (tgd hts) i_Board (tm hts 106 (by decide +kernel))
  obtain ⟨c6, i6, k6⟩ := u_known (C := R_Model) (T := F_Model) (N := 24) (n := 24) (tgd hts) i_Model (tm hts 546 (by decide +kernel))
  obtain ⟨a0, x0, y0⟩ := st_arr (ty := .int) (tm hts 52 (by decide +kernel)) (fun C => by simp)
  obtain ⟨a1, x1, y1⟩ := st_arrO (C := "EdgeJoins$Edge") (tm hts 24 (by decide +kernel))
  obtain ⟨a2, x2, y2⟩ := st_arrO (C := "EdgeJoins$Layout") (tm hts 53 (by decide +kernel))
  obtain ⟨a3, x3, y3⟩ := st_arrO (C := "EdgeJoins$Pair") (tm hts 61 (by decide +kernel))
  obtain ⟨a4, x4, y4⟩ := st_arr (ty := .boolean) (tm hts 624 (by decide +kernel)) (fun C => by simp)
  obtain ⟨a5, x5, y5⟩ := st_arr (ty := .long) (tm hts 786 (by decide +kernel)) (fun C => by simp)
  refine ⟨(fun k => match k with | 0 => c0 | 1 => c1 | 2 => c2 | 3 => c3 | 4 => c4 | 5 => c5 | _ => c6, fun k => match k with | 0 => i0 | 1 => i1 | 2 => i2 | 3 => i3 | 4 => i4 | 5 => i5 | _ => i6), fun k => match k with | 0 => a0 | 1 => a1 | 2 => a2 | 3 => a3 | 4 => a4 | _ => a5, ?_, ?_⟩
  · intro k q hq
    match k, hq with
    | 0, hq => cases hq; exact k0
    | 1, hq => cases hq; exact k1
    | 2, hq => cases hq; exact k2
    | 3, hq => cases hq; exact k3
    | 4, hq => cases hq; exact k4
    | 5, hq => cases hq; exact k5
    | 6, hq => cases hq; exact k6
    | k + 7, hq => simp [classes] at hq
  · intro k q hq
    match k, hq with
    | 0, hq => cases hq; exact ⟨x0, y0⟩
    | 1, hq => cases hq; exact ⟨x1, y1⟩
    | 2, hq => cases hq; exact ⟨x2, y2⟩
    | 3, hq => cases hq; exact ⟨x3, y3⟩
    | 4, hq => cases hq; exact ⟨x4, y4⟩
    | 5, hq => cases hq; exact ⟨x5, y5⟩
    | k + 6, hq => simp [tyG] at hq
def isStrOk (w : Cond) : Bool := match w with
  | .stringRef c k _ => decide (Cond.exactly (.string c k) "java/lang/String" ∈ flatC (Jvm.Cond.and given_1 narrow_1))
  | _ => true
set_option maxRecDepth 100000 in
theorem strOk : tables_1.all isStrOk = true := by decide +kernel
theorem st_S {args : Array Value} {s : State} (hts : ∀ w ∈ lw_tbl, w.before args s = true) (hgv : (Jvm.Cond.and given_1 narrow_1).before args s = true) : sS s := by
  intro k tx hk
  have h1 := List.all_eq_true.mp strOk _ hk
  have h2 : Cond.exactly (.string "EdgeJoins" k) "java/lang/String" ∈ flatC (Jvm.Cond.and given_1 narrow_1) := of_decide_eq_true h1
  have h3 := flat_of_before _ hgv _ h2
  obtain ⟨a, c, cA, kA, q1, -⟩ := Cond.exactly_spec (args := args) (first := s) (o := none) (s := s) (idx := []) (t := .string "EdgeJoins" k) (cls := "java/lang/String") h3
  exact ⟨a, vk_R.of (hts _ (List.mem_append_right _ hk)) q1⟩
theorem st_T {args : Array Value} {s : State} {A : Nat → Prop} (hts : ∀ w ∈ lw_tbl, w.before args s = true) (hgv : (Jvm.Cond.and given_1 narrow_1).before args s = true) (hA : ∀ a : Nat, a < s.heap.size → ¬ A a) : sT A s s.heap := by
  have hs := flat_of_before _ hgv
  refine ⟨?_, ?_⟩
  · obtain ⟨t, ht, hT⟩ := va_Tof (args := args) (s := s) (tm := (.static "EdgeJoins" "STEP_X" "[I")) (ty := .int) (N := 4) (f := fun j => .int (Int32.ofInt (stX (j : Int)))) (A := A) (by decide) (hs _ (by decide +kernel)) (va_eqt (hs (Cond.eq (.length (.static "EdgeJoins" "STEP_X" "[I")) (.int 4)) (by decide +kernel))) (fun j hj => by
      rcases (show j = 0 ∨ j = 1 ∨ j = 2 ∨ j = 3 by omega) with rfl | rfl | rfl | rfl
      · exact va_eqt (hs (Cond.eq (.elem (.static "EdgeJoins" "STEP_X" "[I") (.int 0)) (.int (1))) (by decide +kernel))
      · exact va_eqt (hs (Cond.eq (.elem (.static "EdgeJoins" "STEP_X" "[I") (.int 1)) (.int (0))) (by decide +kernel))
      · exact va_eqt (hs (Cond.eq (.elem (.static "EdgeJoins" "STEP_X" "[I") (.int 2)) (.int (-1))) (by decide +kernel))
      · exact va_eqt (hs (Cond.eq (.elem (.static "EdgeJoins" "STEP_X" "[I") (.int 3)) (.int (0))) (by decide +kernel))) hA
    exact ⟨t, va_Zof (tm hts 382 (by decide +kernel)) (tm hts 1 (by decide +kernel)) ht hA, hT⟩
  · obtain ⟨t, ht, hT⟩ := va_Tof (args := args) (s := s) (tm := (.static "EdgeJoins" "STEP_Y" "[I")) (ty := .int) (N := 4) (f := fun j => .int (Int32.ofInt (stY (j : Int)))) (A := A) (by decide) (hs _ (by decide +kernel)) (va_eqt (hs (Cond.eq (.length (.static "EdgeJoins" "STEP_Y" "[I")) (.int 4)) (by decide +kernel))) (fun j hj => by
      rcases (show j = 0 ∨ j = 1 ∨ j = 2 ∨ j = 3 by omega) with rfl | rfl | rfl | rfl
      · exact va_eqt (hs (Cond.eq (.elem (.static "EdgeJoins" "STEP_Y" "[I") (.int 0)) (.int (0))) (by decide +kernel))
      · exact va_eqt (hs (Cond.eq (.elem (.static "EdgeJoins" "STEP_Y" "[I") (.int 1)) (.int (1))) (by decide +kernel))
      · exact va_eqt (hs (Cond.eq (.elem (.static "EdgeJoins" "STEP_Y" "[I") (.int 2)) (.int (0))) (by decide +kernel))
      · exact va_eqt (hs (Cond.eq (.elem (.static "EdgeJoins" "STEP_Y" "[I") (.int 3)) (.int (-1))) (by decide +kernel))) hA
    exact ⟨t, va_Zof (tm hts 384 (by decide +kernel)) (tm hts 1 (by decide +kernel)) ht hA, hT⟩
theorem st_E {args : Array Value} {s : State} {A : Nat → Prop} (hts : ∀ w ∈ lw_tbl, w.before args s = true) (hgv : (Jvm.Cond.and given_1 narrow_1).before args s = true) (hA : ∀ a : Nat, a < s.heap.size → ¬ A a) : sE A s s.heap := by
  have hs := flat_of_before _ hgv
  exact ⟨⟨va_L.of (tm hts 286 (by decide +kernel)) hA, va_L.of (tm hts 288 (by decide +kernel)) hA⟩, va_Zqof (tm hts 286 (by decide +kernel)) (tm hts 8 (by decide +kernel)) (hs _ (by decide +kernel)) hA, va_Zqof (tm hts 288 (by decide +kernel)) (tm hts 8 (by decide +kernel)) (hs _ (by decide +kernel)) hA⟩
theorem isNestW_tab {w : Cond} (h : isNestW w = true) : w.onTables = true := by
  cases w <;> first | rfl | (simp [isNestW] at h)
theorem st_N {args : Array Value} {s : State} (hts : ∀ w ∈ lw_tbl, w.before args s = true) : sN s := fun w hw => va_Nw.of (isNestW_tab (List.mem_filter.mp hw).2) (hts w (List.mem_filter.mp hw).1)
theorem st_C {args : Array Value} {s : State} {A : Nat → Prop} (hts : ∀ w ∈ lw_tbl, w.before args s = true) (hgv : (Jvm.Cond.and given_1 narrow_1).before args s = true) (hA : ∀ a : Nat, a < s.heap.size → ¬ A a) : sC A s s.heap := ⟨st_T hts hgv hA, ⟨st_E hts hgv hA, st_S hts hgv⟩, st_N hts⟩
theorem st_AK {args : Array Value} {s : State} (hts : ∀ w ∈ lw_tbl, w.before args s = true) : sK s := ⟨st_N hts, va_AO.of (tm hts 24 (by decide +kernel)), va_AO.of (tm hts 53 (by decide +kernel)), va_AO.of (tm hts 61 (by decide +kernel))⟩
theorem st_cast {args : Array Value} {s : State} {C : String} (h : (Cond.castable C C).before args s = true) {n : Nat} (hi : (Cond.instantiable C n).before args s = true) : ∃ c : ClassId, s.vm.findClass C = some c ∧ (∃ kc, s.vm.classes[c]? = some kc) ∧ s.vm.assignable c c = true := by
  obtain ⟨c, t, h1, h2, h3⟩ := Cond.castable_spec h
  obtain ⟨c', k', g1, g2, -⟩ := Cond.instantiable_spec hi
  cases h1.symm.trans h2
  cases h1.symm.trans g1
  exact ⟨c, h1, ⟨k', g2⟩, h3⟩
theorem st_nocast {args : Array Value} {s : State} {C T : String} {c t : ClassId} (h : (Cond.not (Cond.castable C T)).before args s = true) (h1 : s.vm.findClass C = some c) (h2 : s.vm.findClass T = some t) : s.vm.assignable c t = false := by
  simpa [Cond.before, Cond.holds, Cond.value, h1, h2] using h
theorem st_X {args : Array Value} {s : State} (hts : ∀ w ∈ lw_tbl, w.before args s = true) (hgv : (Jvm.Cond.and given_1 narrow_1).before args s = true) : sX s := by
  have hs := flat_of_before _ hgv
  obtain ⟨c0, f0, e0, a0⟩ := st_cast (C := "java/lang/IndexOutOfBoundsException") (n := 6) (tm hts 346 (by decide +kernel)) (tm hts 345 (by decide +kernel))
  obtain ⟨c1, f1, e1, a1⟩ := st_cast (C := "java/lang/IllegalStateException") (n := 6) (tm hts 261 (by decide +kernel)) (tm hts 260 (by decide +kernel))
  obtain ⟨c2, f2, e2, a2⟩ := st_cast (C := "java/lang/IllegalArgumentException") (n := 6) (tm hts 363 (by decide +kernel)) (tm hts 362 (by decide +kernel))
  have n01 := st_nocast (C := "java/lang/IndexOutOfBoundsException") (T := "java/lang/IllegalStateException") (hs _ (by decide +kernel)) f0 f1
  have n02 := st_nocast (C := "java/lang/IndexOutOfBoundsException") (T := "java/lang/IllegalArgumentException") (hs _ (by decide +kernel)) f0 f2
  have n10 := st_nocast (C := "java/lang/IllegalStateException") (T := "java/lang/IndexOutOfBoundsException") (hs _ (by decide +kernel)) f1 f0
  have n12 := st_nocast (C := "java/lang/IllegalStateException") (T := "java/lang/IllegalArgumentException") (hs _ (by decide +kernel)) f1 f2
  have n20 := st_nocast (C := "java/lang/IllegalArgumentException") (T := "java/lang/IndexOutOfBoundsException") (hs _ (by decide +kernel)) f2 f0
  have n21 := st_nocast (C := "java/lang/IllegalArgumentException") (T := "java/lang/IllegalStateException") (hs _ (by decide +kernel)) f2 f1
  intro x k hx hk
  rcases (show x = 0 ∨ x = 1 ∨ x = 2 by omega) with rfl | rfl | rfl <;> rcases (show k = 0 ∨ k = 1 ∨ k = 2 by omega) with rfl | rfl | rfl
  · exact ⟨c0, c0, f0, f0, e0, fun _ => rfl, fun _ => a0⟩
  · exact ⟨c0, c1, f0, f1, e0, fun h => absurd (h.symm.trans n01) (by decide), fun h => absurd h (by decide)⟩
  · exact ⟨c0, c2, f0, f2, e0, fun h => absurd (h.symm.trans n02) (by decide), fun h => absurd h (by decide)⟩
  · exact ⟨c1, c0, f1, f0, e1, fun h => absurd (h.symm.trans n10) (by decide), fun h => absurd h (by decide)⟩
  · exact ⟨c1, c1, f1, f1, e1, fun _ => rfl, fun _ => a1⟩
  · exact ⟨c1, c2, f1, f2, e1, fun h => absurd (h.symm.trans n12) (by decide), fun h => absurd h (by decide)⟩
  · exact ⟨c2, c0, f2, f0, e2, fun h => absurd (h.symm.trans n20) (by decide), fun h => absurd h (by decide)⟩
  · exact ⟨c2, c1, f2, f1, e2, fun h => absurd (h.symm.trans n21) (by decide), fun h => absurd h (by decide)⟩
  · exact ⟨c2, c2, f2, f2, e2, fun _ => rfl, fun _ => a2⟩
