/-! PLACES IN THE TABLE, Math.min and Math.max, THE TABLES OF STEPS -/
theorem gm {w : Cond} (i : Nat) (h : tables_1[i]? = some w) (hg : goodWord w = true) : w ∈ gd := gd_mem (List.mem_append_right _ (List.mem_of_getElem? h)) hg
theorem gn {w : Cond} (i : Nat) (h : tables_1[i]? = some w) (hg : isNestW w = true) : w ∈ nW := nW_mem (List.mem_append_right _ (List.mem_of_getElem? h)) hg
theorem gq {w : Cond} (i : Nat) (h : (k2_sels lw_privs)[i]? = some w) (hg : goodWord w = true) : w ∈ gd := gd_mem (List.mem_append_left _ (List.mem_of_getElem? h)) hg
theorem xl {x : Int} (h : decide (-2147483648 ≤ x ∧ x ≤ 2147483647) = true) : in32 x := of_decide_eq_true h
def lkM (own : String) (idx : Nat) (nm : MethodName) (cd : ByteArray) : Prop := Cond.methodLink own idx nm ∈ gd ∧ Cond.static nm ∈ gd ∧ Cond.initialized "java/lang/Math" ∈ gd ∧ Cond.code nm cd 2 (some .int) ∈ gd
section XMo
variable {p : Program} {l : Launch} {e : Env} {R : Room} {s : State} {m : MethodId} {args : Array Value} {below : List Frame} {meth : Method} {c : Code} {H : Heap} {locs : List Loc} {cells slots : Nat} {Q : State → Prop}
variable {cc : ByteArray} {pc nL idx : Nat} {ls : Array Slot} {rest : List Value} {own : String} {b n sz : Nat}
theorem xi_min (hC : Cx p m c cc nL s args own) (hlk : lkM own idx Lib.Math.min.name Lib.Math.min.code) (hsize : ls.size = nL) (hfr : 1 ≤ R.frames) (hlo : (rest.map fun v => v.category).sum + 13 ≤ R.locals) (hc : cells ≤ R.cells) (hs : slots ≤ R.slots) {x y : Int} (h1 : in32 x) (h2 : in32 y) (hdg : decode cc pc = .ok (.invokestatic idx, 3))
    (kk : W p l e R s m args below meth c H locs cells slots Q (F0 m (pc + 3) ls (iv (min x y) :: rest))) : W p l e R s m args below meth c H locs cells slots Q (F0 m pc ls (iv y :: iv x :: rest)) := by
  have ht := hC.2.2.2.2
  refine va_mmin hC.1 hC.2.1 (hC.2.2.1.trans hsize.symm) hC.2.2.2.1 (ht _ hlk.1) (ht _ hlk.2.1) (ht _ hlk.2.2.1) (ht _ hlk.2.2.2) hfr hlo hc hs hdg ?_
  have e : (if Int32.ofInt y < Int32.ofInt x then Int32.ofInt y else Int32.ofInt x) = Int32.ofInt (min x y) := by
    by_cases h : y < x
    · rw [if_pos ((xi_lt h2 h1).mpr h)]; congr 1; omega
    · rw [if_neg (fun q => h ((xi_lt h2 h1).mp q))]; congr 1; omega
  rw [e]
  exact kk
theorem xi_max (hC : Cx p m c cc nL s args own) (hlk : lkM own idx Lib.Math.max.name Lib.Math.max.code) (hsize : ls.size = nL) (hfr : 1 ≤ R.frames) (hlo : (rest.map fun v => v.category).sum + 13 ≤ R.locals) (hc : cells ≤ R.cells) (hs : slots ≤ R.slots) {x y : Int} (h1 : in32 x) (h2 : in32 y) (hdg : decode cc pc = .ok (.invokestatic idx, 3))
    (kk : W p l e R s m args below meth c H locs cells slots Q (F0 m (pc + 3) ls (iv (max x y) :: rest))) : W p l e R s m args below meth c H locs cells slots Q (F0 m pc ls (iv y :: iv x :: rest)) := by
  have ht := hC.2.2.2.2
  refine va_mmax hC.1 hC.2.1 (hC.2.2.1.trans hsize.symm) hC.2.2.2.1 (ht _ hlk.1) (ht _ hlk.2.1) (ht _ hlk.2.2.1) (ht _ hlk.2.2.2) hfr hlo hc hs hdg ?_
  have e : (if Int32.ofInt x < Int32.ofInt y then Int32.ofInt y else Int32.ofInt x) = Int32.ofInt (max x y) := by
    by_cases h : x < y
    · rw [if_pos ((xi_lt h1 h2).mpr h)]; congr 1; omega
    · rw [if_neg (fun q => h ((xi_lt h1 h2).mp q))]; congr 1; omega
  rw [e]
  exact kk
theorem xg_tald (hC : Cx p m c cc nL s args own) (hS : va_S (rA b n sz) s.heap H locs) {t : Nat} {f : Int → Int} (hT : va_T .int t 4 (fun j => .int (Int32.ofInt (f (j : Int)))) (rA b n sz) s s.heap) {i : Int} (hi : 0 ≤ i ∧ i < 4) (hdg : decode cc pc = .ok (.iaload, 1))
    (kk : W p l e R s m args below meth c H locs cells slots Q (F0 m (pc + 1) ls (iv (f i) :: rest))) : W p l e R s m args below meth c H locs cells slots Q (F0 m pc ls (iv i :: .ref t :: rest)) :=
  va_ti hC.1 hC.2.1 hT hS (xi_in (n := 4) hi (by omega)) (by
    rw [xi_ix (n := 4) hi (by omega)]
    show Value.int (Int32.ofInt (f ((i.toNat : Nat) : Int))) = _
    rw [Int.toNat_of_nonneg hi.1]) hdg kk
theorem gs_Edge_32 (hC : Cx p m c cc nL s args "EdgeJoins$Edge") (hst : sC (rA b n sz) s s.heap) (hS : va_S (rA b n sz) s.heap H locs) (hdg : decode cc pc = .ok (.getstatic 32, 3))
    (kk : ∀ t : Nat, va_T .int t 4 (fun j => .int (Int32.ofInt (stX (j : Int)))) (rA b n sz) s s.heap → W p l e R s m args below meth c H locs cells slots Q (F0 m (pc + 3) ls (.ref t :: rest))) : W p l e R s m args below meth c H locs cells slots Q (F0 m pc ls rest) := by
  obtain ⟨⟨⟨t, hZ, hT⟩, -⟩, -, hN⟩ := hst
  exact va_getsN hC.1 hC.2.1 hZ hS hC.2.2.2.1 ((hN (.fieldLinkNest "EdgeJoins$Edge" 32 "EdgeJoins" "STEP_X" "[I" "EdgeJoins") (gn 381 (by decide +kernel) rfl)).use rfl) (fun _ h => h) hdg (kk t hT)
theorem gs_Edge_35 (hC : Cx p m c cc nL s args "EdgeJoins$Edge") (hst : sC (rA b n sz) s s.heap) (hS : va_S (rA b n sz) s.heap H locs) (hdg : decode cc pc = .ok (.getstatic 35, 3))
    (kk : ∀ t : Nat, va_T .int t 4 (fun j => .int (Int32.ofInt (stY (j : Int)))) (rA b n sz) s s.heap → W p l e R s m args below meth c H locs cells slots Q (F0 m (pc + 3) ls (.ref t :: rest))) : W p l e R s m args below meth c H locs cells slots Q (F0 m pc ls rest) := by
  obtain ⟨⟨-, t, hZ, hT⟩, -, hN⟩ := hst
  exact va_getsN hC.1 hC.2.1 hZ hS hC.2.2.2.1 ((hN (.fieldLinkNest "EdgeJoins$Edge" 35 "EdgeJoins" "STEP_Y" "[I" "EdgeJoins") (gn 383 (by decide +kernel) rfl)).use rfl) (fun _ h => h) hdg (kk t hT)
end XMo
/-! A THROW of one of the three exceptions with a text -/
def stW : List Cond := [.isRef (.static "java/lang/Throwable" "UNASSIGNED_STACK" "[Ljava/lang/StackTraceElement;"), .isRef (.static "java/lang/Throwable" "SUPPRESSED_SENTINEL" "Ljava/util/List;"), .laysStatic "java/lang/Throwable" "UNASSIGNED_STACK" "[Ljava/lang/StackTraceElement;", .laysStatic "java/lang/Throwable" "SUPPRESSED_SENTINEL" "Ljava/util/List;"]
def oAll (ws : List Cond) : Prop := ∀ w ∈ ws, w ∈ gd ∨ w ∈ nW ∨ w ∈ stW
theorem oAll_of {ws : List Cond} (h : ws.all (fun w => (decide (w ∈ tables_1) && (goodWord w || isNestW w)) || (decide (w ∈ k2_sels lw_privs) && goodWord w) || decide (w ∈ stW)) = true) : oAll ws := by
  intro w hw
  have h1 := List.all_eq_true.mp h w hw
  simp only [Bool.or_eq_true, Bool.and_eq_true, decide_eq_true_eq] at h1
  rcases h1 with (⟨h1, h2 | h2⟩ | ⟨h1, h2⟩) | h1
  · exact Or.inl (gd_mem (List.mem_append_right _ h1) h2)
  · exact Or.inr (Or.inl (nW_mem (List.mem_append_right _ h1) h2))
  · exact Or.inl (gd_mem (List.mem_append_left _ h1) h2)
  · exact Or.inr (Or.inr h1)
theorem va_Zq_ref {C n d : String} {A : Nat → Prop} {s : State} {args : Array Value} (h : va_Zq C n d A s s.heap) : (Cond.isRef (.static C n d)).before args s = true := by
  rcases h with h | ⟨t, h⟩ <;> obtain ⟨cf, kf, fi, f, a, cell, h1, h2, h3, h4, h5, h6, h7, h8⟩ := h <;>
    simp [Cond.before, Cond.holds, Cond.value, Term.eval, State.fieldNamed?, h1, h2, h4, h5, h6, h7, Value.isRef]
theorem at_own {ws : List Cond} {args : Array Value} {s : State} {A : Nat → Prop} (ht : ∀ w ∈ gd, w.before args s = true) (hst : sC A s s.heap) (h : oAll ws) : ∀ w ∈ ws, w.before args s = true := by
  intro w hw
  rcases h w hw with h1 | h1 | h1
  · exact ht w h1
  · exact isNestW_use (List.mem_filter.mp h1).2 (hst.2.2 w h1)
  · obtain ⟨-, ⟨⟨⟨l1, l2⟩, z1, z2⟩, -⟩, -⟩ := hst
    simp only [stW, List.mem_cons, List.not_mem_nil, or_false] at h1
    rcases h1 with rfl | rfl | rfl | rfl
    · exact va_Zq_ref z1
    · exact va_Zq_ref z2
    · exact l1.any _
    · exact l2.any _
abbrev supNames : List String := ["java/lang/RuntimeException", "java/lang/Exception"]
def ltX (ia ib ic x : Nat) : Prop := Cond.classLink "EdgeJoins" ia (xn x) ∈ gd ∧ Cond.instantiable (xn x) 6 ∈ gd ∧ Cond.initialized (xn x) ∈ gd ∧ (∃ tx, Cond.stringRef "EdgeJoins" ib tx ∈ tables_1) ∧ oAll (Bundle.ownAtoms "EdgeJoins" ic (xn x) supNames)
theorem fit_xn (x : Nat) : Bundle.fit (xn x) = true := by
  unfold xn
  split
  · decide
  · split <;> decide
theorem same_cells {s U : State} {k n : Nat} (h : s.sameButNew ({ U with vm := s.vm } : State) [] k n) : ∀ q : Nat, q < s.heap.size → U.heap[q]? = s.heap[q]? := by
  intro q hq
  have e : s.heap[q]? = some s.heap[q] := Array.getElem?_eq_getElem hq
  obtain ⟨c', h1, h2, h3, h4⟩ := h.2.2.2.2.2 q _ e
  have h1 : U.heap[q]? = some c' := h1
  rw [h1, e]
  congr 1
  rw [h2]
  have : c'.slots = (s.heap[q]).slots := by
    apply Array.ext
    · exact h3
    · intro i hi1 hi2
      have := h4 i (fun z => by cases z)
      rw [Array.getElem?_eq_getElem hi1, Array.getElem?_eq_getElem hi2] at this
      exact Option.some.inj this
  rw [this]
section XTh
variable {p : Program} {l : Launch} {e : Env} {R : Room} {s : State} {m : MethodId} {args : Array Value} {below : List Frame} {meth : Method} {c : Code} {H : Heap} {cells slots mT sT : Nat} {Qc : Array Value → State → Outcome → State → Prop} {free : Addr → Prop}
variable {cc : ByteArray} {pc nL : Nat} {ls : Array Slot} {rest : List Value} {A : Nat → Prop}
theorem xt_core {x ia ib ic : Nat} (hfl : l.stackTraces = false) (hQ : ∀ (a : Addr) (t : State), xEnd x a s t → Qc args s (.threw a) t) (hC : Cx p m c cc nL s args "EdgeJoins") (hlocks : meth.locks = false) (hexc : c.exceptionTable.isEmpty = true) (hH : H = s.heap) (hst : sC A s s.heap) (hsize : ls.size = nL) (hlt : ltX ia ib ic x)
    (d0 : decode cc pc = .ok (.new ia, 3)) (d3 : decode cc (pc + 3) = .ok (.dup, 1)) (d4 : decode cc (pc + 3 + 1) = .ok (.ldc ib, 2)) (d6 : decode cc (pc + 3 + 1 + 2) = .ok (.invokespecial ic, 3)) (d9 : decode cc (pc + 3 + 1 + 2 + 3) = .ok (.athrow, 1))
    (hcl : cells + 1 ≤ R.cells) (hsl : slots + 6 ≤ R.slots) (hT : cells + 1 ≤ mT ∧ slots + 6 ≤ sT) (hfr : 5 < R.frames) (hlo : (rest.map fun v => v.category).sum + 82 ≤ R.locals) : W p l e R s m args below meth c H [] cells slots (MQX below Qc args s mT sT free) (F0 m pc ls rest) := by
  have ht := hC.2.2.2.2
  obtain ⟨k1, k2, k3, ⟨tx, k4⟩, k5⟩ := hlt
  obtain ⟨qs, hqs⟩ := hst.2.1.2 ib tx k4
  refine W.newc hC.1 hC.2.1 hC.2.2.2.1 (ht _ k1) (ht _ k2) (ht _ k3) rfl d0 hcl hsl (fun cC kC h1 h2 h3 h4 => ?_)
  refine lv_dup (pc := pc + 3) (ls := ls) (rest := rest) hC.1 hC.2.1 d3 rfl ?_
  refine va_ldcS hC.1 hC.2.1 hC.2.2.2.1 hqs d4 ?_
  intro T hTH X
  obtain ⟨U, hsteps, hrun, hend, hW, hsame, ce, hce, hoc⟩ := X.ctorThrowS hC.1 (by rw [X.admits.platform]; exact hfl) (own := "EdgeJoins") (cls := xn x) (names := supNames) (ic := ic) hC.2.2.2.1 (fit_xn x) (by decide) (at_own ht hst k5) (fun _ hz => by cases hz) h1 h2 (a := H.size) (by rw [hTH]; simp) (by rw [hH]; exact Nat.le_refl _) (msg := .ref qs) rfl (g := F0 m (pc + 3 + 1 + 2) ls (.ref qs :: .ref H.size :: .ref H.size :: rest)) rfl (hsize.trans hC.2.2.1.symm) rfl rfl (rest := rest) rfl (by rw [hC.2.1]; exact d6) (by rw [hC.2.1]; exact d9) (fun z hz => by
      have : c.exceptionTable = #[] := by simpa using hexc
      rw [this] at hz
      simp at hz) hfr (by
      show 2 * 0 + ((Value.ref H.size :: rest).map fun v => v.category).sum + (13 * (2 + 1) + 42) ≤ R.locals
      simp only [List.map_cons, List.sum_cons]
      show 2 * 0 + (1 + _) + _ ≤ _
      omega) hlocks
  refine ⟨U, hsteps, .threw H.size, hrun, hend, hQ _ _ ⟨hsame.2.1, same_cells hsame, ce, hce, hoc.vm, ?_⟩, [], ⟨hW, hsame.mono hT.1 hT.2⟩, fun q hq => by cases hq⟩
  rw [hW.alike.findClass]
  exact hoc.cls
end XTh
