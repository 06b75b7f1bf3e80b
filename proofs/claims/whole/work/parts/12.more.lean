/-! PLACES IN THE TABLE, Math.min and Math.max, THE TABLES OF STEPS -/
theorem gm {w : Cond} (i : Nat) (h : tables_1[i]? = some w) (hg : goodWord w = true) : w ∈ gd := gd_mem (List.mem_append_right _ (List.mem_of_getElem? h)) hg
theorem gn {w : Cond} (i : Nat) (h : tables_1[i]? = some w) (hg : isNestW w = true) : w ∈ nW := nW_mem (List.mem_append_right _ (List.mem_of_getElem? h)) hg
theorem gq {w : Cond} (i : Nat) (h : (k2_sels lw_privs)[i]? = some w) (hg : goodWord w = true) : w ∈ gd := gd_mem (List.mem_append_left _ (List.mem_of_getElem? h)) hg
theorem xl {x : Int} (h : decide (-2147483648 ≤ x ∧ x ≤ 2147483647) = true) : in32 x := of_decide_eq_true h
def lkM (own : String) (idx : Nat) (nm : MethodName) (cd : ByteArray) : Prop := Cond.methodLink own idx nm ∈ gd ∧ Cond.static nm ∈ gd ∧ Cond.initialized "java/lang/Math" ∈ gd ∧ Cond.code nm cd 2 (some .int) ∈ gd
section XMo
variable {p : Program} {l : Launch} {e : Env} {R : Room} {s : State} {m : MethodId} {args : Array Value} {below : List Frame} {meth : Method} {c : Code} {H : Heap} {locs : List Loc} {cells slots : Nat} {Q : State → Prop}
variable {cc : ByteArray} {pc nL idx : Nat} {ls : Array Slot} {rest : List Value} {own : String} {b n sz : Nat}
theorem xi_min (hC : Cx p m c cc nL s args own) (hlk : lkM own idx Lib.Math.min.name Lib.Math.min.code) (hsize : ls.size = nL) (hfr : 1 ≤ R.frames) (hlo : (rest.map fun v => v.category).sum + 13 ≤ R.locals) (hc : cells ≤ R.cells) (hs : slots ≤ R.slots) {x y : Int} (h1 : in32 x) (h2 : in32 y) (hdg : decode cc pc = .ok (.invokestatic idx, 3))
    (kk : W p l e R s m args below meth c H locs cells slots Q (F0 m (pc + 3) ls (iv (min x y) :: rest))) : W p l e R s m args below meth c H locs cells slots Q (F0 m pc ls (iv y :: iv x :: rest)) := by
  have ht := hC.2.2.2.2
  refine va_mmin hC.1 hC.2.1 (hC.2.2.1.trans hsize.symm) hC.2.2.2.1 (ht _ hlk.1) (ht _ hlk.2.1) (ht _ hlk.2.2.1) (ht _ hlk.2.2.2) hfr hlo hc hs hdg ?_
  have e : (if Int32.ofInt y < Int32.ofInt x then Int32.ofInt y else Int32.ofInt x) = Int32.ofInt (min x y) := by
    by_cases h : y < x
    · rw [if_pos ((xi_lt h2 h1).mpr h)]; congr 1; omega
    · rw [if_neg (fun q => h ((xi_lt h2 h1).mp q))]; congr 1; omega
  rw [e]
  exact kk
theorem xi_max (hC : Cx p m c cc nL s args own) (hlk : lkM own idx Lib.Math.max.name Lib.Math.max.code) (hsize : ls.size = nL) (hfr : 1 ≤ R.frames) (hlo : (rest.map fun v => v.category).sum + 13 ≤ R.locals) (hc : cells ≤ R.cells) (hs : slots ≤ R.slots) {x y : Int} (h1 : in32 x) (h2 : in32 y) (hdg : decode cc pc = .ok (.invokestatic idx, 3))
    (kk : W p l e R s m args below meth c H locs cells slots Q (F0 m (pc + 3) ls (iv (max x y) :: rest))) : W p l e R s m args below meth c H locs cells slots Q (F0 m pc ls (iv y :: iv x :: rest)) := by
  have ht := hC.2.2.2.2
  refine va_mmax hC.1 hC.2.1 (hC.2.2.1.trans hsize.symm) hC.2.2.2.1 (ht _ hlk.1) (ht _ hlk.2.1) (ht _ hlk.2.2.1) (ht _ hlk.2.2.2) hfr hlo hc hs hdg ?_
  have e : (if Int32.ofInt x < Int32.ofInt y then Int32.ofInt y else Int32.ofInt x) = Int32.ofInt (max x y) := by
    by_cases h : x < y
    · rw [if_pos ((xi_lt h1 h2).mpr h)]; congr 1; omega
    · rw [if_neg (fun q => h ((xi_lt h1 h2).mp q))]; congr 1; omega
  rw [e]
  exact kk
theorem xg_tald (hC : Cx p m c cc nL s args own) (hS : va_S (rA b n sz) s.heap H locs) {t : Nat} {f : Int → Int} (hT : va_T .int t 4 (fun j => .int (Int32.ofInt (f (j : Int)))) (rA b n sz) s s.heap) {i : Int} (hi : 0 ≤ i ∧ i < 4) (hdg : decode cc pc = .ok (.iaload, 1))
    (kk : W p l e R s m args below meth c H locs cells slots Q (F0 m (pc + 1) ls (iv (f i) :: rest))) : W p l e R s m args below meth c H locs cells slots Q (F0 m pc ls (iv i :: .ref t :: rest)) :=
  va_ti hC.1 hC.2.1 hT hS (xi_in (n := 4) hi (by omega)) (by
    rw [xi_ix (n := 4) hi (by omega)]
    show Value.int (Int32.ofInt (f ((i.toNat : Nat) : Int))) = _
    rw [Int.toNat_of_nonneg hi.1]) hdg kk
theorem gs_Edge_32 (hC : Cx p m c cc nL s args "EdgeJoins$Edge") (hst : sC (rA b n sz) s s.heap) (hS : va_S (rA b n sz) s.heap H locs) (hdg : decode cc pc = .ok (.getstatic 32, 3))
    (kk : ∀ t : Nat, va_T .int t 4 (fun j => .int (Int32.ofInt (stX (j : Int)))) (rA b n sz) s s.heap → W p l e R s m args below meth c H locs cells slots Q (F0 m (pc + 3) ls (.ref t :: rest))) : W p l e R s m args below meth c H locs cells slots Q (F0 m pc ls rest) := by
  obtain ⟨⟨⟨t, hZ, hT⟩, -⟩, -, hN⟩ := hst
  exact va_getsN hC.1 hC.2.1 hZ hS hC.2.2.2.1 ((hN (.fieldLinkNest "EdgeJoins$Edge" 32 "EdgeJoins" "STEP_X" "[I" "EdgeJoins") (gn 381 (by decide +kernel) rfl)).use rfl) (fun _ h => h) hdg (kk t hT)
theorem gs_Edge_35 (hC : Cx p m c cc nL s args "EdgeJoins$Edge") (hst : sC (rA b n sz) s s.heap) (hS : va_S (rA b n sz) s.heap H locs) (hdg : decode cc pc = .ok (.getstatic 35, 3))
    (kk : ∀ t : Nat, va_T .int t 4 (fun j => .int (Int32.ofInt (stY (j : Int)))) (rA b n sz) s s.heap → W p l e R s m args below meth c H locs cells slots Q (F0 m (pc + 3) ls (.ref t :: rest))) : W p l e R s m args below meth c H locs cells slots Q (F0 m pc ls rest) := by
  obtain ⟨⟨-, t, hZ, hT⟩, -, hN⟩ := hst
  exact va_getsN hC.1 hC.2.1 hZ hS hC.2.2.2.1 ((hN (.fieldLinkNest "EdgeJoins$Edge" 35 "EdgeJoins" "STEP_Y" "[I" "EdgeJoins") (gn 383 (by decide +kernel) rfl)).use rfl) (fun _ h => h) hdg (kk t hT)
end XMo
