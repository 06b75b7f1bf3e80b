/-! CONSTRUCTORS: a region that grows, cell k as f k has it -/
def wsF (b n : Nat) (f : Nat → va_E) : va_W := (List.range n).map (fun k => (b + k, f k))
theorem wsF_get {b n : Nat} {f : Nat → va_E} {k : Nat} (h : k < n) : (wsF b n f)[k]? = some (b + k, f k) := by simp [wsF, h]
theorem wsF_some {b n : Nat} {f : Nat → va_E} {k : Nat} {q : Nat × va_E} (h : (wsF b n f)[k]? = some q) : k < n ∧ q = (b + k, f k) := by
  have hk : k < n := by
    have := (List.getElem?_eq_some_iff.mp h).1
    simpa [wsF] using this
  rw [wsF_get hk] at h
  exact ⟨hk, (Option.some.inj h).symm⟩
theorem wsG_F (b n : Nat) (cf : Cf) (M : Mem) : wsG b n cf M = wsF b n (fun k => cf (M k) k) := rfl
theorem wsF_D {b n : Nat} {f : Nat → va_E} {A : Nat → Prop} (hA : ∀ q, b ≤ q → A q) : va_D A (wsF b n f) := by
  refine ⟨fun i j p q hi hj hpq => ?_, fun k q hk => ?_⟩
  · obtain ⟨h1, rfl⟩ := wsF_some hi
    obtain ⟨h2, rfl⟩ := wsF_some hj
    have h3 : b + i = b + j := hpq
    omega
  · obtain ⟨h1, rfl⟩ := wsF_some hk
    exact hA _ (by show b ≤ b + k; omega)
theorem wsF_set {b n : Nat} {f f' : Nat → va_E} {k : Nat} (hk : k < n) (ho : ∀ j, j < n → j ≠ k → f' j = f j) : (wsF b n f).set k (b + k, f' k) = wsF b n f' := by
  apply List.ext_getElem?
  intro i
  have hl : (wsF b n f).length = n := by simp [wsF]
  by_cases hi : i < n
  · rw [wsF_get hi]
    by_cases hik : i = k
    · subst hik
      rw [List.getElem?_set_self (by rw [hl]; exact hk)]
    · rw [List.getElem?_set_ne (Ne.symm hik), wsF_get hi, ho i hi hik]
  · rw [List.getElem?_eq_none (by rw [List.length_set, hl]; omega), List.getElem?_eq_none (by simp [wsF]; omega)]
/-- the heap ends with the region -/
abbrev CI (D : va_G) (b n : Nat) (f : Nat → va_E) (H : Heap) : Prop := H.size = b + n ∧ va_P D classes (wsF b n f) H
theorem CI.grow {D : va_G} {b n : Nat} {f : Nat → va_E} {H H1 : Heap} (h : CI D b n f H) (hz : H1.size = H.size + 1) (ho : ∀ q, q < H.size → H1[q]? = H[q]?) (hn : va_at D classes (b + n, f n) H1) : CI D b (n + 1) f H1 := by
  refine ⟨by rw [hz, h.1]; omega, fun k q hk => ?_⟩
  obtain ⟨h1, rfl⟩ := wsF_some hk
  by_cases hkn : k = n
  · subst hkn; exact hn
  · have := h.2 k _ (wsF_get (show k < n by omega))
    exact this.kept (ho _ (by show b + k < H.size; rw [h.1]; omega))
theorem CI.put {D : va_G} {b n k : Nat} {f f' : Nat → va_E} {H : Heap} (hz : H.size = b + n) (hP : va_P D classes ((wsF b n f).set k (b + k, f' k)) H) (hk : k < n) (ho : ∀ j, j < n → j ≠ k → f' j = f j) : CI D b n f' H := by
  rw [wsF_set hk ho] at hP
  exact ⟨hz, hP⟩
theorem CI.cong {D : va_G} {b n : Nat} {f f' : Nat → va_E} {H : Heap} (h : CI D b n f H) (ho : ∀ j, j < n → f' j = f j) : CI D b n f' H := by
  refine ⟨h.1, fun k q hk => ?_⟩
  obtain ⟨h1, rfl⟩ := wsF_some hk
  rw [ho k h1]
  exact h.2 k _ (wsF_get h1)
theorem CI.of {D : va_G} {b n : Nat} {f : Nat → va_E} {H : Heap} (hP : va_P D classes (wsF b n f) H) (hz : H.size = b + n) : CI D b n f H := ⟨hz, hP⟩
section XN
variable {p : Program} {l : Launch} {e : Env} {R : Room} {s : State} {m : MethodId} {args : Array Value} {below : List Frame} {meth : Method} {c : Code} {H : Heap} {locs : List Loc} {cells slots : Nat} {Q : State → Prop}
variable {cc : ByteArray} {pc nL : Nat} {ls : Array Slot} {rest : List Value} {own : String} {D : va_G} {g : Nat → ClassId} {b n : Nat} {f f' : Nat → va_E} {A : Nat → Prop}
theorem xn_obj (hC : Cx p m c cc nL s args own) (hsize : ls.size = nL) {i : Nat} (h1 : Cond.methodLink own i Lib.objectInit ∈ gd) (h2 : Cond.instanceMethod Lib.objectInit ∈ gd) (h3 : Cond.code Lib.objectInit ⟨#[0xb1]⟩ 1 none ∈ gd) {a : Nat} (hfr : 1 ≤ R.frames) (hlo : (rest.map fun v => v.category).sum + 12 ≤ R.locals) (hdg : decode cc pc = .ok (.invokespecial i, 3))
    (kk : W p l e R s m args below meth c H locs cells slots Q (F0 m (pc + 3) ls rest)) : W p l e R s m args below meth c H locs cells slots Q (F0 m pc ls (.ref a :: rest)) :=
  W.objInit hC.1 hC.2.1 hC.2.2.2.1 (hC.2.2.2.2 _ h1) (hC.2.2.2.2 _ h2) (hC.2.2.2.2 _ h3) rfl (hsize.trans hC.2.2.1.symm) rfl hdg hfr (by show 2 * 0 + _ + 12 ≤ _; omega) kk
theorem S_grow {A : Nat → Prop} {H0 H1 : Heap} (hS : va_S A H0 H locs) (hz : H1.size = H.size + 1) (ho : ∀ q, q < H.size → H1[q]? = H[q]?) : va_S A H0 H1 locs :=
  ⟨Nat.le_trans hS.1 (by omega), fun q h1 h2 => (ho q (Nat.lt_of_lt_of_le h1 hS.1)).trans (hS.2.1 q h1 h2), hS.2.2⟩
theorem xn_newi {len : Nat} (hC : Cx p m c cc nL s args own) (harr : Cond.arrayClass .int ∈ gd) (hK : va_K D classes (tyG g) s) (hI : CI D b n f H) (hS : va_S A s.heap H locs) (hl : len < 100000) (hf : f n = .inl (g 0, len, .inl (fun _ => 0))) (hcl : cells + 1 ≤ R.cells) (hsl : slots + len ≤ R.slots) (hdg : decode cc pc = .ok (.newarray .int, 2))
    (kk : ∀ H1 : Heap, CI D b (n + 1) f H1 → va_S A s.heap H1 locs → W p l e R s m args below meth c H1 locs (cells + 1) (slots + len) Q (F0 m (pc + 2) ls (.ref (b + n) :: rest))) : W p l e R s m args below meth c H locs cells slots Q (F0 m pc ls (iv (len : Int) :: rest)) := by
  have hlen : in32 (len : Int) := ⟨by omega, by omega⟩
  refine va_newaK (atype := .int) hC.1 hC.2.1 (hC.2.2.2.2 _ harr) rfl hdg rfl (by rw [xi_lt0 hlen]; omega) (N := len) (by rw [xi_cl hlen]; omega) (by show len * 4 ≤ _; omega) hcl hsl hI.1 (fun H' cA e1 z1 o1 _ hNm => ?_)
  have hg : s.vm.findClass ("[" ++ FieldType.int.toString) = some (g 0) := (hK.2 0 (g 0, .int) rfl).2
  cases hNm.symm.trans hg
  rw [← hI.1] at o1
  refine kk H' (hI.grow (by rw [z1, hI.1]) o1 ?_) (S_grow hS (by rw [z1, hI.1]) o1)
  rw [hf]
  exact e1
theorem xn_newz {len : Nat} (hC : Cx p m c cc nL s args own) (harr : Cond.arrayClass .boolean ∈ gd) (hK : va_K D classes (tyG g) s) (hI : CI D b n f H) (hS : va_S A s.heap H locs) (hl : len < 100000) (hf : f n = .inl (g 4, len, .inl (fun _ => 0))) (hcl : cells + 1 ≤ R.cells) (hsl : slots + len ≤ R.slots) (hdg : decode cc pc = .ok (.newarray .boolean, 2))
    (kk : ∀ H1 : Heap, CI D b (n + 1) f H1 → va_S A s.heap H1 locs → W p l e R s m args below meth c H1 locs (cells + 1) (slots + len) Q (F0 m (pc + 2) ls (.ref (b + n) :: rest))) : W p l e R s m args below meth c H locs cells slots Q (F0 m pc ls (iv (len : Int) :: rest)) := by
  have hlen : in32 (len : Int) := ⟨by omega, by omega⟩
  refine va_newaK (atype := .boolean) hC.1 hC.2.1 (hC.2.2.2.2 _ harr) rfl hdg rfl (by rw [xi_lt0 hlen]; omega) (N := len) (by rw [xi_cl hlen]; omega) (by show len * 1 ≤ _; omega) hcl hsl hI.1 (fun H' cA e1 z1 o1 _ hNm => ?_)
  have hg : s.vm.findClass ("[" ++ FieldType.boolean.toString) = some (g 4) := (hK.2 4 (g 4, .boolean) rfl).2
  cases hNm.symm.trans hg
  rw [← hI.1] at o1
  refine kk H' (hI.grow (by rw [z1, hI.1]) o1 ?_) (S_grow hS (by rw [z1, hI.1]) o1)
  rw [hf]
  exact e1
theorem xn_newl (hC : Cx p m c cc nL s args own) (harr : Cond.arrayClass .long ∈ gd) (hK : va_K D classes (tyG g) s) (hI : CI D b n f H) (hS : va_S A s.heap H locs) (hf : f n = .inl (g 5, 1, .inr (.inl (fun _ => 0)))) (hcl : cells + 1 ≤ R.cells) (hsl : slots + 1 ≤ R.slots) (hdg : decode cc pc = .ok (.newarray .long, 2))
    (kk : ∀ H1 : Heap, CI D b (n + 1) f H1 → va_S A s.heap H1 locs → W p l e R s m args below meth c H1 locs (cells + 1) (slots + 1) Q (F0 m (pc + 2) ls (.ref (b + n) :: rest))) : W p l e R s m args below meth c H locs cells slots Q (F0 m pc ls (iv 1 :: rest)) := by
  refine va_newaK (atype := .long) hC.1 hC.2.1 (hC.2.2.2.2 _ harr) rfl hdg rfl (by decide) (N := 1) (by decide) (by decide) hcl hsl hI.1 (fun H' cA e1 z1 o1 _ hNm => ?_)
  have hg : s.vm.findClass ("[" ++ FieldType.long.toString) = some (g 5) := (hK.2 5 (g 5, .long) rfl).2
  cases hNm.symm.trans hg
  rw [← hI.1] at o1
  refine kk H' (hI.grow (by rw [z1, hI.1]) o1 ?_) (S_grow hS (by rw [z1, hI.1]) o1)
  rw [hf]
  exact e1
theorem xn_newq {len i j : Nat} {E : String} (hC : Cx p m c cc nL s args own) (hcl0 : Cond.classLink own i E ∈ gd) (hov : va_AO E s) (hK : va_K D classes (tyG g) s) (hj : (tyG g)[j]? = some (g j, .object E)) (hI : CI D b n f H) (hS : va_S A s.heap H locs) (hl : len < 100000) (hf : f n = qA (g j) len (fun _ => none)) (hcl : cells + 1 ≤ R.cells) (hsl : slots + len ≤ R.slots) (hdg : decode cc pc = .ok (.anewarray i, 3))
    (kk : ∀ H1 : Heap, CI D b (n + 1) f H1 → va_S A s.heap H1 locs → W p l e R s m args below meth c H1 locs (cells + 1) (slots + len) Q (F0 m (pc + 3) ls (.ref (b + n) :: rest))) : W p l e R s m args below meth c H locs cells slots Q (F0 m pc ls (iv (len : Int) :: rest)) := by
  have hlen : in32 (len : Int) := ⟨by omega, by omega⟩
  have hcz : (Int32.ofInt (len : Int)).toNatClampNeg = len := by rw [xi_cl hlen]; omega
  refine W.anew hC.1 hC.2.1 hC.2.2.2.1 (hC.2.2.2.2 _ hcl0) (va_AO.use hov) rfl hdg rfl (by rw [xi_lt0 hlen]; omega) (by rw [hcz]; omega) hcl (by rw [hcz]; exact hsl) (fun cA kA comp f1 f2 f3 f4 => ?_)
  rw [hcz]
  generalize hH1 : H.push ({ cls := cA, slots := Array.replicate len .null, vm := .none } : Cell) = H1
  have z1 : H1.size = H.size + 1 := by rw [← hH1, Array.size_push]
  have e1 : H1[H.size]? = some (arrV cA len (fun _ => .null)) := by rw [← hH1, Array.getElem?_push_size, ← arrV_new]
  have o1 : ∀ q : Nat, q < H.size → H1[q]? = H[q]? := fun q hq => by rw [← hH1, Array.getElem?_push, if_neg (Nat.ne_of_lt hq)]
  obtain ⟨-, kA', comp', r1, r2, r3, r4⟩ := hK.2 j _ hj
  cases f1.symm.trans r4
  show W p l e R s m args below meth c H1 locs (cells + 1) (slots + len) Q (F0 m (pc + 3) ls (.ref H.size :: rest))
  rw [hI.1]
  refine kk H1 (hI.grow z1 o1 ?_) (S_grow hS z1 o1)
  rw [hf]
  show H1[b + n]? = _
  rw [← hI.1]
  exact e1
theorem xn_new {C : String} {T : u_T} {N ci i : Nat} {fs : List Value} (ty : Nat → FieldType) (hC : Cx p m c cc nL s args own) (hin : ∀ w ∈ u_ws C T N, w ∈ gd) (hty : ∀ k, k < N → parseFieldDescriptor (T k).2.2.1 = some (ty k)) (hcl0 : Cond.classLink own i C ∈ gd) (hinst : Cond.instantiable C N ∈ gd) (hini : Cond.initialized C ∈ gd) (hK : va_K D classes (tyG g) s) (hI : CI D b n f H) (hS : va_S A s.heap H locs) (hc : classes[ci]? = some (C, T, N)) (hfs : ∀ j, j < N → defaultValue (ty j) = vp_V fs j) (hf : f n = .inr (ci, fs)) (hcl : cells + 1 ≤ R.cells) (hsl : slots + N ≤ R.slots) (hdg : decode cc pc = .ok (.new i, 3))
    (kk : ∀ H1 : Heap, CI D b (n + 1) f H1 → va_S A s.heap H1 locs → W p l e R s m args below meth c H1 locs (cells + 1) (slots + N) Q (F0 m (pc + 3) ls (.ref (b + n) :: rest))) : W p l e R s m args below meth c H locs cells slots Q (F0 m pc ls rest) := by
  have hKn := hK.1 ci _ hc
  have ht := hC.2.2.2.2
  refine W.newcK hC.1 hC.2.1 hC.2.2.2.1 (ht _ hcl0) (ht _ hinst) (ht _ hini) rfl hdg hcl hsl hKn.2.1 hI.1 (fun H1 kC hkC e1 z1 o1 => ?_)
  rw [← hI.1] at o1
  refine kk H1 (hI.grow (by rw [z1, hI.1]) o1 ?_) (S_grow hS (by rw [z1, hI.1]) o1)
  rw [hf]
  exact ⟨_, hc, (u_born ty ht hin hKn hkC e1 hty).to hfs⟩
/-- how large the heap is, by what has been made -/
theorem W.exact {gf : JFrame} (hP : va_P D classes (wsF b (n + 1) f) H) (hs : s.heap.size + cells = b + (n + 1)) (kk : H.size = b + (n + 1) → W p l e R s m args below meth c H locs cells slots Q gf) : W p l e R s m args below meth c H locs cells slots Q gf := by
  intro T hT X
  refine kk ?_ T hT X
  have h1 := X.heapSize
  have h2 := (hP n _ (wsF_get (by omega))).lt
  have h3 : b + n < H.size := h2
  rw [hT] at h1
  omega
theorem xn_putF {C : String} {T : u_T} {N ci i k : Nat} {fs : List Value} {v : Value} {ty : FieldType} (hA : ∀ q, b ≤ q → A q) (hC : Cx p m c cc nL s args own) (hin : ∀ w ∈ u_ws C T N, w ∈ gd) (ty0 : Nat → FieldType) (hty : ∀ k, k < N → parseFieldDescriptor (T k).2.2.1 = some (ty0 k)) (hnm : ∀ a, a < N → ∀ b, b < N → a ≠ b → (T a).2.1 ≠ (T b).2.1) (hK : va_K D classes (tyG g) s) (hP : va_P D classes (wsF b n f) H) (hS : va_S A s.heap H locs) (hk : k < n) (he : f k = .inr (ci, fs)) (hc : classes[ci]? = some (C, T, N)) (j : Nat) (hj : j < N) (hlink : Cond.fieldLink own i (T j).1 (T j).2.1 (T j).2.2.1 ∈ gd) (hfin : (T j).2.2.2 = true) (hin2 : meth.name = "<init>") (hdecl : (T j).1 = own) (hd : parseFieldDescriptor (T j).2.2.1 = some ty) (hn : narrow ty v = v) (hfit : fits ty v = true) (hl : j < fs.length) (he2 : f' k = .inr (ci, fs.set j v)) (ho : ∀ a, a < n → a ≠ k → f' a = f a) (hdg : decode cc pc = .ok (.putfield i, 3))
    (kk : ∀ (H1 : Heap) (locs1 : List Loc), va_P D classes (wsF b n f') H1 → va_S A s.heap H1 locs1 → W p l e R s m args below meth c H1 locs1 cells slots Q (F0 m (pc + 3) ls rest)) : W p l e R s m args below meth c H locs cells slots Q (F0 m pc ls (v :: .ref (b + k) :: rest)) :=
  va_putF hC.1 hC.2.1 hC.2.2.2.2 hin ty0 hty hnm hC.2.2.2.1 hK hP (wsF_D hA) hS k (by rw [wsF_get hk, he]) hc j hj (hC.2.2.2.2 _ hlink) (fun _ h => h) hfin hin2 hdecl hd hn hfit hl hdg (fun H1 locs1 hP1 _ hS1 => kk H1 locs1 (by
    rw [← he2, wsF_set hk ho] at hP1
    exact hP1) hS1)
theorem xn_putI {C : String} {T : u_T} {N ci i k : Nat} {fs : List Value} {v : Value} {ty : FieldType} (hA : ∀ q, b ≤ q → A q) (hC : Cx p m c cc nL s args own) (hin : ∀ w ∈ u_ws C T N, w ∈ gd) (ty0 : Nat → FieldType) (hty : ∀ k, k < N → parseFieldDescriptor (T k).2.2.1 = some (ty0 k)) (hnm : ∀ a, a < N → ∀ b, b < N → a ≠ b → (T a).2.1 ≠ (T b).2.1) (hK : va_K D classes (tyG g) s) (hP : va_P D classes (wsF b n f) H) (hS : va_S A s.heap H locs) (hk : k < n) (he : f k = .inr (ci, fs)) (hc : classes[ci]? = some (C, T, N)) (j : Nat) (hj : j < N) (hlink : Cond.fieldLink own i (T j).1 (T j).2.1 (T j).2.2.1 ∈ gd) (hfin : (T j).2.2.2 = false) (hd : parseFieldDescriptor (T j).2.2.1 = some ty) (hn : narrow ty v = v) (hfit : fits ty v = true) (hl : j < fs.length) (he2 : f' k = .inr (ci, fs.set j v)) (ho : ∀ a, a < n → a ≠ k → f' a = f a) (hdg : decode cc pc = .ok (.putfield i, 3))
    (kk : ∀ (H1 : Heap) (locs1 : List Loc), va_P D classes (wsF b n f') H1 → va_S A s.heap H1 locs1 → W p l e R s m args below meth c H1 locs1 cells slots Q (F0 m (pc + 3) ls rest)) : W p l e R s m args below meth c H locs cells slots Q (F0 m pc ls (v :: .ref (b + k) :: rest)) :=
  va_put hC.1 hC.2.1 hC.2.2.2.2 hin ty0 hty hnm hC.2.2.2.1 hK hP (wsF_D hA) hS k (by rw [wsF_get hk, he]) hc j hj (hC.2.2.2.2 _ hlink) (fun _ h => h) hfin hd hn hfit hl hdg (fun H1 locs1 hP1 _ hS1 => kk H1 locs1 (by
    rw [← he2, wsF_set hk ho] at hP1
    exact hP1) hS1)
theorem xn_get {C : String} {T : u_T} {N ci i k : Nat} {fs : List Value} {v : Value} (hC : Cx p m c cc nL s args own) (hin : ∀ w ∈ u_ws C T N, w ∈ gd) (hK : va_K D classes (tyG g) s) (hP : va_P D classes (wsF b n f) H) (hk : k < n) (he : f k = .inr (ci, fs)) (hc : classes[ci]? = some (C, T, N)) (j : Nat) (hj : j < N) (hlink : Cond.fieldLink own i (T j).1 (T j).2.1 (T j).2.2.1 ∈ gd) (hv : fs[j]? = some v) (hdg : decode cc pc = .ok (.getfield i, 3))
    (kk : W p l e R s m args below meth c H locs cells slots Q (F0 m (pc + 3) ls (v :: rest))) : W p l e R s m args below meth c H locs cells slots Q (F0 m pc ls (.ref (b + k) :: rest)) :=
  va_get hC.1 hC.2.1 hC.2.2.2.2 hin hC.2.2.2.1 hK hP k (by rw [wsF_get hk, he]) hc j hj (hC.2.2.2.2 _ hlink) (fun _ h => h) hv hdg kk
theorem xn_iast {len k : Nat} {h : Nat → Int32} (hA : ∀ q, b ≤ q → A q) (hC : Cx p m c cc nL s args own) (hK : va_K D classes (tyG g) s) (hP : va_P D classes (wsF b n f) H) (hS : va_S A s.heap H locs) (hk : k < n) (he : f k = .inl (g 0, len, .inl h)) (hl : len < 2147483648) {i x : Int} (hi : 0 ≤ i ∧ i < len) (he2 : f' k = .inl (g 0, len, .inl (upd h i.toNat (Int32.ofInt x)))) (ho : ∀ a, a < n → a ≠ k → f' a = f a) (hdg : decode cc pc = .ok (.iastore, 1))
    (kk : ∀ (H1 : Heap) (locs1 : List Loc), va_P D classes (wsF b n f') H1 → va_S A s.heap H1 locs1 → W p l e R s m args below meth c H1 locs1 cells slots Q (F0 m (pc + 1) ls rest)) : W p l e R s m args below meth c H locs cells slots Q (F0 m pc ls (iv x :: iv i :: .ref (b + k) :: rest)) :=
  va_iast hC.1 hC.2.1 hK hP (wsF_D hA) hS k 0 (by rw [wsF_get hk, he]) rfl (xi_in hi hl) hdg (fun H1 locs1 hP1 _ hS1 => kk H1 locs1 (by
    rw [xi_ix hi hl, ← he2, wsF_set hk ho] at hP1
    exact hP1) hS1)
theorem xn_aast {len k j ci v : Nat} {r : vw_C} {h : Nat → Option Nat} {vs : List Value} (hA : ∀ q, b ≤ q → A q) (hC : Cx p m c cc nL s args own) (hK : va_K D classes (tyG g) s) (hP : va_P D classes (wsF b n f) H) (hS : va_S A s.heap H locs) (hk : k < n) (he : f k = qA (g j) len h) (hj : (tyG g)[j]? = some (g j, .object r.1)) (hv : v < n) (hev : f v = .inr (ci, vs)) (hc : classes[ci]? = some r) (hl : len < 2147483648) {i : Int} (hi : 0 ≤ i ∧ i < len) (he2 : f' k = qA (g j) len (va_up h i.toNat (some (b + v)))) (ho : ∀ a, a < n → a ≠ k → f' a = f a) (hdg : decode cc pc = .ok (.aastore, 1))
    (kk : ∀ (H1 : Heap) (locs1 : List Loc), va_P D classes (wsF b n f') H1 → va_S A s.heap H1 locs1 → W p l e R s m args below meth c H1 locs1 cells slots Q (F0 m (pc + 1) ls rest)) : W p l e R s m args below meth c H locs cells slots Q (F0 m pc ls (.ref (b + v) :: iv i :: .ref (b + k) :: rest)) :=
  va_astq hC.1 hC.2.1 hK hP (wsF_D hA) hS k j v ci (by rw [wsF_get hk, he]) hj (by rw [wsF_get hv, hev]) hc (xi_in hi hl) hdg (fun H1 locs1 hP1 _ hS1 => kk H1 locs1 (by
    rw [xi_ix hi hl] at hP1
    change va_P D classes ((wsF b n f).set k (b + k, qA (g j) len (va_up h i.toNat (some (b + v))))) H1 at hP1
    rw [← he2, wsF_set hk ho] at hP1
    exact hP1) hS1)
end XN
