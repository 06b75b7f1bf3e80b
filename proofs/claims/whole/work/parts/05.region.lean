/-! A REGION: n cells from b on, cell k as cf (M k) k has it -/
abbrev Cf : Type := (Nat → Int) → Nat → va_E
def wsG (b n : Nat) (cf : Cf) (M : Mem) : va_W := (List.range n).map (fun k => (b + k, cf (M k) k))
theorem wsG_get {b n : Nat} {cf : Cf} {M : Mem} {k : Nat} (h : k < n) : (wsG b n cf M)[k]? = some (b + k, cf (M k) k) := by
  simp [wsG, h]
theorem wsG_some {b n : Nat} {cf : Cf} {M : Mem} {k : Nat} {q : Nat × va_E} (h : (wsG b n cf M)[k]? = some q) : k < n ∧ q = (b + k, cf (M k) k) := by
  have hk : k < n := by
    have := (List.getElem?_eq_some_iff.mp h).1
    simpa [wsG] using this
  rw [wsG_get hk] at h
  exact ⟨hk, (Option.some.inj h).symm⟩
def rA (b n sz : Nat) : Nat → Prop := fun q => (b ≤ q ∧ q < b + n) ∨ sz ≤ q
theorem rA_mono {b n sz sz' : Nat} (h : sz ≤ sz') (q : Nat) (hq : rA b n sz' q) : rA b n sz q := by
  rcases hq with h1 | h1
  · exact Or.inl h1
  · exact Or.inr (Nat.le_trans h h1)
theorem wsG_D {b n sz : Nat} {cf : Cf} {M : Mem} : va_D (rA b n sz) (wsG b n cf M) := by
  refine ⟨fun i j p q hi hj hpq => ?_, fun k q hk => ?_⟩
  · obtain ⟨h1, rfl⟩ := wsG_some hi
    obtain ⟨h2, rfl⟩ := wsG_some hj
    have h3 : b + i = b + j := hpq
    omega
  · obtain ⟨h1, rfl⟩ := wsG_some hk
    exact Or.inl ⟨by show b ≤ b + k; omega, by show b + k < b + n; omega⟩
theorem wsG_DT {b n : Nat} {cf : Cf} {M : Mem} : va_D (fun _ => True) (wsG b n cf M) := ⟨(wsG_D (sz := 0)).1, fun _ _ _ => trivial⟩
theorem wsG_set {b n : Nat} {cf : Cf} {M : Mem} {k j : Nat} {x : Int} {e : va_E} (hk : k < n) (he : cf (up M k j x k) k = e) : (wsG b n cf M).set k (b + k, e) = wsG b n cf (up M k j x) := by
  apply List.ext_getElem?
  intro i
  have hl : (wsG b n cf M).length = n := by simp [wsG]
  by_cases hi : i < n
  · rw [wsG_get hi]
    by_cases hik : i = k
    · subst hik
      rw [List.getElem?_set_self (by rw [hl]; exact hk), he]
    · rw [List.getElem?_set_ne (Ne.symm hik), wsG_get hi, up_ne hik]
  · rw [List.getElem?_eq_none (by rw [List.length_set, hl]; omega), List.getElem?_eq_none (by simp [wsG]; omega)]
/-- an int array of that many places at cell k -/
def isA (n : Nat) (cf : Cf) (g : Nat → ClassId) (len k : Nat) : Prop := k < n ∧ ∀ r : Nat → Int, cf r k = .inl (g 0, len, .inl (fun j => Int32.ofInt (r j)))
/-- a boolean array -/
def isZ (n : Nat) (cf : Cf) (g : Nat → ClassId) (len k : Nat) : Prop := k < n ∧ ∀ r : Nat → Int, cf r k = .inl (g 4, len, .inl (fun j => Int32.ofInt (r j)))
abbrev tyG (g : Nat → ClassId) : List (ClassId × FieldType) := [(g 0, .int), (g 1, .object "EdgeJoins$Edge"), (g 2, .object "EdgeJoins$Layout"), (g 3, .object "EdgeJoins$Pair"), (g 4, .boolean), (g 5, .long)]
theorem upd_up (M : Mem) (k i : Nat) (x : Int) : upd (fun j => Int32.ofInt (M k j)) i (Int32.ofInt x) = fun j => Int32.ofInt (up M k i x k j) := by
  funext j
  rw [up_row]
  by_cases h : j = i
  · simp [upd, h]
  · simp [upd, h]
section XG
variable {p : Program} {l : Launch} {e : Env} {R : Room} {s : State} {m : MethodId} {args : Array Value} {below : List Frame} {meth : Method} {c : Code} {H H0 : Heap} {locs : List Loc} {cells slots : Nat} {Q : State → Prop}
variable {cc : ByteArray} {pc nL : Nat} {ls : Array Slot} {rest : List Value} {own : String} {D : va_G} {g : Nat → ClassId} {b n sz : Nat} {cf : Cf} {M : Mem}
theorem xg_ald (hC : Cx p m c cc nL s args own) (hK : va_K D classes (tyG g) s) (hP : va_P D classes (wsG b n cf M) H) {len k : Nat} (hA : isA n cf g len k) (hl : len < 2147483648) {i : Int} (hi : 0 ≤ i ∧ i < len) (hdg : decode cc pc = .ok (.iaload, 1))
    (kk : W p l e R s m args below meth c H locs cells slots Q (F0 m (pc + 1) ls (iv (M k i.toNat) :: rest))) : W p l e R s m args below meth c H locs cells slots Q (F0 m pc ls (iv i :: .ref (b + k) :: rest)) :=
  va_iald hC.1 hC.2.1 hK hP k 0 (by rw [wsG_get hA.1, hA.2]) rfl (xi_in hi hl) hdg (by rw [xi_ix hi hl]; exact kk)
theorem xg_zald (hC : Cx p m c cc nL s args own) (hK : va_K D classes (tyG g) s) (hP : va_P D classes (wsG b n cf M) H) {len k : Nat} (hA : isZ n cf g len k) (hl : len < 2147483648) {i : Int} (hi : 0 ≤ i ∧ i < len) (hdg : decode cc pc = .ok (.baload, 1))
    (kk : W p l e R s m args below meth c H locs cells slots Q (F0 m (pc + 1) ls (iv (M k i.toNat) :: rest))) : W p l e R s m args below meth c H locs cells slots Q (F0 m pc ls (iv i :: .ref (b + k) :: rest)) :=
  va_zald hC.1 hC.2.1 hK hP k 4 (by rw [wsG_get hA.1, hA.2]) rfl (xi_in hi hl) hdg (by rw [xi_ix hi hl]; exact kk)
theorem xg_ast (hC : Cx p m c cc nL s args own) (hK : va_K D classes (tyG g) s) (hP : va_P D classes (wsG b n cf M) H) (hS : va_S (rA b n sz) H0 H locs) {len k : Nat} (hA : isA n cf g len k) (hl : len < 2147483648) {i x : Int} (hi : 0 ≤ i ∧ i < len) (hdg : decode cc pc = .ok (.iastore, 1))
    (kk : ∀ (H1 : Heap) (locs1 : List Loc), va_P D classes (wsG b n cf (up M k i.toNat x)) H1 → va_S (rA b n sz) H0 H1 locs1 → W p l e R s m args below meth c H1 locs1 cells slots Q (F0 m (pc + 1) ls rest)) : W p l e R s m args below meth c H locs cells slots Q (F0 m pc ls (iv x :: iv i :: .ref (b + k) :: rest)) :=
  va_iast hC.1 hC.2.1 hK hP wsG_D hS k 0 (by rw [wsG_get hA.1, hA.2]) rfl (xi_in hi hl) hdg (fun H1 locs1 hP1 _ hS1 => kk H1 locs1 (by
    rw [xi_ix hi hl, upd_up, wsG_set hA.1 (hA.2 _)] at hP1
    exact hP1) hS1)
theorem xg_zast1 (hC : Cx p m c cc nL s args own) (hK : va_K D classes (tyG g) s) (hP : va_P D classes (wsG b n cf M) H) (hS : va_S (rA b n sz) H0 H locs) {len k : Nat} (hA : isZ n cf g len k) (hl : len < 2147483648) {i : Int} (hi : 0 ≤ i ∧ i < len) (hdg : decode cc pc = .ok (.bastore, 1))
    (kk : ∀ (H1 : Heap) (locs1 : List Loc), va_P D classes (wsG b n cf (up M k i.toNat 1)) H1 → va_S (rA b n sz) H0 H1 locs1 → W p l e R s m args below meth c H1 locs1 cells slots Q (F0 m (pc + 1) ls rest)) : W p l e R s m args below meth c H locs cells slots Q (F0 m pc ls (iv 1 :: iv i :: .ref (b + k) :: rest)) :=
  va_zast hC.1 hC.2.1 hK hP wsG_D hS k 4 (by rw [wsG_get hA.1, hA.2]) rfl (xi_in hi hl) hdg (fun H1 locs1 hP1 _ hS1 => kk H1 locs1 (by
    rw [show vp_nar .boolean (Int32.ofInt 1) = Int32.ofInt 1 from rfl, xi_ix hi hl, upd_up, wsG_set hA.1 (hA.2 _)] at hP1
    exact hP1) hS1)
theorem xg_get (hC : Cx p m c cc nL s args own) {tys : List (ClassId × FieldType)} {C ref : String} {T : u_T} {N ci index k : Nat} {fs : List Value} {v : Value} (hin : ∀ w ∈ u_ws C T N, w ∈ gd) (hK : va_K D classes tys s) (hP : va_P D classes (wsG b n cf M) H) (hk : k < n) (he : cf (M k) k = .inr (ci, fs)) (hc : classes[ci]? = some (C, T, N)) (j : Nat) (hj : j < N) (hlink : Cond.fieldLink own index ref (T j).2.1 (T j).2.2.1 ∈ gd) (hsame : ref = (T j).1) (hv : fs[j]? = some v) (hdg : decode cc pc = .ok (.getfield index, 3))
    (kk : W p l e R s m args below meth c H locs cells slots Q (F0 m (pc + 3) ls (v :: rest))) : W p l e R s m args below meth c H locs cells slots Q (F0 m pc ls (.ref (b + k) :: rest)) :=
  va_get hC.1 hC.2.1 hC.2.2.2.2 hin hC.2.2.2.1 hK hP k (by rw [wsG_get hk, he]) hc j hj (hC.2.2.2.2 _ hlink) (fun x hx => by rw [hsame]; exact hx) hv hdg kk
theorem xg_put (hC : Cx p m c cc nL s args own) {tys : List (ClassId × FieldType)} {C ref : String} {T : u_T} {N ci index k : Nat} {fs : List Value} {x : Int} {ty : FieldType} (hin : ∀ w ∈ u_ws C T N, w ∈ gd) (ty0 : Nat → FieldType) (hty : ∀ k, k < N → parseFieldDescriptor (T k).2.2.1 = some (ty0 k)) (hnm : ∀ a, a < N → ∀ b, b < N → a ≠ b → (T a).2.1 ≠ (T b).2.1) (hK : va_K D classes tys s) (hP : va_P D classes (wsG b n cf M) H) (hS : va_S (rA b n sz) H0 H locs) (hk : k < n) (he : cf (M k) k = .inr (ci, fs)) (hc : classes[ci]? = some (C, T, N)) (j : Nat) (hj : j < N) (hlink : Cond.fieldLink own index ref (T j).2.1 (T j).2.2.1 ∈ gd) (hsame : ref = (T j).1) (hfin : (T j).2.2.2 = false) (hd : parseFieldDescriptor (T j).2.2.1 = some ty) (hn : narrow ty (iv x) = iv x) (hfit : fits ty (iv x) = true) (hl : j < fs.length) (he2 : cf (up M k j x k) k = .inr (ci, fs.set j (iv x))) (hdg : decode cc pc = .ok (.putfield index, 3))
    (kk : ∀ (H1 : Heap) (locs1 : List Loc), va_P D classes (wsG b n cf (up M k j x)) H1 → va_S (rA b n sz) H0 H1 locs1 → W p l e R s m args below meth c H1 locs1 cells slots Q (F0 m (pc + 3) ls rest)) : W p l e R s m args below meth c H locs cells slots Q (F0 m pc ls (iv x :: .ref (b + k) :: rest)) :=
  va_put hC.1 hC.2.1 hC.2.2.2.2 hin ty0 hty hnm hC.2.2.2.1 hK hP wsG_D hS k (by rw [wsG_get hk, he]) hc j hj (hC.2.2.2.2 _ hlink) (fun x hx => by rw [hsame]; exact hx) hfin hd hn hfit hl hdg (fun H1 locs1 hP1 _ hS1 => kk H1 locs1 (by
    rw [wsG_set hk he2] at hP1
    exact hP1) hS1)
theorem xg_getN (hC : Cx p m c cc nL s args own) {tys : List (ClassId × FieldType)} {C ref host : String} {T : u_T} {N ci index k : Nat} {fs : List Value} {v : Value} (hin : ∀ w ∈ u_ws C T N, w ∈ gd) (hK : va_K D classes tys s) (hP : va_P D classes (wsG b n cf M) H) (hk : k < n) (he : cf (M k) k = .inr (ci, fs)) (hc : classes[ci]? = some (C, T, N)) (j : Nat) (hj : j < N) (hN : sN s) (hlink : Cond.fieldLinkNest own index ref (T j).2.1 (T j).2.2.1 host ∈ nW) (hsame : ref = (T j).1) (hv : fs[j]? = some v) (hdg : decode cc pc = .ok (.getfield index, 3))
    (kk : W p l e R s m args below meth c H locs cells slots Q (F0 m (pc + 3) ls (v :: rest))) : W p l e R s m args below meth c H locs cells slots Q (F0 m pc ls (.ref (b + k) :: rest)) :=
  va_getN hC.1 hC.2.1 hC.2.2.2.2 hin hC.2.2.2.1 hK hP k (by rw [wsG_get hk, he]) hc j hj ((hN _ hlink).use rfl) (fun x hx => by rw [hsame]; exact hx) hv hdg kk
theorem xg_putN (hC : Cx p m c cc nL s args own) {tys : List (ClassId × FieldType)} {C ref host : String} {T : u_T} {N ci index k : Nat} {fs : List Value} {x : Int} {ty : FieldType} (hin : ∀ w ∈ u_ws C T N, w ∈ gd) (ty0 : Nat → FieldType) (hty : ∀ k, k < N → parseFieldDescriptor (T k).2.2.1 = some (ty0 k)) (hnm : ∀ a, a < N → ∀ b, b < N → a ≠ b → (T a).2.1 ≠ (T b).2.1) (hK : va_K D classes tys s) (hP : va_P D classes (wsG b n cf M) H) (hS : va_S (rA b n sz) H0 H locs) (hk : k < n) (he : cf (M k) k = .inr (ci, fs)) (hc : classes[ci]? = some (C, T, N)) (j : Nat) (hj : j < N) (hN : sN s) (hlink : Cond.fieldLinkNest own index ref (T j).2.1 (T j).2.2.1 host ∈ nW) (hsame : ref = (T j).1) (hfin : (T j).2.2.2 = false) (hd : parseFieldDescriptor (T j).2.2.1 = some ty) (hn : narrow ty (iv x) = iv x) (hfit : fits ty (iv x) = true) (hl : j < fs.length) (he2 : cf (up M k j x k) k = .inr (ci, fs.set j (iv x))) (hdg : decode cc pc = .ok (.putfield index, 3))
    (kk : ∀ (H1 : Heap) (locs1 : List Loc), va_P D classes (wsG b n cf (up M k j x)) H1 → va_S (rA b n sz) H0 H1 locs1 → W p l e R s m args below meth c H1 locs1 cells slots Q (F0 m (pc + 3) ls rest)) : W p l e R s m args below meth c H locs cells slots Q (F0 m pc ls (iv x :: .ref (b + k) :: rest)) :=
  va_putN hC.1 hC.2.1 hC.2.2.2.2 hin ty0 hty hnm hC.2.2.2.1 hK hP wsG_D hS k (by rw [wsG_get hk, he]) hc j hj ((hN _ hlink).use rfl) (fun x hx => by rw [hsame]; exact hx) hfin hd hn hfit hl hdg (fun H1 locs1 hP1 _ hS1 => kk H1 locs1 (by
    rw [wsG_set hk he2] at hP1
    exact hP1) hS1)
end XG
