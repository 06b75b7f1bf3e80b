/-! CONTRACTS OF CONSTRUCTORS -/
def sK (U : State) : Prop := sN U ∧ va_AO "EdgeJoins$Edge" U ∧ va_AO "EdgeJoins$Layout" U ∧ va_AO "EdgeJoins$Pair" U
theorem sK.moved {u U : State} (hW : u.WarmedH U.vm) (h : sK u) : sK U := ⟨fun w hw => isNestW_warm (List.mem_filter.mp hw).2 hW (h.1 w hw), h.2.1.moved hW.alike, h.2.2.1.moved hW.alike, h.2.2.2.moved hW.alike⟩
theorem sK.same {u U : State} (hv : u.vm = U.vm) (h : sK u) : sK U := ⟨fun w hw => isNestW_same (List.mem_filter.mp hw).2 hv (h.1 w hw), h.2.1.moved (by rw [hv]; exact Vm.Alike.refl _), h.2.2.1.moved (by rw [hv]; exact Vm.Alike.refl _), h.2.2.2.moved (by rw [hv]; exact Vm.Alike.refl _)⟩
abbrev PcN (D : va_G) (g : Nat → ClassId) (b : Nat) (f : Nat → va_E) : Array Value → State → Prop := va_Pc [.ref (b + 0)] (fun U => U.heap.size = b + 1 ∧ va_P D classes (wsF b 1 f) U.heap ∧ va_K D classes (tyG g) U ∧ sK U)
abbrev fromB (b : Nat) : Nat → Prop := fun q => b ≤ q
abbrev QN (D : va_G) (b n : Nat) (f : Nat → va_E) : Array Value → State → Outcome → State → Prop := va_Qv (S := Unit) (fun _ => True) (fun _ t => t.heap.size = b + n ∧ va_P D classes (wsF b n f) t.heap) (fromB b)
theorem PcN_blind {D : va_G} {g : Nat → ClassId} {b : Nat} {f : Nat → va_E} : FrameBlind (PcN D g b f) := by
  intro a U fr mk q
  obtain ⟨q0, q1, qP, qK, qs⟩ := q
  exact ⟨q0, q1, qP, va_K.moved (u := U) (U := U.calling fr mk a) (Vm.Alike.refl U.vm) qK, sK.same (u := U) (U := U.calling fr mk a) rfl qs⟩
theorem xm_new {l : Launch} {y : MethodName} {cc : ByteArray} {maxL mc ms n : Nat} {rm : Room} {D : va_G} {g : Nat → ClassId} {b : Nat} {f f1 : Nat → va_E} {own : String} (hy : plainName y.cls = true) (hown : y.cls = own) (hnm : y.name = "<init>") (hlen : (lg_sl [Value.ref (b + 0)]).length ≤ maxL)
    (body : ∀ (p : Program) (e : Env) (s : State) (m : MethodId) (below : List Frame) (meth : Method) (c : Code) (ls : Array Slot) (H : Heap) (args : Array Value), Cx p m c cc maxL s args own → meth.sig.returnType = none → meth.locks = false → meth.name = "<init>" → va_K D classes (tyG g) s → va_P D classes (wsF b 1 f) H → s.heap.size = b + 1 → sK s → va_S (fromB b) s.heap H [] → lv_has ls maxL (lv_args 0 [Value.ref (b + 0)]) →
      W p l e rm s m args below meth c H [] 0 0 (MQ below (QN D b n f1) args s mc ms (fromB b)) (F0 m 0 ls [])) :
    Met l y (Cond.code y cc maxL none :: gd) rm (PcN D g b f) (QN D b n f1) mc ms (fromB b) := by
  refine Met.ofW (cc := cc) (maxL := maxL) (ret := none) hy rfl ?_
  intro p e s m args below meth c s₁ B hml hv
  obtain ⟨rfl, hsz, hP, hK, hs⟩ := hv
  have hts := atoms_spec (ws := Cond.code y cc maxL none :: gd) B.pre
  have hown' : s.vm.findClass own = some m.cls := by rw [← hown]; exact findClass_of_methodNamed B.named
  have hin : meth.name = "<init>" := by rw [← hnm]; exact (name_of_methodNamed B.named B.method).1
  have hl := lv_entry [Value.ref (b + 0)] (n := maxL) hlen
  rw [lg_entry_eq]
  exact body p e s m below meth c _ s.heap _ ⟨B.exec, B.bytes, hml, hown', fun w hw => hts w (List.mem_cons_of_mem _ hw)⟩ B.returns B.notSynchronized hin hK hP hsz hs va_S.rf hl
def lkI (own : String) (idx : Nat) (y : MethodName) (bytes : ByteArray) (maxL : Nat) : Prop :=
  y.name = "<init>" ∧ (y.cls ≠ "java/lang/invoke/MethodHandle" ∧ y.cls ≠ "java/lang/invoke/VarHandle" ∧ (parseMethodDescriptor y.desc).map (fun d => d.parameters.length) = some 0) ∧ Cond.code y bytes maxL none ∈ gd ∧ Cond.initialized y.cls ∈ gd ∧ Cond.instanceMethod y ∈ gd ∧ (Cond.methodLink own idx y ∈ gd ∨ ∃ host, Cond.methodLinkNest own idx y host ∈ nW)
section XN2
variable {p : Program} {l : Launch} {e : Env} {R : Room} {s : State} {m : MethodId} {args : Array Value} {below : List Frame} {meth : Method} {c : Code} {H : Heap} {locs : List Loc} {cells slots mc ms : Nat} {Q : State → Prop}
variable {cc bytes : ByteArray} {pc nL idx maxL : Nat} {ls : Array Slot} {rest : List Value} {own : String} {y : MethodName} {rm : Room} {D : va_G} {g : Nat → ClassId} {b n L : Nat} {f f1 fc fe : Nat → va_E} {A : Nat → Prop}
theorem xr_n (hC : Cx p m c cc nL s args own) (hr : meth.sig.returnType = none) (hlocks : meth.locks = false) (hP : va_P D classes (wsF b (n + 1) f) H) (hs : s.heap.size + cells = b + (n + 1)) (hS : va_S (fromB b) s.heap H locs) (hdg : decode cc pc = .ok (.return_, 1)) :
    W p l e R s m args below meth c H locs cells slots (MQ below (QN D b (n + 1) f) args s cells slots (fromB b)) (F0 m pc ls []) :=
  W.exact hP hs (fun hz => W.vret hC.1 hC.2.1 hr (fun t ht _ => ⟨⟨(), rfl, trivial, by rw [ht]; exact hz, by rw [ht]; exact hP⟩, hS.F ht⟩) hS.2.2 hdg)
/-- a constructor called on the object that was made last -/
theorem xn_call (hC : Cx p m c cc nL s args own) (hsize : ls.size = nL) (hlk : lkI own idx y bytes maxL) (hM : Met l y (Cond.code y bytes maxL none :: gd) rm (PcN D g (b + n) fc) (QN D (b + n) L fe) mc ms (fromB (b + n))) (hrc : rm.cells = mc) (hrs : rm.slots = ms) (hR : rm.frames + 1 ≤ R.frames ∧ 8 + (maxL + 11) + rm.locals ≤ R.locals) (hK : va_K D classes (tyG g) s) (hk : sK s) (hP : va_P D classes (wsF b (n + 1) f) H) (hs : s.heap.size + cells = b + (n + 1)) (hS : va_S A s.heap H locs) (hA : ∀ q, b ≤ q → A q) (hfc : fc 0 = f n) (ho : ∀ k, k < n → f1 k = f k) (hn : ∀ j, j < L → f1 (n + j) = fe j) (hW : (rest.map fun v => v.category).sum ≤ 8) (hf : cells + mc ≤ R.cells ∧ slots + ms ≤ R.slots) (hdg : decode cc pc = .ok (.invokespecial idx, 3))
    (kk : ∀ (H1 : Heap) (locs1 : List Loc), va_P D classes (wsF b (n + L) f1) H1 → va_S A s.heap H1 locs1 → W p l e R s m args below meth c H1 locs1 (cells + mc) (slots + ms) Q (F0 m (pc + 3) ls rest)) : W p l e R s m args below meth c H locs cells slots Q (F0 m pc ls (.ref (b + n) :: rest)) := by
  refine W.exact hP hs (fun hz => ?_)
  obtain ⟨h1, h2, h3, h4, h5, h7⟩ := hlk
  have ht := hC.2.2.2.2
  have hp : PreS s H (PcN D g (b + n) fc) [.ref (b + n + 0)] := ⟨PcN_blind, fun U hU hW => ⟨rfl, by rw [hU, hz]; omega, by
    rw [hU]
    intro k q hq
    obtain ⟨hk1, rfl⟩ := wsF_some hq
    have hk0 : k = 0 := by omega
    subst hk0
    rw [hfc]
    exact hP n _ (wsF_get (by omega)), va_K.moved hW.alike hK, hk.moved hW⟩⟩
  have run : va_Run p l e R s m args below meth c H locs cells slots mc ms (F0 m pc ls (.ref (b + n) :: rest)) rest (QN D (b + n) L fe (Value.ref (b + n) :: []).toArray) (fromB (b + n)) := by
    rcases h7 with h7 | ⟨host, h7⟩
    · exact va_runI (As := []) hC hM ⟨callB_of 0 ht (gd_codes h3) rfl hrc hrs (ht _ h4) (ht _ h7) h2 hR, h1, ht _ h5⟩ hp rfl rfl hsize rfl (lv_room hW) hdg hf
    · exact va_runIN (As := []) hC hM ⟨va_cnB (host := host) 0 ht (gd_codes h3) rfl hrc hrs (hk.1 _ h7) (ht _ h4) h2 hR, h1, ht _ h5⟩ hp rfl rfl hsize rfl (lv_room hW) hdg hf
  refine va_callv run hS (fun q _ h => hA q (Nat.le_trans (Nat.le_add_right b n) h)) (fun q h => hA q (Nat.le_trans (Nat.le_add_right b n) h)) (fun u t H1 locs1 ht1 _ _ hB _ hk1 hS1 => kk H1 locs1 ?_ hS1)
  obtain ⟨-, hP1⟩ := hB
  rw [ht1] at hP1
  intro k q hq
  obtain ⟨hk2, rfl⟩ := wsF_some hq
  by_cases hkn : k < n
  · rw [ho k hkn]
    exact (hP k _ (wsF_get (by omega))).kept (hk1 _ (by show b + k < H.size; omega) (by show ¬ b + n ≤ b + k; omega))
  · have := hP1 (k - n) _ (wsF_get (show k - n < L by omega))
    rw [show f1 k = fe (k - n) by rw [← hn (k - n) (by omega)]; congr 1; omega]
    rw [show b + k = b + n + (k - n) by omega]
    exact this
end XN2
abbrev z0 (g : Nat → ClassId) (n : Nat) : va_E := .inl (g 0, n, .inl (fun _ => 0))
def FEdge (g : Nat → ClassId) (fs : List Value) : Nat → va_E := fun k => if k = 0 then .inr (1, fs) else if k < 3 then z0 g 28 else z0 g 29
def FLayout (g : Nat → ClassId) (fs : List Value) (tr : Nat → Int32) : Nat → va_E := fun k => if k = 0 then .inr (2, fs) else if k < 4 then z0 g 6 else .inl (g 0, 6, .inl tr)
def FBoard (g : Nat → ClassId) (fs : List Value) : Nat → va_E := fun k => if k = 0 then .inr (5, fs) else z0 g 1936
def FPair : Nat → va_E := fun _ => .inr (3, [.int 0, .int 0, .int 0, .int 0, .int 0, .int 0, .int 0])
def FModel (g : Nat → ClassId) (fs : List Value) (pl : Nat → Int32) : Nat → va_E := fun k =>
  match k with
  | 0 => .inr (6, fs)
  | 1 => z0 g 6
  | 2 => z0 g 168
  | 3 => z0 g 168
  | 4 => .inl (g 4, 6, .inl (fun _ => 0))
  | 5 => z0 g 6
  | 6 => z0 g 294
  | 7 => z0 g 294
  | 8 => z0 g 606
  | 9 => z0 g 6
  | 10 => .inl (g 0, 24, .inl pl)
  | 11 => z0 g 144
  | 12 => z0 g 24
  | _ => z0 g 8100
