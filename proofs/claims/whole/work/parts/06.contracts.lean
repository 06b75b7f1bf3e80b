/-! CONTRACTS over a region -/
abbrev StG (D : va_G) (g : Nat → ClassId) (b n : Nat) (cf : Cf) (M : Mem) (U : State) : Prop := va_P D classes (wsG b n cf M) U.heap ∧ va_K D classes (tyG g) U
abbrev PcG (D : va_G) (g : Nat → ClassId) (b n : Nat) (cf : Cf) (sz : Nat) (M : Mem) (vs : List Value) : Array Value → State → Prop := va_Pc vs (fun U => U.heap.size = sz ∧ StG D g b n cf M U ∧ sC (rA b n sz) U U.heap)
abbrev QI (D : va_G) (g : Nat → ClassId) (b n : Nat) (cf : Cf) (sz : Nat) (Post : Int → Mem → Prop) : Array Value → State → Outcome → State → Prop := va_Qi (S := Int × Mem) (fun r u => r = Int32.ofInt u.1 ∧ Post u.1 u.2) (fun u t => StG D g b n cf u.2 t) (rA b n sz)
abbrev QV (D : va_G) (g : Nat → ClassId) (b n : Nat) (cf : Cf) (sz : Nat) (Post : Mem → Prop) : Array Value → State → Outcome → State → Prop := va_Qv (S := Mem) (fun u => Post u) (fun u t => StG D g b n cf u t) (rA b n sz)
abbrev QR (D : va_G) (g : Nat → ClassId) (b n : Nat) (cf : Cf) (sz : Nat) (kd : Nat → Prop) (Post : Nat → Mem → Prop) : Array Value → State → Outcome → State → Prop := va_Qr (S := Nat × Mem) (fun u => kd u.1 ∧ Post u.1 u.2) (fun u a t => a = b + u.1 ∧ StG D g b n cf u.2 t) (rA b n sz)
/-- a method that writes nothing -/
abbrev QP (Post : Int → Prop) : Array Value → State → Outcome → State → Prop := fun _ st oc t => ∃ r : Int, oc = .returned (some (iv r)) ∧ Post r ∧ t.heap = st.heap
abbrev nil_ : Nat → Prop := fun _ => False
theorem PcG_blind {D : va_G} {g : Nat → ClassId} {b n : Nat} {cf : Cf} {sz : Nat} {M : Mem} {vs : List Value} : FrameBlind (PcG D g b n cf sz M vs) := by
  intro a U f mk q
  obtain ⟨q0, q1, ⟨qP, qK⟩, qs⟩ := q
  exact ⟨q0, q1, ⟨qP, va_K.moved (u := U) (U := U.calling f mk a) (Vm.Alike.refl U.vm) qK⟩, sC.same (u := U) (U := U.calling f mk a) rfl qs⟩
theorem gd_good : GoodIn gd gd := fun w hw => ⟨hw, good_of_word (List.mem_filter.mp hw).2⟩
/-- a method's words: its own code, and the good words -/
theorem gd_codes {y : MethodName} {bytes : ByteArray} {maxL : Nat} {ret : Option FieldType} (h : Cond.code y bytes maxL ret ∈ gd) : GoodIn gd (Cond.code y bytes maxL ret :: gd) := by
  intro w hw
  rcases List.mem_cons.mp hw with rfl | hw
  · exact gd_good _ h
  · exact gd_good _ hw
section XM
variable {free : Addr → Prop} {l : Launch} {y : MethodName} {cc : ByteArray} {maxL mc ms : Nat} {ret : Option FieldType} {rm : Room} {D : va_G} {g : Nat → ClassId} {b n sz : Nat} {cf : Cf} {M : Mem} {vs : List Value} {Qc : Array Value → State → Outcome → State → Prop} {own : String}
theorem xm_start (hy : plainName y.cls = true) (hown : y.cls = own) (hlen : (lg_sl vs).length ≤ maxL)
    (body : ∀ (p : Program) (e : Env) (s : State) (m : MethodId) (below : List Frame) (meth : Method) (c : Code) (ls : Array Slot) (H : Heap) (args : Array Value), Cx p m c cc maxL s args own → meth.sig.returnType = ret → meth.locks = false → va_K D classes (tyG g) s → va_P D classes (wsG b n cf M) H → sC (rA b n sz) s s.heap → sz ≤ s.heap.size → va_S (rA b n sz) s.heap H [] → H = s.heap → lv_has ls maxL (lv_args 0 vs) →
      W p l e rm s m args below meth c H [] 0 0 (MQ below Qc args s mc ms free) (F0 m 0 ls [])) :
    Met l y (Cond.code y cc maxL ret :: gd) rm (PcG D g b n cf sz M vs) Qc mc ms free := by
  refine Met.ofW (cc := cc) (maxL := maxL) (ret := ret) hy rfl ?_
  intro p e s m args below meth c s₁ B hml hv
  obtain ⟨rfl, hsz, ⟨hP, hK⟩, hst⟩ := hv
  have hts := atoms_spec (ws := Cond.code y cc maxL ret :: gd) B.pre
  have hown' : s.vm.findClass own = some m.cls := by rw [← hown]; exact findClass_of_methodNamed B.named
  have hl := lv_entry vs (n := maxL) hlen
  rw [lg_entry_eq]
  exact body p e s m below meth c _ s.heap _ ⟨B.exec, B.bytes, hml, hown', fun w hw => hts w (List.mem_cons_of_mem _ hw)⟩ B.returns B.notSynchronized hK hP hst (Nat.le_of_eq hsz.symm) va_S.rf rfl hl
end XM
section XRet
variable {p : Program} {l : Launch} {e : Env} {R : Room} {s : State} {m : MethodId} {args : Array Value} {below : List Frame} {meth : Method} {c : Code} {H : Heap} {locs : List Loc} {mc ms : Nat}
variable {cc : ByteArray} {pc nL : Nat} {ls : Array Slot} {own : String} {D : va_G} {g : Nat → ClassId} {b n sz : Nat} {cf : Cf} {M : Mem}
theorem xr_i {Post : Int → Mem → Prop} {r : Int} (hC : Cx p m c cc nL s args own) (hr : meth.sig.returnType = some .int) (hlocks : meth.locks = false) (hK : va_K D classes (tyG g) s) (hP : va_P D classes (wsG b n cf M) H) (hS : va_S (rA b n sz) s.heap H locs) (h : Post r M) (hdg : decode cc pc = .ok (.ireturn, 1)) :
    W p l e R s m args below meth c H locs 0 0 (MQ below (QI D g b n cf sz Post) args s mc ms (rA b n sz)) (F0 m pc ls [iv r]) := by
  refine W.widen (k := mc) (n := ms) (Nat.zero_le _) (Nat.zero_le _) ?_
  exact W.iret hC.1 hC.2.1 hr (fun t ht hW => ⟨⟨_, (r, M), rfl, ⟨rfl, h⟩, by rw [ht]; exact hP, va_K.moved hW.alike hK⟩, hS.F ht⟩) hS.2.2 hdg
theorem xr_z {Post : Int → Mem → Prop} {r : Int} (hC : Cx p m c cc nL s args own) (hr : meth.sig.returnType = some .boolean) (hlocks : meth.locks = false) (hK : va_K D classes (tyG g) s) (hP : va_P D classes (wsG b n cf M) H) (hS : va_S (rA b n sz) s.heap H locs) (hz : r = 0 ∨ r = 1) (h : Post r M) (hdg : decode cc pc = .ok (.ireturn, 1)) :
    W p l e R s m args below meth c H locs 0 0 (MQ below (QI D g b n cf sz Post) args s mc ms (rA b n sz)) (F0 m pc ls [iv r]) := by
  refine W.widen (k := mc) (n := ms) (Nat.zero_le _) (Nat.zero_le _) ?_
  exact W.zret hC.1 hC.2.1 hr (by rcases hz with rfl | rfl <;> rfl) (fun t ht hW => ⟨⟨_, (r, M), rfl, ⟨rfl, h⟩, by rw [ht]; exact hP, va_K.moved hW.alike hK⟩, hS.F ht⟩) hS.2.2 hdg
theorem xr_v {Post : Mem → Prop} (hC : Cx p m c cc nL s args own) (hr : meth.sig.returnType = none) (hlocks : meth.locks = false) (hK : va_K D classes (tyG g) s) (hP : va_P D classes (wsG b n cf M) H) (hS : va_S (rA b n sz) s.heap H locs) (h : Post M) (hdg : decode cc pc = .ok (.return_, 1)) :
    W p l e R s m args below meth c H locs 0 0 (MQ below (QV D g b n cf sz Post) args s mc ms (rA b n sz)) (F0 m pc ls []) := by
  refine W.widen (k := mc) (n := ms) (Nat.zero_le _) (Nat.zero_le _) ?_
  exact W.vret hC.1 hC.2.1 hr (fun t ht hW => ⟨⟨M, rfl, h, by rw [ht]; exact hP, va_K.moved hW.alike hK⟩, hS.F ht⟩) hS.2.2 hdg
theorem xr_ip {Post : Int → Prop} {r : Int} (hC : Cx p m c cc nL s args own) (hr : meth.sig.returnType = some .int) (hlocks : meth.locks = false) (hH : H = s.heap) (h : Post r) (hdg : decode cc pc = .ok (.ireturn, 1)) :
    W p l e R s m args below meth c H [] 0 0 (MQ below (QP Post) args s 0 0 nil_) (F0 m pc ls [iv r]) :=
  W.iret hC.1 hC.2.1 hr (fun t ht hW => ⟨r, rfl, h, by rw [ht, hH]⟩) (fun q hq => by cases hq) hdg
theorem xr_zp {Post : Int → Prop} {r : Int} (hC : Cx p m c cc nL s args own) (hr : meth.sig.returnType = some .boolean) (hlocks : meth.locks = false) (hH : H = s.heap) (hz : r = 0 ∨ r = 1) (h : Post r) (hdg : decode cc pc = .ok (.ireturn, 1)) :
    W p l e R s m args below meth c H [] 0 0 (MQ below (QP Post) args s 0 0 nil_) (F0 m pc ls [iv r]) :=
  W.zret hC.1 hC.2.1 hr (by rcases hz with rfl | rfl <;> rfl) (fun t ht hW => ⟨r, rfl, h, by rw [ht, hH]⟩) (fun q hq => by cases hq) hdg
end XRet
/-- the words of a call of a method of the own class, or of a nest mate -/
def lkV (own : String) (idx : Nat) (C : String) (y : MethodName) (bytes : ByteArray) (maxL : Nat) (ret : Option FieldType) (n : Nat) : Prop :=
  y.cls = C ∧ (y.cls ≠ "java/lang/invoke/MethodHandle" ∧ y.cls ≠ "java/lang/invoke/VarHandle" ∧ (parseMethodDescriptor y.desc).map (fun d => d.parameters.length) = some n) ∧ Cond.code y bytes maxL ret ∈ gd ∧ Cond.initialized C ∈ gd ∧ Cond.instanceMethod y ∈ gd ∧ Cond.selects C y y ∈ gd ∧ (Cond.methodLink own idx y ∈ gd ∨ ∃ host, Cond.methodLinkNest own idx y host ∈ nW)
def lkS (own : String) (idx : Nat) (y : MethodName) (bytes : ByteArray) (maxL : Nat) (ret : Option FieldType) (n : Nat) : Prop :=
  (y.cls ≠ "java/lang/invoke/MethodHandle" ∧ y.cls ≠ "java/lang/invoke/VarHandle" ∧ (parseMethodDescriptor y.desc).map (fun d => d.parameters.length) = some n) ∧ Cond.code y bytes maxL ret ∈ gd ∧ Cond.initialized y.cls ∈ gd ∧ Cond.static y ∈ gd ∧ (Cond.methodLink own idx y ∈ gd ∨ ∃ host, Cond.methodLinkNest own idx y host ∈ nW)
section XK
variable {p : Program} {l : Launch} {e : Env} {R : Room} {s : State} {m : MethodId} {args : Array Value} {below : List Frame} {meth : Method} {c : Code} {H : Heap} {locs : List Loc} {cells slots mc ms : Nat} {Q : State → Prop}
variable {cc bytes : ByteArray} {pc nL maxL idx nA k : Nat} {ls : Array Slot} {rest As st0 : List Value} {own C : String} {y : MethodName} {ret : Option FieldType} {rm : Room} {D : va_G} {g : Nat → ClassId} {b n sz : Nat} {cf : Cf} {M : Mem} {Qc : Array Value → State → Outcome → State → Prop} {free : Addr → Prop}
theorem xk_runV {Pc : Array Value → State → Prop} (hC : Cx p m c cc nL s args own) (hN : sN s) (hlk : lkV own idx C y bytes maxL ret nA) (hM : Met l y (Cond.code y bytes maxL ret :: gd) rm Pc Qc mc ms free) (hp : PreV s H C k Pc As) (hrc : rm.cells = mc) (hrs : rm.slots = ms) (hR : rm.frames + 1 ≤ R.frames ∧ 8 + (maxL + 11) + rm.locals ≤ R.locals)
    (hn : As.length = nA) (hsize : ls.size = nL) (hstack : st0 = As.reverse ++ .ref k :: rest) (hW : (rest.map fun v => v.category).sum ≤ 8) (hdg : decode cc pc = .ok (.invokevirtual idx, 3)) (hf : cells + mc ≤ R.cells ∧ slots + ms ≤ R.slots) :
    va_Run p l e R s m args below meth c H locs cells slots mc ms (F0 m pc ls st0) rest (Qc (Value.ref k :: As).toArray) free := by
  obtain ⟨h1, h2, h3, h4, h5, h6, h7⟩ := hlk
  have ht := hC.2.2.2.2
  subst h1
  rcases h7 with h7 | ⟨host, h7⟩
  · exact va_runV hC hM ⟨callB_of nA ht (gd_codes h3) rfl hrc hrs (ht _ h4) (ht _ h7) h2 hR, ht _ h5, ht _ h6⟩ hp rfl hn hsize hstack (lv_room hW) hdg hf
  · exact va_runVN hC hM ⟨va_cnB (host := host) nA ht (gd_codes h3) rfl hrc hrs (hN _ h7) (ht _ h4) h2 hR, ht _ h5, ht _ h6⟩ hp rfl hn hsize hstack (lv_room hW) hdg hf
theorem xk_runS {Pc : Array Value → State → Prop} (hC : Cx p m c cc nL s args own) (hN : sN s) (hlk : lkS own idx y bytes maxL ret nA) (hM : Met l y (Cond.code y bytes maxL ret :: gd) rm Pc Qc mc ms free) (hp : PreS s H Pc As) (hrc : rm.cells = mc) (hrs : rm.slots = ms) (hR : rm.frames + 1 ≤ R.frames ∧ 8 + (maxL + 11) + rm.locals ≤ R.locals)
    (hn : As.length = nA) (hsize : ls.size = nL) (hstack : st0 = As.reverse ++ rest) (hW : (rest.map fun v => v.category).sum ≤ 8) (hdg : decode cc pc = .ok (.invokestatic idx, 3)) (hf : cells + mc ≤ R.cells ∧ slots + ms ≤ R.slots) :
    va_Run p l e R s m args below meth c H locs cells slots mc ms (F0 m pc ls st0) rest (Qc As.toArray) free := by
  obtain ⟨h2, h3, h4, h5, h7⟩ := hlk
  have ht := hC.2.2.2.2
  rcases h7 with h7 | ⟨host, h7⟩
  · exact va_runS hC hM ⟨callB_of nA ht (gd_codes h3) rfl hrc hrs (ht _ h4) (ht _ h7) h2 hR, ht _ h5⟩ hp rfl hn hsize hstack (lv_room hW) hdg hf
  · exact va_runSN hC hM ⟨va_cnB (host := host) nA ht (gd_codes h3) rfl hrc hrs (hN _ h7) (ht _ h4) h2 hR, ht _ h5, trivial⟩ hp rfl hn hsize hstack (lv_room hW) hdg hf
theorem xk_sub (hS : va_S (rA b n sz) s.heap H locs) (hz : sz ≤ s.heap.size) : ∀ q, rA b n H.size q → rA b n sz q := by
  intro q hq
  rcases hq with h | h
  · exact Or.inl h
  · exact Or.inr (Nat.le_trans hz (Nat.le_trans hS.1 h))

/-- the state that a callee finds -/
theorem xk_pre {vs : List Value} (hK : va_K D classes (tyG g) s) (hP : va_P D classes (wsG b n cf M) H) (hS : va_S (rA b n sz) s.heap H locs) (hst : sC (rA b n sz) s s.heap) (hz : sz ≤ s.heap.size) : ∀ U : State, U.heap = H → s.WarmedH U.vm → PcG D g b n cf H.size M vs vs.toArray U := by
  intro U hU hW
  refine ⟨rfl, by rw [hU], ⟨by rw [hU]; exact hP, va_K.moved hW.alike hK⟩, ?_⟩
  rw [hU]
  exact (sC.moved hW (hst.kept hS.2.1)).narrow (fun q hq => xk_sub hS hz q hq)
theorem xk_Vi {Post : Int → Mem → Prop} (hC : Cx p m c cc nL s args own) (hK : va_K D classes (tyG g) s) (hP : va_P D classes (wsG b n cf M) H) (hS : va_S (rA b n sz) s.heap H locs) (hst : sC (rA b n sz) s s.heap) (hz : sz ≤ s.heap.size) (hsize : ls.size = nL) (hlk : lkV own idx C y bytes maxL ret nA) (hn : As.length = nA) (hrc : rm.cells = 0) (hrs : rm.slots = 0) (hR : rm.frames + 1 ≤ R.frames ∧ 8 + (maxL + 11) + rm.locals ≤ R.locals)
    (hrv : ∃ cell : Cell, H[b + k]? = some cell ∧ cell.vm.isStatics = false ∧ s.vm.findClass C = some cell.cls)
    (hM : ∀ sz' : Nat, Met l y (Cond.code y bytes maxL ret :: gd) rm (PcG D g b n cf sz' M (.ref (b + k) :: As)) (QI D g b n cf sz' Post) 0 0 (rA b n sz')) (hdg : decode cc pc = .ok (.invokevirtual idx, 3)) (hstack : st0 = As.reverse ++ .ref (b + k) :: rest) (hW : (rest.map fun v => v.category).sum ≤ 8) (hf : cells ≤ R.cells ∧ slots ≤ R.slots)
    (kk : ∀ (r : Int) (M1 : Mem) (H1 : Heap) (locs1 : List Loc), Post r M1 → va_P D classes (wsG b n cf M1) H1 → va_S (rA b n sz) s.heap H1 locs1 → W p l e R s m args below meth c H1 locs1 cells slots Q (F0 m (pc + 3) ls (iv r :: rest))) : W p l e R s m args below meth c H locs cells slots Q (F0 m pc ls st0) := by
  refine va_calli (xk_runV hC hst.2.2 hlk (hM H.size) ⟨PcG_blind, hrv, xk_pre hK hP hS hst hz⟩ hrc hrs hR hn hsize hstack hW hdg hf) hS (fun q _ h => xk_sub hS hz q h) (fun q h => xk_sub hS hz q h) (fun r u t H1 locs1 ht hvm hw hB _ _ hS1 => ?_)
  obtain ⟨rfl, hp⟩ := hw
  obtain ⟨hP1, hK1⟩ := hB
  rw [ht] at hP1
  exact kk u.1 u.2 H1 locs1 hp hP1 hS1
theorem xk_Vv {Post : Mem → Prop} (hC : Cx p m c cc nL s args own) (hK : va_K D classes (tyG g) s) (hP : va_P D classes (wsG b n cf M) H) (hS : va_S (rA b n sz) s.heap H locs) (hst : sC (rA b n sz) s s.heap) (hz : sz ≤ s.heap.size) (hsize : ls.size = nL) (hlk : lkV own idx C y bytes maxL ret nA) (hn : As.length = nA) (hrc : rm.cells = 0) (hrs : rm.slots = 0) (hR : rm.frames + 1 ≤ R.frames ∧ 8 + (maxL + 11) + rm.locals ≤ R.locals)
    (hrv : ∃ cell : Cell, H[b + k]? = some cell ∧ cell.vm.isStatics = false ∧ s.vm.findClass C = some cell.cls)
    (hM : ∀ sz' : Nat, Met l y (Cond.code y bytes maxL ret :: gd) rm (PcG D g b n cf sz' M (.ref (b + k) :: As)) (QV D g b n cf sz' Post) 0 0 (rA b n sz')) (hdg : decode cc pc = .ok (.invokevirtual idx, 3)) (hstack : st0 = As.reverse ++ .ref (b + k) :: rest) (hW : (rest.map fun v => v.category).sum ≤ 8) (hf : cells ≤ R.cells ∧ slots ≤ R.slots)
    (kk : ∀ (M1 : Mem) (H1 : Heap) (locs1 : List Loc), Post M1 → va_P D classes (wsG b n cf M1) H1 → va_S (rA b n sz) s.heap H1 locs1 → W p l e R s m args below meth c H1 locs1 cells slots Q (F0 m (pc + 3) ls rest)) : W p l e R s m args below meth c H locs cells slots Q (F0 m pc ls st0) := by
  refine va_callv (xk_runV hC hst.2.2 hlk (hM H.size) ⟨PcG_blind, hrv, xk_pre hK hP hS hst hz⟩ hrc hrs hR hn hsize hstack hW hdg hf) hS (fun q _ h => xk_sub hS hz q h) (fun q h => xk_sub hS hz q h) (fun u t H1 locs1 ht hvm hp hB _ _ hS1 => ?_)
  obtain ⟨hP1, hK1⟩ := hB
  rw [ht] at hP1
  exact kk u H1 locs1 hp hP1 hS1
theorem xk_Si {Post : Int → Mem → Prop} (hC : Cx p m c cc nL s args own) (hK : va_K D classes (tyG g) s) (hP : va_P D classes (wsG b n cf M) H) (hS : va_S (rA b n sz) s.heap H locs) (hst : sC (rA b n sz) s s.heap) (hz : sz ≤ s.heap.size) (hsize : ls.size = nL) (hlk : lkS own idx y bytes maxL ret nA) (hn : As.length = nA) (hrc : rm.cells = 0) (hrs : rm.slots = 0) (hR : rm.frames + 1 ≤ R.frames ∧ 8 + (maxL + 11) + rm.locals ≤ R.locals)
    (hM : ∀ sz' : Nat, Met l y (Cond.code y bytes maxL ret :: gd) rm (PcG D g b n cf sz' M As) (QI D g b n cf sz' Post) 0 0 (rA b n sz')) (hdg : decode cc pc = .ok (.invokestatic idx, 3)) (hstack : st0 = As.reverse ++ rest) (hW : (rest.map fun v => v.category).sum ≤ 8) (hf : cells ≤ R.cells ∧ slots ≤ R.slots)
    (kk : ∀ (r : Int) (M1 : Mem) (H1 : Heap) (locs1 : List Loc), Post r M1 → va_P D classes (wsG b n cf M1) H1 → va_S (rA b n sz) s.heap H1 locs1 → W p l e R s m args below meth c H1 locs1 cells slots Q (F0 m (pc + 3) ls (iv r :: rest))) : W p l e R s m args below meth c H locs cells slots Q (F0 m pc ls st0) := by
  refine va_calli (xk_runS hC hst.2.2 hlk (hM H.size) ⟨PcG_blind, xk_pre hK hP hS hst hz⟩ hrc hrs hR hn hsize hstack hW hdg hf) hS (fun q _ h => xk_sub hS hz q h) (fun q h => xk_sub hS hz q h) (fun r u t H1 locs1 ht hvm hw hB _ _ hS1 => ?_)
  obtain ⟨rfl, hp⟩ := hw
  obtain ⟨hP1, hK1⟩ := hB
  rw [ht] at hP1
  exact kk u.1 u.2 H1 locs1 hp hP1 hS1
theorem xk_pure {Post : Int → Prop} {a : Array Value} (hr : va_Run p l e R s m args below meth c H locs cells slots 0 0 (F0 m pc ls st0) rest (QP Post a) nil_)
    (kk : ∀ r : Int, Post r → W p l e R s m args below meth c H locs cells slots Q (F0 m (pc + 3) ls (iv r :: rest))) : W p l e R s m args below meth c H locs cells slots Q (F0 m pc ls st0) := by
  intro T hT X
  obtain ⟨v, st₀, t, T', L, h0, X', hL, e1, e2, ⟨r, hv, hp, hh⟩, st⟩ := hr T hT X
  cases hv
  have hL0 : L = [] := by
    cases L with
    | nil => rfl
    | cons q L => exact (hL q List.mem_cons_self).elim
  subst hL0
  rw [List.append_nil] at X'
  obtain ⟨t2, a1, b1⟩ := kk r hp T' (by rw [e1, hh, h0]) X'
  exact ⟨t2, st t2 a1, b1⟩
theorem xk_VP {Post : Int → Prop} (hC : Cx p m c cc nL s args own) (hK : va_K D classes (tyG g) s) (hP : va_P D classes (wsG b n cf M) H) (hS : va_S (rA b n sz) s.heap H locs) (hst : sC (rA b n sz) s s.heap) (hz : sz ≤ s.heap.size) (hsize : ls.size = nL) (hlk : lkV own idx C y bytes maxL ret nA) (hn : As.length = nA) (hrc : rm.cells = 0) (hrs : rm.slots = 0) (hR : rm.frames + 1 ≤ R.frames ∧ 8 + (maxL + 11) + rm.locals ≤ R.locals)
    (hrv : ∃ cell : Cell, H[b + k]? = some cell ∧ cell.vm.isStatics = false ∧ s.vm.findClass C = some cell.cls)
    (hM : ∀ sz' : Nat, Met l y (Cond.code y bytes maxL ret :: gd) rm (PcG D g b n cf sz' M (.ref (b + k) :: As)) (QP Post) 0 0 nil_) (hdg : decode cc pc = .ok (.invokevirtual idx, 3)) (hstack : st0 = As.reverse ++ .ref (b + k) :: rest) (hW : (rest.map fun v => v.category).sum ≤ 8) (hf : cells ≤ R.cells ∧ slots ≤ R.slots)
    (kk : ∀ r : Int, Post r → W p l e R s m args below meth c H locs cells slots Q (F0 m (pc + 3) ls (iv r :: rest))) : W p l e R s m args below meth c H locs cells slots Q (F0 m pc ls st0) :=
  xk_pure (xk_runV hC hst.2.2 hlk (hM H.size) ⟨PcG_blind, hrv, xk_pre hK hP hS hst hz⟩ hrc hrs hR hn hsize hstack hW hdg hf) kk
theorem xk_SP {Post : Int → Prop} (hC : Cx p m c cc nL s args own) (hK : va_K D classes (tyG g) s) (hP : va_P D classes (wsG b n cf M) H) (hS : va_S (rA b n sz) s.heap H locs) (hst : sC (rA b n sz) s s.heap) (hz : sz ≤ s.heap.size) (hsize : ls.size = nL) (hlk : lkS own idx y bytes maxL ret nA) (hn : As.length = nA) (hrc : rm.cells = 0) (hrs : rm.slots = 0) (hR : rm.frames + 1 ≤ R.frames ∧ 8 + (maxL + 11) + rm.locals ≤ R.locals)
    (hM : ∀ sz' : Nat, Met l y (Cond.code y bytes maxL ret :: gd) rm (PcG D g b n cf sz' M As) (QP Post) 0 0 nil_) (hdg : decode cc pc = .ok (.invokestatic idx, 3)) (hstack : st0 = As.reverse ++ rest) (hW : (rest.map fun v => v.category).sum ≤ 8) (hf : cells ≤ R.cells ∧ slots ≤ R.slots)
    (kk : ∀ r : Int, Post r → W p l e R s m args below meth c H locs cells slots Q (F0 m (pc + 3) ls (iv r :: rest))) : W p l e R s m args below meth c H locs cells slots Q (F0 m pc ls st0) :=
  xk_pure (xk_runS hC hst.2.2 hlk (hM H.size) ⟨PcG_blind, xk_pre hK hP hS hst hz⟩ hrc hrs hR hn hsize hstack hW hdg hf) kk
end XK
