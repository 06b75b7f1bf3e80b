/-! METHODS THAT MAY THROW: the contract has both ends -/
def xn (x : Nat) : String := if x = 0 then "java/lang/IndexOutOfBoundsException" else if x = 1 then "java/lang/IllegalStateException" else "java/lang/IllegalArgumentException"
def FEX (s t : State) (L : List Loc) (k n : Nat) : Prop := s.WarmedH t.vm ∧ s.sameButNew ({ t with vm := s.vm } : State) L k n
def MetX (l : Launch) (y : MethodName) (ws : List Cond) (rm : Room) (Pc : Array Value → State → Prop) (Qc : Array Value → State → Outcome → State → Prop) (mc ms : Nat) (free : Addr → Prop) : Prop :=
  MetFree l y (headSpec ws rm) Pc (fun _ _ _ _ _ => True) (fun a st o t => Qc a st o t ∧ ∃ L, FEX st t L mc ms ∧ ∀ q ∈ L, free q.base)
def MQX (below : List Frame) (Qc : Array Value → State → Outcome → State → Prop) (a : Array Value) (s : State) (mc ms : Nat) (free : Addr → Prop) : State → Prop := fun t =>
  ∃ o, t.status = .running ∧ Ended t below o ∧ Qc a s o t ∧ ∃ L, FEX s t L mc ms ∧ ∀ q ∈ L, free q.base
def xCell (x : Nat) (a : Addr) (t : State) : Prop := ∃ cell : Cell, t.heap[a]? = some cell ∧ cell.vm = .none ∧ t.vm.findClass (xn x) = some cell.cls
/-- how a throw leaves the heap: what was there is as it was -/
def xEnd (x : Nat) (a : Addr) (st t : State) : Prop := st.heap.size ≤ t.heap.size ∧ (∀ q : Nat, q < st.heap.size → t.heap[q]? = st.heap[q]?) ∧ xCell x a t
def QXP (Post : Int → Prop) (PostX : Nat → Prop) : Array Value → State → Outcome → State → Prop := fun _ st oc t => (∃ r : Int, oc = .returned (some (iv r)) ∧ Post r ∧ t.heap = st.heap) ∨ ∃ (a : Addr) (x : Nat), oc = .threw a ∧ PostX x ∧ xEnd x a st t
def QXR (b : Nat) (kd : Nat → Prop) (Post : Nat → Prop) (PostX : Nat → Prop) : Array Value → State → Outcome → State → Prop := fun _ st oc t => (∃ r : Nat, oc = .returned (some (.ref (b + r))) ∧ kd r ∧ Post r ∧ t.heap = st.heap) ∨ ∃ (a : Addr) (x : Nat), oc = .threw a ∧ PostX x ∧ xEnd x a st t
def QXI (D : va_G) (g : Nat → ClassId) (b n : Nat) (cf : Cf) (sz : Nat) (Post : Int → Mem → Prop) (PostX : Nat → Prop) : Array Value → State → Outcome → State → Prop := fun _ st oc t => (∃ (r : Int) (M' : Mem), oc = .returned (some (iv r)) ∧ Post r M' ∧ StG D g b n cf M' t ∧ va_F (rA b n sz) st t) ∨ ∃ (a : Addr) (x : Nat), oc = .threw a ∧ PostX x ∧ xEnd x a st t
section XT
variable {p : Program} {l : Launch} {e : Env} {R : Room} {s : State} {m : MethodId} {args : Array Value} {below : List Frame} {meth : Method} {c : Code} {H : Heap} {locs : List Loc} {cells slots mc ms : Nat} {Qc : Array Value → State → Outcome → State → Prop} {free : Addr → Prop}
theorem W.toX {gf : JFrame} (k : W p l e R s m args below meth c H locs cells slots (MQ below Qc args s mc ms free) gf) : W p l e R s m args below meth c H locs cells slots (MQX below Qc args s mc ms free) gf := by
  intro T hT X
  obtain ⟨t, a, o, h1, h2, h3, L, h4, h5⟩ := k T hT X
  exact ⟨t, a, o, h1, h2, h3, L, h4.2, h5⟩
theorem MetX.ofW {y : MethodName} {ws ws' : List Cond} {rm : Room} {Pc : Array Value → State → Prop} {cc : ByteArray} {maxL : Nat} {ret : Option FieldType} (hy : plainName y.cls = true) (hw : ws = Cond.code y cc maxL ret :: ws')
    (body : ∀ p e s m args below meth c s₁, BodyLoose p l y (headSpec ws rm) cc maxL ret e s m args below meth c s₁ → c.maxLocals = maxL → Pc args s →
      W p l e (headSpec ws rm).room s m args below meth c s.heap [] 0 0 (MQX below Qc args s mc ms free) (entryFrame m args maxL)) : MetX l y ws rm Pc Qc mc ms free := by
  refine MetFree.of_bodyS (code := cc) (maxLocals := maxL) (ret := ret) hy ?_ ?_
  · intro args s m h hn
    obtain ⟨meth, c, h1, h2, h3, h4, h5, h6, -, -⟩ := Cond.code_spec hn (atoms_spec (ws := ws) h _ (by rw [hw]; exact List.mem_cons_self))
    exact ⟨meth, c, h1, h2, h3, h4, h5, h6⟩
  · intro p e s m args below meth c s₁ B hml hP _
    have hh0 : s₁.heap = s.heap := by rw [B.state]; rfl
    obtain ⟨t, a1, o, b1, b2, b3⟩ := body p e s m args below meth c s₁ B hml hP s₁ hh0 (Stand.of_body B)
    exact ⟨t, o, a1, b1, b2, ⟨b3.1, b3.2⟩⟩
/-- a call of a method that may throw, from the invocation on -/
theorem runX {T : State} (X : Stand p l e R s m args below meth c T locs cells slots) {y : MethodName} {ws : List Cond} {rm : Room} {Pc : Array Value → State → Prop} {bytes : ByteArray} {maxL : Nat} {ret : Option FieldType} (hM : MetX l y ws rm Pc Qc mc ms free) (hblind : FrameBlind Pc) (hrc : rm.cells = mc) (hrs : rm.slots = ms) (hframes : rm.frames + 1 ≤ R.frames) (hlocals : 8 + (maxL + 11) + rm.locals ≤ R.locals)
    (hws : ∀ w ∈ ws, ∀ (a' : Array Value) (U : State), s.WarmedH U.vm → w.before a' U = true) (hcode : Cond.code y bytes maxL ret ∈ ws) (hinit : ∀ (a' : Array Value) (U : State), s.WarmedH U.vm → (Cond.initialized y.cls).before a' U = true) (hf : cells + mc ≤ R.cells ∧ slots + ms ≤ R.slots)
    {gf : JFrame} (hg : gf.method = m) (hsize : gf.locals.size = c.maxLocals) {ig : Instr} {len : Nat} (hdg : decode c.code gf.pc = .ok (ig, len)) (hW : 2 * gf.monitorRoom + (gf.stack.map fun v => v.category).sum ≤ 8) {mk : MethodId} (hn : T.methodNamed? y = some mk) {a : Array Value} (hp : Pc a T) :
    ∃ (o : Outcome) (t T' : State) (L : List Loc), Stand p l e R s m args below meth c T' (locs ++ L) (cells + mc) (slots + ms) ∧ (∀ q ∈ L, free q.base) ∧ T'.heap = t.heap ∧ T'.vm = t.vm ∧ Qc a (T.calling gf mk a) o t ∧ Steps p.tables e below (doInvoke e (T.setTop gf) [] mk a).1 t ∧
      ((∃ v, o = .returned v ∧ t = T'.setTop { gf with pc := gf.pc + len, stack := v.toList ++ gf.stack }) ∨ ∃ x, o = .threw x ∧ t = (T'.setTop gf).pushFrame (.throwing x)) := by
  have h2 : (Cond.code y bytes maxL ret).before a T = true := hws _ hcode _ _ X.warmed
  have h3 : (Cond.initialized y.cls).before a T = true := hinit _ _ X.warmed
  obtain ⟨methY, cY, hmY, hcY, -, hlY, -, -, -, -⟩ := Cond.code_spec hn h2
  obtain ⟨kY, hkY, -⟩ := className_of_methodNamed hn
  have hinitY : kY.init = .initialized := Cond.initialized_spec (findClass_of_methodNamed hn) hkY h3
  have h : At T gf.method c below := by rw [hg]; exact X.here
  have happ : (headSpec ws rm).appliesLoose y e.platform (T.calling gf mk a) = true :=
    Spec.appliesLoose_calling (g := gf) h hdg hn hkY hinitY
      (X.room_calling (g := gf) (R' := (headSpec ws rm).room) hsize hmY hcY hframes (by rw [hlY]; show _ + rm.locals ≤ _; omega) (by show cells + rm.cells ≤ _; rw [hrc]; exact hf.1) (by show slots + rm.slots ≤ _; rw [hrs]; exact hf.2)) (atoms_intro fun w hw => hws w hw _ _ X.warmed)
  obtain ⟨mid, hmid⟩ := h.above
  have hfr : (T.setTop gf).frames = (.java gf :: mid) ++ below := by rw [State.frames_setTop' gf h.top, hmid]; rfl
  obtain ⟨o, s₂, hsteps, -, hend, hq⟩ := Steps.callFree hM p X.admits X.cas X.clock (acts := []) hfr happ (hblind _ _ _ _ hp) trivial
  obtain ⟨hQ, L, ⟨hW2, hsame⟩, hL⟩ := hq
  rw [State.frames_setTop' gf h.top, X.tail] at hend
  cases o with
  | returned v =>
    obtain ⟨T', X', -, -, ht⟩ := X.outOf hg hdg (mk := mk) (a := a) hend hW2 hsame
    refine ⟨_, s₂, T', L, X', hL, ?_, ?_, hQ, hsteps, Or.inl ⟨v, rfl, ht⟩⟩
    · rw [ht]; rfl
    · rw [ht]; rfl
  | threw x =>
    obtain ⟨T', X', -, -, ht⟩ := X.outOfThrown hg (mk := mk) (a := a) hend hW2 hsame
    refine ⟨_, s₂, T', L, X', hL, ?_, ?_, hQ, hsteps, Or.inr ⟨x, rfl, ht⟩⟩
    · rw [ht]; rfl
    · rw [ht]; rfl
/-- invokevirtual of a method that may throw -/
theorem callVX {T : State} (X : Stand p l e R s m args below meth c T locs cells slots) (hexec : p.tables.exec = Jvm.exec) {own C : String} {index : Nat} {y : MethodName} {bytes : ByteArray} {maxL : Nat} {ret : Option FieldType} {ws : List Cond} {rm : Room} {Pc : Array Value → State → Prop}
    (hown : s.vm.findClass own = some m.cls) (hlink : (Cond.methodLink own index y).before args s = true) (hinst : (Cond.instanceMethod y).before args s = true) (hsel : (Cond.selects C y y).before args s = true)
    (hcode : (Cond.code y bytes maxL ret).before args s = true) (hy : y.cls ≠ "java/lang/invoke/MethodHandle" ∧ y.cls ≠ "java/lang/invoke/VarHandle")
    (hM : MetX l y ws rm Pc Qc mc ms free) (hblind : FrameBlind Pc) (hrc : rm.cells = mc) (hrs : rm.slots = ms) (hframes : rm.frames + 1 ≤ R.frames) (hlocals : 8 + (maxL + 11) + rm.locals ≤ R.locals)
    (hws : ∀ w ∈ ws, ∀ (a' : Array Value) (U : State), s.WarmedH U.vm → w.before a' U = true) (hcw : Cond.code y bytes maxL ret ∈ ws) (hinit : ∀ (a' : Array Value) (U : State), s.WarmedH U.vm → (Cond.initialized y.cls).before a' U = true) (hf : cells + mc ≤ R.cells ∧ slots + ms ≤ R.slots)
    {b : Addr} {cellB : Cell} (hcell : T.heap[b]? = some cellB) (hobj : cellB.vm.isStatics = false) (hcls : s.vm.findClass C = some cellB.cls)
    {gf : JFrame} (hg : gf.method = m) (hsize : gf.locals.size = c.maxLocals) {argsL rest : List Value} (hlen : ∀ sig, parseMethodDescriptor y.desc = some sig → argsL.length = sig.parameters.length)
    (hstack : gf.stack = argsL.reverse ++ .ref b :: rest) (hW : 2 * gf.monitorRoom + (rest.map fun v => v.category).sum ≤ 8) (hdg : decode c.code gf.pc = .ok (.invokevirtual index, 3))
    (hpre : ∀ vm₁, s.WarmedH vm₁ → Pc (Value.ref b :: argsL).toArray (T.setVm vm₁)) :
    ∃ (o : Outcome) (st t T' : State) (L : List Loc), st.heap = T.heap ∧ Stand p l e R s m args below meth c T' (locs ++ L) (cells + mc) (slots + ms) ∧ (∀ q ∈ L, free q.base) ∧ T'.heap = t.heap ∧ T'.vm = t.vm ∧ Qc (Value.ref b :: argsL).toArray st o t ∧
      ((∃ v, o = .returned v ∧ Goes p e below T gf T' { gf with pc := gf.pc + 3, stack := v.toList ++ rest }) ∨ ∃ x, o = .threw x ∧ ∀ target, Steps p.tables e below ((T'.setTop { gf with stack := rest }).pushFrame (.throwing x)) target → Steps p.tables e below (T.setTop gf) target) := by
  obtain ⟨mk, methM, hnamed, hmethM, hstM, habM⟩ := Cond.instanceMethod_spec hinst
  obtain ⟨methM', cM, hmethM', -, -, -, -, -, -, hsigM⟩ := Cond.code_spec hnamed hcode
  cases hmethM.symm.trans hmethM'
  obtain ⟨c2, r2, m2, q1, q2, q3, q4, kP, hkP, hkPi⟩ := Cond.selects_spec hsel
  cases hcls.symm.trans q1
  cases (State.methodFound?_of_named hnamed hy).symm.trans q2
  cases hnamed.symm.trans q3
  have hselP : selectMethod e.platform s.vm cellB.cls mk = .method mk := by rw [Launch.admits_selectMethod X.admits]; exact q4
  obtain ⟨vm₁, X₁, hstep₁⟩ := X.invokevirtual hexec hown hlink hnamed hmethM hstM hkP hkPi hy (a := b) (cell := cellB) hcell
    (fun z h => by rw [h] at hobj; cases hobj) hselP hmethM habM hkP hkPi (g := gf) hg (argsL := argsL) (rest := rest) (hlen _ hsigM) hstack hdg
  obtain ⟨o, t, T', L, X', hL, e1, e2, hQ, hsteps, hor⟩ := runX X₁ (gf := { gf with stack := rest }) hM hblind hrc hrs hframes hlocals hws hcw hinit hf hg hsize hdg hW (X₁.named hnamed) (hpre vm₁ X₁.warmed)
  refine ⟨o, (T.setVm vm₁).calling { gf with stack := rest } mk (Value.ref b :: argsL).toArray, t, T', L, rfl, X', hL, e1, e2, hQ, ?_⟩
  rcases hor with ⟨v, hv, ht⟩ | ⟨x, hx, ht⟩
  · refine Or.inl ⟨v, hv, fun target h => hstep₁ _ fun acts => ?_⟩
    rw [doInvoke_state]
    rw [ht] at hsteps
    exact hsteps.trans h
  · refine Or.inr ⟨x, hx, fun target h => hstep₁ _ fun acts => ?_⟩
    rw [doInvoke_state]
    rw [ht] at hsteps
    exact hsteps.trans h
end XT
section XMX
variable {free : Addr → Prop} {l : Launch} {y : MethodName} {cc : ByteArray} {maxL mc ms : Nat} {ret : Option FieldType} {rm : Room} {D : va_G} {g : Nat → ClassId} {b n sz : Nat} {cf : Cf} {M : Mem} {vs : List Value} {Qc : Array Value → State → Outcome → State → Prop} {own : String}
theorem xm_startX (hy : plainName y.cls = true) (hown : y.cls = own) (hlen : (lg_sl vs).length ≤ maxL)
    (body : ∀ (p : Program) (e : Env) (s : State) (m : MethodId) (below : List Frame) (meth : Method) (c : Code) (ls : Array Slot) (H : Heap) (args : Array Value), Cx p m c cc maxL s args own → meth.sig.returnType = ret → meth.locks = false → c.exceptionTable.isEmpty = true → va_K D classes (tyG g) s → va_P D classes (wsG b n cf M) H → sC (rA b n sz) s s.heap → sz ≤ s.heap.size → va_S (rA b n sz) s.heap H [] → H = s.heap → lv_has ls maxL (lv_args 0 vs) →
      W p l e rm s m args below meth c H [] 0 0 (MQX below Qc args s mc ms free) (F0 m 0 ls [])) :
    MetX l y (Cond.code y cc maxL ret :: gd) rm (PcG D g b n cf sz M vs) Qc mc ms free := by
  refine MetX.ofW (cc := cc) (maxL := maxL) (ret := ret) hy rfl ?_
  intro p e s m args below meth c s₁ B hml hv
  obtain ⟨rfl, hsz, ⟨hP, hK⟩, hst⟩ := hv
  have hts := atoms_spec (ws := Cond.code y cc maxL ret :: gd) B.pre
  have hown' : s.vm.findClass own = some m.cls := by rw [← hown]; exact findClass_of_methodNamed B.named
  have hl := lv_entry vs (n := maxL) hlen
  rw [lg_entry_eq]
  exact body p e s m below meth c _ s.heap _ ⟨B.exec, B.bytes, hml, hown', fun w hw => hts w (List.mem_cons_of_mem _ hw)⟩ B.returns B.notSynchronized (B.noHandlers (hts _ List.mem_cons_self)) hK hP hst (Nat.le_of_eq hsz.symm) va_S.rf rfl hl
end XMX
section XRX
variable {p : Program} {l : Launch} {e : Env} {R : Room} {s : State} {m : MethodId} {args : Array Value} {below : List Frame} {meth : Method} {c : Code} {H : Heap} {locs : List Loc} {cells slots mc ms : Nat}
variable {cc : ByteArray} {pc nL : Nat} {ls : Array Slot} {own : String} {D : va_G} {g : Nat → ClassId} {b n sz : Nat} {cf : Cf} {M : Mem} {PostX : Nat → Prop}
theorem xr_iX {Post : Int → Mem → Prop} {r : Int} (hC : Cx p m c cc nL s args own) (hr : meth.sig.returnType = some .int) (hlocks : meth.locks = false) (hK : va_K D classes (tyG g) s) (hP : va_P D classes (wsG b n cf M) H) (hS : va_S (rA b n sz) s.heap H locs) (h : Post r M) (hdg : decode cc pc = .ok (.ireturn, 1)) (h1 : cells ≤ mc) (h2 : slots ≤ ms) :
    W p l e R s m args below meth c H locs cells slots (MQX below (QXI D g b n cf sz Post PostX) args s mc ms (rA b n sz)) (F0 m pc ls [iv r]) :=
  W.toX (W.widen h1 h2 (W.iret hC.1 hC.2.1 hr (fun t ht hW => Or.inl ⟨r, M, rfl, h, ⟨by rw [ht]; exact hP, va_K.moved hW.alike hK⟩, hS.F ht⟩) hS.2.2 hdg))
theorem xr_ipX {Post : Int → Prop} {r : Int} (hC : Cx p m c cc nL s args own) (hr : meth.sig.returnType = some .int) (hlocks : meth.locks = false) (hH : H = s.heap) (h : Post r) (hdg : decode cc pc = .ok (.ireturn, 1)) (h1 : cells ≤ mc) (h2 : slots ≤ ms) :
    W p l e R s m args below meth c H [] cells slots (MQX below (QXP Post PostX) args s mc ms nil_) (F0 m pc ls [iv r]) :=
  W.toX (W.widen h1 h2 (W.iret hC.1 hC.2.1 hr (fun t ht hW => Or.inl ⟨r, rfl, h, by rw [ht, hH]⟩) (fun q hq => by cases hq) hdg))
theorem xr_rpX {Post : Nat → Prop} {kd : Nat → Prop} {r : Nat} {cn : String} (hC : Cx p m c cc nL s args own) (hr : meth.sig.returnType = some (.object cn)) (hlocks : meth.locks = false) (hH : H = s.heap) (hk : kd r) (h : Post r) (hdg : decode cc pc = .ok (.areturn, 1)) (h1 : cells ≤ mc) (h2 : slots ≤ ms) :
    W p l e R s m args below meth c H [] cells slots (MQX below (QXR b kd Post PostX) args s mc ms nil_) (F0 m pc ls [.ref (b + r)]) :=
  W.toX (W.widen h1 h2 (W.aret hC.1 hC.2.1 hr (Or.inl ⟨_, rfl⟩) (Or.inr ⟨_, rfl⟩) (fun t ht hW => Or.inl ⟨r, rfl, hk, h, by rw [ht, hH]⟩) (fun q hq => by cases hq) hdg))
end XRX
section XKX
variable {p : Program} {l : Launch} {e : Env} {R : Room} {s : State} {m : MethodId} {args : Array Value} {below : List Frame} {meth : Method} {c : Code} {H : Heap} {cells slots mc ms mT sT : Nat}
variable {cc bytes : ByteArray} {pc nL maxL idx nA k : Nat} {ls : Array Slot} {rest As st0 : List Value} {own C : String} {y : MethodName} {ret : Option FieldType} {rm : Room} {D : va_G} {g : Nat → ClassId} {b n sz : Nat} {cf : Cf} {M : Mem} {Qc : Array Value → State → Outcome → State → Prop} {free : Addr → Prop} {kd : Nat → Prop} {Post PostX : Nat → Prop}
theorem xk_VrX (hQ : ∀ (a : Addr) (x : Nat) (t : State), PostX x → xEnd x a s t → Qc args s (.threw a) t) (hC : Cx p m c cc nL s args own) (hK : va_K D classes (tyG g) s) (hP : va_P D classes (wsG b n cf M) H) (hS : va_S (rA b n sz) s.heap H []) (hst : sC (rA b n sz) s s.heap) (hz : sz ≤ s.heap.size) (hsize : ls.size = nL) (hlk : lkV own idx C y bytes maxL ret nA) (hln : Cond.methodLink own idx y ∈ gd) (hn : As.length = nA) (hrc : rm.cells = mc) (hrs : rm.slots = ms) (hR : rm.frames + 1 ≤ R.frames ∧ 8 + (maxL + 11) + rm.locals ≤ R.locals)
    (hrv : ∃ cell : Cell, H[b + k]? = some cell ∧ cell.vm.isStatics = false ∧ s.vm.findClass C = some cell.cls)
    (hM : ∀ sz' : Nat, MetX l y (Cond.code y bytes maxL ret :: gd) rm (PcG D g b n cf sz' M (.ref (b + k) :: As)) (QXR b kd Post PostX) mc ms nil_) (hdg : decode cc pc = .ok (.invokevirtual idx, 3)) (hstack : st0 = As.reverse ++ .ref (b + k) :: rest) (hW : (rest.map fun v => v.category).sum ≤ 8) (hf : cells + mc ≤ R.cells ∧ slots + ms ≤ R.slots) (hT : cells + mc ≤ mT ∧ slots + ms ≤ sT) (hlocks : meth.locks = false) (hexc : c.exceptionTable.isEmpty = true) (hH : H = s.heap)
    (kk : ∀ r : Nat, kd r → Post r → W p l e R s m args below meth c H [] (cells + mc) (slots + ms) (MQX below Qc args s mT sT free) (F0 m (pc + 3) ls (.ref (b + r) :: rest))) : W p l e R s m args below meth c H [] cells slots (MQX below Qc args s mT sT free) (F0 m pc ls st0) := by
  intro T hTH X
  obtain ⟨hlk1, h2, h3, h4, h5, h6, -⟩ := hlk
  subst hlk1
  have ht := hC.2.2.2.2
  obtain ⟨cellB, hcB, hoB, hclB⟩ := hrv
  obtain ⟨o, st, t, T', L, hst0, X', hL, e1, e2, hq, hor⟩ := callVX X hC.1 (C := y.cls) (bytes := bytes) (maxL := maxL) (ret := ret) hC.2.2.2.1 (ht _ hln) (ht _ h5) (ht _ h6) (ht _ h3) ⟨h2.1, h2.2.1⟩ (hM H.size) PcG_blind hrc hrs hR.1 hR.2 (pay_in ht (gd_codes h3)) List.mem_cons_self (fun a' U hW => word_at hW (Or.inl (by first | rfl | simp [Cond.onTables, Cond.keeps, Cond.steady])) (ht _ h4)) hf (by rw [hTH]; exact hcB) hoB hclB (gf := F0 m pc ls st0) rfl (hsize.trans hC.2.2.1.symm) (argsL := As) (rest := rest) (fun sig h => by
      have h8 := h2.2.2
      rw [h] at h8
      exact hn.trans (Option.some.inj h8).symm) hstack (lv_room (pc := pc) (ls := ls) (rest := rest) (m := m) hW) (by rw [hC.2.1]; exact hdg) (fun vm₁ hW₁ => xk_pre hK hP hS hst hz (T.setVm vm₁) hTH hW₁)
  have hL0 : L = [] := by
    cases L with
    | nil => rfl
    | cons q L => exact (hL q List.mem_cons_self).elim
  subst hL0
  rcases hq with ⟨r, hv, hkd, hp, hh⟩ | ⟨a, x, hv, hp, hx⟩
  · rcases hor with ⟨v, hv2, go⟩ | ⟨x, hv2, -⟩
    · cases hv.symm.trans hv2
      obtain ⟨t2, a1, b1⟩ := kk r hkd hp T' (by rw [e1, hh, hst0, hTH]) X'
      exact ⟨t2, go t2 a1, b1⟩
    · cases hv.symm.trans hv2
  · rcases hor with ⟨v, hv2, -⟩ | ⟨x2, hv2, go⟩
    · cases hv.symm.trans hv2
    · cases hv.symm.trans hv2
      obtain ⟨hwalk, hrun, hended, hWU, hsame⟩ := X'.leaveThrown a (g := { F0 m pc ls st0 with stack := rest }) rfl rfl rfl (fun z hz => by
        have : c.exceptionTable = #[] := by simpa using hexc
        rw [this] at hz
        simp at hz)
      refine ⟨_, go _ hwalk, .threw a, hrun, hended, hQ a x _ hp ?_, [], ⟨hWU, hsame.mono hT.1 hT.2⟩, fun q hq => by cases hq⟩
      obtain ⟨x1, x2, cell, x3, x4, x5⟩ := hx
      rw [hst0, hTH, hH] at x1 x2
      refine ⟨?_, fun q hq => ?_, cell, ?_, x4, ?_⟩
      · show s.heap.size ≤ T'.heap.size
        rw [e1]; exact x1
      · show T'.heap[q]? = _
        rw [e1]; exact x2 q hq
      · show T'.heap[a]? = _
        rw [e1]; exact x3
      · show T'.vm.findClass _ = _
        rw [e2]; exact x5
end XKX
