/-! WHAT IS CAUGHT: the three exceptions in the law's own methods -/
/-- which of the three classes can be assigned to which -/
def sX (U : State) : Prop := ∀ x k : Nat, x < 3 → k < 3 → ∃ (c t : ClassId), U.vm.findClass (xn x) = some c ∧ U.vm.findClass (xn k) = some t ∧ (∃ kc, U.vm.classes[c]? = some kc) ∧ (U.vm.assignable c t = true ↔ x = k)
theorem sX.moved {u U : State} (hvm : u.vm.Alike U.vm) (h : sX u) : sX U := by
  intro x k hx hk
  obtain ⟨c, t, h1, h2, ⟨kc, h3⟩, h4⟩ := h x k hx hk
  obtain ⟨k', hk', -⟩ := hvm.2.2 _ _ h3
  exact ⟨c, t, by rw [hvm.findClass]; exact h1, by rw [hvm.findClass]; exact h2, ⟨k', hk'⟩, by rw [hvm.assignable]; exact h4⟩
def kdE (y : ExceptionTableEntry) : Nat := if y.catchType = 19 then 0 else if y.catchType = 13 then 1 else 2
theorem kdE_lt (y : ExceptionTableEntry) : kdE y < 3 := by unfold kdE; (repeat' split) <;> omega
def firstH : List ExceptionTableEntry → Nat → Nat
  | [], _ => 0
  | y :: t, x => if kdE y = x then y.handlerPc else firstH t x
theorem firstH_c (y : ExceptionTableEntry) (t : List ExceptionTableEntry) (x : Nat) : firstH (y :: t) x = if kdE y = x then y.handlerPc else firstH t x := rfl
theorem go_cold {e : Env} {s : State} {f : JFrame} {a : Addr} {Q : Handler → Pre} {E : CtlPost} {d : Bool} {acts : List Action} {x : ExceptionTableEntry} {t : List ExceptionTableEntry} {c : ClassId} {cell : Cell} {vm' : Vm} (hx : covers x f.pc = true) (h0 : x.catchType ≠ 0) (hg : (Jvm.resolveClass f.method.cls x.catchType).Gives e.toSetting s.vm (.ok c) vm') (hsz : vm'.classes.size ≤ s.vm.classes.size) (hcell : s.heap[a]? = some cell) (hobj : ∀ k, cell.vm ≠ .statics k) (hk : ∃ k, vm'.classes[cell.cls]? = some k) (hc : ∃ k, vm'.classes[c]? = some k) :
    wp (findHandler.go f a (x :: t)) Q E e d acts s ↔ if vm'.assignable cell.cls c = true then Q (.found x.handlerPc) d acts (s.setVm vm') else wp (findHandler.go f a t) Q E e d acts (s.setVm vm') := by
  simp only [covers] at hx
  obtain ⟨ha, ht⟩ := hg.op (op := VmOp.resolveClass f.method.cls x.catchType) rfl
  have hcell' : (s.setVm vm').heap[a]? = some cell := hcell
  cases hfit : vm'.assignable cell.cls c <;>
    simp [findHandler.go, hx, h0, ha, ht, hsz, hcell, hcell', hobj, hk, hc, hfit, VmOp.dirties, VmOp.acts]
theorem find_go {e : Env} {s0 : State} {f : JFrame} {a : Addr} {x : Nat} (hx : x < 3) (hsX : sX s0) {own : String} (hown : s0.vm.findClass own = some f.method.cls) (hpl : e.platform.magicAccessors = ({} : Platform).magicAccessors) : ∀ (es : List ExceptionTableEntry) (s : State), s0.WarmedH s.vm → (∃ cell : Cell, s.heap[a]? = some cell ∧ cell.vm = .none ∧ s0.vm.findClass (xn x) = some cell.cls) → (∀ y ∈ es, covers y f.pc = true ∧ y.catchType ≠ 0 ∧ (Cond.classLink own y.catchType (xn (kdE y))).before #[] s0 = true) → (∃ y ∈ es, kdE y = x) →
    ∃ vm', s0.WarmedH vm' ∧ ∀ (Q : Handler → Pre) (E : CtlPost) (d : Bool) (acts : List Action), wp (findHandler.go f a es) Q E e d acts s ↔ Q (.found (firstH es x)) d acts (s.setVm vm')
  | [], s, _, _, _, h => by obtain ⟨y, hy, -⟩ := h; cases hy
  | y :: t, s, hW, hcell, hes, hex => by
    obtain ⟨hcv, hct, hlk⟩ := hes y List.mem_cons_self
    obtain ⟨cc, hfcc, hcl⟩ := Cond.classLink_spec hown hlk e.platform hpl
    obtain ⟨hg₁, hwarm₁, hready₁⟩ := State.classEntry (e := e) hW hcl
    obtain ⟨cell, hc1, hc2, hc3⟩ := id hcell
    obtain ⟨c, t', e1, e2, ⟨kc, e3⟩, e4⟩ := hsX x (kdE y) hx (kdE_lt y)
    cases e2.symm.trans hfcc
    cases e1.symm.trans hc3
    obtain ⟨k1, hk1, -⟩ := hwarm₁.alike.2.2 _ _ e3
    obtain ⟨cy, -, e5, -, ⟨ky, e6⟩, -⟩ := hsX (kdE y) (kdE y) (kdE_lt y) (kdE_lt y)
    cases e5.symm.trans hfcc
    obtain ⟨k2, hk2, -⟩ := hwarm₁.alike.2.2 _ _ e6
    generalize s.vm.noted f.method.cls y.catchType (.cls cc) = vm₁ at hg₁ hwarm₁ hready₁ hk1 hk2
    have hsz : vm₁.classes.size ≤ s.vm.classes.size := by no_record
    have key : ∀ (Q : Handler → Pre) (E : CtlPost) (d : Bool) (acts : List Action), wp (findHandler.go f a (y :: t)) Q E e d acts s ↔ if vm₁.assignable cell.cls cc = true then Q (.found y.handlerPc) d acts (s.setVm vm₁) else wp (findHandler.go f a t) Q E e d acts (s.setVm vm₁) :=
      fun Q E d acts => go_cold hcv hct hg₁ hsz hc1 (fun k h => by rw [hc2] at h; cases h) ⟨k1, hk1⟩ ⟨k2, hk2⟩
    have has : vm₁.assignable cell.cls cc = true ↔ x = kdE y := by rw [hwarm₁.alike.assignable]; exact e4
    by_cases hxy : x = kdE y
    · refine ⟨vm₁, hwarm₁, fun Q E d acts => ?_⟩
      rw [key, if_pos (has.mpr hxy)]
      rw [firstH_c, if_pos hxy.symm]
    · obtain ⟨vm', hW', hf⟩ := find_go hx hsX hown hpl t (s.setVm vm₁) hwarm₁ ⟨cell, hc1, hc2, hc3⟩ (fun z hz => hes z (List.mem_cons_of_mem _ hz)) (by
        obtain ⟨z, hz, hzx⟩ := hex
        rcases List.mem_cons.mp hz with rfl | hz
        · exact absurd hzx.symm hxy
        · exact ⟨z, hz, hzx⟩)
      refine ⟨vm', hW', fun Q E d acts => ?_⟩
      rw [key, if_neg (fun q => hxy (has.mp q)), hf]
      rw [firstH_c, if_neg (fun q => hxy q.symm)]
      exact Iff.rfl
theorem step_catchV {e : Env} {s : State} {a : Addr} {f : JFrame} {r : List Frame} {pc : Nat} {vm' : Vm} (hfind : ∀ (Q : Handler → Pre) (E : CtlPost) (d : Bool) (acts : List Action), wp (findHandler f a) Q E e d acts s ↔ Q (.found pc) d acts (s.setVm vm')) :
    (stepThrowing e s a (.java f :: r)).Is ((s.setVm vm').setFrames (.java { f with pc := pc, stack := [.ref a] } :: r)) [] := by
  simp only [stepThrowing, searchFrame, vmDo]
  generalize hr : Sem.go _ e false [] s = res
  obtain ⟨as, rfl, ha⟩ := Sem.eq_ok_of hr (a := Handler.found pc) (s' := s.setVm vm') (acts' := []) (by simp [hfind _ _ _ _])
  exact ⟨rfl, ha⟩
theorem caughtV {tb : Tables} {e : Env} {T target : State} {gf : JFrame} {c : Code} {below : List Frame} {a : Addr} (h : At T gf.method c below) {pc : Nat} {vm' : Vm} (hfind : ∀ (Q : Handler → Pre) (E : CtlPost) (d : Bool) (acts : List Action), wp (findHandler gf a) Q E e d acts ((T.setTop gf).pushFrame (.throwing a)) ↔ Q (.found pc) d acts (((T.setTop gf).pushFrame (.throwing a)).setVm vm'))
    (hrest : Steps tb e below ((T.setVm vm').setTop { gf with pc := pc, stack := [.ref a] }) target) : Steps tb e below ((T.setTop gf).pushFrame (.throwing a)) target := by
  obtain ⟨hgo, hw⟩ := h.throwing a
  refine Steps.head hgo hw ?_
  rw [stepThread_throwing (frames_entered h.top _), (step_catchV (s := (T.setTop gf).pushFrame (.throwing a)) hfind).1]
  obtain ⟨g₀, hg⟩ := Option.isSome_iff_exists.mp h.top
  obtain ⟨r, hr⟩ := State.topJava?_eq_some.mp hg
  have hr' : (T.setVm vm').frames = .java g₀ :: r := hr
  rw [State.setTop_of_frames _ hr'] at hrest
  have cm : ∀ (A : State) (Y : List Frame), (A.setFrames Y).setVm vm' = (A.setVm vm').setFrames Y := fun _ _ => rfl
  rw [State.pushFrame, State.setTop_of_frames _ hr, State.setFrames_setFrames, cm, State.setFrames_setFrames, hr]
  exact hrest
