/-! WHAT STAYS AS IT IS AT THE START: the tables of steps, the Throwable's two fields, the links between nest mates -/
def stX (i : Int) : Int := if i = 0 then 1 else if i = 2 then -1 else 0
def stY (i : Int) : Int := if i = 1 then 1 else if i = 3 then -1 else 0
def isNestW : Cond → Bool
  | .fieldLinkNest .. => true
  | .methodLinkNest .. => true
  | .declares _ => true
  | .castable .. => true
  | _ => false
def nW : List Cond := lw_tbl.filter isNestW
theorem nW_mem {w : Cond} (h : w ∈ lw_tbl) (hg : isNestW w = true) : w ∈ nW := List.mem_filter.mpr ⟨h, hg⟩
theorem isNestW_warm {w : Cond} (hw : isNestW w = true) {s U : State} (hW : s.WarmedH U.vm) (h : va_Nw w s) : va_Nw w U := by
  cases w <;> first | exact va_Nw.warmF hW h | exact va_Nw.warmM hW h | exact va_Nw.warmD hW h | exact va_Nw.warmC hW h | (simp [isNestW] at hw)
theorem isNestW_same {w : Cond} (hw : isNestW w = true) {s U : State} (hW : s.vm = U.vm) (h : va_Nw w s) : va_Nw w U := by
  cases w <;> first | exact va_Nw.same rfl hW h | (simp [isNestW] at hw)
theorem isNestW_use {w : Cond} (hw : isNestW w = true) {A : Array Value} {U : State} (h : va_Nw w U) : w.before A U = true := by
  cases w <;> first | exact va_Nw.use rfl h | (simp [isNestW] at hw)
/-- a static field that the tables lay, and its cell -/
def va_L (C n d : String) (A : Nat → Prop) (U : State) (H : Heap) : Prop := ∃ (c : ClassId) (k : Class) (i : Nat) (f : Field) (a : Nat) (cell : Cell), U.vm.findClass C = some c ∧ U.fieldFound? C n d = some (c, k, i, f) ∧ f.isStatic = true ∧ k.statics = some a ∧ H[a]? = some cell ∧ cell.vm.isStatics = true ∧ cell.cls = c ∧ f.slot < cell.slots.size ∧ k.staticTypes[f.slot]? = some f.type ∧ ¬ A a
theorem va_L.of {C n d : String} {A : Nat → Prop} {s : State} {args : Array Value} (h : (Cond.laysStatic C n d).before args s = true) (hA : ∀ a : Nat, a < s.heap.size → ¬ A a) : va_L C n d A s s.heap := by
  obtain ⟨c, k, i, f, a, cell, h1, h2, h3, h4, h5, h6, h7, h8, h9⟩ := Cond.laysStatic_spec h
  exact ⟨c, k, i, f, a, cell, h1, h2, h3, h4, h5, h6, h7, h8, h9, hA a (Array.getElem?_eq_some_iff.mp h5).1⟩
theorem va_L.any {C n d : String} {A : Nat → Prop} {U : State} (h : va_L C n d A U U.heap) (args : Array Value) : (Cond.laysStatic C n d).before args U = true := by
  obtain ⟨c, k, i, f, a, cell, h1, h2, h3, h4, h5, h6, h7, h8, h9, -⟩ := h
  simp [Cond.before, Cond.holds, Cond.value, h1, h2, h3, h4, h5, h6, h7, h8, h9]
theorem va_L.moved {C n d : String} {A : Nat → Prop} {u U : State} {H : Heap} (hvm : u.vm.Alike U.vm) (h : va_L C n d A u H) : va_L C n d A U H := by
  obtain ⟨c, k, i, f, a, cell, h1, h2, h3, h4, h5, h6, h7, h8, h9, h10⟩ := h
  obtain ⟨k', hi', he⟩ := State.fieldFound?_setVm hvm h2
  exact ⟨c, k', i, f, a, cell, by rw [hvm.findClass]; exact h1, hi', h3, by rw [he]; exact h4, h5, h6, h7, h8, by rw [he]; exact h9, h10⟩
theorem va_L.kept {C n d : String} {A : Nat → Prop} {U : State} {H H1 : Heap} (h : va_L C n d A U H) (hq : ∀ a : Nat, a < H.size → ¬ A a → H1[a]? = H[a]?) : va_L C n d A U H1 := by
  obtain ⟨c, k, i, f, a, cell, h1, h2, h3, h4, h5, h6, h7, h8, h9, h10⟩ := h
  exact ⟨c, k, i, f, a, cell, h1, h2, h3, h4, by rw [hq a (Array.getElem?_eq_some_iff.mp h5).1 h10]; exact h5, h6, h7, h8, h9, h10⟩
theorem va_L.narrow {C n d : String} {A B : Nat → Prop} {U : State} {H : Heap} (h : va_L C n d A U H) (hAB : ∀ q, B q → A q) : va_L C n d B U H := by
  obtain ⟨c, k, i, f, a, cell, h1, h2, h3, h4, h5, h6, h7, h8, h9, h10⟩ := h
  exact ⟨c, k, i, f, a, cell, h1, h2, h3, h4, h5, h6, h7, h8, h9, fun z => h10 (hAB a z)⟩
/-- the String constants of the class -/
def sS (U : State) : Prop := ∀ (k : Nat) (tx : String), Cond.stringRef "EdgeJoins" k tx ∈ tables_1 → ∃ q : Nat, vk_R "EdgeJoins" k tx q U
def sT (A : Nat → Prop) (U : State) (H : Heap) : Prop := (∃ t : Nat, va_Z "EdgeJoins" "STEP_X" "[I" (.ref t) A U H ∧ va_T .int t 4 (fun j => .int (Int32.ofInt (stX (j : Int)))) A U H) ∧ ∃ t : Nat, va_Z "EdgeJoins" "STEP_Y" "[I" (.ref t) A U H ∧ va_T .int t 4 (fun j => .int (Int32.ofInt (stY (j : Int)))) A U H
def sE (A : Nat → Prop) (U : State) (H : Heap) : Prop := (va_L "java/lang/Throwable" "UNASSIGNED_STACK" "[Ljava/lang/StackTraceElement;" A U H ∧ va_L "java/lang/Throwable" "SUPPRESSED_SENTINEL" "Ljava/util/List;" A U H) ∧ va_Zq "java/lang/Throwable" "UNASSIGNED_STACK" "[Ljava/lang/StackTraceElement;" A U H ∧ va_Zq "java/lang/Throwable" "SUPPRESSED_SENTINEL" "Ljava/util/List;" A U H
def sN (U : State) : Prop := ∀ w ∈ nW, va_Nw w U
def sC (A : Nat → Prop) (U : State) (H : Heap) : Prop := sT A U H ∧ (sE A U H ∧ sS U) ∧ sN U
theorem sT.movedA {A : Nat → Prop} {u U : State} {H : Heap} (hvm : u.vm.Alike U.vm) (h : sT A u H) : sT A U H := by
  obtain ⟨⟨t1, h1, h2⟩, t2, h3, h4⟩ := h
  exact ⟨⟨t1, h1.moved hvm, h2.moved hvm⟩, t2, h3.moved hvm, h4.moved hvm⟩
theorem sE.movedA {A : Nat → Prop} {u U : State} {H : Heap} (hvm : u.vm.Alike U.vm) (h : sE A u H) : sE A U H := ⟨⟨h.1.1.moved hvm, h.1.2.moved hvm⟩, h.2.1.moved hvm, h.2.2.moved hvm⟩
theorem sC.moved {A : Nat → Prop} {u U : State} {H : Heap} (hW : u.WarmedH U.vm) (h : sC A u H) : sC A U H := ⟨h.1.movedA hW.alike, ⟨h.2.1.1.movedA hW.alike, fun k tx hk => (h.2.1.2 k tx hk).imp fun _ hq => hq.warm hW⟩, fun w hw => isNestW_warm (List.mem_filter.mp hw).2 hW (h.2.2 w hw)⟩
theorem sC.same {A : Nat → Prop} {u U : State} {H : Heap} (hv : u.vm = U.vm) (h : sC A u H) : sC A U H := ⟨h.1.movedA (by rw [hv]; exact Vm.Alike.refl _), ⟨h.2.1.1.movedA (by rw [hv]; exact Vm.Alike.refl _), fun k tx hk => (h.2.1.2 k tx hk).imp fun _ hq => hq.same hv.symm⟩, fun w hw => isNestW_same (List.mem_filter.mp hw).2 hv (h.2.2 w hw)⟩
theorem sC.kept {A : Nat → Prop} {U : State} {H H1 : Heap} (h : sC A U H) (hq : ∀ a : Nat, a < H.size → ¬ A a → H1[a]? = H[a]?) : sC A U H1 := by
  obtain ⟨⟨⟨t1, h1, h2⟩, t2, h3, h4⟩, ⟨⟨h0, h5, h6⟩, h8⟩, h7⟩ := h
  exact ⟨⟨⟨t1, h1.kept hq, h2.kept hq⟩, t2, h3.kept hq, h4.kept hq⟩, ⟨⟨⟨h0.1.kept hq, h0.2.kept hq⟩, h5.kept hq, h6.kept hq⟩, h8⟩, h7⟩
theorem sC.narrow {A B : Nat → Prop} {U : State} {H : Heap} (h : sC A U H) (hAB : ∀ q, B q → A q) : sC B U H := by
  obtain ⟨⟨⟨t1, h1, h2⟩, t2, h3, h4⟩, ⟨⟨h0, h5, h6⟩, h8⟩, h7⟩ := h
  exact ⟨⟨⟨t1, h1.narrow hAB, h2.narrow hAB⟩, t2, h3.narrow hAB, h4.narrow hAB⟩, ⟨⟨⟨h0.1.narrow hAB, h0.2.narrow hAB⟩, h5.narrow hAB, h6.narrow hAB⟩, h8⟩, h7⟩
