/-! WHAT STAYS AS IT IS AT THE START: the tables of steps, the Throwable's two fields, the links between nest mates -/
def stX (i : Int) : Int := if i = 0 then 1 else if i = 2 then -1 else 0
def stY (i : Int) : Int := if i = 1 then 1 else if i = 3 then -1 else 0
def isNestW : Cond → Bool
  | .fieldLinkNest .. => true
  | .methodLinkNest .. => true
  | _ => false
def nW : List Cond := lw_tbl.filter isNestW
theorem nW_mem {w : Cond} (h : w ∈ lw_tbl) (hg : isNestW w = true) : w ∈ nW := List.mem_filter.mpr ⟨h, hg⟩
theorem isNestW_warm {w : Cond} (hw : isNestW w = true) {s U : State} (hW : s.WarmedH U.vm) (h : va_Nw w s) : va_Nw w U := by
  cases w <;> first | exact va_Nw.warmF hW h | exact va_Nw.warmM hW h | (simp [isNestW] at hw)
theorem isNestW_same {w : Cond} (hw : isNestW w = true) {s U : State} (hW : s.vm = U.vm) (h : va_Nw w s) : va_Nw w U := by
  cases w <;> first | exact va_Nw.same rfl hW h | (simp [isNestW] at hw)
def sT (A : Nat → Prop) (U : State) (H : Heap) : Prop := (∃ t : Nat, va_Z "EdgeJoins" "STEP_X" "[I" (.ref t) A U H ∧ va_T .int t 4 (fun j => .int (Int32.ofInt (stX (j : Int)))) A U H) ∧ ∃ t : Nat, va_Z "EdgeJoins" "STEP_Y" "[I" (.ref t) A U H ∧ va_T .int t 4 (fun j => .int (Int32.ofInt (stY (j : Int)))) A U H
def sE (A : Nat → Prop) (U : State) (H : Heap) : Prop := va_Zq "java/lang/Throwable" "UNASSIGNED_STACK" "[Ljava/lang/StackTraceElement;" A U H ∧ va_Zq "java/lang/Throwable" "SUPPRESSED_SENTINEL" "Ljava/util/List;" A U H
def sN (U : State) : Prop := ∀ w ∈ nW, va_Nw w U
def sC (A : Nat → Prop) (U : State) (H : Heap) : Prop := sT A U H ∧ sE A U H ∧ sN U
theorem sT.movedA {A : Nat → Prop} {u U : State} {H : Heap} (hvm : u.vm.Alike U.vm) (h : sT A u H) : sT A U H := by
  obtain ⟨⟨t1, h1, h2⟩, t2, h3, h4⟩ := h
  exact ⟨⟨t1, h1.moved hvm, h2.moved hvm⟩, t2, h3.moved hvm, h4.moved hvm⟩
theorem sE.movedA {A : Nat → Prop} {u U : State} {H : Heap} (hvm : u.vm.Alike U.vm) (h : sE A u H) : sE A U H := ⟨h.1.moved hvm, h.2.moved hvm⟩
theorem sC.moved {A : Nat → Prop} {u U : State} {H : Heap} (hW : u.WarmedH U.vm) (h : sC A u H) : sC A U H := ⟨h.1.movedA hW.alike, h.2.1.movedA hW.alike, fun w hw => isNestW_warm (List.mem_filter.mp hw).2 hW (h.2.2 w hw)⟩
theorem sC.same {A : Nat → Prop} {u U : State} {H : Heap} (hv : u.vm = U.vm) (h : sC A u H) : sC A U H := ⟨h.1.movedA (by rw [hv]; exact Vm.Alike.refl _), h.2.1.movedA (by rw [hv]; exact Vm.Alike.refl _), fun w hw => isNestW_same (List.mem_filter.mp hw).2 hv (h.2.2 w hw)⟩
theorem sC.kept {A : Nat → Prop} {U : State} {H H1 : Heap} (h : sC A U H) (hq : ∀ a : Nat, a < H.size → ¬ A a → H1[a]? = H[a]?) : sC A U H1 := by
  obtain ⟨⟨⟨t1, h1, h2⟩, t2, h3, h4⟩, ⟨h5, h6⟩, h7⟩ := h
  exact ⟨⟨⟨t1, h1.kept hq, h2.kept hq⟩, t2, h3.kept hq, h4.kept hq⟩, ⟨h5.kept hq, h6.kept hq⟩, h7⟩
theorem sC.narrow {A B : Nat → Prop} {U : State} {H : Heap} (h : sC A U H) (hAB : ∀ q, B q → A q) : sC B U H := by
  obtain ⟨⟨⟨t1, h1, h2⟩, t2, h3, h4⟩, ⟨h5, h6⟩, h7⟩ := h
  exact ⟨⟨⟨t1, h1.narrow hAB, h2.narrow hAB⟩, t2, h3.narrow hAB, h4.narrow hAB⟩, ⟨h5.narrow hAB, h6.narrow hAB⟩, h7⟩
