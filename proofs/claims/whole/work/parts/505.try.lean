/-! THE LAW'S OWN METHODS: a call that may throw, in a try -/
def abE (q : Nat × Nat × Nat × Nat) : ExceptionTableEntry := ⟨q.1, q.2.1, q.2.2.1, q.2.2.2⟩
theorem etab_of {es : List ExceptionTableEntry} {hh : List (Nat × Nat × Nat × Nat)} (h : es.map (fun h => (h.startPc, h.endPc, h.handlerPc, h.catchType)) = hh) : es = hh.map abE := by
  subst h
  rw [List.map_map]
  exact (List.map_id _).symm.trans (List.map_congr_left (fun y _ => rfl))
/-- what a call of the class's method comes to: an answer, or one of the exceptions -/
def QTry (D : va_G) (g : Nat → ClassId) (b : Nat) (Post : Int → Mem → Prop) (PostX : Nat → Prop) (st : State) (oc : Outcome) (t : State) : Prop :=
  (∃ (r : Int) (M' : Mem), oc = .returned (some (iv r)) ∧ Post r M' ∧ va_P D classes (wsG b 174 (cellC b g) M') t.heap ∧ st.heap.size ≤ t.heap.size ∧ ∀ q : Nat, q < st.heap.size → ¬ rA b 174 st.heap.size q → t.heap[q]? = st.heap[q]?) ∨ ∃ (a : Addr) (x : Nat), oc = .threw a ∧ PostX x ∧ xEnd x a st t
theorem QTry_I {D : va_G} {g : Nat → ClassId} {b : Nat} {Post : Int → Mem → Prop} {PostX : Nat → Prop} {a : Array Value} {st t : State} {oc : Outcome} (h : QXI D g b 174 (cellC b g) st.heap.size Post PostX a st oc t) : QTry D g b Post PostX st oc t := by
  rcases h with ⟨r, M', h1, h2, h3, h4⟩ | h
  · exact Or.inl ⟨r, M', h1, h2, h3.1, h4.1, h4.2⟩
  · exact Or.inr h
theorem QTry_P {D : va_G} {g : Nat → ClassId} {b : Nat} {M : Mem} {Post : Int → Prop} {PostX : Nat → Prop} {a : Array Value} {st t : State} {oc : Outcome} (hP : va_P D classes (wsG b 174 (cellC b g) M) st.heap) (h : QXP Post PostX a st oc t) : QTry D g b (fun r M' => Post r ∧ M' = M) PostX st oc t := by
  rcases h with ⟨r, h1, h2, h3⟩ | h
  · exact Or.inl ⟨r, M, h1, ⟨h2, rfl⟩, by rw [h3]; exact hP, by rw [h3]; exact Nat.le_refl _, fun q _ _ => by rw [h3]⟩
  · exact Or.inr h
section XTry
variable {p : Program} {l : Launch} {e : Env} {R : Room} {s : State} {m : MethodId} {args : Array Value} {below : List Frame} {meth : Method} {c : Code} {H : Heap} {locs : List Loc} {cells slots mc ms : Nat} {Q : State → Prop}
variable {cc bytes : ByteArray} {pc nL maxL idx nA : Nat} {ls : Array Slot} {rest As st0 : List Value} {own C : String} {y : MethodName} {ret : Option FieldType} {rm : Room} {D : va_G} {g : Nat → ClassId} {b sz : Nat} {M : Mem} {Qc : Array Value → State → Outcome → State → Prop} {A : Nat → Prop} {Post : Int → Mem → Prop} {PostX : Nat → Prop}
theorem xk_try (hC : Cx p m c cc nL s args own) (hK : va_K D classes (tyG g) s) (hP : va_P D classes (wsG b 174 (cellC b g) M) H) (hS : va_S A s.heap H locs) (hA : ∀ q, rA b 174 H.size q → A q) (hst : sC (rA b 174 sz) s s.heap) (hk0 : ∀ q : Nat, q < s.heap.size → ¬ rA b 174 sz q → H[q]? = s.heap[q]?) (hz : sz ≤ s.heap.size) (hsX : sX s) (hsize : ls.size = nL) (hlk : lkV own idx R_X y bytes maxL ret nA) (hln : Cond.methodLink own idx y ∈ gd) (hn : As.length = nA) (hrc : rm.cells = mc) (hrs : rm.slots = ms) (hR : rm.frames + 1 ≤ R.frames ∧ 8 + (maxL + 11) + rm.locals ≤ R.locals)
    (hM : MetX l y (Cond.code y bytes maxL ret :: gd) rm (PcG D g b 174 (cellC b g) H.size M (.ref (b + 0) :: As)) Qc mc ms (rA b 174 H.size)) (hQ : ∀ st oc t, st.heap = H → Qc (Value.ref (b + 0) :: As).toArray st oc t → QTry D g b Post PostX st oc t)
    {hh : List (Nat × Nat × Nat × Nat)} (het : c.exceptionTable.toList = hh.map abE) (hes : ∀ z ∈ hh.map abE, covers z pc = true ∧ z.catchType ≠ 0 ∧ Cond.classLink own z.catchType (xn (kdE z)) ∈ gd) (hX : ∀ x, PostX x → ∃ z ∈ hh.map abE, kdE z = x)
    (hdg : decode cc pc = .ok (.invokevirtual idx, 3)) (hstack : st0 = As.reverse ++ .ref (b + 0) :: rest) (hW : (rest.map fun v => v.category).sum ≤ 8) (hf : cells + mc ≤ R.cells ∧ slots + ms ≤ R.slots)
    (kk1 : ∀ (r : Int) (M1 : Mem) (H1 : Heap) (locs1 : List Loc), Post r M1 → va_P D classes (wsG b 174 (cellC b g) M1) H1 → (∀ q : Nat, q < H.size → ¬ rA b 174 H.size q → H1[q]? = H[q]?) → va_S A s.heap H1 locs1 → W p l e R s m args below meth c H1 locs1 (cells + mc) (slots + ms) Q (F0 m (pc + 3) ls (iv r :: rest)))
    (kk2 : ∀ (x a : Nat) (H1 : Heap) (locs1 : List Loc), PostX x → (∀ q : Nat, q < H.size → H1[q]? = H[q]?) → va_S A s.heap H1 locs1 → W p l e R s m args below meth c H1 locs1 (cells + mc) (slots + ms) Q (F0 m (firstH (hh.map abE) x) ls [.ref a])) : W p l e R s m args below meth c H locs cells slots Q (F0 m pc ls st0) := by
  intro T hTH X
  obtain ⟨hlk1, h2, h3, h4, h5, h6, -⟩ := hlk
  have ht := hC.2.2.2.2
  obtain ⟨cellB, hcB, hoB, hclB⟩ := rc_X hK hP
  obtain ⟨o, st, t, T', L, hst0, X', hL, e1, e2, hq, hor⟩ := callVX X hC.1 (C := R_X) (bytes := bytes) (maxL := maxL) (ret := ret) hC.2.2.2.1 (ht _ hln) (ht _ h5) (ht _ h6) (ht _ h3) ⟨h2.1, h2.2.1⟩ hM PcG_blind hrc hrs hR.1 hR.2 (pay_in ht (gd_codes h3)) List.mem_cons_self (fun a' U hW => word_at hW (Or.inl (by first | rfl | simp [Cond.onTables, Cond.keeps, Cond.steady])) (by rw [hlk1]; exact ht _ h4)) hf (by rw [hTH]; exact hcB) hoB hclB (gf := F0 m pc ls st0) rfl (hsize.trans hC.2.2.1.symm) (argsL := As) (rest := rest) (fun sig h => by
      have h8 := h2.2.2
      rw [h] at h8
      exact hn.trans (Option.some.inj h8).symm) hstack (lv_room (pc := pc) (ls := ls) (rest := rest) (m := m) hW) (by rw [hC.2.1]; exact hdg) (fun vm₁ hW₁ => by
      refine ⟨rfl, by show T.heap.size = _; rw [hTH], ⟨by show va_P _ _ _ T.heap; rw [hTH]; exact hP, va_K.moved hW₁.alike hK⟩, ?_⟩
      show sC _ _ T.heap
      rw [hTH]
      refine (sC.moved hW₁ (hst.kept hk0)).narrow (fun q hq => ?_)
      rcases hq with h | h
      · exact Or.inl h
      · exact Or.inr (Nat.le_trans hz (Nat.le_trans hS.1 h)))
  rw [hTH] at hst0
  have hS' : ∀ H1 : Heap, T'.heap = H1 → H.size ≤ H1.size → (∀ q : Nat, q < H.size → ¬ rA b 174 H.size q → H1[q]? = H[q]?) → va_S A s.heap H1 (locs ++ L) := by
    intro H1 hH1 hsz hkp
    refine ⟨Nat.le_trans hS.1 hsz, fun q g1 g2 => ?_, fun q hq => ?_⟩
    · rw [hkp q (Nat.lt_of_lt_of_le g1 hS.1) (fun z => g2 (hA q z))]
      exact hS.2.1 q g1 g2
    · rcases List.mem_append.mp hq with h | h
      · exact hS.2.2 q h
      · exact hA _ (hL q h)
  rcases hQ st o t hst0 hq with ⟨r, M', hv, hp, hPt, hsz, hkp⟩ | ⟨a, x, hv, hp, hx⟩
  · rcases hor with ⟨v, hv2, go⟩ | ⟨x, hv2, -⟩
    · cases hv.symm.trans hv2
      rw [hst0] at hsz hkp
      rw [← e1] at hPt hsz hkp
      obtain ⟨t2, a1, b1⟩ := kk1 r M' T'.heap (locs ++ L) hp hPt hkp (hS' _ rfl hsz hkp) T' rfl X'
      exact ⟨t2, go t2 a1, b1⟩
    · cases hv.symm.trans hv2
  · rcases hor with ⟨v, hv2, -⟩ | ⟨x2, hv2, go⟩
    · cases hv.symm.trans hv2
    · cases hv.symm.trans hv2
      obtain ⟨x1, x2, cell, x3, x4, x5⟩ := hx
      rw [hst0, ← e1] at x1 x2
      obtain ⟨z, hz1, hz2⟩ := hX x hp
      have hx3 : x < 3 := by rw [← hz2]; exact kdE_lt z
      have hpl : e.platform.magicAccessors = ({} : Platform).magicAccessors := by rw [X.admits.platform]
      have hvm : ((T'.setTop { F0 m pc ls st0 with stack := rest }).pushFrame (.throwing a)).vm = T'.vm := Stand.throwing_vm T' _ a
      have hhp : ((T'.setTop { F0 m pc ls st0 with stack := rest }).pushFrame (.throwing a)).heap = T'.heap := Stand.throwing_heap T' _ a
      obtain ⟨vm', hW', hfind⟩ := find_go (e := e) (s0 := s) (f := { F0 m pc ls st0 with stack := rest }) (a := a) hx3 hsX hC.2.2.2.1 hpl (hh.map abE) ((T'.setTop { F0 m pc ls st0 with stack := rest }).pushFrame (.throwing a)) (by rw [hvm]; exact X'.warmed) ⟨cell, by rw [hhp, e1]; exact x3, x4, by rw [← X'.warmed.alike.findClass, e2]; exact x5⟩ (fun w hw => ⟨(hes w hw).1, (hes w hw).2.1, word_at (State.WarmedH.refl s) (Or.inl rfl) (ht _ (hes w hw).2.2)⟩) ⟨z, hz1, hz2⟩
      have X'' := X'.noted hW'
      obtain ⟨t2, a1, b1⟩ := kk2 x a T'.heap (locs ++ L) hp x2 (hS' _ rfl x1 (fun q g1 _ => x2 q g1)) (T'.setVm vm') rfl X''
      refine ⟨t2, go _ (caughtV (gf := { F0 m pc ls st0 with stack := rest }) (c := c) X'.here ?_ a1), b1⟩
      intro Q' E' d' acts'
      rw [Jvm.W.findHandler_eq (meth := meth) (code := c) (by rw [hvm]; exact X'.method') X'.code, het]
      exact hfind Q' E' d' acts'
end XTry
