/-! CONTRACTS OF THE LAW'S OWN METHODS -/
def toL (r : Int) : Int64 := (Int32.ofInt r).toInt64
/-- the law's long array: what its one place holds -/
def oC (D : va_G) (g : Nat → ClassId) (o : Nat) (w : Int64) (H : Heap) : Prop := ∃ f : Nat → Int64, f 0 = w ∧ va_at D classes (o, .inl (g 5, 1, .inr (.inl f))) H
theorem oC.kept {D : va_G} {g : Nat → ClassId} {o : Nat} {w : Int64} {H H1 : Heap} (h : oC D g o w H) (hq : H1[o]? = H[o]?) : oC D g o w H1 := by
  obtain ⟨f, h1, h2⟩ := h
  exact ⟨f, h1, h2.kept hq⟩
theorem oC.lt {D : va_G} {g : Nat → ClassId} {o : Nat} {w : Int64} {H : Heap} (h : oC D g o w H) : o < H.size := by
  obtain ⟨f, h1, h2⟩ := h
  exact h2.lt
abbrev aL (b sz o : Nat) : Nat → Prop := fun q => rA b 174 sz q ∨ q = o
abbrev PcL (D : va_G) (g : Nat → ClassId) (b sz : Nat) (M : Mem) (o : Nat) (w : Int64) (vs : List Value) : Array Value → State → Prop := va_Pc vs (fun U => U.heap.size = sz ∧ StG D g b 174 (cellC b g) M U ∧ sC (rA b 174 sz) U U.heap ∧ sX U ∧ oC D g o w U.heap ∧ ¬ rA b 174 sz o)
abbrev QL (D : va_G) (g : Nat → ClassId) (b sz o : Nat) (K : Int → Int64 → Mem → Prop) : Array Value → State → Outcome → State → Prop := va_Qi (S := Int × Int64 × Mem) (fun r u => r = Int32.ofInt u.1 ∧ K u.1 u.2.1 u.2.2) (fun u t => StG D g b 174 (cellC b g) u.2.2 t ∧ oC D g o u.2.1 t.heap) (aL b sz o)
theorem PcL_blind {D : va_G} {g : Nat → ClassId} {b sz : Nat} {M : Mem} {o : Nat} {w : Int64} {vs : List Value} : FrameBlind (PcL D g b sz M o w vs) := by
  intro a U f mk q
  obtain ⟨q0, q1, ⟨qP, qK⟩, qs, qx, qo, qn⟩ := q
  exact ⟨q0, q1, ⟨qP, va_K.moved (u := U) (U := U.calling f mk a) (Vm.Alike.refl U.vm) qK⟩, sC.same (u := U) (U := U.calling f mk a) rfl qs, sX.moved (u := U) (U := U.calling f mk a) (Vm.Alike.refl U.vm) qx, qo, qn⟩
theorem xm_startL {l : Launch} {y : MethodName} {cc : ByteArray} {maxL mc ms sz o b : Nat} {ret : Option FieldType} {hh : List (Nat × Nat × Nat × Nat)} {rm : Room} {D : va_G} {g : Nat → ClassId} {M : Mem} {w : Int64} {vs : List Value} {Qc : Array Value → State → Outcome → State → Prop} (hy : plainName y.cls = true) (hown : y.cls = "EdgeJoinsLaw") (hlen : (lg_sl vs).length ≤ maxL)
    (body : ∀ (p : Program) (e : Env) (s : State) (m : MethodId) (below : List Frame) (meth : Method) (c : Code) (ls : Array Slot) (H : Heap) (args : Array Value), Cx p m c cc maxL s args "EdgeJoinsLaw" → meth.sig.returnType = ret → meth.locks = false → c.exceptionTable.toList = hh.map abE → va_K D classes (tyG g) s → va_P D classes (wsG b 174 (cellC b g) M) H → sC (rA b 174 sz) s s.heap → sX s → s.heap.size = sz → H = s.heap → oC D g o w H → ¬ rA b 174 sz o → va_S (aL b sz o) s.heap H [] → lv_has ls maxL (lv_args 0 vs) →
      W p l e rm s m args below meth c H [] 0 0 (MQ below Qc args s mc ms (aL b sz o)) (F0 m 0 ls [])) :
    Met l y (Cond.codeWith y cc maxL ret hh :: gd) rm (PcL D g b sz M o w vs) Qc mc ms (aL b sz o) := by
  refine va_MetW (cc := cc) (maxL := maxL) (ret := ret) (hh := hh) hy rfl ?_
  intro p e s m args below meth c s₁ B hml hv
  obtain ⟨rfl, hsz, ⟨hP, hK⟩, hst, hx, ho, hno⟩ := hv
  have hts := atoms_spec (ws := Cond.codeWith y cc maxL ret hh :: gd) B.pre
  have hown' : s.vm.findClass "EdgeJoinsLaw" = some m.cls := by rw [← hown]; exact findClass_of_methodNamed B.named
  obtain ⟨m9, meth9, c9, hn9, k1, k2, -, -, k5, -⟩ := Cond.codeWith_spec (hts _ List.mem_cons_self)
  have hm9 : m9 = m := Option.some.inj (hn9.symm.trans B.named)
  subst hm9
  cases k1.symm.trans B.method
  cases k2.symm.trans (Stand.of_body B).code
  have hl := lv_entry vs (n := maxL) hlen
  rw [lg_entry_eq]
  exact body p e s m9 below meth c _ s.heap _ ⟨B.exec, B.bytes, hml, hown', fun w hw => hts w (List.mem_cons_of_mem _ hw)⟩ B.returns B.notSynchronized (etab_of k5) hK hP hst hx hsz rfl ho hno va_S.rf hl
theorem MetX.free {l : Launch} {y : MethodName} {ws : List Cond} {rm : Room} {Pc : Array Value → State → Prop} {Qc : Array Value → State → Outcome → State → Prop} {mc ms : Nat} {fr : Addr → Prop} (h : MetX l y ws rm Pc Qc mc ms nil_) : MetX l y ws rm Pc Qc mc ms fr := by
  intro p e ha hc hk s m args below hf happ hP hK
  obtain ⟨n, o, h1, h2, h3, h4, L, h5, h6⟩ := h p e ha hc hk s m args below hf happ hP hK
  exact ⟨n, o, h1, h2, h3, h4, L, h5, fun q hq => (h6 q hq).elim⟩
section XH
variable {p : Program} {l : Launch} {e : Env} {R : Room} {s : State} {m : MethodId} {args : Array Value} {below : List Frame} {meth : Method} {c : Code} {H : Heap} {locs : List Loc} {cells slots mc ms : Nat} {Q : State → Prop}
variable {cc : ByteArray} {pc nL : Nat} {ls : Array Slot} {rest : List Value} {own : String} {D : va_G} {g : Nat → ClassId} {b sz o : Nat} {M : Mem} {A : Nat → Prop} {w v : Int64}
theorem xg_last (hC : Cx p m c cc nL s args own) (hK : va_K D classes (tyG g) s) (hP : va_P D classes (wsG b 174 (cellC b g) M) H) (hO : oC D g o w H) (ho : ¬ (b ≤ o ∧ o < b + 174)) (hS : va_S A s.heap H locs) (hAo : A o) (hAr : ∀ q, b ≤ q ∧ q < b + 174 → A q) (hdg : decode cc pc = .ok (.lastore, 1))
    (kk : ∀ (H1 : Heap) (locs1 : List Loc), va_P D classes (wsG b 174 (cellC b g) M) H1 → oC D g o v H1 → va_S A s.heap H1 locs1 → W p l e R s m args below meth c H1 locs1 cells slots Q (F0 m (pc + 1) ls rest)) : W p l e R s m args below meth c H locs cells slots Q (F0 m pc ls (.long v :: iv 0 :: .ref o :: rest)) := by
  obtain ⟨f, hf, hat⟩ := hO
  have hlen : (wsG b 174 (cellC b g) M).length = 174 := by simp [wsG]
  have hPo : va_P D classes [(o, .inl (g 5, 1, .inr (.inl f)))] H := by
    intro k q hk
    have hk0 : k = 0 := by
      have := (List.getElem?_eq_some_iff.mp hk).1
      simp at this; omega
    subst hk0
    cases hk
    exact hat
  have hDo : va_D A [(o, .inl (g 5, 1, .inr (.inl f)))] := by
    refine ⟨fun i j p q hi hj _ => ?_, fun k q hk => ?_⟩
    · have h1 := (List.getElem?_eq_some_iff.mp hi).1
      have h2 := (List.getElem?_eq_some_iff.mp hj).1
      simp at h1 h2; omega
    · have hk0 : k = 0 := by
        have := (List.getElem?_eq_some_iff.mp hk).1
        simp at this; omega
      subst hk0
      cases hk
      exact hAo
  have hDr : va_D A (wsG b 174 (cellC b g) M) := by
    refine ⟨(wsG_D (sz := 0)).1, fun k q hk => ?_⟩
    obtain ⟨h1, rfl⟩ := wsG_some hk
    exact hAr _ ⟨by show b ≤ b + k; omega, by show b + k < b + 174; omega⟩
  have hD : va_D A (wsG b 174 (cellC b g) M ++ [(o, .inl (g 5, 1, .inr (.inl f)))]) := hDr.app hDo (fun i j p q hi hj hpq => by
    obtain ⟨h1, rfl⟩ := wsG_some hi
    have hj0 : j = 0 := by
      have := (List.getElem?_eq_some_iff.mp hj).1
      simp at this; omega
    subst hj0
    cases hj
    have hpq : b + i = o := hpq
    exact ho ⟨by omega, by omega⟩)
  have hget : (wsG b 174 (cellC b g) M ++ [(o, Sum.inl (g 5, 1, Sum.inr (Sum.inl f)))])[174]? = some (o, Sum.inl (g 5, 1, Sum.inr (Sum.inl f))) := by
    rw [List.getElem?_append_right (by rw [hlen]; exact Nat.le_refl _), hlen]; rfl
  refine va_last hC.1 hC.2.1 hK (hP.app hPo) hD hS 174 5 hget rfl (xi_in (n := 1) (x := 0) ⟨by omega, by omega⟩ (by omega)) hdg (fun H1 locs1 hP1 _ hS1 => kk H1 locs1 (fun k q hk => ?_) ⟨vp_updL f 0 v, by simp [vp_updL], ?_⟩ hS1)
  · obtain ⟨h1, rfl⟩ := wsG_some hk
    refine hP1 k _ ?_
    rw [List.getElem?_set_ne (by omega), List.getElem?_append_left (by rw [hlen]; exact h1), wsG_get h1]
  · refine hP1 174 _ ?_
    rw [List.getElem?_set_self (by rw [List.length_append, hlen]; exact Nat.lt_succ_self _)]
    rfl
theorem xr_L {K : Int → Int64 → Mem → Prop} {r : Int} (hC : Cx p m c cc nL s args own) (hr : meth.sig.returnType = some .int) (hlocks : meth.locks = false) (hK : va_K D classes (tyG g) s) (hP : va_P D classes (wsG b 174 (cellC b g) M) H) (hO : oC D g o w H) (hS : va_S (aL b sz o) s.heap H locs) (h : K r w M) (hdg : decode cc pc = .ok (.ireturn, 1)) (h1 : cells ≤ mc) (h2 : slots ≤ ms) :
    W p l e R s m args below meth c H locs cells slots (MQ below (QL D g b sz o K) args s mc ms (aL b sz o)) (F0 m pc ls [iv r]) :=
  W.widen h1 h2 (W.iret hC.1 hC.2.1 hr (fun t ht hW => ⟨⟨_, (r, w, M), rfl, ⟨rfl, h⟩, ⟨by rw [ht]; exact hP, va_K.moved hW.alike hK⟩, by rw [ht]; exact hO⟩, hS.F ht⟩) hS.2.2 hdg)
end XH
