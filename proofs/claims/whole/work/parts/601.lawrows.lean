/-! THE LAW'S WORLD AND ITS ROWS -/
theorem gd_codesW {y : MethodName} {bytes : ByteArray} {maxL : Nat} {ret : Option FieldType} {hh : List (Nat × Nat × Nat × Nat)} (h : Cond.codeWith y bytes maxL ret hh ∈ gd) : GoodIn gd (Cond.codeWith y bytes maxL ret hh :: gd) := by
  intro w hw
  rcases List.mem_cons.mp hw with rfl | hw
  · exact gd_good _ h
  · exact gd_good _ hw
def lkW (own : String) (idx : Nat) (y : MethodName) (bytes : ByteArray) (maxL : Nat) (ret : Option FieldType) (hh : List (Nat × Nat × Nat × Nat)) (n : Nat) : Prop :=
  (y.cls ≠ "java/lang/invoke/MethodHandle" ∧ y.cls ≠ "java/lang/invoke/VarHandle" ∧ (parseMethodDescriptor y.desc).map (fun d => d.parameters.length) = some n) ∧ Cond.codeWith y bytes maxL ret hh ∈ gd ∧ Cond.initialized y.cls ∈ gd ∧ Cond.static y ∈ gd ∧ Cond.methodLink own idx y ∈ gd
/-- the cells of the class, of the reference, and the law's own array -/
def Lw (D : va_G) (g : Nat → ClassId) (b : Nat) (M N : Mem) (w : Int64) (H : Heap) : Prop := va_P D classes (wsG b 174 (cellC b g) M) H ∧ va_P D classes (wsG (b + 174) 14 (cellN (b + 174) g) N) H ∧ oC D g (b + 188) w H
theorem wsG_kept {D : va_G} {b n : Nat} {cf : Cf} {M : Mem} {H H1 : Heap} (h : va_P D classes (wsG b n cf M) H) (hq : ∀ k, k < n → b + k < H.size → H1[b + k]? = H[b + k]?) : va_P D classes (wsG b n cf M) H1 := by
  intro k q hk
  have h0 := h k q hk
  obtain ⟨h1, rfl⟩ := wsG_some hk
  exact h0.kept (hq k h1 h0.lt)
section XW
variable {p : Program} {l : Launch} {e : Env} {R : Room} {s : State} {m : MethodId} {args : Array Value} {below : List Frame} {meth : Method} {c : Code} {H : Heap} {locs : List Loc} {cells slots mc ms : Nat} {Q : State → Prop}
variable {cc bytes : ByteArray} {pc nL maxL idx nA : Nat} {ls : Array Slot} {rest As st0 : List Value} {own : String} {y : MethodName} {ret : Option FieldType} {rm : Room} {D : va_G} {g : Nat → ClassId} {b : Nat} {M N : Mem} {w : Int64} {Qc : Array Value → State → Outcome → State → Prop} {free : Addr → Prop} {hh : List (Nat × Nat × Nat × Nat)}
theorem xk_runSW {Pc : Array Value → State → Prop} (hC : Cx p m c cc nL s args own) (hlk : lkW own idx y bytes maxL ret hh nA) (hM : Met l y (Cond.codeWith y bytes maxL ret hh :: gd) rm Pc Qc mc ms free) (hp : PreS s H Pc As) (hrc : rm.cells = mc) (hrs : rm.slots = ms) (hR : rm.frames + 1 ≤ R.frames ∧ 8 + (maxL + 11) + rm.locals ≤ R.locals)
    (hn : As.length = nA) (hsize : ls.size = nL) (hstack : st0 = As.reverse ++ rest) (hW : (rest.map fun v => v.category).sum ≤ 8) (hdg : decode cc pc = .ok (.invokestatic idx, 3)) (hf : cells + mc ≤ R.cells ∧ slots + ms ≤ R.slots) :
    va_Run p l e R s m args below meth c H locs cells slots mc ms (F0 m pc ls st0) rest (Qc As.toArray) free := by
  obtain ⟨g2, g3, g4, g5, g7⟩ := hlk
  have ht := hC.2.2.2.2
  have hK : Back l R p e below s args y 3 8 (PreOf R mc ms Pc) (PostOf Qc mc ms free) := va_backW (hh := hh) (bytes := bytes) (maxL := maxL) (ret := ret) hM hp.1 hrc hrs hR.1 hR.2 (pay_in ht (gd_codesW g3)) List.mem_cons_self (fun a' U hW => word_at hW (Or.inl (by first | rfl | simp [Cond.onTables, Cond.keeps, Cond.steady])) (ht _ g4))
  obtain ⟨hx, hb, hml, ho, -⟩ := hC
  intro T hT X
  obtain ⟨mk0, methM, cM, hnamed, hmethM, -, -, -, -, -, -, hsigM⟩ := Cond.codeWith_spec (ht _ g3)
  have hstatic : methM.isStatic = true := Cond.static_spec hnamed hmethM (ht _ g5)
  obtain ⟨kP, hkP, -⟩ := className_of_methodNamed hnamed
  have hinitP : kP.init = .initialized := Cond.initialized_spec (findClass_of_methodNamed hnamed) hkP (ht _ g4)
  obtain ⟨vm₁, X₁, hstep₁⟩ := X.invokestatic hx ho (ht _ g7) hnamed hmethM hstatic hkP hinitP ⟨g2.1, g2.2.1⟩ (g := F0 m pc ls st0) rfl (argsL := As) (rest := rest) (by
    have h8 := g2.2.2
    rw [hsigM] at h8
    exact hn.trans (Option.some.inj h8).symm) hstack (by rw [hb]; exact hdg)
  obtain ⟨v, ⟨U', l2, c2, s2⟩, X', hpost, hsteps⟩ := hK m meth c ⟨T.setVm vm₁, locs, cells, slots⟩ { F0 m pc ls st0 with stack := rest } (.invokestatic idx) mk0 As.toArray X₁ rfl (hsize.trans hml.symm) (by rw [hb]; exact hdg) (lv_room (pc := pc) (ls := ls) (rest := rest) (m := m) hW) (X₁.named hnamed) ⟨hf.1, hf.2, hp.2 (T.setVm vm₁) hT X₁.warmed⟩
  obtain ⟨g', mk, t, L, e1, e2, hq, h1, hL, h2, h3⟩ := hpost
  dsimp only [Pt.U, Pt.locs, Pt.cells, Pt.slots] at X' e1 e2 h1 h2 h3 hsteps
  subst h1; subst h2; subst h3
  exact ⟨v, (T.setVm vm₁).calling g' mk As.toArray, t, U', L, hT, X', hL, e1, e2, hq, fun target h => hstep₁ _ fun acts => by rw [doInvoke_state]; exact hsteps.trans h⟩
theorem xw_help {K : Int → Int64 → Mem → Prop} (hC : Cx p m c cc nL s args own) (hK : va_K D classes (tyG g) s) (hL : Lw D g b M N w H) (hS : va_S (fromB b) s.heap H locs) (hst : sC (fromB b) s s.heap) (hsX : sX s) (hbs : s.heap.size = b) (hsize : ls.size = nL) (hlk : lkW own idx y bytes maxL ret hh nA) (hn : As.length = nA) (hrc : rm.cells = mc) (hrs : rm.slots = ms) (hR : rm.frames + 1 ≤ R.frames ∧ 8 + (maxL + 11) + rm.locals ≤ R.locals)
    (hM : ∀ sz : Nat, Met l y (Cond.codeWith y bytes maxL ret hh :: gd) rm (PcL D g b sz M (b + 188) w As) (QL D g b sz (b + 188) K) mc ms (aL b sz (b + 188))) (hdg : decode cc pc = .ok (.invokestatic idx, 3)) (hstack : st0 = As.reverse ++ rest) (hW : (rest.map fun v => v.category).sum ≤ 8) (hf : cells + mc ≤ R.cells ∧ slots + ms ≤ R.slots)
    (kk : ∀ (k : Int) (w1 : Int64) (M1 : Mem) (H1 : Heap) (locs1 : List Loc), K k w1 M1 → Lw D g b M1 N w1 H1 → va_S (fromB b) s.heap H1 locs1 → W p l e R s m args below meth c H1 locs1 (cells + mc) (slots + ms) Q (F0 m (pc + 3) ls (iv k :: rest))) : W p l e R s m args below meth c H locs cells slots Q (F0 m pc ls st0) := by
  obtain ⟨hP, hN, hO⟩ := hL
  have hlt := hO.lt
  have hsub : ∀ q, aL b H.size (b + 188) q → fromB b q := by
    intro q hq
    rcases hq with (h | h) | h
    · exact h.1
    · show b ≤ q; omega
    · show b ≤ q; omega
  refine va_calli (xk_runSW hC hlk (hM H.size) ⟨PcL_blind, fun U hU hW => ⟨rfl, by rw [hU], ⟨by rw [hU]; exact hP, va_K.moved hW.alike hK⟩, ?_, sX.moved hW.alike hsX, by rw [hU]; exact hO, ?_⟩⟩ hrc hrs hR hn hsize hstack hW hdg hf) hS (fun q _ h => hsub q h) hsub (fun r u t H1 locs1 ht hvm hw hB _ hkp hS1 => ?_)
  · rw [hU]
    exact (sC.moved hW (hst.kept hS.2.1)).narrow (fun q hq => hsub q (Or.inl hq))
  · intro h
    rcases h with h | h
    · omega
    · omega
  · obtain ⟨rfl, hp⟩ := hw
    obtain ⟨⟨hP1, -⟩, hO1⟩ := hB
    rw [ht] at hP1 hO1
    refine kk u.1 u.2.1 u.2.2 H1 locs1 hp ⟨hP1, wsG_kept hN (fun k hk hz => hkp _ hz (fun h => ?_)), hO1⟩ hS1
    rcases h with (h | h) | h <;> omega
theorem xw_sC (hst : sC (fromB b) s s.heap) (hS : va_S (fromB b) s.heap H locs) {b1 n : Nat} (h1 : b ≤ b1) (h2 : b ≤ H.size) {U : State} (hU : U.heap = H) (hW : s.WarmedH U.vm) : sC (rA b1 n H.size) U U.heap := by
  rw [hU]
  refine (sC.moved hW (hst.kept hS.2.1)).narrow (fun q hq => ?_)
  rcases hq with h | h
  · exact Nat.le_trans h1 h.1
  · exact Nat.le_trans h2 h
theorem xw_mod {Post : Int → Mem → Prop} (hC : Cx p m c cc nL s args own) (hK : va_K D classes (tyG g) s) (hL : Lw D g b M N w H) (hS : va_S (fromB b) s.heap H locs) (hst : sC (fromB b) s s.heap) (hbs : s.heap.size = b) (hsize : ls.size = nL) (hlk : lkV own idx R_Model y bytes maxL ret nA) (hn : As.length = nA) (hrc : rm.cells = 0) (hrs : rm.slots = 0) (hR : rm.frames + 1 ≤ R.frames ∧ 8 + (maxL + 11) + rm.locals ≤ R.locals)
    (hM : ∀ sz : Nat, Met l y (Cond.code y bytes maxL ret :: gd) rm (PcG D g (b + 174) 14 (cellN (b + 174) g) sz N (.ref (b + 174 + 0) :: As)) (QI D g (b + 174) 14 (cellN (b + 174) g) sz Post) 0 0 (rA (b + 174) 14 sz)) (hdg : decode cc pc = .ok (.invokevirtual idx, 3)) (hstack : st0 = As.reverse ++ .ref (b + 174 + 0) :: rest) (hW : (rest.map fun v => v.category).sum ≤ 8) (hf : cells ≤ R.cells ∧ slots ≤ R.slots)
    (kk : ∀ (r : Int) (N1 : Mem) (H1 : Heap) (locs1 : List Loc), Post r N1 → Lw D g b M N1 w H1 → va_S (fromB b) s.heap H1 locs1 → W p l e R s m args below meth c H1 locs1 cells slots Q (F0 m (pc + 3) ls (iv r :: rest))) : W p l e R s m args below meth c H locs cells slots Q (F0 m pc ls st0) := by
  obtain ⟨hP, hN, hO⟩ := hL
  have hlt := hO.lt
  have hsub : ∀ q, rA (b + 174) 14 H.size q → fromB b q := by
    intro q hq
    rcases hq with h | h
    · show b ≤ q; omega
    · show b ≤ q; omega
  refine va_calli (xk_runV hC hst.2.2 hlk (hM H.size) ⟨PcG_blind, rc_Model hK hN, fun U hU hW => ⟨rfl, by rw [hU], ⟨by rw [hU]; exact hN, va_K.moved hW.alike hK⟩, xw_sC hst hS (by omega) (by omega) hU hW⟩⟩ hrc hrs hR hn hsize hstack hW hdg hf) hS (fun q _ h => hsub q h) hsub (fun r u t H1 locs1 ht hvm hw hB _ hkp hS1 => ?_)
  obtain ⟨rfl, hp⟩ := hw
  obtain ⟨hN1, -⟩ := hB
  rw [ht] at hN1
  refine kk u.1 u.2 H1 locs1 hp ⟨wsG_kept hP (fun k hk hz => hkp _ hz (fun h => ?_)), hN1, hO.kept (hkp _ hlt (fun h => ?_))⟩ hS1
  · rcases h with h | h <;> omega
  · rcases h with h | h <;> omega
theorem xw_modP {Post : Int → Prop} (hC : Cx p m c cc nL s args own) (hK : va_K D classes (tyG g) s) (hL : Lw D g b M N w H) (hS : va_S (fromB b) s.heap H locs) (hst : sC (fromB b) s s.heap) (hbs : s.heap.size = b) (hsize : ls.size = nL) (hlk : lkV own idx R_Model y bytes maxL ret nA) (hn : As.length = nA) (hrc : rm.cells = 0) (hrs : rm.slots = 0) (hR : rm.frames + 1 ≤ R.frames ∧ 8 + (maxL + 11) + rm.locals ≤ R.locals)
    (hM : ∀ sz : Nat, Met l y (Cond.code y bytes maxL ret :: gd) rm (PcG D g (b + 174) 14 (cellN (b + 174) g) sz N (.ref (b + 174 + 0) :: As)) (QP Post) 0 0 nil_) (hdg : decode cc pc = .ok (.invokevirtual idx, 3)) (hstack : st0 = As.reverse ++ .ref (b + 174 + 0) :: rest) (hW : (rest.map fun v => v.category).sum ≤ 8) (hf : cells ≤ R.cells ∧ slots ≤ R.slots)
    (kk : ∀ (r : Int), Post r → W p l e R s m args below meth c H locs cells slots Q (F0 m (pc + 3) ls (iv r :: rest))) : W p l e R s m args below meth c H locs cells slots Q (F0 m pc ls st0) := by
  obtain ⟨hP, hN, hO⟩ := hL
  have hlt := hO.lt
  exact xk_pure (xk_runV hC hst.2.2 hlk (hM H.size) ⟨PcG_blind, rc_Model hK hN, fun U hU hW => ⟨rfl, by rw [hU], ⟨by rw [hU]; exact hN, va_K.moved hW.alike hK⟩, xw_sC hst hS (by omega) (by omega) hU hW⟩⟩ hrc hrs hR hn hsize hstack hW hdg hf) kk
theorem xw_cls {Post : Int → Mem → Prop} (hC : Cx p m c cc nL s args own) (hK : va_K D classes (tyG g) s) (hL : Lw D g b M N w H) (hS : va_S (fromB b) s.heap H locs) (hst : sC (fromB b) s s.heap) (hbs : s.heap.size = b) (hsize : ls.size = nL) (hlk : lkV own idx R_X y bytes maxL ret nA) (hn : As.length = nA) (hrc : rm.cells = 0) (hrs : rm.slots = 0) (hR : rm.frames + 1 ≤ R.frames ∧ 8 + (maxL + 11) + rm.locals ≤ R.locals)
    (hM : ∀ sz : Nat, Met l y (Cond.code y bytes maxL ret :: gd) rm (PcG D g b 174 (cellC b g) sz M (.ref (b + 0) :: As)) (QI D g b 174 (cellC b g) sz Post) 0 0 (rA b 174 sz)) (hdg : decode cc pc = .ok (.invokevirtual idx, 3)) (hstack : st0 = As.reverse ++ .ref (b + 0) :: rest) (hW : (rest.map fun v => v.category).sum ≤ 8) (hf : cells ≤ R.cells ∧ slots ≤ R.slots)
    (kk : ∀ (r : Int) (M1 : Mem) (H1 : Heap) (locs1 : List Loc), Post r M1 → Lw D g b M1 N w H1 → va_S (fromB b) s.heap H1 locs1 → W p l e R s m args below meth c H1 locs1 cells slots Q (F0 m (pc + 3) ls (iv r :: rest))) : W p l e R s m args below meth c H locs cells slots Q (F0 m pc ls st0) := by
  obtain ⟨hP, hN, hO⟩ := hL
  have hlt := hO.lt
  have hsub : ∀ q, rA b 174 H.size q → fromB b q := by
    intro q hq
    rcases hq with h | h
    · show b ≤ q; omega
    · show b ≤ q; omega
  refine va_calli (xk_runV hC hst.2.2 hlk (hM H.size) ⟨PcG_blind, rc_X hK hP, fun U hU hW => ⟨rfl, by rw [hU], ⟨by rw [hU]; exact hP, va_K.moved hW.alike hK⟩, xw_sC hst hS (by omega) (by omega) hU hW⟩⟩ hrc hrs hR hn hsize hstack hW hdg hf) hS (fun q _ h => hsub q h) hsub (fun r u t H1 locs1 ht hvm hw hB _ hkp hS1 => ?_)
  obtain ⟨rfl, hp⟩ := hw
  obtain ⟨hP1, -⟩ := hB
  rw [ht] at hP1
  refine kk u.1 u.2 H1 locs1 hp ⟨hP1, wsG_kept hN (fun k hk hz => hkp _ hz (fun h => ?_)), hO.kept (hkp _ hlt (fun h => ?_))⟩ hS1
  · rcases h with h | h <;> omega
  · rcases h with h | h <;> omega
/-- the law's array is read -/
theorem xw_lald (hC : Cx p m c cc nL s args own) (hK : va_K D classes (tyG g) s) (hL : Lw D g b M N w H) (hdg : decode cc pc = .ok (.laload, 1))
    (kk : W p l e R s m args below meth c H locs cells slots Q (F0 m (pc + 1) ls (.long w :: rest))) : W p l e R s m args below meth c H locs cells slots Q (F0 m pc ls (iv 0 :: .ref (b + 188) :: rest)) := by
  obtain ⟨-, -, f, hf, hat⟩ := hL
  refine va_lald (ws := [(b + 188, .inl (g 5, 1, .inr (.inl f)))]) hC.1 hC.2.1 hK (fun k q hk => ?_) 0 5 rfl rfl (xi_in (n := 1) (x := 0) ⟨by omega, by omega⟩ (by omega)) hdg ?_
  · have hk0 : k = 0 := by
      have := (List.getElem?_eq_some_iff.mp hk).1
      simp at this; omega
    subst hk0
    cases hk
    exact hat
  · rw [show (Int32.ofInt 0).toNatClampNeg = 0 from rfl, hf]
    exact kk
end XW
