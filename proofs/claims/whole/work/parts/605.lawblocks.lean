section LB
variable {p : Program} {l : Launch} {e : Env} {s : State} {m : MethodId} {args : Array Value} {below : List Frame} {meth : Method} {c : Code} {H : Heap} {locs : List Loc} {cells slots : Nat} {Q : State → Prop}
variable {ls : Array Slot} {rest : List Value} {D : va_G} {g : Nat → ClassId} {b q L : Nat} {xs : Nat → Int32} {i : Int} {M N : Mem} {w : Int64} {Rel : Mem → Mem → Prop} {pc nL : Nat} {own : String} {R : Room} {cc : ByteArray} {A : Nat → Prop}
theorem xw_sld (hC : Cx p m c cc nL s args own) (hX : va_X q L xs s s.heap) (hq : q < s.heap.size) (hA : ¬ A q) (hS : va_S A s.heap H locs) (hL : L ≤ 2048) {j : Int} (hj : 0 ≤ j ∧ j < L) (hdg : decode cc pc = .ok (.iaload, 1))
    (kk : W p l e R s m args below meth c H locs cells slots Q (F0 m (pc + 1) ls (iv (xz xs j) :: rest))) : W p l e R s m args below meth c H locs cells slots Q (F0 m pc ls (iv j :: .ref q :: rest)) := by
  refine va_sld hC.1 hC.2.1 hX hq hA hS (xi_in (n := L) hj (by omega)) hdg ?_
  rw [xi_ix (n := L) hj (by omega), ← iv_toInt]
  exact kk
set_option maxHeartbeats 4000000 in
theorem L_sherd (hob : Obs Rel) (hR : Rel M N) (hfl : l.stackTraces = false) (hC : Cx p m c b_Law_law 7 s args "EdgeJoinsLaw") (hK : va_K D classes (tyG g) s) (hst : sC (fromB b) s s.heap) (hsX : sX s) (hbs : s.heap.size = b) (hX : va_X q L xs s s.heap) (hq : q < s.heap.size) (hL : L ≤ 2048) (hi : 0 ≤ i ∧ i + 4 ≤ L) (hcl : cells ≤ 2000) (hsl : slots ≤ 50000) (hW : Lw D g b M N w H) (hS : va_S (fromB b) s.heap H locs) (hl : lv_has ls 7 [(0, .ref q), (1, .ref (b + 0)), (2, .ref (b + 174 + 0)), (3, .ref (b + 188)), (4, iv i)]) (kk : ∀ (M1 N1 : Mem) (w1 : Int64) (H1 : Heap) (locs1 : List Loc) (ls1 : Array Slot), Rel M1 N1 → Lw D g b M1 N1 w1 H1 → va_S (fromB b) s.heap H1 locs1 → lv_has ls1 7 [(0, .ref q), (1, .ref (b + 0)), (2, .ref (b + 174 + 0)), (3, .ref (b + 188)), (4, iv i)] → W p l e room_1 s m args below meth c H1 locs1 (cells + 2) (slots + 12) Q (F0 m 794 ls1 [])) : W p l e room_1 s m args below meth c H locs cells slots Q (F0 m 104 ls []) := by
  have hA : ¬ fromB b q := fun h => absurd (show b ≤ q from h) (by omega)
  have h := hob.sherd M N w  hR
  refine lv_aload_n hC.1 hC.2.1 d_Law_law_104 rfl (lv_at hl 1 rfl) ?_
  refine lv_aload_n hC.1 hC.2.1 d_Law_law_105 rfl (lv_at hl 3 rfl) ?_
  refine xw_help (As := [.ref (b + 0), .ref (b + 188)]) (rest := []) hC hK hW hS hst hsX hbs hl.1 lw_LS_56 rfl rfl rfl ⟨(Nat.le_of_ble_eq_true rfl), (Nat.le_of_ble_eq_true rfl)⟩ (fun sz => h_sherd l hfl D g b sz (b + 188) h) d_Law_law_106 rfl (Nat.le_of_ble_eq_true rfl) ⟨by show cells + 1 ≤ 601024; omega, by show slots + 6 ≤ 7293034; omega⟩ (fun k w1 M1 H locs h hW hS => ?_)
  refine lv_istore (lv' := [(5, iv k), (0, .ref q), (1, .ref (b + 0)), (2, .ref (b + 174 + 0)), (3, .ref (b + 188)), (4, iv i)]) hC.1 hC.2.1 d_Law_law_109 hl (by decide) rfl (fun ls hl => ?_)
  refine lv_aload_n hC.1 hC.2.1 d_Law_law_111 rfl (lv_at hl 3 rfl) ?_
  refine xw_mod (As := []) (rest := []) hC hK hW hS hst hbs hl.1 lk_LL_61 rfl rfl rfl ⟨(Nat.le_of_ble_eq_true rfl), (Nat.le_of_ble_eq_true rfl)⟩ (fun sz => c_Model_sherd l D g (b + 174) sz h) d_Law_law_112 rfl (Nat.le_of_ble_eq_true rfl) ⟨by show cells + 1 ≤ 601024; omega, by show slots + 6 ≤ 7293034; omega⟩ (fun r N1 H locs h hW hS => ?_)
  refine lv_istore (lv' := [(6, iv r), (5, iv k), (0, .ref q), (1, .ref (b + 0)), (2, .ref (b + 174 + 0)), (3, .ref (b + 188)), (4, iv i)]) hC.1 hC.2.1 d_Law_law_115 hl (by decide) rfl (fun ls hl => ?_)
  refine lv_aload_n hC.1 hC.2.1 d_Law_law_117 rfl (lv_at hl 4 rfl) ?_
  refine xw_modP (As := []) (rest := []) hC hK hW hS hst hbs hl.1 lk_LL_62 rfl rfl rfl ⟨(Nat.le_of_ble_eq_true rfl), (Nat.le_of_ble_eq_true rfl)⟩ (fun sz => c_Model_thrown l D g (b + 174) sz h) d_Law_law_118 rfl (Nat.le_of_ble_eq_true rfl) ⟨by show cells + 1 ≤ 601024; omega, by show slots + 6 ≤ 7293034; omega⟩ (fun t h => ?_)
  obtain ⟨rfl, hk3, hw, hR1⟩ := h
  refine lv_iload hC.1 hC.2.1 d_Law_law_121 (lv_at hl 1 rfl) ?_
  refine lv_icmp_eq hC.1 hC.2.1 (tgt := 128) d_Law_law_123 (by decide) (fun _ => ?_) (fun hne => absurd rfl hne)
  refine lv_iload hC.1 hC.2.1 d_Law_law_128 (lv_at hl 1 rfl) ?_
  have hfin : ∀ ls : Array Slot, lv_has ls 7 [(0, .ref q), (1, .ref (b + 0)), (2, .ref (b + 174 + 0)), (3, .ref (b + 188)), (4, iv i)] → W p l e room_1 s m args below meth c H locs (cells + 1) (slots + 6) Q (F0 m 145 ls []) := fun ls hl => lv_goto (tgt := 794) hC.1 hC.2.1 d_Law_law_145 (by decide) (W.widen (by omega) (by omega) (kk M1 N1 w1 H locs ls hR1 hW hS hl))
  refine xi_ine hC (tgt := 145) d_Law_law_130 (by decide) ⟨by omega, by omega⟩ (fun _ => hfin ls (lv_sub hl [2, 3, 4, 5, 6] rfl)) (fun h0 => ?_)
  refine lv_aload_n hC.1 hC.2.1 d_Law_law_133 rfl (lv_at hl 5 rfl) ?_
  refine xi_const hC d_Law_law_134 ?_
  refine xw_lald hC hK hW d_Law_law_135 ?_
  refine lv_iload hC.1 hC.2.1 d_Law_law_136 (lv_at hl 0 rfl) ?_
  refine lv_i2l (v := toL r) hC.1 hC.2.1 d_Law_law_138 rfl ?_
  refine W.lcmp hC.1 hC.2.1 d_Law_law_139 ?_
  rw [hw h0, lg_cmp_self]
  exact xi_ieq hC (tgt := 145) d_Law_law_140 (by decide) xi_z (fun _ => hfin ls (lv_sub hl [2, 3, 4, 5, 6] rfl)) (fun h => absurd rfl h)
set_option maxHeartbeats 4000000 in
theorem L_step (hob : Obs Rel) (hR : Rel M N) (hfl : l.stackTraces = false) (hC : Cx p m c b_Law_law 7 s args "EdgeJoinsLaw") (hK : va_K D classes (tyG g) s) (hst : sC (fromB b) s s.heap) (hsX : sX s) (hbs : s.heap.size = b) (hX : va_X q L xs s s.heap) (hq : q < s.heap.size) (hL : L ≤ 2048) (hi : 0 ≤ i ∧ i + 4 ≤ L) (hcl : cells ≤ 2000) (hsl : slots ≤ 50000) (hW : Lw D g b M N w H) (hS : va_S (fromB b) s.heap H locs) (hl : lv_has ls 7 [(0, .ref q), (1, .ref (b + 0)), (2, .ref (b + 174 + 0)), (3, .ref (b + 188)), (4, iv i)]) (kk : ∀ (M1 N1 : Mem) (w1 : Int64) (H1 : Heap) (locs1 : List Loc) (ls1 : Array Slot), Rel M1 N1 → Lw D g b M1 N1 w1 H1 → va_S (fromB b) s.heap H1 locs1 → lv_has ls1 7 [(0, .ref q), (1, .ref (b + 0)), (2, .ref (b + 174 + 0)), (3, .ref (b + 188)), (4, iv i)] → W p l e room_1 s m args below meth c H1 locs1 (cells + 2) (slots + 12) Q (F0 m 794 ls1 [])) : W p l e room_1 s m args below meth c H locs cells slots Q (F0 m 148 ls []) := by
  have hA : ¬ fromB b q := fun h => absurd (show b ≤ q from h) (by omega)
  have h := hob.step M N w (xz xs (i + 1)) (xz xs (i + 2)) hR (xz_in xs (i + 1)) (xz_in xs (i + 2))
  refine lv_aload_n hC.1 hC.2.1 d_Law_law_148 rfl (lv_at hl 1 rfl) ?_
  refine lv_aload_n hC.1 hC.2.1 d_Law_law_149 rfl (lv_at hl 0 rfl) ?_
  refine lv_iload hC.1 hC.2.1 d_Law_law_150 (lv_at hl 4 rfl) ?_
  refine xi_const hC d_Law_law_152 ?_
  refine xi_add hC d_Law_law_153 ?_
  refine xw_sld hC hX hq hA hS hL ⟨by omega, by omega⟩ d_Law_law_154 ?_
  refine lv_aload_n hC.1 hC.2.1 d_Law_law_155 rfl (lv_at hl 0 rfl) ?_
  refine lv_iload hC.1 hC.2.1 d_Law_law_156 (lv_at hl 4 rfl) ?_
  refine xi_const hC d_Law_law_158 ?_
  refine xi_add hC d_Law_law_159 ?_
  refine xw_sld hC hX hq hA hS hL ⟨by omega, by omega⟩ d_Law_law_160 ?_
  refine lv_aload_n hC.1 hC.2.1 d_Law_law_161 rfl (lv_at hl 3 rfl) ?_
  refine xw_help (As := [.ref (b + 0), iv (xz xs (i + 1)), iv (xz xs (i + 2)), .ref (b + 188)]) (rest := []) hC hK hW hS hst hsX hbs hl.1 lw_LS_65 rfl rfl rfl ⟨(Nat.le_of_ble_eq_true rfl), (Nat.le_of_ble_eq_true rfl)⟩ (fun sz => h_step l hfl D g b sz (b + 188) h) d_Law_law_162 rfl (Nat.le_of_ble_eq_true rfl) ⟨by show cells + 2 ≤ 601024; omega, by show slots + 12 ≤ 7293034; omega⟩ (fun k w1 M1 H locs h hW hS => ?_)
  refine lv_istore (lv' := [(5, iv k), (0, .ref q), (1, .ref (b + 0)), (2, .ref (b + 174 + 0)), (3, .ref (b + 188)), (4, iv i)]) hC.1 hC.2.1 d_Law_law_165 hl (by decide) rfl (fun ls hl => ?_)
  refine lv_aload_n hC.1 hC.2.1 d_Law_law_167 rfl (lv_at hl 3 rfl) ?_
  refine lv_aload_n hC.1 hC.2.1 d_Law_law_168 rfl (lv_at hl 1 rfl) ?_
  refine lv_iload hC.1 hC.2.1 d_Law_law_169 (lv_at hl 5 rfl) ?_
  refine xi_const hC d_Law_law_171 ?_
  refine xi_add hC d_Law_law_172 ?_
  refine xw_sld hC hX hq hA hS hL ⟨by omega, by omega⟩ d_Law_law_173 ?_
  refine lv_aload_n hC.1 hC.2.1 d_Law_law_174 rfl (lv_at hl 1 rfl) ?_
  refine lv_iload hC.1 hC.2.1 d_Law_law_175 (lv_at hl 5 rfl) ?_
  refine xi_const hC d_Law_law_177 ?_
  refine xi_add hC d_Law_law_178 ?_
  refine xw_sld hC hX hq hA hS hL ⟨by omega, by omega⟩ d_Law_law_179 ?_
  refine xw_mod (As := [iv (xz xs (i + 1)), iv (xz xs (i + 2))]) (rest := []) hC hK hW hS hst hbs hl.1 lk_LL_68 rfl rfl rfl ⟨(Nat.le_of_ble_eq_true rfl), (Nat.le_of_ble_eq_true rfl)⟩ (fun sz => c_Model_step l D g (b + 174) sz h) d_Law_law_180 rfl (Nat.le_of_ble_eq_true rfl) ⟨by show cells + 2 ≤ 601024; omega, by show slots + 12 ≤ 7293034; omega⟩ (fun r N1 H locs h hW hS => ?_)
  refine lv_istore (lv' := [(6, iv r), (5, iv k), (0, .ref q), (1, .ref (b + 0)), (2, .ref (b + 174 + 0)), (3, .ref (b + 188)), (4, iv i)]) hC.1 hC.2.1 d_Law_law_183 hl (by decide) rfl (fun ls hl => ?_)
  refine lv_aload_n hC.1 hC.2.1 d_Law_law_185 rfl (lv_at hl 4 rfl) ?_
  refine xw_modP (As := []) (rest := []) hC hK hW hS hst hbs hl.1 lk_LL_62 rfl rfl rfl ⟨(Nat.le_of_ble_eq_true rfl), (Nat.le_of_ble_eq_true rfl)⟩ (fun sz => c_Model_thrown l D g (b + 174) sz h) d_Law_law_186 rfl (Nat.le_of_ble_eq_true rfl) ⟨by show cells + 2 ≤ 601024; omega, by show slots + 12 ≤ 7293034; omega⟩ (fun t h => ?_)
  obtain ⟨rfl, hk3, hw, hR1⟩ := h
  refine lv_iload hC.1 hC.2.1 d_Law_law_189 (lv_at hl 1 rfl) ?_
  refine lv_icmp_eq hC.1 hC.2.1 (tgt := 196) d_Law_law_191 (by decide) (fun _ => ?_) (fun hne => absurd rfl hne)
  refine lv_iload hC.1 hC.2.1 d_Law_law_196 (lv_at hl 1 rfl) ?_
  have hfin : ∀ ls : Array Slot, lv_has ls 7 [(0, .ref q), (1, .ref (b + 0)), (2, .ref (b + 174 + 0)), (3, .ref (b + 188)), (4, iv i)] → W p l e room_1 s m args below meth c H locs (cells + 2) (slots + 12) Q (F0 m 213 ls []) := fun ls hl => lv_goto (tgt := 794) hC.1 hC.2.1 d_Law_law_213 (by decide) (W.widen (by omega) (by omega) (kk M1 N1 w1 H locs ls hR1 hW hS hl))
  refine xi_ine hC (tgt := 213) d_Law_law_198 (by decide) ⟨by omega, by omega⟩ (fun _ => hfin ls (lv_sub hl [2, 3, 4, 5, 6] rfl)) (fun h0 => ?_)
  refine lv_aload_n hC.1 hC.2.1 d_Law_law_201 rfl (lv_at hl 5 rfl) ?_
  refine xi_const hC d_Law_law_202 ?_
  refine xw_lald hC hK hW d_Law_law_203 ?_
  refine lv_iload hC.1 hC.2.1 d_Law_law_204 (lv_at hl 0 rfl) ?_
  refine lv_i2l (v := toL r) hC.1 hC.2.1 d_Law_law_206 rfl ?_
  refine W.lcmp hC.1 hC.2.1 d_Law_law_207 ?_
  rw [hw h0, lg_cmp_self]
  exact xi_ieq hC (tgt := 213) d_Law_law_208 (by decide) xi_z (fun _ => hfin ls (lv_sub hl [2, 3, 4, 5, 6] rfl)) (fun h => absurd rfl h)
set_option maxHeartbeats 4000000 in
theorem L_height (hob : Obs Rel) (hR : Rel M N) (hfl : l.stackTraces = false) (hC : Cx p m c b_Law_law 7 s args "EdgeJoinsLaw") (hK : va_K D classes (tyG g) s) (hst : sC (fromB b) s s.heap) (hsX : sX s) (hbs : s.heap.size = b) (hX : va_X q L xs s s.heap) (hq : q < s.heap.size) (hL : L ≤ 2048) (hi : 0 ≤ i ∧ i + 4 ≤ L) (hcl : cells ≤ 2000) (hsl : slots ≤ 50000) (hW : Lw D g b M N w H) (hS : va_S (fromB b) s.heap H locs) (hl : lv_has ls 7 [(0, .ref q), (1, .ref (b + 0)), (2, .ref (b + 174 + 0)), (3, .ref (b + 188)), (4, iv i)]) (kk : ∀ (M1 N1 : Mem) (w1 : Int64) (H1 : Heap) (locs1 : List Loc) (ls1 : Array Slot), Rel M1 N1 → Lw D g b M1 N1 w1 H1 → va_S (fromB b) s.heap H1 locs1 → lv_has ls1 7 [(0, .ref q), (1, .ref (b + 0)), (2, .ref (b + 174 + 0)), (3, .ref (b + 188)), (4, iv i)] → W p l e room_1 s m args below meth c H1 locs1 (cells + 2) (slots + 12) Q (F0 m 794 ls1 [])) : W p l e room_1 s m args below meth c H locs cells slots Q (F0 m 216 ls []) := by
  have hA : ¬ fromB b q := fun h => absurd (show b ≤ q from h) (by omega)
  have h := hob.height M N w (xz xs (i + 1)) (xz xs (i + 2)) (xz xs (i + 3)) hR (xz_in xs (i + 1)) (xz_in xs (i + 2)) (xz_in xs (i + 3))
  refine lv_aload_n hC.1 hC.2.1 d_Law_law_216 rfl (lv_at hl 1 rfl) ?_
  refine lv_aload_n hC.1 hC.2.1 d_Law_law_217 rfl (lv_at hl 0 rfl) ?_
  refine lv_iload hC.1 hC.2.1 d_Law_law_218 (lv_at hl 4 rfl) ?_
  refine xi_const hC d_Law_law_220 ?_
  refine xi_add hC d_Law_law_221 ?_
  refine xw_sld hC hX hq hA hS hL ⟨by omega, by omega⟩ d_Law_law_222 ?_
  refine lv_aload_n hC.1 hC.2.1 d_Law_law_223 rfl (lv_at hl 0 rfl) ?_
  refine lv_iload hC.1 hC.2.1 d_Law_law_224 (lv_at hl 4 rfl) ?_
  refine xi_const hC d_Law_law_226 ?_
  refine xi_add hC d_Law_law_227 ?_
  refine xw_sld hC hX hq hA hS hL ⟨by omega, by omega⟩ d_Law_law_228 ?_
  refine lv_aload_n hC.1 hC.2.1 d_Law_law_229 rfl (lv_at hl 0 rfl) ?_
  refine lv_iload hC.1 hC.2.1 d_Law_law_230 (lv_at hl 4 rfl) ?_
  refine xi_const hC d_Law_law_232 ?_
  refine xi_add hC d_Law_law_233 ?_
  refine xw_sld hC hX hq hA hS hL ⟨by omega, by omega⟩ d_Law_law_234 ?_
  refine lv_aload_n hC.1 hC.2.1 d_Law_law_235 rfl (lv_at hl 3 rfl) ?_
  refine xw_help (As := [.ref (b + 0), iv (xz xs (i + 1)), iv (xz xs (i + 2)), iv (xz xs (i + 3)), .ref (b + 188)]) (rest := []) hC hK hW hS hst hsX hbs hl.1 lw_LS_69 rfl rfl rfl ⟨(Nat.le_of_ble_eq_true rfl), (Nat.le_of_ble_eq_true rfl)⟩ (fun sz => h_height l hfl D g b sz (b + 188) h) d_Law_law_236 rfl (Nat.le_of_ble_eq_true rfl) ⟨by show cells + 2 ≤ 601024; omega, by show slots + 12 ≤ 7293034; omega⟩ (fun k w1 M1 H locs h hW hS => ?_)
  refine lv_istore (lv' := [(5, iv k), (0, .ref q), (1, .ref (b + 0)), (2, .ref (b + 174 + 0)), (3, .ref (b + 188)), (4, iv i)]) hC.1 hC.2.1 d_Law_law_239 hl (by decide) rfl (fun ls hl => ?_)
  refine lv_aload_n hC.1 hC.2.1 d_Law_law_241 rfl (lv_at hl 3 rfl) ?_
  refine lv_aload_n hC.1 hC.2.1 d_Law_law_242 rfl (lv_at hl 1 rfl) ?_
  refine lv_iload hC.1 hC.2.1 d_Law_law_243 (lv_at hl 5 rfl) ?_
  refine xi_const hC d_Law_law_245 ?_
  refine xi_add hC d_Law_law_246 ?_
  refine xw_sld hC hX hq hA hS hL ⟨by omega, by omega⟩ d_Law_law_247 ?_
  refine lv_aload_n hC.1 hC.2.1 d_Law_law_248 rfl (lv_at hl 1 rfl) ?_
  refine lv_iload hC.1 hC.2.1 d_Law_law_249 (lv_at hl 5 rfl) ?_
  refine xi_const hC d_Law_law_251 ?_
  refine xi_add hC d_Law_law_252 ?_
  refine xw_sld hC hX hq hA hS hL ⟨by omega, by omega⟩ d_Law_law_253 ?_
  refine lv_aload_n hC.1 hC.2.1 d_Law_law_254 rfl (lv_at hl 1 rfl) ?_
  refine lv_iload hC.1 hC.2.1 d_Law_law_255 (lv_at hl 5 rfl) ?_
  refine xi_const hC d_Law_law_257 ?_
  refine xi_add hC d_Law_law_258 ?_
  refine xw_sld hC hX hq hA hS hL ⟨by omega, by omega⟩ d_Law_law_259 ?_
  refine xw_mod (As := [iv (xz xs (i + 1)), iv (xz xs (i + 2)), iv (xz xs (i + 3))]) (rest := []) hC hK hW hS hst hbs hl.1 lk_LL_72 rfl rfl rfl ⟨(Nat.le_of_ble_eq_true rfl), (Nat.le_of_ble_eq_true rfl)⟩ (fun sz => c_Model_height l D g (b + 174) sz h) d_Law_law_260 rfl (Nat.le_of_ble_eq_true rfl) ⟨by show cells + 2 ≤ 601024; omega, by show slots + 12 ≤ 7293034; omega⟩ (fun r N1 H locs h hW hS => ?_)
  refine lv_istore (lv' := [(6, iv r), (5, iv k), (0, .ref q), (1, .ref (b + 0)), (2, .ref (b + 174 + 0)), (3, .ref (b + 188)), (4, iv i)]) hC.1 hC.2.1 d_Law_law_263 hl (by decide) rfl (fun ls hl => ?_)
  refine lv_aload_n hC.1 hC.2.1 d_Law_law_265 rfl (lv_at hl 4 rfl) ?_
  refine xw_modP (As := []) (rest := []) hC hK hW hS hst hbs hl.1 lk_LL_62 rfl rfl rfl ⟨(Nat.le_of_ble_eq_true rfl), (Nat.le_of_ble_eq_true rfl)⟩ (fun sz => c_Model_thrown l D g (b + 174) sz h) d_Law_law_266 rfl (Nat.le_of_ble_eq_true rfl) ⟨by show cells + 2 ≤ 601024; omega, by show slots + 12 ≤ 7293034; omega⟩ (fun t h => ?_)
  obtain ⟨rfl, hk3, hw, hR1⟩ := h
  refine lv_iload hC.1 hC.2.1 d_Law_law_269 (lv_at hl 1 rfl) ?_
  refine lv_icmp_eq hC.1 hC.2.1 (tgt := 276) d_Law_law_271 (by decide) (fun _ => ?_) (fun hne => absurd rfl hne)
  refine lv_iload hC.1 hC.2.1 d_Law_law_276 (lv_at hl 1 rfl) ?_
  have hfin : ∀ ls : Array Slot, lv_has ls 7 [(0, .ref q), (1, .ref (b + 0)), (2, .ref (b + 174 + 0)), (3, .ref (b + 188)), (4, iv i)] → W p l e room_1 s m args below meth c H locs (cells + 2) (slots + 12) Q (F0 m 293 ls []) := fun ls hl => lv_goto (tgt := 794) hC.1 hC.2.1 d_Law_law_293 (by decide) (W.widen (by omega) (by omega) (kk M1 N1 w1 H locs ls hR1 hW hS hl))
  refine xi_ine hC (tgt := 293) d_Law_law_278 (by decide) ⟨by omega, by omega⟩ (fun _ => hfin ls (lv_sub hl [2, 3, 4, 5, 6] rfl)) (fun h0 => ?_)
  refine lv_aload_n hC.1 hC.2.1 d_Law_law_281 rfl (lv_at hl 5 rfl) ?_
  refine xi_const hC d_Law_law_282 ?_
  refine xw_lald hC hK hW d_Law_law_283 ?_
  refine lv_iload hC.1 hC.2.1 d_Law_law_284 (lv_at hl 0 rfl) ?_
  refine lv_i2l (v := toL r) hC.1 hC.2.1 d_Law_law_286 rfl ?_
  refine W.lcmp hC.1 hC.2.1 d_Law_law_287 ?_
  rw [hw h0, lg_cmp_self]
  exact xi_ieq hC (tgt := 293) d_Law_law_288 (by decide) xi_z (fun _ => hfin ls (lv_sub hl [2, 3, 4, 5, 6] rfl)) (fun h => absurd rfl h)
set_option maxHeartbeats 4000000 in
theorem L_close (hob : Obs Rel) (hR : Rel M N) (hfl : l.stackTraces = false) (hC : Cx p m c b_Law_law 7 s args "EdgeJoinsLaw") (hK : va_K D classes (tyG g) s) (hst : sC (fromB b) s s.heap) (hsX : sX s) (hbs : s.heap.size = b) (hX : va_X q L xs s s.heap) (hq : q < s.heap.size) (hL : L ≤ 2048) (hi : 0 ≤ i ∧ i + 4 ≤ L) (hcl : cells ≤ 2000) (hsl : slots ≤ 50000) (hW : Lw D g b M N w H) (hS : va_S (fromB b) s.heap H locs) (hl : lv_has ls 7 [(0, .ref q), (1, .ref (b + 0)), (2, .ref (b + 174 + 0)), (3, .ref (b + 188)), (4, iv i)]) (kk : ∀ (M1 N1 : Mem) (w1 : Int64) (H1 : Heap) (locs1 : List Loc) (ls1 : Array Slot), Rel M1 N1 → Lw D g b M1 N1 w1 H1 → va_S (fromB b) s.heap H1 locs1 → lv_has ls1 7 [(0, .ref q), (1, .ref (b + 0)), (2, .ref (b + 174 + 0)), (3, .ref (b + 188)), (4, iv i)] → W p l e room_1 s m args below meth c H1 locs1 (cells + 2) (slots + 12) Q (F0 m 794 ls1 [])) : W p l e room_1 s m args below meth c H locs cells slots Q (F0 m 296 ls []) := by
  have hA : ¬ fromB b q := fun h => absurd (show b ≤ q from h) (by omega)
  have h := hob.close M N w (xz xs (i + 1)) hR (xz_in xs (i + 1))
  refine lv_aload_n hC.1 hC.2.1 d_Law_law_296 rfl (lv_at hl 1 rfl) ?_
  refine lv_aload_n hC.1 hC.2.1 d_Law_law_297 rfl (lv_at hl 0 rfl) ?_
  refine lv_iload hC.1 hC.2.1 d_Law_law_298 (lv_at hl 4 rfl) ?_
  refine xi_const hC d_Law_law_300 ?_
  refine xi_add hC d_Law_law_301 ?_
  refine xw_sld hC hX hq hA hS hL ⟨by omega, by omega⟩ d_Law_law_302 ?_
  refine lv_aload_n hC.1 hC.2.1 d_Law_law_303 rfl (lv_at hl 3 rfl) ?_
  refine xw_help (As := [.ref (b + 0), iv (xz xs (i + 1)), .ref (b + 188)]) (rest := []) hC hK hW hS hst hsX hbs hl.1 lw_LS_73 rfl rfl rfl ⟨(Nat.le_of_ble_eq_true rfl), (Nat.le_of_ble_eq_true rfl)⟩ (fun sz => h_close l hfl D g b sz (b + 188) h) d_Law_law_304 rfl (Nat.le_of_ble_eq_true rfl) ⟨by show cells + 1 ≤ 601024; omega, by show slots + 6 ≤ 7293034; omega⟩ (fun k w1 M1 H locs h hW hS => ?_)
  refine lv_istore (lv' := [(5, iv k), (0, .ref q), (1, .ref (b + 0)), (2, .ref (b + 174 + 0)), (3, .ref (b + 188)), (4, iv i)]) hC.1 hC.2.1 d_Law_law_307 hl (by decide) rfl (fun ls hl => ?_)
  refine lv_aload_n hC.1 hC.2.1 d_Law_law_309 rfl (lv_at hl 3 rfl) ?_
  refine lv_aload_n hC.1 hC.2.1 d_Law_law_310 rfl (lv_at hl 1 rfl) ?_
  refine lv_iload hC.1 hC.2.1 d_Law_law_311 (lv_at hl 5 rfl) ?_
  refine xi_const hC d_Law_law_313 ?_
  refine xi_add hC d_Law_law_314 ?_
  refine xw_sld hC hX hq hA hS hL ⟨by omega, by omega⟩ d_Law_law_315 ?_
  refine xw_mod (As := [iv (xz xs (i + 1))]) (rest := []) hC hK hW hS hst hbs hl.1 lk_LL_76 rfl rfl rfl ⟨(Nat.le_of_ble_eq_true rfl), (Nat.le_of_ble_eq_true rfl)⟩ (fun sz => c_Model_close l D g (b + 174) sz h) d_Law_law_316 rfl (Nat.le_of_ble_eq_true rfl) ⟨by show cells + 1 ≤ 601024; omega, by show slots + 6 ≤ 7293034; omega⟩ (fun r N1 H locs h hW hS => ?_)
  refine lv_istore (lv' := [(6, iv r), (5, iv k), (0, .ref q), (1, .ref (b + 0)), (2, .ref (b + 174 + 0)), (3, .ref (b + 188)), (4, iv i)]) hC.1 hC.2.1 d_Law_law_319 hl (by decide) rfl (fun ls hl => ?_)
  refine lv_aload_n hC.1 hC.2.1 d_Law_law_321 rfl (lv_at hl 4 rfl) ?_
  refine xw_modP (As := []) (rest := []) hC hK hW hS hst hbs hl.1 lk_LL_62 rfl rfl rfl ⟨(Nat.le_of_ble_eq_true rfl), (Nat.le_of_ble_eq_true rfl)⟩ (fun sz => c_Model_thrown l D g (b + 174) sz h) d_Law_law_322 rfl (Nat.le_of_ble_eq_true rfl) ⟨by show cells + 1 ≤ 601024; omega, by show slots + 6 ≤ 7293034; omega⟩ (fun t h => ?_)
  obtain ⟨rfl, hk3, hw, hR1⟩ := h
  refine lv_iload hC.1 hC.2.1 d_Law_law_325 (lv_at hl 1 rfl) ?_
  refine lv_icmp_eq hC.1 hC.2.1 (tgt := 332) d_Law_law_327 (by decide) (fun _ => ?_) (fun hne => absurd rfl hne)
  refine lv_iload hC.1 hC.2.1 d_Law_law_332 (lv_at hl 1 rfl) ?_
  have hfin : ∀ ls : Array Slot, lv_has ls 7 [(0, .ref q), (1, .ref (b + 0)), (2, .ref (b + 174 + 0)), (3, .ref (b + 188)), (4, iv i)] → W p l e room_1 s m args below meth c H locs (cells + 1) (slots + 6) Q (F0 m 349 ls []) := fun ls hl => lv_goto (tgt := 794) hC.1 hC.2.1 d_Law_law_349 (by decide) (W.widen (by omega) (by omega) (kk M1 N1 w1 H locs ls hR1 hW hS hl))
  refine xi_ine hC (tgt := 349) d_Law_law_334 (by decide) ⟨by omega, by omega⟩ (fun _ => hfin ls (lv_sub hl [2, 3, 4, 5, 6] rfl)) (fun h0 => ?_)
  refine lv_aload_n hC.1 hC.2.1 d_Law_law_337 rfl (lv_at hl 5 rfl) ?_
  refine xi_const hC d_Law_law_338 ?_
  refine xw_lald hC hK hW d_Law_law_339 ?_
  refine lv_iload hC.1 hC.2.1 d_Law_law_340 (lv_at hl 0 rfl) ?_
  refine lv_i2l (v := toL r) hC.1 hC.2.1 d_Law_law_342 rfl ?_
  refine W.lcmp hC.1 hC.2.1 d_Law_law_343 ?_
  rw [hw h0, lg_cmp_self]
  exact xi_ieq hC (tgt := 349) d_Law_law_344 (by decide) xi_z (fun _ => hfin ls (lv_sub hl [2, 3, 4, 5, 6] rfl)) (fun h => absurd rfl h)
set_option maxHeartbeats 4000000 in
theorem L_least (hob : Obs Rel) (hR : Rel M N) (hfl : l.stackTraces = false) (hC : Cx p m c b_Law_law 7 s args "EdgeJoinsLaw") (hK : va_K D classes (tyG g) s) (hst : sC (fromB b) s s.heap) (hsX : sX s) (hbs : s.heap.size = b) (hX : va_X q L xs s s.heap) (hq : q < s.heap.size) (hL : L ≤ 2048) (hi : 0 ≤ i ∧ i + 4 ≤ L) (hcl : cells ≤ 2000) (hsl : slots ≤ 50000) (hW : Lw D g b M N w H) (hS : va_S (fromB b) s.heap H locs) (hl : lv_has ls 7 [(0, .ref q), (1, .ref (b + 0)), (2, .ref (b + 174 + 0)), (3, .ref (b + 188)), (4, iv i)]) (kk : ∀ (M1 N1 : Mem) (w1 : Int64) (H1 : Heap) (locs1 : List Loc) (ls1 : Array Slot), Rel M1 N1 → Lw D g b M1 N1 w1 H1 → va_S (fromB b) s.heap H1 locs1 → lv_has ls1 7 [(0, .ref q), (1, .ref (b + 0)), (2, .ref (b + 174 + 0)), (3, .ref (b + 188)), (4, iv i)] → W p l e room_1 s m args below meth c H1 locs1 (cells + 2) (slots + 12) Q (F0 m 794 ls1 [])) : W p l e room_1 s m args below meth c H locs cells slots Q (F0 m 352 ls []) := by
  have hA : ¬ fromB b q := fun h => absurd (show b ≤ q from h) (by omega)
  have h := hob.least M N w (xz xs (i + 1)) hR (xz_in xs (i + 1))
  refine lv_aload_n hC.1 hC.2.1 d_Law_law_352 rfl (lv_at hl 1 rfl) ?_
  refine lv_aload_n hC.1 hC.2.1 d_Law_law_353 rfl (lv_at hl 0 rfl) ?_
  refine lv_iload hC.1 hC.2.1 d_Law_law_354 (lv_at hl 4 rfl) ?_
  refine xi_const hC d_Law_law_356 ?_
  refine xi_add hC d_Law_law_357 ?_
  refine xw_sld hC hX hq hA hS hL ⟨by omega, by omega⟩ d_Law_law_358 ?_
  refine lv_aload_n hC.1 hC.2.1 d_Law_law_359 rfl (lv_at hl 3 rfl) ?_
  refine xw_help (As := [.ref (b + 0), iv (xz xs (i + 1)), .ref (b + 188)]) (rest := []) hC hK hW hS hst hsX hbs hl.1 lw_LS_77 rfl rfl rfl ⟨(Nat.le_of_ble_eq_true rfl), (Nat.le_of_ble_eq_true rfl)⟩ (fun sz => h_least l hfl D g b sz (b + 188) h) d_Law_law_360 rfl (Nat.le_of_ble_eq_true rfl) ⟨by show cells + 1 ≤ 601024; omega, by show slots + 6 ≤ 7293034; omega⟩ (fun k w1 M1 H locs h hW hS => ?_)
  refine lv_istore (lv' := [(5, iv k), (0, .ref q), (1, .ref (b + 0)), (2, .ref (b + 174 + 0)), (3, .ref (b + 188)), (4, iv i)]) hC.1 hC.2.1 d_Law_law_363 hl (by decide) rfl (fun ls hl => ?_)
  refine lv_aload_n hC.1 hC.2.1 d_Law_law_365 rfl (lv_at hl 3 rfl) ?_
  refine lv_aload_n hC.1 hC.2.1 d_Law_law_366 rfl (lv_at hl 1 rfl) ?_
  refine lv_iload hC.1 hC.2.1 d_Law_law_367 (lv_at hl 5 rfl) ?_
  refine xi_const hC d_Law_law_369 ?_
  refine xi_add hC d_Law_law_370 ?_
  refine xw_sld hC hX hq hA hS hL ⟨by omega, by omega⟩ d_Law_law_371 ?_
  refine xw_mod (As := [iv (xz xs (i + 1))]) (rest := []) hC hK hW hS hst hbs hl.1 lk_LL_79 rfl rfl rfl ⟨(Nat.le_of_ble_eq_true rfl), (Nat.le_of_ble_eq_true rfl)⟩ (fun sz => c_Model_least l D g (b + 174) sz h) d_Law_law_372 rfl (Nat.le_of_ble_eq_true rfl) ⟨by show cells + 1 ≤ 601024; omega, by show slots + 6 ≤ 7293034; omega⟩ (fun r N1 H locs h hW hS => ?_)
  refine lv_istore (lv' := [(6, iv r), (5, iv k), (0, .ref q), (1, .ref (b + 0)), (2, .ref (b + 174 + 0)), (3, .ref (b + 188)), (4, iv i)]) hC.1 hC.2.1 d_Law_law_375 hl (by decide) rfl (fun ls hl => ?_)
  refine lv_aload_n hC.1 hC.2.1 d_Law_law_377 rfl (lv_at hl 4 rfl) ?_
  refine xw_modP (As := []) (rest := []) hC hK hW hS hst hbs hl.1 lk_LL_62 rfl rfl rfl ⟨(Nat.le_of_ble_eq_true rfl), (Nat.le_of_ble_eq_true rfl)⟩ (fun sz => c_Model_thrown l D g (b + 174) sz h) d_Law_law_378 rfl (Nat.le_of_ble_eq_true rfl) ⟨by show cells + 1 ≤ 601024; omega, by show slots + 6 ≤ 7293034; omega⟩ (fun t h => ?_)
  obtain ⟨rfl, hk3, hw, hR1⟩ := h
  refine lv_iload hC.1 hC.2.1 d_Law_law_381 (lv_at hl 1 rfl) ?_
  refine lv_icmp_eq hC.1 hC.2.1 (tgt := 388) d_Law_law_383 (by decide) (fun _ => ?_) (fun hne => absurd rfl hne)
  refine lv_iload hC.1 hC.2.1 d_Law_law_388 (lv_at hl 1 rfl) ?_
  have hfin : ∀ ls : Array Slot, lv_has ls 7 [(0, .ref q), (1, .ref (b + 0)), (2, .ref (b + 174 + 0)), (3, .ref (b + 188)), (4, iv i)] → W p l e room_1 s m args below meth c H locs (cells + 1) (slots + 6) Q (F0 m 405 ls []) := fun ls hl => lv_goto (tgt := 794) hC.1 hC.2.1 d_Law_law_405 (by decide) (W.widen (by omega) (by omega) (kk M1 N1 w1 H locs ls hR1 hW hS hl))
  refine xi_ine hC (tgt := 405) d_Law_law_390 (by decide) ⟨by omega, by omega⟩ (fun _ => hfin ls (lv_sub hl [2, 3, 4, 5, 6] rfl)) (fun h0 => ?_)
  refine lv_aload_n hC.1 hC.2.1 d_Law_law_393 rfl (lv_at hl 5 rfl) ?_
  refine xi_const hC d_Law_law_394 ?_
  refine xw_lald hC hK hW d_Law_law_395 ?_
  refine lv_iload hC.1 hC.2.1 d_Law_law_396 (lv_at hl 0 rfl) ?_
  refine lv_i2l (v := toL r) hC.1 hC.2.1 d_Law_law_398 rfl ?_
  refine W.lcmp hC.1 hC.2.1 d_Law_law_399 ?_
  rw [hw h0, lg_cmp_self]
  exact xi_ieq hC (tgt := 405) d_Law_law_400 (by decide) xi_z (fun _ => hfin ls (lv_sub hl [2, 3, 4, 5, 6] rfl)) (fun h => absurd rfl h)
set_option maxHeartbeats 4000000 in
theorem L_bound (hob : Obs Rel) (hR : Rel M N) (hfl : l.stackTraces = false) (hC : Cx p m c b_Law_law 7 s args "EdgeJoinsLaw") (hK : va_K D classes (tyG g) s) (hst : sC (fromB b) s s.heap) (hsX : sX s) (hbs : s.heap.size = b) (hX : va_X q L xs s s.heap) (hq : q < s.heap.size) (hL : L ≤ 2048) (hi : 0 ≤ i ∧ i + 4 ≤ L) (hcl : cells ≤ 2000) (hsl : slots ≤ 50000) (hW : Lw D g b M N w H) (hS : va_S (fromB b) s.heap H locs) (hl : lv_has ls 7 [(0, .ref q), (1, .ref (b + 0)), (2, .ref (b + 174 + 0)), (3, .ref (b + 188)), (4, iv i)]) (kk : ∀ (M1 N1 : Mem) (w1 : Int64) (H1 : Heap) (locs1 : List Loc) (ls1 : Array Slot), Rel M1 N1 → Lw D g b M1 N1 w1 H1 → va_S (fromB b) s.heap H1 locs1 → lv_has ls1 7 [(0, .ref q), (1, .ref (b + 0)), (2, .ref (b + 174 + 0)), (3, .ref (b + 188)), (4, iv i)] → W p l e room_1 s m args below meth c H1 locs1 (cells + 2) (slots + 12) Q (F0 m 794 ls1 [])) : W p l e room_1 s m args below meth c H locs cells slots Q (F0 m 408 ls []) := by
  have hA : ¬ fromB b q := fun h => absurd (show b ≤ q from h) (by omega)
  have h := hob.bound M N w (xz xs (i + 1)) hR (xz_in xs (i + 1))
  refine lv_aload_n hC.1 hC.2.1 d_Law_law_408 rfl (lv_at hl 1 rfl) ?_
  refine lv_aload_n hC.1 hC.2.1 d_Law_law_409 rfl (lv_at hl 0 rfl) ?_
  refine lv_iload hC.1 hC.2.1 d_Law_law_410 (lv_at hl 4 rfl) ?_
  refine xi_const hC d_Law_law_412 ?_
  refine xi_add hC d_Law_law_413 ?_
  refine xw_sld hC hX hq hA hS hL ⟨by omega, by omega⟩ d_Law_law_414 ?_
  refine lv_aload_n hC.1 hC.2.1 d_Law_law_415 rfl (lv_at hl 3 rfl) ?_
  refine xw_help (As := [.ref (b + 0), iv (xz xs (i + 1)), .ref (b + 188)]) (rest := []) hC hK hW hS hst hsX hbs hl.1 lw_LS_80 rfl rfl rfl ⟨(Nat.le_of_ble_eq_true rfl), (Nat.le_of_ble_eq_true rfl)⟩ (fun sz => h_bound l hfl D g b sz (b + 188) h) d_Law_law_416 rfl (Nat.le_of_ble_eq_true rfl) ⟨by show cells + 1 ≤ 601024; omega, by show slots + 6 ≤ 7293034; omega⟩ (fun k w1 M1 H locs h hW hS => ?_)
  refine lv_istore (lv' := [(5, iv k), (0, .ref q), (1, .ref (b + 0)), (2, .ref (b + 174 + 0)), (3, .ref (b + 188)), (4, iv i)]) hC.1 hC.2.1 d_Law_law_419 hl (by decide) rfl (fun ls hl => ?_)
  refine lv_aload_n hC.1 hC.2.1 d_Law_law_421 rfl (lv_at hl 3 rfl) ?_
  refine lv_aload_n hC.1 hC.2.1 d_Law_law_422 rfl (lv_at hl 1 rfl) ?_
  refine lv_iload hC.1 hC.2.1 d_Law_law_423 (lv_at hl 5 rfl) ?_
  refine xi_const hC d_Law_law_425 ?_
  refine xi_add hC d_Law_law_426 ?_
  refine xw_sld hC hX hq hA hS hL ⟨by omega, by omega⟩ d_Law_law_427 ?_
  refine xw_mod (As := [iv (xz xs (i + 1))]) (rest := []) hC hK hW hS hst hbs hl.1 lk_LL_82 rfl rfl rfl ⟨(Nat.le_of_ble_eq_true rfl), (Nat.le_of_ble_eq_true rfl)⟩ (fun sz => c_Model_bound l D g (b + 174) sz h) d_Law_law_428 rfl (Nat.le_of_ble_eq_true rfl) ⟨by show cells + 1 ≤ 601024; omega, by show slots + 6 ≤ 7293034; omega⟩ (fun r N1 H locs h hW hS => ?_)
  refine lv_istore (lv' := [(6, iv r), (5, iv k), (0, .ref q), (1, .ref (b + 0)), (2, .ref (b + 174 + 0)), (3, .ref (b + 188)), (4, iv i)]) hC.1 hC.2.1 d_Law_law_431 hl (by decide) rfl (fun ls hl => ?_)
  refine lv_aload_n hC.1 hC.2.1 d_Law_law_433 rfl (lv_at hl 4 rfl) ?_
  refine xw_modP (As := []) (rest := []) hC hK hW hS hst hbs hl.1 lk_LL_62 rfl rfl rfl ⟨(Nat.le_of_ble_eq_true rfl), (Nat.le_of_ble_eq_true rfl)⟩ (fun sz => c_Model_thrown l D g (b + 174) sz h) d_Law_law_434 rfl (Nat.le_of_ble_eq_true rfl) ⟨by show cells + 1 ≤ 601024; omega, by show slots + 6 ≤ 7293034; omega⟩ (fun t h => ?_)
  obtain ⟨rfl, hk3, hw, hR1⟩ := h
  refine lv_iload hC.1 hC.2.1 d_Law_law_437 (lv_at hl 1 rfl) ?_
  refine lv_icmp_eq hC.1 hC.2.1 (tgt := 444) d_Law_law_439 (by decide) (fun _ => ?_) (fun hne => absurd rfl hne)
  refine lv_iload hC.1 hC.2.1 d_Law_law_444 (lv_at hl 1 rfl) ?_
  have hfin : ∀ ls : Array Slot, lv_has ls 7 [(0, .ref q), (1, .ref (b + 0)), (2, .ref (b + 174 + 0)), (3, .ref (b + 188)), (4, iv i)] → W p l e room_1 s m args below meth c H locs (cells + 1) (slots + 6) Q (F0 m 461 ls []) := fun ls hl => lv_goto (tgt := 794) hC.1 hC.2.1 d_Law_law_461 (by decide) (W.widen (by omega) (by omega) (kk M1 N1 w1 H locs ls hR1 hW hS hl))
  refine xi_ine hC (tgt := 461) d_Law_law_446 (by decide) ⟨by omega, by omega⟩ (fun _ => hfin ls (lv_sub hl [2, 3, 4, 5, 6] rfl)) (fun h0 => ?_)
  refine lv_aload_n hC.1 hC.2.1 d_Law_law_449 rfl (lv_at hl 5 rfl) ?_
  refine xi_const hC d_Law_law_450 ?_
  refine xw_lald hC hK hW d_Law_law_451 ?_
  refine lv_iload hC.1 hC.2.1 d_Law_law_452 (lv_at hl 0 rfl) ?_
  refine lv_i2l (v := toL r) hC.1 hC.2.1 d_Law_law_454 rfl ?_
  refine W.lcmp hC.1 hC.2.1 d_Law_law_455 ?_
  rw [hw h0, lg_cmp_self]
  exact xi_ieq hC (tgt := 461) d_Law_law_456 (by decide) xi_z (fun _ => hfin ls (lv_sub hl [2, 3, 4, 5, 6] rfl)) (fun h => absurd rfl h)
set_option maxHeartbeats 4000000 in
theorem L_run (hob : Obs Rel) (hR : Rel M N) (hfl : l.stackTraces = false) (hC : Cx p m c b_Law_law 7 s args "EdgeJoinsLaw") (hK : va_K D classes (tyG g) s) (hst : sC (fromB b) s s.heap) (hsX : sX s) (hbs : s.heap.size = b) (hX : va_X q L xs s s.heap) (hq : q < s.heap.size) (hL : L ≤ 2048) (hi : 0 ≤ i ∧ i + 4 ≤ L) (hcl : cells ≤ 2000) (hsl : slots ≤ 50000) (hW : Lw D g b M N w H) (hS : va_S (fromB b) s.heap H locs) (hl : lv_has ls 7 [(0, .ref q), (1, .ref (b + 0)), (2, .ref (b + 174 + 0)), (3, .ref (b + 188)), (4, iv i)]) (kk : ∀ (M1 N1 : Mem) (w1 : Int64) (H1 : Heap) (locs1 : List Loc) (ls1 : Array Slot), Rel M1 N1 → Lw D g b M1 N1 w1 H1 → va_S (fromB b) s.heap H1 locs1 → lv_has ls1 7 [(0, .ref q), (1, .ref (b + 0)), (2, .ref (b + 174 + 0)), (3, .ref (b + 188)), (4, iv i)] → W p l e room_1 s m args below meth c H1 locs1 (cells + 2) (slots + 12) Q (F0 m 794 ls1 [])) : W p l e room_1 s m args below meth c H locs cells slots Q (F0 m 464 ls []) := by
  have hA : ¬ fromB b q := fun h => absurd (show b ≤ q from h) (by omega)
  have h := hob.run M N hR
  refine lv_aload_n hC.1 hC.2.1 d_Law_law_464 rfl (lv_at hl 1 rfl) ?_
  refine xw_cls (As := []) (rest := []) hC hK hW hS hst hbs hl.1 lk_LL_83 rfl rfl rfl ⟨(Nat.le_of_ble_eq_true rfl), (Nat.le_of_ble_eq_true rfl)⟩ (fun sz => c_X_run l D g b sz h) d_Law_law_465 rfl (Nat.le_of_ble_eq_true rfl) ⟨by show cells ≤ 601024; omega, by show slots ≤ 7293034; omega⟩ (fun r M1 H locs h hW hS => ?_)
  refine lv_aload_n hC.1 hC.2.1 d_Law_law_468 rfl (lv_at hl 2 rfl) ?_
  refine xw_mod (As := []) (rest := [iv r]) hC hK hW hS hst hbs hl.1 lk_LL_86 rfl rfl rfl ⟨(Nat.le_of_ble_eq_true rfl), (Nat.le_of_ble_eq_true rfl)⟩ (fun sz => c_Model_run l D g (b + 174) sz h) d_Law_law_469 rfl (Nat.le_of_ble_eq_true rfl) ⟨by show cells ≤ 601024; omega, by show slots ≤ 7293034; omega⟩ (fun r2 N1 H locs h hW hS => ?_)
  obtain ⟨rfl, hR1⟩ := h
  refine lv_icmp_eq hC.1 hC.2.1 (tgt := 794) d_Law_law_472 (by decide) (fun _ => ?_) (fun hne => absurd rfl hne)
  exact W.widen (by omega) (by omega) (kk M1 N1 w H locs ls hR1 hW hS hl)
set_option maxHeartbeats 4000000 in
theorem L_pair (hob : Obs Rel) (hR : Rel M N) (hfl : l.stackTraces = false) (hC : Cx p m c b_Law_law 7 s args "EdgeJoinsLaw") (hK : va_K D classes (tyG g) s) (hst : sC (fromB b) s s.heap) (hsX : sX s) (hbs : s.heap.size = b) (hX : va_X q L xs s s.heap) (hq : q < s.heap.size) (hL : L ≤ 2048) (hi : 0 ≤ i ∧ i + 4 ≤ L) (hcl : cells ≤ 2000) (hsl : slots ≤ 50000) (hW : Lw D g b M N w H) (hS : va_S (fromB b) s.heap H locs) (hl : lv_has ls 7 [(0, .ref q), (1, .ref (b + 0)), (2, .ref (b + 174 + 0)), (3, .ref (b + 188)), (4, iv i)]) (kk : ∀ (M1 N1 : Mem) (w1 : Int64) (H1 : Heap) (locs1 : List Loc) (ls1 : Array Slot), Rel M1 N1 → Lw D g b M1 N1 w1 H1 → va_S (fromB b) s.heap H1 locs1 → lv_has ls1 7 [(0, .ref q), (1, .ref (b + 0)), (2, .ref (b + 174 + 0)), (3, .ref (b + 188)), (4, iv i)] → W p l e room_1 s m args below meth c H1 locs1 (cells + 2) (slots + 12) Q (F0 m 794 ls1 [])) : W p l e room_1 s m args below meth c H locs cells slots Q (F0 m 477 ls []) := by
  have hA : ¬ fromB b q := fun h => absurd (show b ≤ q from h) (by omega)
  have h := hob.pair M N w (xz xs (i + 1)) (xz xs (i + 2)) hR (xz_in xs (i + 1)) (xz_in xs (i + 2))
  refine lv_aload_n hC.1 hC.2.1 d_Law_law_477 rfl (lv_at hl 1 rfl) ?_
  refine lv_aload_n hC.1 hC.2.1 d_Law_law_478 rfl (lv_at hl 0 rfl) ?_
  refine lv_iload hC.1 hC.2.1 d_Law_law_479 (lv_at hl 4 rfl) ?_
  refine xi_const hC d_Law_law_481 ?_
  refine xi_add hC d_Law_law_482 ?_
  refine xw_sld hC hX hq hA hS hL ⟨by omega, by omega⟩ d_Law_law_483 ?_
  refine lv_aload_n hC.1 hC.2.1 d_Law_law_484 rfl (lv_at hl 0 rfl) ?_
  refine lv_iload hC.1 hC.2.1 d_Law_law_485 (lv_at hl 4 rfl) ?_
  refine xi_const hC d_Law_law_487 ?_
  refine xi_add hC d_Law_law_488 ?_
  refine xw_sld hC hX hq hA hS hL ⟨by omega, by omega⟩ d_Law_law_489 ?_
  refine lv_aload_n hC.1 hC.2.1 d_Law_law_490 rfl (lv_at hl 3 rfl) ?_
  refine xw_help (As := [.ref (b + 0), iv (xz xs (i + 1)), iv (xz xs (i + 2)), .ref (b + 188)]) (rest := []) hC hK hW hS hst hsX hbs hl.1 lw_LS_87 rfl rfl rfl ⟨(Nat.le_of_ble_eq_true rfl), (Nat.le_of_ble_eq_true rfl)⟩ (fun sz => h_pair l hfl D g b sz (b + 188) h) d_Law_law_491 rfl (Nat.le_of_ble_eq_true rfl) ⟨by show cells + 2 ≤ 601024; omega, by show slots + 12 ≤ 7293034; omega⟩ (fun k w1 M1 H locs h hW hS => ?_)
  refine lv_istore (lv' := [(5, iv k), (0, .ref q), (1, .ref (b + 0)), (2, .ref (b + 174 + 0)), (3, .ref (b + 188)), (4, iv i)]) hC.1 hC.2.1 d_Law_law_494 hl (by decide) rfl (fun ls hl => ?_)
  refine lv_aload_n hC.1 hC.2.1 d_Law_law_496 rfl (lv_at hl 3 rfl) ?_
  refine lv_aload_n hC.1 hC.2.1 d_Law_law_497 rfl (lv_at hl 1 rfl) ?_
  refine lv_iload hC.1 hC.2.1 d_Law_law_498 (lv_at hl 5 rfl) ?_
  refine xi_const hC d_Law_law_500 ?_
  refine xi_add hC d_Law_law_501 ?_
  refine xw_sld hC hX hq hA hS hL ⟨by omega, by omega⟩ d_Law_law_502 ?_
  refine lv_aload_n hC.1 hC.2.1 d_Law_law_503 rfl (lv_at hl 1 rfl) ?_
  refine lv_iload hC.1 hC.2.1 d_Law_law_504 (lv_at hl 5 rfl) ?_
  refine xi_const hC d_Law_law_506 ?_
  refine xi_add hC d_Law_law_507 ?_
  refine xw_sld hC hX hq hA hS hL ⟨by omega, by omega⟩ d_Law_law_508 ?_
  refine xw_mod (As := [iv (xz xs (i + 1)), iv (xz xs (i + 2))]) (rest := []) hC hK hW hS hst hbs hl.1 lk_LL_89 rfl rfl rfl ⟨(Nat.le_of_ble_eq_true rfl), (Nat.le_of_ble_eq_true rfl)⟩ (fun sz => c_Model_pair l D g (b + 174) sz h) d_Law_law_509 rfl (Nat.le_of_ble_eq_true rfl) ⟨by show cells + 2 ≤ 601024; omega, by show slots + 12 ≤ 7293034; omega⟩ (fun r N1 H locs h hW hS => ?_)
  refine lv_istore (lv' := [(6, iv r), (5, iv k), (0, .ref q), (1, .ref (b + 0)), (2, .ref (b + 174 + 0)), (3, .ref (b + 188)), (4, iv i)]) hC.1 hC.2.1 d_Law_law_512 hl (by decide) rfl (fun ls hl => ?_)
  refine lv_aload_n hC.1 hC.2.1 d_Law_law_514 rfl (lv_at hl 4 rfl) ?_
  refine xw_modP (As := []) (rest := []) hC hK hW hS hst hbs hl.1 lk_LL_62 rfl rfl rfl ⟨(Nat.le_of_ble_eq_true rfl), (Nat.le_of_ble_eq_true rfl)⟩ (fun sz => c_Model_thrown l D g (b + 174) sz h) d_Law_law_515 rfl (Nat.le_of_ble_eq_true rfl) ⟨by show cells + 2 ≤ 601024; omega, by show slots + 12 ≤ 7293034; omega⟩ (fun t h => ?_)
  obtain ⟨rfl, hk3, hw, hR1⟩ := h
  refine lv_iload hC.1 hC.2.1 d_Law_law_518 (lv_at hl 1 rfl) ?_
  refine lv_icmp_eq hC.1 hC.2.1 (tgt := 525) d_Law_law_520 (by decide) (fun _ => ?_) (fun hne => absurd rfl hne)
  refine lv_iload hC.1 hC.2.1 d_Law_law_525 (lv_at hl 1 rfl) ?_
  have hfin : ∀ ls : Array Slot, lv_has ls 7 [(0, .ref q), (1, .ref (b + 0)), (2, .ref (b + 174 + 0)), (3, .ref (b + 188)), (4, iv i)] → W p l e room_1 s m args below meth c H locs (cells + 2) (slots + 12) Q (F0 m 542 ls []) := fun ls hl => lv_goto (tgt := 794) hC.1 hC.2.1 d_Law_law_542 (by decide) (W.widen (by omega) (by omega) (kk M1 N1 w1 H locs ls hR1 hW hS hl))
  refine xi_ine hC (tgt := 542) d_Law_law_527 (by decide) ⟨by omega, by omega⟩ (fun _ => hfin ls (lv_sub hl [2, 3, 4, 5, 6] rfl)) (fun h0 => ?_)
  refine lv_aload_n hC.1 hC.2.1 d_Law_law_530 rfl (lv_at hl 5 rfl) ?_
  refine xi_const hC d_Law_law_531 ?_
  refine xw_lald hC hK hW d_Law_law_532 ?_
  refine lv_iload hC.1 hC.2.1 d_Law_law_533 (lv_at hl 0 rfl) ?_
  refine lv_i2l (v := toL r) hC.1 hC.2.1 d_Law_law_535 rfl ?_
  refine W.lcmp hC.1 hC.2.1 d_Law_law_536 ?_
  rw [hw h0, lg_cmp_self]
  exact xi_ieq hC (tgt := 542) d_Law_law_537 (by decide) xi_z (fun _ => hfin ls (lv_sub hl [2, 3, 4, 5, 6] rfl)) (fun h => absurd rfl h)
set_option maxHeartbeats 4000000 in
theorem L_join (hob : Obs Rel) (hR : Rel M N) (hfl : l.stackTraces = false) (hC : Cx p m c b_Law_law 7 s args "EdgeJoinsLaw") (hK : va_K D classes (tyG g) s) (hst : sC (fromB b) s s.heap) (hsX : sX s) (hbs : s.heap.size = b) (hX : va_X q L xs s s.heap) (hq : q < s.heap.size) (hL : L ≤ 2048) (hi : 0 ≤ i ∧ i + 4 ≤ L) (hcl : cells ≤ 2000) (hsl : slots ≤ 50000) (hW : Lw D g b M N w H) (hS : va_S (fromB b) s.heap H locs) (hl : lv_has ls 7 [(0, .ref q), (1, .ref (b + 0)), (2, .ref (b + 174 + 0)), (3, .ref (b + 188)), (4, iv i)]) (kk : ∀ (M1 N1 : Mem) (w1 : Int64) (H1 : Heap) (locs1 : List Loc) (ls1 : Array Slot), Rel M1 N1 → Lw D g b M1 N1 w1 H1 → va_S (fromB b) s.heap H1 locs1 → lv_has ls1 7 [(0, .ref q), (1, .ref (b + 0)), (2, .ref (b + 174 + 0)), (3, .ref (b + 188)), (4, iv i)] → W p l e room_1 s m args below meth c H1 locs1 (cells + 2) (slots + 12) Q (F0 m 794 ls1 [])) : W p l e room_1 s m args below meth c H locs cells slots Q (F0 m 545 ls []) := by
  have hA : ¬ fromB b q := fun h => absurd (show b ≤ q from h) (by omega)
  have h := hob.join M N w (xz xs (i + 1)) hR (xz_in xs (i + 1))
  refine lv_aload_n hC.1 hC.2.1 d_Law_law_545 rfl (lv_at hl 1 rfl) ?_
  refine lv_aload_n hC.1 hC.2.1 d_Law_law_546 rfl (lv_at hl 0 rfl) ?_
  refine lv_iload hC.1 hC.2.1 d_Law_law_547 (lv_at hl 4 rfl) ?_
  refine xi_const hC d_Law_law_549 ?_
  refine xi_add hC d_Law_law_550 ?_
  refine xw_sld hC hX hq hA hS hL ⟨by omega, by omega⟩ d_Law_law_551 ?_
  refine lv_aload_n hC.1 hC.2.1 d_Law_law_552 rfl (lv_at hl 3 rfl) ?_
  refine xw_help (As := [.ref (b + 0), iv (xz xs (i + 1)), .ref (b + 188)]) (rest := []) hC hK hW hS hst hsX hbs hl.1 lw_LS_90 rfl rfl rfl ⟨(Nat.le_of_ble_eq_true rfl), (Nat.le_of_ble_eq_true rfl)⟩ (fun sz => h_join l hfl D g b sz (b + 188) h) d_Law_law_553 rfl (Nat.le_of_ble_eq_true rfl) ⟨by show cells + 1 ≤ 601024; omega, by show slots + 6 ≤ 7293034; omega⟩ (fun k w1 M1 H locs h hW hS => ?_)
  refine lv_istore (lv' := [(5, iv k), (0, .ref q), (1, .ref (b + 0)), (2, .ref (b + 174 + 0)), (3, .ref (b + 188)), (4, iv i)]) hC.1 hC.2.1 d_Law_law_556 hl (by decide) rfl (fun ls hl => ?_)
  refine lv_aload_n hC.1 hC.2.1 d_Law_law_558 rfl (lv_at hl 3 rfl) ?_
  refine lv_aload_n hC.1 hC.2.1 d_Law_law_559 rfl (lv_at hl 1 rfl) ?_
  refine lv_iload hC.1 hC.2.1 d_Law_law_560 (lv_at hl 5 rfl) ?_
  refine xi_const hC d_Law_law_562 ?_
  refine xi_add hC d_Law_law_563 ?_
  refine xw_sld hC hX hq hA hS hL ⟨by omega, by omega⟩ d_Law_law_564 ?_
  refine xw_mod (As := [iv (xz xs (i + 1))]) (rest := []) hC hK hW hS hst hbs hl.1 lk_LL_92 rfl rfl rfl ⟨(Nat.le_of_ble_eq_true rfl), (Nat.le_of_ble_eq_true rfl)⟩ (fun sz => c_Model_join l D g (b + 174) sz h) d_Law_law_565 rfl (Nat.le_of_ble_eq_true rfl) ⟨by show cells + 1 ≤ 601024; omega, by show slots + 6 ≤ 7293034; omega⟩ (fun r N1 H locs h hW hS => ?_)
  refine lv_istore (lv' := [(6, iv r), (5, iv k), (0, .ref q), (1, .ref (b + 0)), (2, .ref (b + 174 + 0)), (3, .ref (b + 188)), (4, iv i)]) hC.1 hC.2.1 d_Law_law_568 hl (by decide) rfl (fun ls hl => ?_)
  refine lv_aload_n hC.1 hC.2.1 d_Law_law_570 rfl (lv_at hl 4 rfl) ?_
  refine xw_modP (As := []) (rest := []) hC hK hW hS hst hbs hl.1 lk_LL_62 rfl rfl rfl ⟨(Nat.le_of_ble_eq_true rfl), (Nat.le_of_ble_eq_true rfl)⟩ (fun sz => c_Model_thrown l D g (b + 174) sz h) d_Law_law_571 rfl (Nat.le_of_ble_eq_true rfl) ⟨by show cells + 1 ≤ 601024; omega, by show slots + 6 ≤ 7293034; omega⟩ (fun t h => ?_)
  obtain ⟨rfl, hk3, hw, hR1⟩ := h
  refine lv_iload hC.1 hC.2.1 d_Law_law_574 (lv_at hl 1 rfl) ?_
  refine lv_icmp_eq hC.1 hC.2.1 (tgt := 581) d_Law_law_576 (by decide) (fun _ => ?_) (fun hne => absurd rfl hne)
  refine lv_iload hC.1 hC.2.1 d_Law_law_581 (lv_at hl 1 rfl) ?_
  have hfin : ∀ ls : Array Slot, lv_has ls 7 [(0, .ref q), (1, .ref (b + 0)), (2, .ref (b + 174 + 0)), (3, .ref (b + 188)), (4, iv i)] → W p l e room_1 s m args below meth c H locs (cells + 1) (slots + 6) Q (F0 m 598 ls []) := fun ls hl => lv_goto (tgt := 794) hC.1 hC.2.1 d_Law_law_598 (by decide) (W.widen (by omega) (by omega) (kk M1 N1 w1 H locs ls hR1 hW hS hl))
  refine xi_ine hC (tgt := 598) d_Law_law_583 (by decide) ⟨by omega, by omega⟩ (fun _ => hfin ls (lv_sub hl [2, 3, 4, 5, 6] rfl)) (fun h0 => ?_)
  refine lv_aload_n hC.1 hC.2.1 d_Law_law_586 rfl (lv_at hl 5 rfl) ?_
  refine xi_const hC d_Law_law_587 ?_
  refine xw_lald hC hK hW d_Law_law_588 ?_
  refine lv_iload hC.1 hC.2.1 d_Law_law_589 (lv_at hl 0 rfl) ?_
  refine lv_i2l (v := toL r) hC.1 hC.2.1 d_Law_law_591 rfl ?_
  refine W.lcmp hC.1 hC.2.1 d_Law_law_592 ?_
  rw [hw h0, lg_cmp_self]
  exact xi_ieq hC (tgt := 598) d_Law_law_593 (by decide) xi_z (fun _ => hfin ls (lv_sub hl [2, 3, 4, 5, 6] rfl)) (fun h => absurd rfl h)
set_option maxHeartbeats 4000000 in
theorem L_undo (hob : Obs Rel) (hR : Rel M N) (hfl : l.stackTraces = false) (hC : Cx p m c b_Law_law 7 s args "EdgeJoinsLaw") (hK : va_K D classes (tyG g) s) (hst : sC (fromB b) s s.heap) (hsX : sX s) (hbs : s.heap.size = b) (hX : va_X q L xs s s.heap) (hq : q < s.heap.size) (hL : L ≤ 2048) (hi : 0 ≤ i ∧ i + 4 ≤ L) (hcl : cells ≤ 2000) (hsl : slots ≤ 50000) (hW : Lw D g b M N w H) (hS : va_S (fromB b) s.heap H locs) (hl : lv_has ls 7 [(0, .ref q), (1, .ref (b + 0)), (2, .ref (b + 174 + 0)), (3, .ref (b + 188)), (4, iv i)]) (kk : ∀ (M1 N1 : Mem) (w1 : Int64) (H1 : Heap) (locs1 : List Loc) (ls1 : Array Slot), Rel M1 N1 → Lw D g b M1 N1 w1 H1 → va_S (fromB b) s.heap H1 locs1 → lv_has ls1 7 [(0, .ref q), (1, .ref (b + 0)), (2, .ref (b + 174 + 0)), (3, .ref (b + 188)), (4, iv i)] → W p l e room_1 s m args below meth c H1 locs1 (cells + 2) (slots + 12) Q (F0 m 794 ls1 [])) : W p l e room_1 s m args below meth c H locs cells slots Q (F0 m 601 ls []) := by
  have hA : ¬ fromB b q := fun h => absurd (show b ≤ q from h) (by omega)
  have h := hob.undo M N hR
  refine lv_aload_n hC.1 hC.2.1 d_Law_law_601 rfl (lv_at hl 1 rfl) ?_
  refine xw_cls (As := []) (rest := []) hC hK hW hS hst hbs hl.1 lk_LL_93 rfl rfl rfl ⟨(Nat.le_of_ble_eq_true rfl), (Nat.le_of_ble_eq_true rfl)⟩ (fun sz => c_X_undo l D g b sz h) d_Law_law_602 rfl (Nat.le_of_ble_eq_true rfl) ⟨by show cells ≤ 601024; omega, by show slots ≤ 7293034; omega⟩ (fun r M1 H locs h hW hS => ?_)
  refine lv_aload_n hC.1 hC.2.1 d_Law_law_605 rfl (lv_at hl 2 rfl) ?_
  refine xw_mod (As := []) (rest := [iv r]) hC hK hW hS hst hbs hl.1 lk_LL_97 rfl rfl rfl ⟨(Nat.le_of_ble_eq_true rfl), (Nat.le_of_ble_eq_true rfl)⟩ (fun sz => c_Model_undo l D g (b + 174) sz h) d_Law_law_606 rfl (Nat.le_of_ble_eq_true rfl) ⟨by show cells ≤ 601024; omega, by show slots ≤ 7293034; omega⟩ (fun r2 N1 H locs h hW hS => ?_)
  obtain ⟨rfl, hR1⟩ := h
  refine lv_icmp_eq hC.1 hC.2.1 (tgt := 794) d_Law_law_609 (by decide) (fun _ => ?_) (fun hne => absurd rfl hne)
  exact W.widen (by omega) (by omega) (kk M1 N1 w H locs ls hR1 hW hS hl)
set_option maxHeartbeats 4000000 in
theorem L_place (hob : Obs Rel) (hR : Rel M N) (hfl : l.stackTraces = false) (hC : Cx p m c b_Law_law 7 s args "EdgeJoinsLaw") (hK : va_K D classes (tyG g) s) (hst : sC (fromB b) s s.heap) (hsX : sX s) (hbs : s.heap.size = b) (hX : va_X q L xs s s.heap) (hq : q < s.heap.size) (hL : L ≤ 2048) (hi : 0 ≤ i ∧ i + 4 ≤ L) (hcl : cells ≤ 2000) (hsl : slots ≤ 50000) (hW : Lw D g b M N w H) (hS : va_S (fromB b) s.heap H locs) (hl : lv_has ls 7 [(0, .ref q), (1, .ref (b + 0)), (2, .ref (b + 174 + 0)), (3, .ref (b + 188)), (4, iv i)]) (kk : ∀ (M1 N1 : Mem) (w1 : Int64) (H1 : Heap) (locs1 : List Loc) (ls1 : Array Slot), Rel M1 N1 → Lw D g b M1 N1 w1 H1 → va_S (fromB b) s.heap H1 locs1 → lv_has ls1 7 [(0, .ref q), (1, .ref (b + 0)), (2, .ref (b + 174 + 0)), (3, .ref (b + 188)), (4, iv i)] → W p l e room_1 s m args below meth c H1 locs1 (cells + 2) (slots + 12) Q (F0 m 794 ls1 [])) : W p l e room_1 s m args below meth c H locs cells slots Q (F0 m 614 ls []) := by
  have hA : ¬ fromB b q := fun h => absurd (show b ≤ q from h) (by omega)
  have h := hob.place M N w (xz xs (i + 1)) (xz xs (i + 2)) hR (xz_in xs (i + 1)) (xz_in xs (i + 2))
  refine lv_aload_n hC.1 hC.2.1 d_Law_law_614 rfl (lv_at hl 1 rfl) ?_
  refine lv_aload_n hC.1 hC.2.1 d_Law_law_615 rfl (lv_at hl 0 rfl) ?_
  refine lv_iload hC.1 hC.2.1 d_Law_law_616 (lv_at hl 4 rfl) ?_
  refine xi_const hC d_Law_law_618 ?_
  refine xi_add hC d_Law_law_619 ?_
  refine xw_sld hC hX hq hA hS hL ⟨by omega, by omega⟩ d_Law_law_620 ?_
  refine lv_aload_n hC.1 hC.2.1 d_Law_law_621 rfl (lv_at hl 0 rfl) ?_
  refine lv_iload hC.1 hC.2.1 d_Law_law_622 (lv_at hl 4 rfl) ?_
  refine xi_const hC d_Law_law_624 ?_
  refine xi_add hC d_Law_law_625 ?_
  refine xw_sld hC hX hq hA hS hL ⟨by omega, by omega⟩ d_Law_law_626 ?_
  refine lv_aload_n hC.1 hC.2.1 d_Law_law_627 rfl (lv_at hl 3 rfl) ?_
  refine xw_help (As := [.ref (b + 0), iv (xz xs (i + 1)), iv (xz xs (i + 2)), .ref (b + 188)]) (rest := []) hC hK hW hS hst hsX hbs hl.1 lw_LS_98 rfl rfl rfl ⟨(Nat.le_of_ble_eq_true rfl), (Nat.le_of_ble_eq_true rfl)⟩ (fun sz => h_place l hfl D g b sz (b + 188) h) d_Law_law_628 rfl (Nat.le_of_ble_eq_true rfl) ⟨by show cells + 1 ≤ 601024; omega, by show slots + 6 ≤ 7293034; omega⟩ (fun k w1 M1 H locs h hW hS => ?_)
  refine lv_istore (lv' := [(5, iv k), (0, .ref q), (1, .ref (b + 0)), (2, .ref (b + 174 + 0)), (3, .ref (b + 188)), (4, iv i)]) hC.1 hC.2.1 d_Law_law_631 hl (by decide) rfl (fun ls hl => ?_)
  refine lv_aload_n hC.1 hC.2.1 d_Law_law_633 rfl (lv_at hl 3 rfl) ?_
  refine lv_aload_n hC.1 hC.2.1 d_Law_law_634 rfl (lv_at hl 1 rfl) ?_
  refine lv_iload hC.1 hC.2.1 d_Law_law_635 (lv_at hl 5 rfl) ?_
  refine xi_const hC d_Law_law_637 ?_
  refine xi_add hC d_Law_law_638 ?_
  refine xw_sld hC hX hq hA hS hL ⟨by omega, by omega⟩ d_Law_law_639 ?_
  refine lv_aload_n hC.1 hC.2.1 d_Law_law_640 rfl (lv_at hl 1 rfl) ?_
  refine lv_iload hC.1 hC.2.1 d_Law_law_641 (lv_at hl 5 rfl) ?_
  refine xi_const hC d_Law_law_643 ?_
  refine xi_add hC d_Law_law_644 ?_
  refine xw_sld hC hX hq hA hS hL ⟨by omega, by omega⟩ d_Law_law_645 ?_
  refine xw_mod (As := [iv (xz xs (i + 1)), iv (xz xs (i + 2))]) (rest := []) hC hK hW hS hst hbs hl.1 lk_LL_100 rfl rfl rfl ⟨(Nat.le_of_ble_eq_true rfl), (Nat.le_of_ble_eq_true rfl)⟩ (fun sz => c_Model_place l D g (b + 174) sz h) d_Law_law_646 rfl (Nat.le_of_ble_eq_true rfl) ⟨by show cells + 1 ≤ 601024; omega, by show slots + 6 ≤ 7293034; omega⟩ (fun r N1 H locs h hW hS => ?_)
  refine lv_istore (lv' := [(6, iv r), (5, iv k), (0, .ref q), (1, .ref (b + 0)), (2, .ref (b + 174 + 0)), (3, .ref (b + 188)), (4, iv i)]) hC.1 hC.2.1 d_Law_law_649 hl (by decide) rfl (fun ls hl => ?_)
  refine lv_aload_n hC.1 hC.2.1 d_Law_law_651 rfl (lv_at hl 4 rfl) ?_
  refine xw_modP (As := []) (rest := []) hC hK hW hS hst hbs hl.1 lk_LL_62 rfl rfl rfl ⟨(Nat.le_of_ble_eq_true rfl), (Nat.le_of_ble_eq_true rfl)⟩ (fun sz => c_Model_thrown l D g (b + 174) sz h) d_Law_law_652 rfl (Nat.le_of_ble_eq_true rfl) ⟨by show cells + 1 ≤ 601024; omega, by show slots + 6 ≤ 7293034; omega⟩ (fun t h => ?_)
  obtain ⟨rfl, hk3, hw, hR1⟩ := h
  refine lv_iload hC.1 hC.2.1 d_Law_law_655 (lv_at hl 1 rfl) ?_
  refine lv_icmp_eq hC.1 hC.2.1 (tgt := 662) d_Law_law_657 (by decide) (fun _ => ?_) (fun hne => absurd rfl hne)
  refine lv_iload hC.1 hC.2.1 d_Law_law_662 (lv_at hl 1 rfl) ?_
  have hfin : ∀ ls : Array Slot, lv_has ls 7 [(0, .ref q), (1, .ref (b + 0)), (2, .ref (b + 174 + 0)), (3, .ref (b + 188)), (4, iv i)] → W p l e room_1 s m args below meth c H locs (cells + 1) (slots + 6) Q (F0 m 679 ls []) := fun ls hl => lv_goto (tgt := 794) hC.1 hC.2.1 d_Law_law_679 (by decide) (W.widen (by omega) (by omega) (kk M1 N1 w1 H locs ls hR1 hW hS hl))
  refine xi_ine hC (tgt := 679) d_Law_law_664 (by decide) ⟨by omega, by omega⟩ (fun _ => hfin ls (lv_sub hl [2, 3, 4, 5, 6] rfl)) (fun h0 => ?_)
  refine lv_aload_n hC.1 hC.2.1 d_Law_law_667 rfl (lv_at hl 5 rfl) ?_
  refine xi_const hC d_Law_law_668 ?_
  refine xw_lald hC hK hW d_Law_law_669 ?_
  refine lv_iload hC.1 hC.2.1 d_Law_law_670 (lv_at hl 0 rfl) ?_
  refine lv_i2l (v := toL r) hC.1 hC.2.1 d_Law_law_672 rfl ?_
  refine W.lcmp hC.1 hC.2.1 d_Law_law_673 ?_
  rw [hw h0, lg_cmp_self]
  exact xi_ieq hC (tgt := 679) d_Law_law_674 (by decide) xi_z (fun _ => hfin ls (lv_sub hl [2, 3, 4, 5, 6] rfl)) (fun h => absurd rfl h)
set_option maxHeartbeats 4000000 in
theorem L_holes (hob : Obs Rel) (hR : Rel M N) (hfl : l.stackTraces = false) (hC : Cx p m c b_Law_law 7 s args "EdgeJoinsLaw") (hK : va_K D classes (tyG g) s) (hst : sC (fromB b) s s.heap) (hsX : sX s) (hbs : s.heap.size = b) (hX : va_X q L xs s s.heap) (hq : q < s.heap.size) (hL : L ≤ 2048) (hi : 0 ≤ i ∧ i + 4 ≤ L) (hcl : cells ≤ 2000) (hsl : slots ≤ 50000) (hW : Lw D g b M N w H) (hS : va_S (fromB b) s.heap H locs) (hl : lv_has ls 7 [(0, .ref q), (1, .ref (b + 0)), (2, .ref (b + 174 + 0)), (3, .ref (b + 188)), (4, iv i)]) (kk : ∀ (M1 N1 : Mem) (w1 : Int64) (H1 : Heap) (locs1 : List Loc) (ls1 : Array Slot), Rel M1 N1 → Lw D g b M1 N1 w1 H1 → va_S (fromB b) s.heap H1 locs1 → lv_has ls1 7 [(0, .ref q), (1, .ref (b + 0)), (2, .ref (b + 174 + 0)), (3, .ref (b + 188)), (4, iv i)] → W p l e room_1 s m args below meth c H1 locs1 (cells + 2) (slots + 12) Q (F0 m 794 ls1 [])) : W p l e room_1 s m args below meth c H locs cells slots Q (F0 m 682 ls []) := by
  have hA : ¬ fromB b q := fun h => absurd (show b ≤ q from h) (by omega)
  have h := hob.holes M N w (xz xs (i + 1)) hR (xz_in xs (i + 1))
  refine lv_aload_n hC.1 hC.2.1 d_Law_law_682 rfl (lv_at hl 1 rfl) ?_
  refine lv_aload_n hC.1 hC.2.1 d_Law_law_683 rfl (lv_at hl 0 rfl) ?_
  refine lv_iload hC.1 hC.2.1 d_Law_law_684 (lv_at hl 4 rfl) ?_
  refine xi_const hC d_Law_law_686 ?_
  refine xi_add hC d_Law_law_687 ?_
  refine xw_sld hC hX hq hA hS hL ⟨by omega, by omega⟩ d_Law_law_688 ?_
  refine lv_aload_n hC.1 hC.2.1 d_Law_law_689 rfl (lv_at hl 3 rfl) ?_
  refine xw_help (As := [.ref (b + 0), iv (xz xs (i + 1)), .ref (b + 188)]) (rest := []) hC hK hW hS hst hsX hbs hl.1 lw_LS_101 rfl rfl rfl ⟨(Nat.le_of_ble_eq_true rfl), (Nat.le_of_ble_eq_true rfl)⟩ (fun sz => h_holes l hfl D g b sz (b + 188) h) d_Law_law_690 rfl (Nat.le_of_ble_eq_true rfl) ⟨by show cells + 1 ≤ 601024; omega, by show slots + 6 ≤ 7293034; omega⟩ (fun k w1 M1 H locs h hW hS => ?_)
  refine lv_istore (lv' := [(5, iv k), (0, .ref q), (1, .ref (b + 0)), (2, .ref (b + 174 + 0)), (3, .ref (b + 188)), (4, iv i)]) hC.1 hC.2.1 d_Law_law_693 hl (by decide) rfl (fun ls hl => ?_)
  refine lv_aload_n hC.1 hC.2.1 d_Law_law_695 rfl (lv_at hl 3 rfl) ?_
  refine lv_aload_n hC.1 hC.2.1 d_Law_law_696 rfl (lv_at hl 1 rfl) ?_
  refine lv_iload hC.1 hC.2.1 d_Law_law_697 (lv_at hl 5 rfl) ?_
  refine xi_const hC d_Law_law_699 ?_
  refine xi_add hC d_Law_law_700 ?_
  refine xw_sld hC hX hq hA hS hL ⟨by omega, by omega⟩ d_Law_law_701 ?_
  refine xw_mod (As := [iv (xz xs (i + 1))]) (rest := []) hC hK hW hS hst hbs hl.1 lk_LL_103 rfl rfl rfl ⟨(Nat.le_of_ble_eq_true rfl), (Nat.le_of_ble_eq_true rfl)⟩ (fun sz => c_Model_holes l D g (b + 174) sz h) d_Law_law_702 rfl (Nat.le_of_ble_eq_true rfl) ⟨by show cells + 1 ≤ 601024; omega, by show slots + 6 ≤ 7293034; omega⟩ (fun r N1 H locs h hW hS => ?_)
  refine lv_istore (lv' := [(6, iv r), (5, iv k), (0, .ref q), (1, .ref (b + 0)), (2, .ref (b + 174 + 0)), (3, .ref (b + 188)), (4, iv i)]) hC.1 hC.2.1 d_Law_law_705 hl (by decide) rfl (fun ls hl => ?_)
  refine lv_aload_n hC.1 hC.2.1 d_Law_law_707 rfl (lv_at hl 4 rfl) ?_
  refine xw_modP (As := []) (rest := []) hC hK hW hS hst hbs hl.1 lk_LL_62 rfl rfl rfl ⟨(Nat.le_of_ble_eq_true rfl), (Nat.le_of_ble_eq_true rfl)⟩ (fun sz => c_Model_thrown l D g (b + 174) sz h) d_Law_law_708 rfl (Nat.le_of_ble_eq_true rfl) ⟨by show cells + 1 ≤ 601024; omega, by show slots + 6 ≤ 7293034; omega⟩ (fun t h => ?_)
  obtain ⟨rfl, hk3, hw, hR1⟩ := h
  refine lv_iload hC.1 hC.2.1 d_Law_law_711 (lv_at hl 1 rfl) ?_
  refine lv_icmp_eq hC.1 hC.2.1 (tgt := 718) d_Law_law_713 (by decide) (fun _ => ?_) (fun hne => absurd rfl hne)
  refine lv_iload hC.1 hC.2.1 d_Law_law_718 (lv_at hl 1 rfl) ?_
  have hfin : ∀ ls : Array Slot, lv_has ls 7 [(0, .ref q), (1, .ref (b + 0)), (2, .ref (b + 174 + 0)), (3, .ref (b + 188)), (4, iv i)] → W p l e room_1 s m args below meth c H locs (cells + 1) (slots + 6) Q (F0 m 735 ls []) := fun ls hl => lv_goto (tgt := 794) hC.1 hC.2.1 d_Law_law_735 (by decide) (W.widen (by omega) (by omega) (kk M1 N1 w1 H locs ls hR1 hW hS hl))
  refine xi_ine hC (tgt := 735) d_Law_law_720 (by decide) ⟨by omega, by omega⟩ (fun _ => hfin ls (lv_sub hl [2, 3, 4, 5, 6] rfl)) (fun h0 => ?_)
  refine lv_aload_n hC.1 hC.2.1 d_Law_law_723 rfl (lv_at hl 5 rfl) ?_
  refine xi_const hC d_Law_law_724 ?_
  refine xw_lald hC hK hW d_Law_law_725 ?_
  refine lv_iload hC.1 hC.2.1 d_Law_law_726 (lv_at hl 0 rfl) ?_
  refine lv_i2l (v := toL r) hC.1 hC.2.1 d_Law_law_728 rfl ?_
  refine W.lcmp hC.1 hC.2.1 d_Law_law_729 ?_
  rw [hw h0, lg_cmp_self]
  exact xi_ieq hC (tgt := 735) d_Law_law_730 (by decide) xi_z (fun _ => hfin ls (lv_sub hl [2, 3, 4, 5, 6] rfl)) (fun h => absurd rfl h)
set_option maxHeartbeats 4000000 in
theorem L_count (hob : Obs Rel) (hR : Rel M N) (hfl : l.stackTraces = false) (hC : Cx p m c b_Law_law 7 s args "EdgeJoinsLaw") (hK : va_K D classes (tyG g) s) (hst : sC (fromB b) s s.heap) (hsX : sX s) (hbs : s.heap.size = b) (hX : va_X q L xs s s.heap) (hq : q < s.heap.size) (hL : L ≤ 2048) (hi : 0 ≤ i ∧ i + 4 ≤ L) (hcl : cells ≤ 2000) (hsl : slots ≤ 50000) (hW : Lw D g b M N w H) (hS : va_S (fromB b) s.heap H locs) (hl : lv_has ls 7 [(0, .ref q), (1, .ref (b + 0)), (2, .ref (b + 174 + 0)), (3, .ref (b + 188)), (4, iv i)]) (kk : ∀ (M1 N1 : Mem) (w1 : Int64) (H1 : Heap) (locs1 : List Loc) (ls1 : Array Slot), Rel M1 N1 → Lw D g b M1 N1 w1 H1 → va_S (fromB b) s.heap H1 locs1 → lv_has ls1 7 [(0, .ref q), (1, .ref (b + 0)), (2, .ref (b + 174 + 0)), (3, .ref (b + 188)), (4, iv i)] → W p l e room_1 s m args below meth c H1 locs1 (cells + 2) (slots + 12) Q (F0 m 794 ls1 [])) : W p l e room_1 s m args below meth c H locs cells slots Q (F0 m 738 ls []) := by
  have hA : ¬ fromB b q := fun h => absurd (show b ≤ q from h) (by omega)
  have h := hob.count M N w (xz xs (i + 1)) hR (xz_in xs (i + 1))
  refine lv_aload_n hC.1 hC.2.1 d_Law_law_738 rfl (lv_at hl 1 rfl) ?_
  refine lv_aload_n hC.1 hC.2.1 d_Law_law_739 rfl (lv_at hl 0 rfl) ?_
  refine lv_iload hC.1 hC.2.1 d_Law_law_740 (lv_at hl 4 rfl) ?_
  refine xi_const hC d_Law_law_742 ?_
  refine xi_add hC d_Law_law_743 ?_
  refine xw_sld hC hX hq hA hS hL ⟨by omega, by omega⟩ d_Law_law_744 ?_
  refine lv_aload_n hC.1 hC.2.1 d_Law_law_745 rfl (lv_at hl 3 rfl) ?_
  refine xw_help (As := [.ref (b + 0), iv (xz xs (i + 1)), .ref (b + 188)]) (rest := []) hC hK hW hS hst hsX hbs hl.1 lw_LS_104 rfl rfl rfl ⟨(Nat.le_of_ble_eq_true rfl), (Nat.le_of_ble_eq_true rfl)⟩ (fun sz => h_count l hfl D g b sz (b + 188) h) d_Law_law_746 rfl (Nat.le_of_ble_eq_true rfl) ⟨by show cells + 1 ≤ 601024; omega, by show slots + 6 ≤ 7293034; omega⟩ (fun k w1 M1 H locs h hW hS => ?_)
  refine lv_istore (lv' := [(5, iv k), (0, .ref q), (1, .ref (b + 0)), (2, .ref (b + 174 + 0)), (3, .ref (b + 188)), (4, iv i)]) hC.1 hC.2.1 d_Law_law_749 hl (by decide) rfl (fun ls hl => ?_)
  refine lv_aload_n hC.1 hC.2.1 d_Law_law_751 rfl (lv_at hl 3 rfl) ?_
  refine lv_aload_n hC.1 hC.2.1 d_Law_law_752 rfl (lv_at hl 1 rfl) ?_
  refine lv_iload hC.1 hC.2.1 d_Law_law_753 (lv_at hl 5 rfl) ?_
  refine xi_const hC d_Law_law_755 ?_
  refine xi_add hC d_Law_law_756 ?_
  refine xw_sld hC hX hq hA hS hL ⟨by omega, by omega⟩ d_Law_law_757 ?_
  refine xw_mod (As := [iv (xz xs (i + 1))]) (rest := []) hC hK hW hS hst hbs hl.1 lk_LL_106 rfl rfl rfl ⟨(Nat.le_of_ble_eq_true rfl), (Nat.le_of_ble_eq_true rfl)⟩ (fun sz => c_Model_count l D g (b + 174) sz h) d_Law_law_758 rfl (Nat.le_of_ble_eq_true rfl) ⟨by show cells + 1 ≤ 601024; omega, by show slots + 6 ≤ 7293034; omega⟩ (fun r N1 H locs h hW hS => ?_)
  refine lv_istore (lv' := [(6, iv r), (5, iv k), (0, .ref q), (1, .ref (b + 0)), (2, .ref (b + 174 + 0)), (3, .ref (b + 188)), (4, iv i)]) hC.1 hC.2.1 d_Law_law_761 hl (by decide) rfl (fun ls hl => ?_)
  refine lv_aload_n hC.1 hC.2.1 d_Law_law_763 rfl (lv_at hl 4 rfl) ?_
  refine xw_modP (As := []) (rest := []) hC hK hW hS hst hbs hl.1 lk_LL_62 rfl rfl rfl ⟨(Nat.le_of_ble_eq_true rfl), (Nat.le_of_ble_eq_true rfl)⟩ (fun sz => c_Model_thrown l D g (b + 174) sz h) d_Law_law_764 rfl (Nat.le_of_ble_eq_true rfl) ⟨by show cells + 1 ≤ 601024; omega, by show slots + 6 ≤ 7293034; omega⟩ (fun t h => ?_)
  obtain ⟨rfl, hk3, hw, hR1⟩ := h
  refine lv_iload hC.1 hC.2.1 d_Law_law_767 (lv_at hl 1 rfl) ?_
  refine lv_icmp_eq hC.1 hC.2.1 (tgt := 774) d_Law_law_769 (by decide) (fun _ => ?_) (fun hne => absurd rfl hne)
  refine lv_iload hC.1 hC.2.1 d_Law_law_774 (lv_at hl 1 rfl) ?_
  have hfin : ∀ ls : Array Slot, lv_has ls 7 [(0, .ref q), (1, .ref (b + 0)), (2, .ref (b + 174 + 0)), (3, .ref (b + 188)), (4, iv i)] → W p l e room_1 s m args below meth c H locs (cells + 1) (slots + 6) Q (F0 m 791 ls []) := fun ls hl => lv_goto (tgt := 794) hC.1 hC.2.1 d_Law_law_791 (by decide) (W.widen (by omega) (by omega) (kk M1 N1 w1 H locs ls hR1 hW hS hl))
  refine xi_ine hC (tgt := 791) d_Law_law_776 (by decide) ⟨by omega, by omega⟩ (fun _ => hfin ls (lv_sub hl [2, 3, 4, 5, 6] rfl)) (fun h0 => ?_)
  refine lv_aload_n hC.1 hC.2.1 d_Law_law_779 rfl (lv_at hl 5 rfl) ?_
  refine xi_const hC d_Law_law_780 ?_
  refine xw_lald hC hK hW d_Law_law_781 ?_
  refine lv_iload hC.1 hC.2.1 d_Law_law_782 (lv_at hl 0 rfl) ?_
  refine lv_i2l (v := toL r) hC.1 hC.2.1 d_Law_law_784 rfl ?_
  refine W.lcmp hC.1 hC.2.1 d_Law_law_785 ?_
  rw [hw h0, lg_cmp_self]
  exact xi_ieq hC (tgt := 791) d_Law_law_786 (by decide) xi_z (fun _ => hfin ls (lv_sub hl [2, 3, 4, 5, 6] rfl)) (fun h => absurd rfl h)
end LB
