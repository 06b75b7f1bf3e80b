set_option maxHeartbeats 4000000 in
theorem s_Model_moveTree_265 {p : Program} {l : Launch} {e : Env} {s : State} {m : MethodId} {args : Array Value} {below : List Frame} {meth : Method} {c : Code} {D : va_G} {g : Nat → ClassId} {b sz : Nat} (hC : Cx p m c b_Model_moveTree 7 s args "EdgeJoinsModel") (hr : meth.sig.returnType = none) (hlocks : meth.locks = false) (hK : va_K D classes (tyG g) s) (hst : sC (rA b 14 sz) s s.heap) (hz : sz ≤ s.heap.size) {Post : Mem → Prop} {X225 : Int → Int → Int → Int → Mem → Prop} (hX225 : ∀ (x2 x4 x5 x6 : Int) (M0 : Mem) (H : Heap) (locs : List Loc) (ls : Array Slot), X225 x2 x4 x5 x6 M0 → va_P D classes (wsG b 14 (cellN b g) M0) H → va_S (rA b 14 sz) s.heap H locs → lv_has ls 7 [(0, .ref (b + 0)), (2, iv x2), (4, iv x4), (5, iv x5), (6, iv x6)] → W p l e ({ frames := 1, cells := 0, slots := 0, locals := 23 }) s m args below meth c H locs 0 0 (MQ below (QV D g b 14 (cellN b g) sz Post) args s 0 0 (rA b 14 sz)) (F0 m 225 ls [])) : ∀ (x2 x4 x5 x6 : Int) (M0 : Mem) (H : Heap) (locs : List Loc) (ls : Array Slot), wp_Model_moveTree_265 X225 x2 x4 x5 x6 M0 Post → va_P D classes (wsG b 14 (cellN b g) M0) H → va_S (rA b 14 sz) s.heap H locs → lv_has ls 7 [(0, .ref (b + 0)), (2, iv x2), (4, iv x4), (5, iv x5), (6, iv x6)] → W p l e ({ frames := 1, cells := 0, slots := 0, locals := 23 }) s m args below meth c H locs 0 0 (MQ below (QV D g b 14 (cellN b g) sz Post) args s 0 0 (rA b 14 sz)) (F0 m 265 ls []) := by
  intro x2 x4 x5 x6 M0 H locs ls h hP hS hl
  unfold wp_Model_moveTree_265 at h
  refine lv_aload_n hC.1 hC.2.1 d_Model_moveTree_265 rfl (lv_at hl 0 rfl) ?_
  refine gf_Model_51 hC hK hP hst d_Model_moveTree_266 ?_
  refine xi_const hC d_Model_moveTree_269 ?_
  refine lv_iload hC.1 hC.2.1 d_Model_moveTree_270 (lv_at hl 4 rfl) ?_
  refine xi_mul hC d_Model_moveTree_272 ?_
  refine xi_const hC d_Model_moveTree_273 ?_
  refine xi_add hC d_Model_moveTree_274 ?_
  refine lv_iload hC.1 hC.2.1 d_Model_moveTree_275 (lv_at hl 3 rfl) ?_
  obtain ⟨hi, h⟩ := h
  refine xg_ast hC hK hP hS aN_tried (by decide) hi d_Model_moveTree_277 (fun H locs hP hS => ?_)
  obtain ⟨M_1, eM_1⟩ : ∃ y : Mem, y = up M0 12 ((4 * x6) + 3).toNat x5 := ⟨_, rfl⟩
  rw [← eM_1] at hP
  have h := h M_1 eM_1
  obtain ⟨v6_2, ev6_2⟩ : ∃ y : Int, y = x6 + 1 := ⟨_, rfl⟩
  have h := h v6_2 ev6_2
  refine xi_iinc (v := v6_2) (lv' := [(6, iv v6_2), (0, .ref (b + 0)), (2, iv x2), (4, iv x4), (5, iv x5)]) hC d_Model_moveTree_278 hl (k := 4) rfl ev6_2 (by decide) rfl (fun ls hl => ?_)
  refine lv_goto (tgt := 225) hC.1 hC.2.1 d_Model_moveTree_281 (by decide) ?_
  exact hX225 _ _ _ _ _ _ _ _ h hP hS (lv_sub hl [1, 2, 3, 4, 0] rfl)
set_option maxHeartbeats 4000000 in
theorem s_Model_moveTree_225 {p : Program} {l : Launch} {e : Env} {s : State} {m : MethodId} {args : Array Value} {below : List Frame} {meth : Method} {c : Code} {D : va_G} {g : Nat → ClassId} {b sz : Nat} (hC : Cx p m c b_Model_moveTree 7 s args "EdgeJoinsModel") (hr : meth.sig.returnType = none) (hlocks : meth.locks = false) (hK : va_K D classes (tyG g) s) (hst : sC (rA b 14 sz) s s.heap) (hz : sz ≤ s.heap.size) {Post : Mem → Prop} : ∀ (n : Nat) (x2 x4 x5 x6 : Int) (M0 : Mem) (H : Heap) (locs : List Loc) (ls : Array Slot), wp_Model_moveTree_225 Post n x2 x4 x5 x6 M0 → va_P D classes (wsG b 14 (cellN b g) M0) H → va_S (rA b 14 sz) s.heap H locs → lv_has ls 7 [(0, .ref (b + 0)), (2, iv x2), (4, iv x4), (5, iv x5), (6, iv x6)] → W p l e ({ frames := 1, cells := 0, slots := 0, locals := 23 }) s m args below meth c H locs 0 0 (MQ below (QV D g b 14 (cellN b g) sz Post) args s 0 0 (rA b 14 sz)) (F0 m 225 ls []) := by
  intro n
  induction n with
  | zero => intro x2 x4 x5 x6 M0 H locs ls h; exact h.elim
  | succ n ih =>
  intro x2 x4 x5 x6 M0 H locs ls h hP hS hl
  simp only [wp_Model_moveTree_225] at h
  refine lv_iload hC.1 hC.2.1 d_Model_moveTree_225 (lv_at hl 4 rfl) ?_
  refine lv_aload_n hC.1 hC.2.1 d_Model_moveTree_227 rfl (lv_at hl 0 rfl) ?_
  refine gf_Model_60 hC hK hP hst d_Model_moveTree_228 ?_
  obtain ⟨b0, h⟩ := h
  obtain ⟨b1, h⟩ := h
  refine xi_cge hC (tgt := 284) d_Model_moveTree_231 (by decide) b0 b1 (fun q => ?_) (fun q => ?_)
  · have h := h.1 q
    exact xr_v hC hr hlocks hK hP hS h d_Model_moveTree_284
  · have h := h.2 q
    refine lv_aload_n hC.1 hC.2.1 d_Model_moveTree_234 rfl (lv_at hl 0 rfl) ?_
    refine gf_Model_45 hC hK hP hst d_Model_moveTree_235 ?_
    refine xi_const hC d_Model_moveTree_238 ?_
    refine lv_iload hC.1 hC.2.1 d_Model_moveTree_239 (lv_at hl 4 rfl) ?_
    refine xi_mul hC d_Model_moveTree_241 ?_
    refine xi_const hC d_Model_moveTree_242 ?_
    refine xi_add hC d_Model_moveTree_243 ?_
    obtain ⟨hi, h⟩ := h
    refine xg_ald hC hK hP aN_places (by decide) hi d_Model_moveTree_244 ?_
    refine lv_iload hC.1 hC.2.1 d_Model_moveTree_245 (lv_at hl 2 rfl) ?_
    obtain ⟨b0, h⟩ := h
    obtain ⟨b1, h⟩ := h
    refine xi_ceq hC (tgt := 265) d_Model_moveTree_247 (by decide) b0 b1 (fun q => ?_) (fun q => ?_)
    · have h := h.1 q
      exact s_Model_moveTree_265 hC hr hlocks hK hst hz ih _ _ _ _ _ _ _ _ h hP hS (lv_sub hl [0, 1, 2, 3, 4] rfl)
    · have h := h.2 q
      refine lv_aload_n hC.1 hC.2.1 d_Model_moveTree_250 rfl (lv_at hl 0 rfl) ?_
      refine gf_Model_45 hC hK hP hst d_Model_moveTree_251 ?_
      refine xi_const hC d_Model_moveTree_254 ?_
      refine lv_iload hC.1 hC.2.1 d_Model_moveTree_255 (lv_at hl 4 rfl) ?_
      refine xi_mul hC d_Model_moveTree_257 ?_
      refine xi_const hC d_Model_moveTree_258 ?_
      refine xi_add hC d_Model_moveTree_259 ?_
      obtain ⟨hi, h⟩ := h
      refine xg_ald hC hK hP aN_places (by decide) hi d_Model_moveTree_260 ?_
      refine lv_iload_n hC.1 hC.2.1 d_Model_moveTree_261 rfl (lv_at hl 1 rfl) ?_
      obtain ⟨b0, h⟩ := h
      obtain ⟨b1, h⟩ := h
      refine xi_cne hC (tgt := 278) d_Model_moveTree_262 (by decide) b0 b1 (fun q => ?_) (fun q => ?_)
      · have h := h.1 q
        obtain ⟨v6_1, ev6_1⟩ : ∃ y : Int, y = x6 + 1 := ⟨_, rfl⟩
        have h := h v6_1 ev6_1
        refine xi_iinc (v := v6_1) (lv' := [(6, iv v6_1), (0, .ref (b + 0)), (2, iv x2), (4, iv x4), (5, iv x5)]) hC d_Model_moveTree_278 hl (k := 4) rfl ev6_1 (by decide) rfl (fun ls hl => ?_)
        refine lv_goto (tgt := 225) hC.1 hC.2.1 d_Model_moveTree_281 (by decide) ?_
        exact ih _ _ _ _ _ _ _ _ h hP hS (lv_sub hl [1, 2, 3, 4, 0] rfl)
      · have h := h.2 q
        exact s_Model_moveTree_265 hC hr hlocks hK hst hz ih _ _ _ _ _ _ _ _ h hP hS (lv_sub hl [0, 1, 2, 3, 4] rfl)
set_option maxHeartbeats 4000000 in
theorem s_Model_moveTree_27 {p : Program} {l : Launch} {e : Env} {s : State} {m : MethodId} {args : Array Value} {below : List Frame} {meth : Method} {c : Code} {D : va_G} {g : Nat → ClassId} {b sz : Nat} (hC : Cx p m c b_Model_moveTree 7 s args "EdgeJoinsModel") (hr : meth.sig.returnType = none) (hlocks : meth.locks = false) (hK : va_K D classes (tyG g) s) (hst : sC (rA b 14 sz) s s.heap) (hz : sz ≤ s.heap.size) {Post : Mem → Prop} : ∀ (n : Nat) (x1 x2 x3 x4 : Int) (M0 : Mem) (H : Heap) (locs : List Loc) (ls : Array Slot), wp_Model_moveTree_27 Post n x1 x2 x3 x4 M0 → va_P D classes (wsG b 14 (cellN b g) M0) H → va_S (rA b 14 sz) s.heap H locs → lv_has ls 7 [(0, .ref (b + 0)), (1, iv x1), (2, iv x2), (3, iv x3), (4, iv x4)] → W p l e ({ frames := 1, cells := 0, slots := 0, locals := 23 }) s m args below meth c H locs 0 0 (MQ below (QV D g b 14 (cellN b g) sz Post) args s 0 0 (rA b 14 sz)) (F0 m 27 ls []) := by
  intro n
  induction n with
  | zero => intro x1 x2 x3 x4 M0 H locs ls h; exact h.elim
  | succ n ih =>
  intro x1 x2 x3 x4 M0 H locs ls h hP hS hl
  simp only [wp_Model_moveTree_27] at h
  refine lv_iload hC.1 hC.2.1 d_Model_moveTree_27 (lv_at hl 4 rfl) ?_
  refine lv_aload_n hC.1 hC.2.1 d_Model_moveTree_29 rfl (lv_at hl 0 rfl) ?_
  refine gf_Model_60 hC hK hP hst d_Model_moveTree_30 ?_
  obtain ⟨b0, h⟩ := h
  obtain ⟨b1, h⟩ := h
  refine xi_cge hC (tgt := 196) d_Model_moveTree_33 (by decide) b0 b1 (fun q => ?_) (fun q => ?_)
  · have h := h.1 q
    refine lv_aload_n hC.1 hC.2.1 d_Model_moveTree_196 rfl (lv_at hl 0 rfl) ?_
    refine gf_Model_45 hC hK hP hst d_Model_moveTree_197 ?_
    refine xi_const hC d_Model_moveTree_200 ?_
    refine lv_iload_n hC.1 hC.2.1 d_Model_moveTree_201 rfl (lv_at hl 1 rfl) ?_
    refine xi_mul hC d_Model_moveTree_202 ?_
    refine xi_const hC d_Model_moveTree_203 ?_
    refine xi_add hC d_Model_moveTree_204 ?_
    obtain ⟨hi, h⟩ := h
    refine xg_ald hC hK hP aN_places (by decide) hi d_Model_moveTree_205 ?_
    refine xi_top (fun v4_1 ev4_1 => ?_)
    have h := h v4_1 ev4_1
    refine lv_istore (lv' := [(4, iv v4_1), (0, .ref (b + 0)), (1, iv x1), (2, iv x2), (3, iv x3)]) hC.1 hC.2.1 d_Model_moveTree_206 hl (by decide) rfl (fun ls hl => ?_)
    refine lv_iload hC.1 hC.2.1 d_Model_moveTree_208 (lv_at hl 0 rfl) ?_
    refine lv_iload_n hC.1 hC.2.1 d_Model_moveTree_210 rfl (lv_at hl 3 rfl) ?_
    obtain ⟨b0, h⟩ := h
    obtain ⟨b1, h⟩ := h
    refine xi_cge hC (tgt := 219) d_Model_moveTree_211 (by decide) b0 b1 (fun q => ?_) (fun q => ?_)
    · have h := h.1 q
      refine lv_iload_n hC.1 hC.2.1 d_Model_moveTree_219 rfl (lv_at hl 3 rfl) ?_
      refine lv_istore (lv' := [(5, iv x2), (4, iv v4_1), (0, .ref (b + 0)), (1, iv x1), (2, iv x2), (3, iv x3)]) hC.1 hC.2.1 d_Model_moveTree_220 hl (by decide) rfl (fun ls hl => ?_)
      refine xi_const hC d_Model_moveTree_222 ?_
      refine lv_istore (lv' := [(6, iv 0), (5, iv x2), (4, iv v4_1), (0, .ref (b + 0)), (1, iv x1), (2, iv x2), (3, iv x3)]) hC.1 hC.2.1 d_Model_moveTree_223 hl (by decide) rfl (fun ls hl => ?_)
      obtain ⟨nn, h⟩ := h
      exact s_Model_moveTree_225 hC hr hlocks hK hst hz nn _ _ _ _ _ _ _ _ h hP hS (lv_sub hl [3, 5, 2, 1, 0] rfl)
    · have h := h.2 q
      refine lv_iload hC.1 hC.2.1 d_Model_moveTree_214 (lv_at hl 0 rfl) ?_
      refine lv_goto (tgt := 220) hC.1 hC.2.1 d_Model_moveTree_216 (by decide) ?_
      refine lv_istore (lv' := [(5, iv v4_1), (4, iv v4_1), (0, .ref (b + 0)), (1, iv x1), (2, iv x2), (3, iv x3)]) hC.1 hC.2.1 d_Model_moveTree_220 hl (by decide) rfl (fun ls hl => ?_)
      refine xi_const hC d_Model_moveTree_222 ?_
      refine lv_istore (lv' := [(6, iv 0), (5, iv v4_1), (4, iv v4_1), (0, .ref (b + 0)), (1, iv x1), (2, iv x2), (3, iv x3)]) hC.1 hC.2.1 d_Model_moveTree_223 hl (by decide) rfl (fun ls hl => ?_)
      obtain ⟨nn, h⟩ := h
      exact s_Model_moveTree_225 hC hr hlocks hK hst hz nn _ _ _ _ _ _ _ _ h hP hS (lv_sub hl [3, 5, 2, 1, 0] rfl)
  · have h := h.2 q
    refine lv_aload_n hC.1 hC.2.1 d_Model_moveTree_36 rfl (lv_at hl 0 rfl) ?_
    refine gf_Model_45 hC hK hP hst d_Model_moveTree_37 ?_
    refine xi_const hC d_Model_moveTree_40 ?_
    refine lv_iload hC.1 hC.2.1 d_Model_moveTree_41 (lv_at hl 4 rfl) ?_
    refine xi_mul hC d_Model_moveTree_43 ?_
    refine xi_const hC d_Model_moveTree_44 ?_
    refine xi_add hC d_Model_moveTree_45 ?_
    obtain ⟨hi, h⟩ := h
    refine xg_ald hC hK hP aN_places (by decide) hi d_Model_moveTree_46 ?_
    refine lv_aload_n hC.1 hC.2.1 d_Model_moveTree_47 rfl (lv_at hl 0 rfl) ?_
    refine gf_Model_45 hC hK hP hst d_Model_moveTree_48 ?_
    refine xi_const hC d_Model_moveTree_51 ?_
    refine lv_iload_n hC.1 hC.2.1 d_Model_moveTree_52 rfl (lv_at hl 1 rfl) ?_
    refine xi_mul hC d_Model_moveTree_53 ?_
    refine xi_const hC d_Model_moveTree_54 ?_
    refine xi_add hC d_Model_moveTree_55 ?_
    obtain ⟨hi, h⟩ := h
    refine xg_ald hC hK hP aN_places (by decide) hi d_Model_moveTree_56 ?_
    obtain ⟨b0, h⟩ := h
    obtain ⟨b1, h⟩ := h
    refine xi_ceq hC (tgt := 63) d_Model_moveTree_57 (by decide) b0 b1 (fun q => ?_) (fun q => ?_)
    · have h := h.1 q
      refine lv_aload_n hC.1 hC.2.1 d_Model_moveTree_63 rfl (lv_at hl 0 rfl) ?_
      refine lv_aload_n hC.1 hC.2.1 d_Model_moveTree_64 rfl (lv_at hl 0 rfl) ?_
      refine gf_Model_45 hC hK hP hst d_Model_moveTree_65 ?_
      refine xi_const hC d_Model_moveTree_68 ?_
      refine lv_iload hC.1 hC.2.1 d_Model_moveTree_69 (lv_at hl 4 rfl) ?_
      refine xi_mul hC d_Model_moveTree_71 ?_
      obtain ⟨hi, h⟩ := h
      refine xg_ald hC hK hP aN_places (by decide) hi d_Model_moveTree_72 ?_
      refine lv_aload_n hC.1 hC.2.1 d_Model_moveTree_73 rfl (lv_at hl 0 rfl) ?_
      refine gf_Model_45 hC hK hP hst d_Model_moveTree_74 ?_
      refine xi_const hC d_Model_moveTree_77 ?_
      refine lv_iload_n hC.1 hC.2.1 d_Model_moveTree_78 rfl (lv_at hl 1 rfl) ?_
      refine xi_mul hC d_Model_moveTree_79 ?_
      obtain ⟨hi, h⟩ := h
      refine xg_ald hC hK hP aN_places (by decide) hi d_Model_moveTree_80 ?_
      refine xi_sub hC d_Model_moveTree_81 ?_
      refine pf_Model_79 hC hK hP hS hst d_Model_moveTree_82 (fun H locs hP hS => ?_)
      obtain ⟨M_2, eM_2⟩ : ∃ y : Mem, y = up M0 0 19 ((M0 10 (4 * x4).toNat) - (M0 10 (4 * x1).toNat)) := ⟨_, rfl⟩
      rw [← eM_2] at hP
      have h := h M_2 eM_2
      refine lv_aload_n hC.1 hC.2.1 d_Model_moveTree_85 rfl (lv_at hl 0 rfl) ?_
      refine lv_aload_n hC.1 hC.2.1 d_Model_moveTree_86 rfl (lv_at hl 0 rfl) ?_
      refine gf_Model_45 hC hK hP hst d_Model_moveTree_87 ?_
      refine xi_const hC d_Model_moveTree_90 ?_
      refine lv_iload hC.1 hC.2.1 d_Model_moveTree_91 (lv_at hl 4 rfl) ?_
      refine xi_mul hC d_Model_moveTree_93 ?_
      refine xi_const hC d_Model_moveTree_94 ?_
      refine xi_add hC d_Model_moveTree_95 ?_
      obtain ⟨hi, h⟩ := h
      refine xg_ald hC hK hP aN_places (by decide) hi d_Model_moveTree_96 ?_
      refine lv_aload_n hC.1 hC.2.1 d_Model_moveTree_97 rfl (lv_at hl 0 rfl) ?_
      refine gf_Model_45 hC hK hP hst d_Model_moveTree_98 ?_
      refine xi_const hC d_Model_moveTree_101 ?_
      refine lv_iload_n hC.1 hC.2.1 d_Model_moveTree_102 rfl (lv_at hl 1 rfl) ?_
      refine xi_mul hC d_Model_moveTree_103 ?_
      refine xi_const hC d_Model_moveTree_104 ?_
      refine xi_add hC d_Model_moveTree_105 ?_
      obtain ⟨hi, h⟩ := h
      refine xg_ald hC hK hP aN_places (by decide) hi d_Model_moveTree_106 ?_
      refine xi_sub hC d_Model_moveTree_107 ?_
      refine pf_Model_82 hC hK hP hS hst d_Model_moveTree_108 (fun H locs hP hS => ?_)
      obtain ⟨M_3, eM_3⟩ : ∃ y : Mem, y = up M_2 0 20 ((M_2 10 ((4 * x4) + 1).toNat) - (M_2 10 ((4 * x1) + 1).toNat)) := ⟨_, rfl⟩
      rw [← eM_3] at hP
      have h := h M_3 eM_3
      refine lv_aload_n hC.1 hC.2.1 d_Model_moveTree_111 rfl (lv_at hl 0 rfl) ?_
      refine lv_iload_n hC.1 hC.2.1 d_Model_moveTree_112 rfl (lv_at hl 3 rfl) ?_
      refine xk_Vv (As := [iv x3]) (rest := []) hC hK hP hS hst hz hl.1 lk_Model_143 rfl rfl rfl ⟨Nat.le_of_ble_eq_true rfl, Nat.le_of_ble_eq_true rfl⟩ (rc_Model hK hP) (fun sz' => c_Model_turn l D g b sz' h) d_Model_moveTree_113 rfl (Nat.le_of_ble_eq_true rfl) ⟨Nat.le_of_ble_eq_true rfl, Nat.le_of_ble_eq_true rfl⟩ (fun M_5 H locs h hP hS => ?_)
      try dsimp only at h
      refine lv_aload_n hC.1 hC.2.1 d_Model_moveTree_116 rfl (lv_at hl 0 rfl) ?_
      refine gf_Model_51 hC hK hP hst d_Model_moveTree_117 ?_
      refine xi_const hC d_Model_moveTree_120 ?_
      refine lv_iload hC.1 hC.2.1 d_Model_moveTree_121 (lv_at hl 4 rfl) ?_
      refine xi_mul hC d_Model_moveTree_123 ?_
      refine lv_aload_n hC.1 hC.2.1 d_Model_moveTree_124 rfl (lv_at hl 0 rfl) ?_
      refine gf_Model_51 hC hK hP hst d_Model_moveTree_125 ?_
      refine xi_const hC d_Model_moveTree_128 ?_
      refine lv_iload_n hC.1 hC.2.1 d_Model_moveTree_129 rfl (lv_at hl 1 rfl) ?_
      refine xi_mul hC d_Model_moveTree_130 ?_
      obtain ⟨hi, h⟩ := h
      refine xg_ald hC hK hP aN_tried (by decide) hi d_Model_moveTree_131 ?_
      refine lv_aload_n hC.1 hC.2.1 d_Model_moveTree_132 rfl (lv_at hl 0 rfl) ?_
      refine gf_Model_79 hC hK hP hst d_Model_moveTree_133 ?_
      refine xi_add hC d_Model_moveTree_136 ?_
      obtain ⟨hi, h⟩ := h
      refine xg_ast hC hK hP hS aN_tried (by decide) hi d_Model_moveTree_137 (fun H locs hP hS => ?_)
      obtain ⟨M_6, eM_6⟩ : ∃ y : Mem, y = up M_5 12 (4 * x4).toNat ((M_5 12 (4 * x1).toNat) + (M_5 0 19)) := ⟨_, rfl⟩
      rw [← eM_6] at hP
      have h := h M_6 eM_6
      refine lv_aload_n hC.1 hC.2.1 d_Model_moveTree_138 rfl (lv_at hl 0 rfl) ?_
      refine gf_Model_51 hC hK hP hst d_Model_moveTree_139 ?_
      refine xi_const hC d_Model_moveTree_142 ?_
      refine lv_iload hC.1 hC.2.1 d_Model_moveTree_143 (lv_at hl 4 rfl) ?_
      refine xi_mul hC d_Model_moveTree_145 ?_
      refine xi_const hC d_Model_moveTree_146 ?_
      refine xi_add hC d_Model_moveTree_147 ?_
      refine lv_aload_n hC.1 hC.2.1 d_Model_moveTree_148 rfl (lv_at hl 0 rfl) ?_
      refine gf_Model_51 hC hK hP hst d_Model_moveTree_149 ?_
      refine xi_const hC d_Model_moveTree_152 ?_
      refine lv_iload_n hC.1 hC.2.1 d_Model_moveTree_153 rfl (lv_at hl 1 rfl) ?_
      refine xi_mul hC d_Model_moveTree_154 ?_
      refine xi_const hC d_Model_moveTree_155 ?_
      refine xi_add hC d_Model_moveTree_156 ?_
      obtain ⟨hi, h⟩ := h
      refine xg_ald hC hK hP aN_tried (by decide) hi d_Model_moveTree_157 ?_
      refine lv_aload_n hC.1 hC.2.1 d_Model_moveTree_158 rfl (lv_at hl 0 rfl) ?_
      refine gf_Model_82 hC hK hP hst d_Model_moveTree_159 ?_
      refine xi_add hC d_Model_moveTree_162 ?_
      obtain ⟨hi, h⟩ := h
      refine xg_ast hC hK hP hS aN_tried (by decide) hi d_Model_moveTree_163 (fun H locs hP hS => ?_)
      obtain ⟨M_7, eM_7⟩ : ∃ y : Mem, y = up M_6 12 ((4 * x4) + 1).toNat ((M_6 12 ((4 * x1) + 1).toNat) + (M_6 0 20)) := ⟨_, rfl⟩
      rw [← eM_7] at hP
      have h := h M_7 eM_7
      refine lv_aload_n hC.1 hC.2.1 d_Model_moveTree_164 rfl (lv_at hl 0 rfl) ?_
      refine gf_Model_51 hC hK hP hst d_Model_moveTree_165 ?_
      refine xi_const hC d_Model_moveTree_168 ?_
      refine lv_iload hC.1 hC.2.1 d_Model_moveTree_169 (lv_at hl 4 rfl) ?_
      refine xi_mul hC d_Model_moveTree_171 ?_
      refine xi_const hC d_Model_moveTree_172 ?_
      refine xi_add hC d_Model_moveTree_173 ?_
      refine lv_aload_n hC.1 hC.2.1 d_Model_moveTree_174 rfl (lv_at hl 0 rfl) ?_
      refine gf_Model_45 hC hK hP hst d_Model_moveTree_175 ?_
      refine xi_const hC d_Model_moveTree_178 ?_
      refine lv_iload hC.1 hC.2.1 d_Model_moveTree_179 (lv_at hl 4 rfl) ?_
      refine xi_mul hC d_Model_moveTree_181 ?_
      refine xi_const hC d_Model_moveTree_182 ?_
      refine xi_add hC d_Model_moveTree_183 ?_
      obtain ⟨hi, h⟩ := h
      refine xg_ald hC hK hP aN_places (by decide) hi d_Model_moveTree_184 ?_
      refine lv_iload_n hC.1 hC.2.1 d_Model_moveTree_185 rfl (lv_at hl 3 rfl) ?_
      refine xi_add hC d_Model_moveTree_186 ?_
      refine xi_const hC d_Model_moveTree_187 ?_
      refine xi_and3r hC d_Model_moveTree_188 ?_
      obtain ⟨hi, h⟩ := h
      refine xg_ast hC hK hP hS aN_tried (by decide) hi d_Model_moveTree_189 (fun H locs hP hS => ?_)
      obtain ⟨M_8, eM_8⟩ : ∃ y : Mem, y = up M_7 12 ((4 * x4) + 2).toNat (((M_7 10 ((4 * x4) + 2).toNat) + x3) % 4) := ⟨_, rfl⟩
      rw [← eM_8] at hP
      have h := h M_8 eM_8
      obtain ⟨v4_9, ev4_9⟩ : ∃ y : Int, y = x4 + 1 := ⟨_, rfl⟩
      have h := h v4_9 ev4_9
      refine xi_iinc (v := v4_9) (lv' := [(4, iv v4_9), (0, .ref (b + 0)), (1, iv x1), (2, iv x2), (3, iv x3)]) hC d_Model_moveTree_190 hl (k := 4) rfl ev4_9 (by decide) rfl (fun ls hl => ?_)
      refine lv_goto (tgt := 27) hC.1 hC.2.1 d_Model_moveTree_193 (by decide) ?_
      exact ih _ _ _ _ _ _ _ _ h hP hS (lv_sub hl [1, 2, 3, 4, 0] rfl)
    · have h := h.2 q
      refine lv_goto (tgt := 190) hC.1 hC.2.1 d_Model_moveTree_60 (by decide) ?_
      obtain ⟨v4_10, ev4_10⟩ : ∃ y : Int, y = x4 + 1 := ⟨_, rfl⟩
      have h := h v4_10 ev4_10
      refine xi_iinc (v := v4_10) (lv' := [(4, iv v4_10), (0, .ref (b + 0)), (1, iv x1), (2, iv x2), (3, iv x3)]) hC d_Model_moveTree_190 hl (k := 4) rfl ev4_10 (by decide) rfl (fun ls hl => ?_)
      refine lv_goto (tgt := 27) hC.1 hC.2.1 d_Model_moveTree_193 (by decide) ?_
      exact ih _ _ _ _ _ _ _ _ h hP hS (lv_sub hl [1, 2, 3, 4, 0] rfl)
set_option maxHeartbeats 4000000 in
theorem c_Model_moveTree (l : Launch) (D : va_G) (g : Nat → ClassId) (b sz : Nat) {x1 x2 : Int} {M0 : Mem} {Post : Mem → Prop} (h : wp_Model_moveTree x1 x2 M0 Post) : Met l y_Model_moveTree (Cond.code y_Model_moveTree b_Model_moveTree 7 (none) :: gd) ({ frames := 1, cells := 0, slots := 0, locals := 23 }) (PcG D g b 14 (cellN b g) sz M0 [.ref (b + 0), iv x1, iv x2]) (QV D g b 14 (cellN b g) sz Post) 0 0 (rA b 14 sz) := by
  refine xm_start (by decide) rfl (Nat.le_of_ble_eq_true rfl) ?_
  intro p e s m below meth c ls H args hC hr hlocks hK hP hst hz hS hH hl
  have hl : lv_has ls 7 [(0, .ref (b + 0)), (1, iv x1), (2, iv x2)] := hl
  unfold wp_Model_moveTree at h
  refine lv_aload_n hC.1 hC.2.1 d_Model_moveTree_0 rfl (lv_at hl 0 rfl) ?_
  refine gf_Model_51 hC hK hP hst d_Model_moveTree_1 ?_
  refine xi_const hC d_Model_moveTree_4 ?_
  refine lv_iload_n hC.1 hC.2.1 d_Model_moveTree_5 rfl (lv_at hl 1 rfl) ?_
  refine xi_mul hC d_Model_moveTree_6 ?_
  refine xi_const hC d_Model_moveTree_7 ?_
  refine xi_add hC d_Model_moveTree_8 ?_
  obtain ⟨hi, h⟩ := h
  refine xg_ald hC hK hP aN_tried (by decide) hi d_Model_moveTree_9 ?_
  refine lv_aload_n hC.1 hC.2.1 d_Model_moveTree_10 rfl (lv_at hl 0 rfl) ?_
  refine gf_Model_45 hC hK hP hst d_Model_moveTree_11 ?_
  refine xi_const hC d_Model_moveTree_14 ?_
  refine lv_iload_n hC.1 hC.2.1 d_Model_moveTree_15 rfl (lv_at hl 1 rfl) ?_
  refine xi_mul hC d_Model_moveTree_16 ?_
  refine xi_const hC d_Model_moveTree_17 ?_
  refine xi_add hC d_Model_moveTree_18 ?_
  obtain ⟨hi, h⟩ := h
  refine xg_ald hC hK hP aN_places (by decide) hi d_Model_moveTree_19 ?_
  refine xi_sub hC d_Model_moveTree_20 ?_
  refine xi_const hC d_Model_moveTree_21 ?_
  refine xi_and3r hC d_Model_moveTree_22 ?_
  refine xi_top (fun v3_1 ev3_1 => ?_)
  have h := h v3_1 ev3_1
  refine lv_istore_n (lv' := [(3, iv v3_1), (0, .ref (b + 0)), (1, iv x1), (2, iv x2)]) hC.1 hC.2.1 d_Model_moveTree_23 rfl hl (by decide) rfl (fun ls hl => ?_)
  refine xi_const hC d_Model_moveTree_24 ?_
  refine lv_istore (lv' := [(4, iv 0), (3, iv v3_1), (0, .ref (b + 0)), (1, iv x1), (2, iv x2)]) hC.1 hC.2.1 d_Model_moveTree_25 hl (by decide) rfl (fun ls hl => ?_)
  obtain ⟨nn, h⟩ := h
  exact s_Model_moveTree_27 hC hr hlocks hK hst hz nn _ _ _ _ _ _ _ _ h hP hS (lv_sub hl [2, 3, 4, 1, 0] rfl)
set_option maxHeartbeats 4000000 in
theorem s_Model_fits_15 {p : Program} {l : Launch} {e : Env} {s : State} {m : MethodId} {args : Array Value} {below : List Frame} {meth : Method} {c : Code} {D : va_G} {g : Nat → ClassId} {b sz : Nat} (hC : Cx p m c b_Model_fits 5 s args "EdgeJoinsModel") (hr : meth.sig.returnType = some .boolean) (hlocks : meth.locks = false) (hK : va_K D classes (tyG g) s) (hst : sC (rA b 14 sz) s s.heap) (hz : sz ≤ s.heap.size) {Post : Int → Mem → Prop} {X4 : Int → Int → Int → Mem → Prop} (hX4 : ∀ (x1 x2 x3 : Int) (M0 : Mem) (H : Heap) (locs : List Loc) (ls : Array Slot), X4 x1 x2 x3 M0 → va_P D classes (wsG b 14 (cellN b g) M0) H → va_S (rA b 14 sz) s.heap H locs → lv_has ls 5 [(0, .ref (b + 0)), (1, iv x1), (2, iv x2), (3, iv x3)] → W p l e ({ frames := 2, cells := 0, slots := 0, locals := 52 }) s m args below meth c H locs 0 0 (MQ below (QI D g b 14 (cellN b g) sz Post) args s 0 0 (rA b 14 sz)) (F0 m 4 ls [])) : ∀ (n : Nat) (x1 x2 x3 x4 : Int) (M0 : Mem) (H : Heap) (locs : List Loc) (ls : Array Slot), wp_Model_fits_15 X4 Post n x1 x2 x3 x4 M0 → va_P D classes (wsG b 14 (cellN b g) M0) H → va_S (rA b 14 sz) s.heap H locs → lv_has ls 5 [(0, .ref (b + 0)), (1, iv x1), (2, iv x2), (3, iv x3), (4, iv x4)] → W p l e ({ frames := 2, cells := 0, slots := 0, locals := 52 }) s m args below meth c H locs 0 0 (MQ below (QI D g b 14 (cellN b g) sz Post) args s 0 0 (rA b 14 sz)) (F0 m 15 ls []) := by
  intro n
  induction n with
  | zero => intro x1 x2 x3 x4 M0 H locs ls h; exact h.elim
  | succ n ih =>
  intro x1 x2 x3 x4 M0 H locs ls h hP hS hl
  simp only [wp_Model_fits_15] at h
  refine lv_iload hC.1 hC.2.1 d_Model_fits_15 (lv_at hl 4 rfl) ?_
  refine lv_iload_n hC.1 hC.2.1 d_Model_fits_17 rfl (lv_at hl 3 rfl) ?_
  obtain ⟨b0, h⟩ := h
  obtain ⟨b1, h⟩ := h
  refine xi_cge hC (tgt := 80) d_Model_fits_18 (by decide) b0 b1 (fun q => ?_) (fun q => ?_)
  · have h := h.1 q
    obtain ⟨v3_1, ev3_1⟩ : ∃ y : Int, y = x3 + 1 := ⟨_, rfl⟩
    have h := h v3_1 ev3_1
    refine xi_iinc (v := v3_1) (lv' := [(3, iv v3_1), (0, .ref (b + 0)), (1, iv x1), (2, iv x2), (4, iv x4)]) hC d_Model_fits_80 hl (k := 3) rfl ev3_1 (by decide) rfl (fun ls hl => ?_)
    refine lv_goto (tgt := 4) hC.1 hC.2.1 d_Model_fits_83 (by decide) ?_
    exact hX4 _ _ _ _ _ _ _ h hP hS (lv_sub hl [1, 2, 3, 0] rfl)
  · have h := h.2 q
    refine lv_iload_n hC.1 hC.2.1 d_Model_fits_21 rfl (lv_at hl 2 rfl) ?_
    obtain ⟨b0, h⟩ := h
    refine xi_ieq hC (tgt := 80) d_Model_fits_22 (by decide) b0 (fun q => ?_) (fun q => ?_)
    · have h := h.1 q
      obtain ⟨v3_2, ev3_2⟩ : ∃ y : Int, y = x3 + 1 := ⟨_, rfl⟩
      have h := h v3_2 ev3_2
      refine xi_iinc (v := v3_2) (lv' := [(3, iv v3_2), (0, .ref (b + 0)), (1, iv x1), (2, iv x2), (4, iv x4)]) hC d_Model_fits_80 hl (k := 3) rfl ev3_2 (by decide) rfl (fun ls hl => ?_)
      refine lv_goto (tgt := 4) hC.1 hC.2.1 d_Model_fits_83 (by decide) ?_
      exact hX4 _ _ _ _ _ _ _ h hP hS (lv_sub hl [1, 2, 3, 0] rfl)
    · have h := h.2 q
      refine lv_aload_n hC.1 hC.2.1 d_Model_fits_25 rfl (lv_at hl 0 rfl) ?_
      refine gf_Model_51 hC hK hP hst d_Model_fits_26 ?_
      refine xi_const hC d_Model_fits_29 ?_
      refine lv_iload_n hC.1 hC.2.1 d_Model_fits_30 rfl (lv_at hl 3 rfl) ?_
      refine xi_mul hC d_Model_fits_31 ?_
      refine xi_const hC d_Model_fits_32 ?_
      refine xi_add hC d_Model_fits_33 ?_
      obtain ⟨hi, h⟩ := h
      refine xg_ald hC hK hP aN_tried (by decide) hi d_Model_fits_34 ?_
      refine lv_iload_n hC.1 hC.2.1 d_Model_fits_35 rfl (lv_at hl 1 rfl) ?_
      obtain ⟨b0, h⟩ := h
      obtain ⟨b1, h⟩ := h
      refine xi_cne hC (tgt := 68) d_Model_fits_36 (by decide) b0 b1 (fun q => ?_) (fun q => ?_)
      · have h := h.1 q
        refine xi_const hC d_Model_fits_68 ?_
        refine lv_goto (tgt := 73) hC.1 hC.2.1 d_Model_fits_69 (by decide) ?_
        refine lv_istore_n (lv' := [(2, iv 1), (0, .ref (b + 0)), (1, iv x1), (3, iv x3), (4, iv x4)]) hC.1 hC.2.1 d_Model_fits_73 rfl hl (by decide) rfl (fun ls hl => ?_)
        obtain ⟨v4_3, ev4_3⟩ : ∃ y : Int, y = x4 + 1 := ⟨_, rfl⟩
        have h := h v4_3 ev4_3
        refine xi_iinc (v := v4_3) (lv' := [(4, iv v4_3), (2, iv 1), (0, .ref (b + 0)), (1, iv x1), (3, iv x3)]) hC d_Model_fits_74 hl (k := 4) rfl ev4_3 (by decide) rfl (fun ls hl => ?_)
        refine lv_goto (tgt := 15) hC.1 hC.2.1 d_Model_fits_77 (by decide) ?_
        exact ih _ _ _ _ _ _ _ _ h hP hS (lv_sub hl [2, 3, 1, 4, 0] rfl)
      · have h := h.2 q
        refine lv_aload_n hC.1 hC.2.1 d_Model_fits_39 rfl (lv_at hl 0 rfl) ?_
        refine gf_Model_51 hC hK hP hst d_Model_fits_40 ?_
        refine xi_const hC d_Model_fits_43 ?_
        refine lv_iload hC.1 hC.2.1 d_Model_fits_44 (lv_at hl 4 rfl) ?_
        refine xi_mul hC d_Model_fits_46 ?_
        refine xi_const hC d_Model_fits_47 ?_
        refine xi_add hC d_Model_fits_48 ?_
        obtain ⟨hi, h⟩ := h
        refine xg_ald hC hK hP aN_tried (by decide) hi d_Model_fits_49 ?_
        refine lv_iload_n hC.1 hC.2.1 d_Model_fits_50 rfl (lv_at hl 1 rfl) ?_
        obtain ⟨b0, h⟩ := h
        obtain ⟨b1, h⟩ := h
        refine xi_cne hC (tgt := 68) d_Model_fits_51 (by decide) b0 b1 (fun q => ?_) (fun q => ?_)
        · have h := h.1 q
          refine xi_const hC d_Model_fits_68 ?_
          refine lv_goto (tgt := 73) hC.1 hC.2.1 d_Model_fits_69 (by decide) ?_
          refine lv_istore_n (lv' := [(2, iv 1), (0, .ref (b + 0)), (1, iv x1), (3, iv x3), (4, iv x4)]) hC.1 hC.2.1 d_Model_fits_73 rfl hl (by decide) rfl (fun ls hl => ?_)
          obtain ⟨v4_4, ev4_4⟩ : ∃ y : Int, y = x4 + 1 := ⟨_, rfl⟩
          have h := h v4_4 ev4_4
          refine xi_iinc (v := v4_4) (lv' := [(4, iv v4_4), (2, iv 1), (0, .ref (b + 0)), (1, iv x1), (3, iv x3)]) hC d_Model_fits_74 hl (k := 4) rfl ev4_4 (by decide) rfl (fun ls hl => ?_)
          refine lv_goto (tgt := 15) hC.1 hC.2.1 d_Model_fits_77 (by decide) ?_
          exact ih _ _ _ _ _ _ _ _ h hP hS (lv_sub hl [2, 3, 1, 4, 0] rfl)
        · have h := h.2 q
          refine lv_aload_n hC.1 hC.2.1 d_Model_fits_54 rfl (lv_at hl 0 rfl) ?_
          refine lv_aload_n hC.1 hC.2.1 d_Model_fits_55 rfl (lv_at hl 0 rfl) ?_
          refine gf_Model_51 hC hK hP hst d_Model_fits_56 ?_
          refine lv_iload_n hC.1 hC.2.1 d_Model_fits_59 rfl (lv_at hl 3 rfl) ?_
          refine lv_iload hC.1 hC.2.1 d_Model_fits_60 (lv_at hl 4 rfl) ?_
          refine xk_Vi (As := [.ref (b + 12), iv x3, iv x4]) (rest := []) hC hK hP hS hst hz hl.1 lk_Model_147 rfl rfl rfl ⟨Nat.le_of_ble_eq_true rfl, Nat.le_of_ble_eq_true rfl⟩ (rc_Model hK hP) (fun sz' => c_Model_overlap l D g b sz' aN_tried h) d_Model_fits_62 rfl (Nat.le_of_ble_eq_true rfl) ⟨Nat.le_of_ble_eq_true rfl, Nat.le_of_ble_eq_true rfl⟩ (fun r_5 M_6 H locs h hP hS => ?_)
          try dsimp only at h
          obtain ⟨b0, h⟩ := h
          refine xi_ine hC (tgt := 72) d_Model_fits_65 (by decide) b0 (fun q => ?_) (fun q => ?_)
          · have h := h.1 q
            refine xi_const hC d_Model_fits_72 ?_
            refine lv_istore_n (lv' := [(2, iv 0), (0, .ref (b + 0)), (1, iv x1), (3, iv x3), (4, iv x4)]) hC.1 hC.2.1 d_Model_fits_73 rfl hl (by decide) rfl (fun ls hl => ?_)
            obtain ⟨v4_7, ev4_7⟩ : ∃ y : Int, y = x4 + 1 := ⟨_, rfl⟩
            have h := h v4_7 ev4_7
            refine xi_iinc (v := v4_7) (lv' := [(4, iv v4_7), (2, iv 0), (0, .ref (b + 0)), (1, iv x1), (3, iv x3)]) hC d_Model_fits_74 hl (k := 4) rfl ev4_7 (by decide) rfl (fun ls hl => ?_)
            refine lv_goto (tgt := 15) hC.1 hC.2.1 d_Model_fits_77 (by decide) ?_
            exact ih _ _ _ _ _ _ _ _ h hP hS (lv_sub hl [2, 3, 1, 4, 0] rfl)
          · have h := h.2 q
            refine xi_const hC d_Model_fits_68 ?_
            refine lv_goto (tgt := 73) hC.1 hC.2.1 d_Model_fits_69 (by decide) ?_
            refine lv_istore_n (lv' := [(2, iv 1), (0, .ref (b + 0)), (1, iv x1), (3, iv x3), (4, iv x4)]) hC.1 hC.2.1 d_Model_fits_73 rfl hl (by decide) rfl (fun ls hl => ?_)
            obtain ⟨v4_8, ev4_8⟩ : ∃ y : Int, y = x4 + 1 := ⟨_, rfl⟩
            have h := h v4_8 ev4_8
            refine xi_iinc (v := v4_8) (lv' := [(4, iv v4_8), (2, iv 1), (0, .ref (b + 0)), (1, iv x1), (3, iv x3)]) hC d_Model_fits_74 hl (k := 4) rfl ev4_8 (by decide) rfl (fun ls hl => ?_)
            refine lv_goto (tgt := 15) hC.1 hC.2.1 d_Model_fits_77 (by decide) ?_
            exact ih _ _ _ _ _ _ _ _ h hP hS (lv_sub hl [2, 3, 1, 4, 0] rfl)
set_option maxHeartbeats 4000000 in
theorem s_Model_fits_4 {p : Program} {l : Launch} {e : Env} {s : State} {m : MethodId} {args : Array Value} {below : List Frame} {meth : Method} {c : Code} {D : va_G} {g : Nat → ClassId} {b sz : Nat} (hC : Cx p m c b_Model_fits 5 s args "EdgeJoinsModel") (hr : meth.sig.returnType = some .boolean) (hlocks : meth.locks = false) (hK : va_K D classes (tyG g) s) (hst : sC (rA b 14 sz) s s.heap) (hz : sz ≤ s.heap.size) {Post : Int → Mem → Prop} : ∀ (n : Nat) (x1 x2 x3 : Int) (M0 : Mem) (H : Heap) (locs : List Loc) (ls : Array Slot), wp_Model_fits_4 Post n x1 x2 x3 M0 → va_P D classes (wsG b 14 (cellN b g) M0) H → va_S (rA b 14 sz) s.heap H locs → lv_has ls 5 [(0, .ref (b + 0)), (1, iv x1), (2, iv x2), (3, iv x3)] → W p l e ({ frames := 2, cells := 0, slots := 0, locals := 52 }) s m args below meth c H locs 0 0 (MQ below (QI D g b 14 (cellN b g) sz Post) args s 0 0 (rA b 14 sz)) (F0 m 4 ls []) := by
  intro n
  induction n with
  | zero => intro x1 x2 x3 M0 H locs ls h; exact h.elim
  | succ n ih =>
  intro x1 x2 x3 M0 H locs ls h hP hS hl
  simp only [wp_Model_fits_4] at h
  refine lv_iload_n hC.1 hC.2.1 d_Model_fits_4 rfl (lv_at hl 3 rfl) ?_
  refine lv_aload_n hC.1 hC.2.1 d_Model_fits_5 rfl (lv_at hl 0 rfl) ?_
  refine gf_Model_60 hC hK hP hst d_Model_fits_6 ?_
  obtain ⟨b0, h⟩ := h
  obtain ⟨b1, h⟩ := h
  refine xi_cge hC (tgt := 86) d_Model_fits_9 (by decide) b0 b1 (fun q => ?_) (fun q => ?_)
  · have h := h.1 q
    refine lv_iload_n hC.1 hC.2.1 d_Model_fits_86 rfl (lv_at hl 2 rfl) ?_
    exact xr_z hC hr hlocks hK hP hS h.1 h.2 d_Model_fits_87
  · have h := h.2 q
    refine xi_const hC d_Model_fits_12 ?_
    refine lv_istore (lv' := [(4, iv 0), (0, .ref (b + 0)), (1, iv x1), (2, iv x2), (3, iv x3)]) hC.1 hC.2.1 d_Model_fits_13 hl (by decide) rfl (fun ls hl => ?_)
    obtain ⟨nn, h⟩ := h
    exact s_Model_fits_15 hC hr hlocks hK hst hz ih nn _ _ _ _ _ _ _ _ h hP hS (lv_sub hl [1, 2, 3, 4, 0] rfl)
set_option maxHeartbeats 4000000 in
theorem c_Model_fits (l : Launch) (D : va_G) (g : Nat → ClassId) (b sz : Nat) {x1 : Int} {M0 : Mem} {Post : Int → Mem → Prop} (h : wp_Model_fits x1 M0 Post) : Met l y_Model_fits (Cond.code y_Model_fits b_Model_fits 5 (some .boolean) :: gd) ({ frames := 2, cells := 0, slots := 0, locals := 52 }) (PcG D g b 14 (cellN b g) sz M0 [.ref (b + 0), iv x1]) (QI D g b 14 (cellN b g) sz Post) 0 0 (rA b 14 sz) := by
  refine xm_start (by decide) rfl (Nat.le_of_ble_eq_true rfl) ?_
  intro p e s m below meth c ls H args hC hr hlocks hK hP hst hz hS hH hl
  have hl : lv_has ls 5 [(0, .ref (b + 0)), (1, iv x1)] := hl
  unfold wp_Model_fits at h
  refine xi_const hC d_Model_fits_0 ?_
  refine lv_istore_n (lv' := [(2, iv 1), (0, .ref (b + 0)), (1, iv x1)]) hC.1 hC.2.1 d_Model_fits_1 rfl hl (by decide) rfl (fun ls hl => ?_)
  refine xi_const hC d_Model_fits_2 ?_
  refine lv_istore_n (lv' := [(3, iv 0), (2, iv 1), (0, .ref (b + 0)), (1, iv x1)]) hC.1 hC.2.1 d_Model_fits_3 rfl hl (by decide) rfl (fun ls hl => ?_)
  obtain ⟨nn, h⟩ := h
  exact s_Model_fits_4 hC hr hlocks hK hst hz nn _ _ _ _ _ _ _ h hP hS (lv_sub hl [2, 3, 1, 0] rfl)
