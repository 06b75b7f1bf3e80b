set_option maxHeartbeats 4000000 in
theorem s_Model_join_215 {p : Program} {l : Launch} {e : Env} {s : State} {m : MethodId} {args : Array Value} {below : List Frame} {meth : Method} {c : Code} {D : va_G} {g : Nat → ClassId} {b sz : Nat} (hC : Cx p m c b_Model_join 5 s args "EdgeJoinsModel") (hr : meth.sig.returnType = some .int) (hlocks : meth.locks = false) (hK : va_K D classes (tyG g) s) (hst : sC (rA b 14 sz) s s.heap) (hz : sz ≤ s.heap.size) {Post : Int → Mem → Prop} : ∀ (n : Nat) (x4 : Int) (M0 : Mem) (H : Heap) (locs : List Loc) (ls : Array Slot), wp_Model_join_215 Post n x4 M0 → va_P D classes (wsG b 14 (cellN b g) M0) H → va_S (rA b 14 sz) s.heap H locs → lv_has ls 5 [(0, .ref (b + 0)), (4, iv x4)] → W p l e ({ frames := 3, cells := 0, slots := 0, locals := 76 }) s m args below meth c H locs 0 0 (MQ below (QI D g b 14 (cellN b g) sz Post) args s 0 0 (rA b 14 sz)) (F0 m 215 ls []) := by
  intro n
  induction n with
  | zero => intro x4 M0 H locs ls h; exact h.elim
  | succ n ih =>
  intro x4 M0 H locs ls h hP hS hl
  simp only [wp_Model_join_215] at h
  refine lv_iload hC.1 hC.2.1 d_Model_join_215 (lv_at hl 1 rfl) ?_
  refine xi_bipush hC d_Model_join_217 (by decide) ?_
  obtain ⟨b0, h⟩ := h
  refine xi_cge hC (tgt := 264) d_Model_join_219 (by decide) b0 (xl rfl) (fun q => ?_) (fun q => ?_)
  · have h := h.1 q
    refine lv_aload_n hC.1 hC.2.1 d_Model_join_264 rfl (lv_at hl 0 rfl) ?_
    refine lv_dup hC.1 hC.2.1 d_Model_join_265 rfl ?_
    refine gf_Model_160 hC hK hP hst d_Model_join_266 ?_
    refine xi_const hC d_Model_join_269 ?_
    refine xi_add hC d_Model_join_270 ?_
    refine pf_Model_160 hC hK hP hS hst d_Model_join_271 (fun H locs hP hS => ?_)
    obtain ⟨M_1, eM_1⟩ : ∃ y : Mem, y = up M0 0 17 ((M0 0 17) + 1) := ⟨_, rfl⟩
    rw [← eM_1] at hP
    have h := h M_1 eM_1
    refine xi_const hC d_Model_join_274 ?_
    exact xr_i hC hr hlocks hK hP hS h d_Model_join_275
  · have h := h.2 q
    refine lv_aload_n hC.1 hC.2.1 d_Model_join_222 rfl (lv_at hl 0 rfl) ?_
    refine gf_Model_48 hC hK hP hst d_Model_join_223 ?_
    refine xi_bipush hC d_Model_join_226 (by decide) ?_
    refine lv_aload_n hC.1 hC.2.1 d_Model_join_228 rfl (lv_at hl 0 rfl) ?_
    refine gf_Model_160 hC hK hP hst d_Model_join_229 ?_
    refine xi_mul hC d_Model_join_232 ?_
    refine lv_iload hC.1 hC.2.1 d_Model_join_233 (lv_at hl 1 rfl) ?_
    refine xi_add hC d_Model_join_235 ?_
    refine lv_aload_n hC.1 hC.2.1 d_Model_join_236 rfl (lv_at hl 0 rfl) ?_
    refine gf_Model_45 hC hK hP hst d_Model_join_237 ?_
    refine lv_iload hC.1 hC.2.1 d_Model_join_240 (lv_at hl 1 rfl) ?_
    obtain ⟨hi, h⟩ := h
    refine xg_ald hC hK hP aN_places (by decide) hi d_Model_join_242 ?_
    obtain ⟨hi, h⟩ := h
    refine xg_ast hC hK hP hS aN_before (by decide) hi d_Model_join_243 (fun H locs hP hS => ?_)
    obtain ⟨M_2, eM_2⟩ : ∃ y : Mem, y = up M0 11 ((24 * (M0 0 17)) + x4).toNat (M0 10 x4.toNat) := ⟨_, rfl⟩
    rw [← eM_2] at hP
    have h := h M_2 eM_2
    refine lv_aload_n hC.1 hC.2.1 d_Model_join_244 rfl (lv_at hl 0 rfl) ?_
    refine gf_Model_45 hC hK hP hst d_Model_join_245 ?_
    refine lv_iload hC.1 hC.2.1 d_Model_join_248 (lv_at hl 1 rfl) ?_
    refine lv_aload_n hC.1 hC.2.1 d_Model_join_250 rfl (lv_at hl 0 rfl) ?_
    refine gf_Model_51 hC hK hP hst d_Model_join_251 ?_
    refine lv_iload hC.1 hC.2.1 d_Model_join_254 (lv_at hl 1 rfl) ?_
    obtain ⟨hi, h⟩ := h
    refine xg_ald hC hK hP aN_tried (by decide) hi d_Model_join_256 ?_
    obtain ⟨hi, h⟩ := h
    refine xg_ast hC hK hP hS aN_places (by decide) hi d_Model_join_257 (fun H locs hP hS => ?_)
    obtain ⟨M_3, eM_3⟩ : ∃ y : Mem, y = up M_2 10 x4.toNat (M_2 12 x4.toNat) := ⟨_, rfl⟩
    rw [← eM_3] at hP
    have h := h M_3 eM_3
    obtain ⟨v4_4, ev4_4⟩ : ∃ y : Int, y = x4 + 1 := ⟨_, rfl⟩
    have h := h v4_4 ev4_4
    refine xi_iinc (v := v4_4) (lv' := [(4, iv v4_4), (0, .ref (b + 0))]) hC d_Model_join_258 hl (k := 1) rfl ev4_4 (by decide) rfl (fun ls hl => ?_)
    refine lv_goto (tgt := 215) hC.1 hC.2.1 d_Model_join_261 (by decide) ?_
    exact ih _ _ _ _ _ h hP hS (lv_sub hl [1, 0] rfl)
set_option maxHeartbeats 4000000 in
theorem s_Model_join_49 {p : Program} {l : Launch} {e : Env} {s : State} {m : MethodId} {args : Array Value} {below : List Frame} {meth : Method} {c : Code} {D : va_G} {g : Nat → ClassId} {b sz : Nat} (hC : Cx p m c b_Model_join 5 s args "EdgeJoinsModel") (hr : meth.sig.returnType = some .int) (hlocks : meth.locks = false) (hK : va_K D classes (tyG g) s) (hst : sC (rA b 14 sz) s s.heap) (hz : sz ≤ s.heap.size) {Post : Int → Mem → Prop} : ∀ (n : Nat) (x1 x2 x3 x4 : Int) (M0 : Mem) (H : Heap) (locs : List Loc) (ls : Array Slot), wp_Model_join_49 Post n x1 x2 x3 x4 M0 → va_P D classes (wsG b 14 (cellN b g) M0) H → va_S (rA b 14 sz) s.heap H locs → lv_has ls 5 [(0, .ref (b + 0)), (1, iv x1), (2, iv x2), (3, iv x3), (4, iv x4)] → W p l e ({ frames := 3, cells := 0, slots := 0, locals := 76 }) s m args below meth c H locs 0 0 (MQ below (QI D g b 14 (cellN b g) sz Post) args s 0 0 (rA b 14 sz)) (F0 m 49 ls []) := by
  intro n
  induction n with
  | zero => intro x1 x2 x3 x4 M0 H locs ls h; exact h.elim
  | succ n ih =>
  intro x1 x2 x3 x4 M0 H locs ls h hP hS hl
  simp only [wp_Model_join_49] at h
  refine lv_iload hC.1 hC.2.1 d_Model_join_49 (lv_at hl 4 rfl) ?_
  refine xi_bipush hC d_Model_join_51 (by decide) ?_
  obtain ⟨b0, h⟩ := h
  refine xi_cge hC (tgt := 76) d_Model_join_53 (by decide) b0 (xl rfl) (fun q => ?_) (fun q => ?_)
  · have h := h.1 q
    refine lv_aload_n hC.1 hC.2.1 d_Model_join_76 rfl (lv_at hl 0 rfl) ?_
    refine xi_bipush hC d_Model_join_77 (by decide) ?_
    refine lv_iload_n hC.1 hC.2.1 d_Model_join_79 rfl (lv_at hl 1 rfl) ?_
    refine xi_mul hC d_Model_join_80 ?_
    refine xk_Vv (As := [iv (6 * x1)]) (rest := []) hC hK hP hS hst hz hl.1 lk_Model_151 rfl rfl rfl ⟨Nat.le_of_ble_eq_true rfl, Nat.le_of_ble_eq_true rfl⟩ (rc_Model hK hP) (fun sz' => c_Model_aim l D g b sz' h) d_Model_join_81 rfl (Nat.le_of_ble_eq_true rfl) ⟨Nat.le_of_ble_eq_true rfl, Nat.le_of_ble_eq_true rfl⟩ (fun M_2 H locs h hP hS => ?_)
    try dsimp only at h
    refine lv_aload_n hC.1 hC.2.1 d_Model_join_84 rfl (lv_at hl 0 rfl) ?_
    refine gf_Model_45 hC hK hP hst d_Model_join_85 ?_
    refine xi_const hC d_Model_join_88 ?_
    refine lv_iload_n hC.1 hC.2.1 d_Model_join_89 rfl (lv_at hl 2 rfl) ?_
    refine xi_mul hC d_Model_join_90 ?_
    refine xi_const hC d_Model_join_91 ?_
    refine xi_add hC d_Model_join_92 ?_
    obtain ⟨hi, h⟩ := h
    refine xg_ald hC hK hP aN_places (by decide) hi d_Model_join_93 ?_
    refine lv_aload_n hC.1 hC.2.1 d_Model_join_94 rfl (lv_at hl 0 rfl) ?_
    refine gf_Model_45 hC hK hP hst d_Model_join_95 ?_
    refine xi_const hC d_Model_join_98 ?_
    refine lv_iload_n hC.1 hC.2.1 d_Model_join_99 rfl (lv_at hl 3 rfl) ?_
    refine xi_mul hC d_Model_join_100 ?_
    refine xi_const hC d_Model_join_101 ?_
    refine xi_add hC d_Model_join_102 ?_
    obtain ⟨hi, h⟩ := h
    refine xg_ald hC hK hP aN_places (by decide) hi d_Model_join_103 ?_
    obtain ⟨b0, h⟩ := h
    obtain ⟨b1, h⟩ := h
    refine xi_cne hC (tgt := 178) d_Model_join_104 (by decide) b0 b1 (fun q => ?_) (fun q => ?_)
    · have h := h.1 q
      refine lv_aload_n hC.1 hC.2.1 d_Model_join_178 rfl (lv_at hl 0 rfl) ?_
      refine lv_iload_n hC.1 hC.2.1 d_Model_join_179 rfl (lv_at hl 3 rfl) ?_
      refine lv_aload_n hC.1 hC.2.1 d_Model_join_180 rfl (lv_at hl 0 rfl) ?_
      refine gf_Model_45 hC hK hP hst d_Model_join_181 ?_
      refine xi_const hC d_Model_join_184 ?_
      refine lv_iload_n hC.1 hC.2.1 d_Model_join_185 rfl (lv_at hl 2 rfl) ?_
      refine xi_mul hC d_Model_join_186 ?_
      refine xi_const hC d_Model_join_187 ?_
      refine xi_add hC d_Model_join_188 ?_
      obtain ⟨hi, h⟩ := h
      refine xg_ald hC hK hP aN_places (by decide) hi d_Model_join_189 ?_
      refine xk_Vv (As := [iv x3, iv (M_2 10 ((4 * x2) + 3).toNat)]) (rest := []) hC hK hP hS hst hz hl.1 lk_Model_154 rfl rfl rfl ⟨Nat.le_of_ble_eq_true rfl, Nat.le_of_ble_eq_true rfl⟩ (rc_Model hK hP) (fun sz' => c_Model_moveTree l D g b sz' h) d_Model_join_190 rfl (Nat.le_of_ble_eq_true rfl) ⟨Nat.le_of_ble_eq_true rfl, Nat.le_of_ble_eq_true rfl⟩ (fun M_4 H locs h hP hS => ?_)
      try dsimp only at h
      refine lv_aload_n hC.1 hC.2.1 d_Model_join_193 rfl (lv_at hl 0 rfl) ?_
      refine lv_aload_n hC.1 hC.2.1 d_Model_join_194 rfl (lv_at hl 0 rfl) ?_
      refine gf_Model_51 hC hK hP hst d_Model_join_195 ?_
      refine xi_const hC d_Model_join_198 ?_
      refine lv_iload_n hC.1 hC.2.1 d_Model_join_199 rfl (lv_at hl 3 rfl) ?_
      refine xi_mul hC d_Model_join_200 ?_
      refine xi_const hC d_Model_join_201 ?_
      refine xi_add hC d_Model_join_202 ?_
      obtain ⟨hi, h⟩ := h
      refine xg_ald hC hK hP aN_tried (by decide) hi d_Model_join_203 ?_
      refine xk_Vi (As := [iv (M_4 12 ((4 * x3) + 3).toNat)]) (rest := []) hC hK hP hS hst hz hl.1 lk_Model_157 rfl rfl rfl ⟨Nat.le_of_ble_eq_true rfl, Nat.le_of_ble_eq_true rfl⟩ (rc_Model hK hP) (fun sz' => c_Model_fits l D g b sz' h) d_Model_join_204 rfl (Nat.le_of_ble_eq_true rfl) ⟨Nat.le_of_ble_eq_true rfl, Nat.le_of_ble_eq_true rfl⟩ (fun r_5 M_6 H locs h hP hS => ?_)
      try dsimp only at h
      obtain ⟨b0, h⟩ := h
      refine xi_ine hC (tgt := 212) d_Model_join_207 (by decide) b0 (fun q => ?_) (fun q => ?_)
      · have h := h.1 q
        refine xi_const hC d_Model_join_212 ?_
        refine lv_istore (lv' := [(4, iv 0), (0, .ref (b + 0)), (1, iv x1), (2, iv x2), (3, iv x3)]) hC.1 hC.2.1 d_Model_join_213 hl (by decide) rfl (fun ls hl => ?_)
        obtain ⟨nn, h⟩ := h
        exact s_Model_join_215 hC hr hlocks hK hst hz nn _ _ _ _ _ h hP hS (lv_sub hl [1, 0] rfl)
      · have h := h.2 q
        refine xi_const hC d_Model_join_210 ?_
        exact xr_i hC hr hlocks hK hP hS h d_Model_join_211
    · have h := h.2 q
      refine lv_aload_n hC.1 hC.2.1 d_Model_join_107 rfl (lv_at hl 0 rfl) ?_
      refine gf_Model_51 hC hK hP hst d_Model_join_108 ?_
      refine xi_const hC d_Model_join_111 ?_
      refine lv_iload_n hC.1 hC.2.1 d_Model_join_112 rfl (lv_at hl 3 rfl) ?_
      refine xi_mul hC d_Model_join_113 ?_
      obtain ⟨hi, h⟩ := h
      refine xg_ald hC hK hP aN_tried (by decide) hi d_Model_join_114 ?_
      refine lv_aload_n hC.1 hC.2.1 d_Model_join_115 rfl (lv_at hl 0 rfl) ?_
      refine gf_Model_45 hC hK hP hst d_Model_join_116 ?_
      refine xi_const hC d_Model_join_119 ?_
      refine lv_iload_n hC.1 hC.2.1 d_Model_join_120 rfl (lv_at hl 3 rfl) ?_
      refine xi_mul hC d_Model_join_121 ?_
      obtain ⟨hi, h⟩ := h
      refine xg_ald hC hK hP aN_places (by decide) hi d_Model_join_122 ?_
      obtain ⟨b0, h⟩ := h
      obtain ⟨b1, h⟩ := h
      refine xi_cne hC (tgt := 176) d_Model_join_123 (by decide) b0 b1 (fun q => ?_) (fun q => ?_)
      · have h := h.1 q
        refine xi_const hC d_Model_join_176 ?_
        exact xr_i hC hr hlocks hK hP hS h d_Model_join_177
      · have h := h.2 q
        refine lv_aload_n hC.1 hC.2.1 d_Model_join_126 rfl (lv_at hl 0 rfl) ?_
        refine gf_Model_51 hC hK hP hst d_Model_join_127 ?_
        refine xi_const hC d_Model_join_130 ?_
        refine lv_iload_n hC.1 hC.2.1 d_Model_join_131 rfl (lv_at hl 3 rfl) ?_
        refine xi_mul hC d_Model_join_132 ?_
        refine xi_const hC d_Model_join_133 ?_
        refine xi_add hC d_Model_join_134 ?_
        obtain ⟨hi, h⟩ := h
        refine xg_ald hC hK hP aN_tried (by decide) hi d_Model_join_135 ?_
        refine lv_aload_n hC.1 hC.2.1 d_Model_join_136 rfl (lv_at hl 0 rfl) ?_
        refine gf_Model_45 hC hK hP hst d_Model_join_137 ?_
        refine xi_const hC d_Model_join_140 ?_
        refine lv_iload_n hC.1 hC.2.1 d_Model_join_141 rfl (lv_at hl 3 rfl) ?_
        refine xi_mul hC d_Model_join_142 ?_
        refine xi_const hC d_Model_join_143 ?_
        refine xi_add hC d_Model_join_144 ?_
        obtain ⟨hi, h⟩ := h
        refine xg_ald hC hK hP aN_places (by decide) hi d_Model_join_145 ?_
        obtain ⟨b0, h⟩ := h
        obtain ⟨b1, h⟩ := h
        refine xi_cne hC (tgt := 176) d_Model_join_146 (by decide) b0 b1 (fun q => ?_) (fun q => ?_)
        · have h := h.1 q
          refine xi_const hC d_Model_join_176 ?_
          exact xr_i hC hr hlocks hK hP hS h d_Model_join_177
        · have h := h.2 q
          refine lv_aload_n hC.1 hC.2.1 d_Model_join_149 rfl (lv_at hl 0 rfl) ?_
          refine gf_Model_51 hC hK hP hst d_Model_join_150 ?_
          refine xi_const hC d_Model_join_153 ?_
          refine lv_iload_n hC.1 hC.2.1 d_Model_join_154 rfl (lv_at hl 3 rfl) ?_
          refine xi_mul hC d_Model_join_155 ?_
          refine xi_const hC d_Model_join_156 ?_
          refine xi_add hC d_Model_join_157 ?_
          obtain ⟨hi, h⟩ := h
          refine xg_ald hC hK hP aN_tried (by decide) hi d_Model_join_158 ?_
          refine lv_aload_n hC.1 hC.2.1 d_Model_join_159 rfl (lv_at hl 0 rfl) ?_
          refine gf_Model_45 hC hK hP hst d_Model_join_160 ?_
          refine xi_const hC d_Model_join_163 ?_
          refine lv_iload_n hC.1 hC.2.1 d_Model_join_164 rfl (lv_at hl 3 rfl) ?_
          refine xi_mul hC d_Model_join_165 ?_
          refine xi_const hC d_Model_join_166 ?_
          refine xi_add hC d_Model_join_167 ?_
          obtain ⟨hi, h⟩ := h
          refine xg_ald hC hK hP aN_places (by decide) hi d_Model_join_168 ?_
          obtain ⟨b0, h⟩ := h
          obtain ⟨b1, h⟩ := h
          refine xi_cne hC (tgt := 176) d_Model_join_169 (by decide) b0 b1 (fun q => ?_) (fun q => ?_)
          · have h := h.1 q
            refine xi_const hC d_Model_join_176 ?_
            exact xr_i hC hr hlocks hK hP hS h d_Model_join_177
          · have h := h.2 q
            refine xi_const hC d_Model_join_172 ?_
            refine lv_goto (tgt := 177) hC.1 hC.2.1 d_Model_join_173 (by decide) ?_
            exact xr_i hC hr hlocks hK hP hS h d_Model_join_177
  · have h := h.2 q
    refine lv_aload_n hC.1 hC.2.1 d_Model_join_56 rfl (lv_at hl 0 rfl) ?_
    refine gf_Model_51 hC hK hP hst d_Model_join_57 ?_
    refine lv_iload hC.1 hC.2.1 d_Model_join_60 (lv_at hl 4 rfl) ?_
    refine lv_aload_n hC.1 hC.2.1 d_Model_join_62 rfl (lv_at hl 0 rfl) ?_
    refine gf_Model_45 hC hK hP hst d_Model_join_63 ?_
    refine lv_iload hC.1 hC.2.1 d_Model_join_66 (lv_at hl 4 rfl) ?_
    obtain ⟨hi, h⟩ := h
    refine xg_ald hC hK hP aN_places (by decide) hi d_Model_join_68 ?_
    obtain ⟨hi, h⟩ := h
    refine xg_ast hC hK hP hS aN_tried (by decide) hi d_Model_join_69 (fun H locs hP hS => ?_)
    obtain ⟨M_7, eM_7⟩ : ∃ y : Mem, y = up M0 12 x4.toNat (M0 10 x4.toNat) := ⟨_, rfl⟩
    rw [← eM_7] at hP
    have h := h M_7 eM_7
    obtain ⟨v4_8, ev4_8⟩ : ∃ y : Int, y = x4 + 1 := ⟨_, rfl⟩
    have h := h v4_8 ev4_8
    refine xi_iinc (v := v4_8) (lv' := [(4, iv v4_8), (0, .ref (b + 0)), (1, iv x1), (2, iv x2), (3, iv x3)]) hC d_Model_join_70 hl (k := 4) rfl ev4_8 (by decide) rfl (fun ls hl => ?_)
    refine lv_goto (tgt := 49) hC.1 hC.2.1 d_Model_join_73 (by decide) ?_
    exact ih _ _ _ _ _ _ _ _ h hP hS (lv_sub hl [1, 2, 3, 4, 0] rfl)
set_option maxHeartbeats 4000000 in
theorem s_Model_join_14 {p : Program} {l : Launch} {e : Env} {s : State} {m : MethodId} {args : Array Value} {below : List Frame} {meth : Method} {c : Code} {D : va_G} {g : Nat → ClassId} {b sz : Nat} (hC : Cx p m c b_Model_join 5 s args "EdgeJoinsModel") (hr : meth.sig.returnType = some .int) (hlocks : meth.locks = false) (hK : va_K D classes (tyG g) s) (hst : sC (rA b 14 sz) s s.heap) (hz : sz ≤ s.heap.size) {Post : Int → Mem → Prop} : ∀ (x1 t1 : Int) (M0 : Mem) (H : Heap) (locs : List Loc) (ls : Array Slot), wp_Model_join_14 x1 t1 M0 Post → va_P D classes (wsG b 14 (cellN b g) M0) H → va_S (rA b 14 sz) s.heap H locs → lv_has ls 5 [(0, .ref (b + 0)), (1, iv x1)] → W p l e ({ frames := 3, cells := 0, slots := 0, locals := 76 }) s m args below meth c H locs 0 0 (MQ below (QI D g b 14 (cellN b g) sz Post) args s 0 0 (rA b 14 sz)) (F0 m 14 ls [iv t1, .ref (b + 0)]) := by
  intro x1 t1 M0 H locs ls h hP hS hl
  unfold wp_Model_join_14 at h
  refine xi_const hC d_Model_join_14 ?_
  refine xi_const hC d_Model_join_15 ?_
  refine xk_Vi (As := [iv t1, iv 0, iv 0]) (rest := []) hC hK hP hS hst hz hl.1 lk_Model_67 rfl rfl rfl ⟨Nat.le_of_ble_eq_true rfl, Nat.le_of_ble_eq_true rfl⟩ (rc_Model hK hP) (fun sz' => c_Model_throwing l D g b sz' h) d_Model_join_16 rfl (Nat.le_of_ble_eq_true rfl) ⟨Nat.le_of_ble_eq_true rfl, Nat.le_of_ble_eq_true rfl⟩ (fun r_1 M_2 H locs h hP hS => ?_)
  try dsimp only at h
  obtain ⟨b0, h⟩ := h
  refine xi_ieq hC (tgt := 24) d_Model_join_19 (by decide) b0 (fun q => ?_) (fun q => ?_)
  · have h := h.1 q
    refine lv_aload_n hC.1 hC.2.1 d_Model_join_24 rfl (lv_at hl 0 rfl) ?_
    refine gf_Model_39 hC hK hP hst d_Model_join_25 ?_
    refine xi_bipush hC d_Model_join_28 (by decide) ?_
    refine lv_iload_n hC.1 hC.2.1 d_Model_join_30 rfl (lv_at hl 1 rfl) ?_
    refine xi_mul hC d_Model_join_31 ?_
    obtain ⟨hi, h⟩ := h
    refine xg_ald hC hK hP aN_list (by decide) hi d_Model_join_32 ?_
    refine xi_top (fun v2_3 ev2_3 => ?_)
    have h := h v2_3 ev2_3
    refine lv_istore_n (lv' := [(2, iv v2_3), (0, .ref (b + 0)), (1, iv x1)]) hC.1 hC.2.1 d_Model_join_33 rfl hl (by decide) rfl (fun ls hl => ?_)
    refine lv_aload_n hC.1 hC.2.1 d_Model_join_34 rfl (lv_at hl 1 rfl) ?_
    refine gf_Model_39 hC hK hP hst d_Model_join_35 ?_
    refine xi_bipush hC d_Model_join_38 (by decide) ?_
    refine lv_iload_n hC.1 hC.2.1 d_Model_join_40 rfl (lv_at hl 2 rfl) ?_
    refine xi_mul hC d_Model_join_41 ?_
    refine xi_const hC d_Model_join_42 ?_
    refine xi_add hC d_Model_join_43 ?_
    obtain ⟨hi, h⟩ := h
    refine xg_ald hC hK hP aN_list (by decide) hi d_Model_join_44 ?_
    refine xi_top (fun v3_4 ev3_4 => ?_)
    have h := h v3_4 ev3_4
    refine lv_istore_n (lv' := [(3, iv v3_4), (2, iv v2_3), (0, .ref (b + 0)), (1, iv x1)]) hC.1 hC.2.1 d_Model_join_45 rfl hl (by decide) rfl (fun ls hl => ?_)
    refine xi_const hC d_Model_join_46 ?_
    refine lv_istore (lv' := [(4, iv 0), (3, iv v3_4), (2, iv v2_3), (0, .ref (b + 0)), (1, iv x1)]) hC.1 hC.2.1 d_Model_join_47 hl (by decide) rfl (fun ls hl => ?_)
    obtain ⟨nn, h⟩ := h
    exact s_Model_join_49 hC hr hlocks hK hst hz nn _ _ _ _ _ _ _ _ h hP hS (lv_sub hl [3, 4, 2, 1, 0] rfl)
  · have h := h.2 q
    refine xi_const hC d_Model_join_22 ?_
    exact xr_i hC hr hlocks hK hP hS h d_Model_join_23
set_option maxHeartbeats 4000000 in
theorem c_Model_join (l : Launch) (D : va_G) (g : Nat → ClassId) (b sz : Nat) {x1 : Int} {M0 : Mem} {Post : Int → Mem → Prop} (h : wp_Model_join x1 M0 Post) : Met l y_Model_join (Cond.code y_Model_join b_Model_join 5 (some .int) :: gd) ({ frames := 3, cells := 0, slots := 0, locals := 76 }) (PcG D g b 14 (cellN b g) sz M0 [.ref (b + 0), iv x1]) (QI D g b 14 (cellN b g) sz Post) 0 0 (rA b 14 sz) := by
  refine xm_start (by decide) rfl (Nat.le_of_ble_eq_true rfl) ?_
  intro p e s m below meth c ls H args hC hr hlocks hK hP hst hz hS hH hl
  have hl : lv_has ls 5 [(0, .ref (b + 0)), (1, iv x1)] := hl
  unfold wp_Model_join at h
  refine lv_aload_n hC.1 hC.2.1 d_Model_join_0 rfl (lv_at hl 0 rfl) ?_
  refine lv_aload_n hC.1 hC.2.1 d_Model_join_1 rfl (lv_at hl 0 rfl) ?_
  refine lv_iload_n hC.1 hC.2.1 d_Model_join_2 rfl (lv_at hl 1 rfl) ?_
  refine xk_VP (As := [iv x1]) (rest := [.ref (b + 0)]) hC hK hP hS hst hz hl.1 lk_Model_136 rfl rfl rfl ⟨Nat.le_of_ble_eq_true rfl, Nat.le_of_ble_eq_true rfl⟩ (rc_Model hK hP) (fun sz' => c_Model_isPair l D g b sz' h) d_Model_join_3 rfl (Nat.le_of_ble_eq_true rfl) ⟨Nat.le_of_ble_eq_true rfl, Nat.le_of_ble_eq_true rfl⟩ (fun r_1 h => ?_)
  try dsimp only at h
  obtain ⟨b0, h⟩ := h
  refine xi_ine hC (tgt := 13) d_Model_join_6 (by decide) b0 (fun q => ?_) (fun q => ?_)
  · have h := h.1 q
    refine xi_const hC d_Model_join_13 ?_
    exact s_Model_join_14 hC hr hlocks hK hst hz _ _ _ _ _ _ h hP hS (lv_sub hl [0, 1] rfl)
  · have h := h.2 q
    refine xi_const hC d_Model_join_9 ?_
    refine lv_goto (tgt := 14) hC.1 hC.2.1 d_Model_join_10 (by decide) ?_
    exact s_Model_join_14 hC hr hlocks hK hst hz _ _ _ _ _ _ h hP hS (lv_sub hl [0, 1] rfl)
set_option maxHeartbeats 4000000 in
theorem s_Model_undo_26 {p : Program} {l : Launch} {e : Env} {s : State} {m : MethodId} {args : Array Value} {below : List Frame} {meth : Method} {c : Code} {D : va_G} {g : Nat → ClassId} {b sz : Nat} (hC : Cx p m c b_Model_undo 2 s args "EdgeJoinsModel") (hr : meth.sig.returnType = some .boolean) (hlocks : meth.locks = false) (hK : va_K D classes (tyG g) s) (hst : sC (rA b 14 sz) s s.heap) (hz : sz ≤ s.heap.size) {Post : Int → Mem → Prop} : ∀ (n : Nat) (x1 : Int) (M0 : Mem) (H : Heap) (locs : List Loc) (ls : Array Slot), wp_Model_undo_26 Post n x1 M0 → va_P D classes (wsG b 14 (cellN b g) M0) H → va_S (rA b 14 sz) s.heap H locs → lv_has ls 2 [(0, .ref (b + 0)), (1, iv x1)] → W p l e ({ frames := 0, cells := 0, slots := 0, locals := 0 }) s m args below meth c H locs 0 0 (MQ below (QI D g b 14 (cellN b g) sz Post) args s 0 0 (rA b 14 sz)) (F0 m 26 ls []) := by
  intro n
  induction n with
  | zero => intro x1 M0 H locs ls h; exact h.elim
  | succ n ih =>
  intro x1 M0 H locs ls h hP hS hl
  simp only [wp_Model_undo_26] at h
  refine lv_iload_n hC.1 hC.2.1 d_Model_undo_26 rfl (lv_at hl 1 rfl) ?_
  refine xi_bipush hC d_Model_undo_27 (by decide) ?_
  obtain ⟨b0, h⟩ := h
  refine xi_cge hC (tgt := 58) d_Model_undo_29 (by decide) b0 (xl rfl) (fun q => ?_) (fun q => ?_)
  · have h := h.1 q
    refine xi_const hC d_Model_undo_58 ?_
    exact xr_z hC hr hlocks hK hP hS (by decide) h d_Model_undo_59
  · have h := h.2 q
    refine lv_aload_n hC.1 hC.2.1 d_Model_undo_32 rfl (lv_at hl 0 rfl) ?_
    refine gf_Model_45 hC hK hP hst d_Model_undo_33 ?_
    refine lv_iload_n hC.1 hC.2.1 d_Model_undo_36 rfl (lv_at hl 1 rfl) ?_
    refine lv_aload_n hC.1 hC.2.1 d_Model_undo_37 rfl (lv_at hl 0 rfl) ?_
    refine gf_Model_48 hC hK hP hst d_Model_undo_38 ?_
    refine xi_bipush hC d_Model_undo_41 (by decide) ?_
    refine lv_aload_n hC.1 hC.2.1 d_Model_undo_43 rfl (lv_at hl 0 rfl) ?_
    refine gf_Model_160 hC hK hP hst d_Model_undo_44 ?_
    refine xi_mul hC d_Model_undo_47 ?_
    refine lv_iload_n hC.1 hC.2.1 d_Model_undo_48 rfl (lv_at hl 1 rfl) ?_
    refine xi_add hC d_Model_undo_49 ?_
    obtain ⟨hi, h⟩ := h
    refine xg_ald hC hK hP aN_before (by decide) hi d_Model_undo_50 ?_
    obtain ⟨hi, h⟩ := h
    refine xg_ast hC hK hP hS aN_places (by decide) hi d_Model_undo_51 (fun H locs hP hS => ?_)
    obtain ⟨M_1, eM_1⟩ : ∃ y : Mem, y = up M0 10 x1.toNat (M0 11 ((24 * (M0 0 17)) + x1).toNat) := ⟨_, rfl⟩
    rw [← eM_1] at hP
    have h := h M_1 eM_1
    obtain ⟨v1_2, ev1_2⟩ : ∃ y : Int, y = x1 + 1 := ⟨_, rfl⟩
    have h := h v1_2 ev1_2
    refine xi_iinc (v := v1_2) (lv' := [(1, iv v1_2), (0, .ref (b + 0))]) hC d_Model_undo_52 hl (k := 1) rfl ev1_2 (by decide) rfl (fun ls hl => ?_)
    refine lv_goto (tgt := 26) hC.1 hC.2.1 d_Model_undo_55 (by decide) ?_
    exact ih _ _ _ _ _ h hP hS (lv_sub hl [1, 0] rfl)
set_option maxHeartbeats 4000000 in
theorem c_Model_undo (l : Launch) (D : va_G) (g : Nat → ClassId) (b sz : Nat) {M0 : Mem} {Post : Int → Mem → Prop} (h : wp_Model_undo M0 Post) : Met l y_Model_undo (Cond.code y_Model_undo b_Model_undo 2 (some .boolean) :: gd) ({ frames := 0, cells := 0, slots := 0, locals := 0 }) (PcG D g b 14 (cellN b g) sz M0 [.ref (b + 0)]) (QI D g b 14 (cellN b g) sz Post) 0 0 (rA b 14 sz) := by
  refine xm_start (by decide) rfl (Nat.le_of_ble_eq_true rfl) ?_
  intro p e s m below meth c ls H args hC hr hlocks hK hP hst hz hS hH hl
  have hl : lv_has ls 2 [(0, .ref (b + 0))] := hl
  unfold wp_Model_undo at h
  refine lv_aload_n hC.1 hC.2.1 d_Model_undo_0 rfl (lv_at hl 0 rfl) ?_
  refine xi_const hC d_Model_undo_1 ?_
  refine pf_Model_57 hC hK hP hS hst d_Model_undo_2 (fun H locs hP hS => ?_)
  obtain ⟨M_1, eM_1⟩ : ∃ y : Mem, y = up M0 0 0 0 := ⟨_, rfl⟩
  rw [← eM_1] at hP
  have h := h M_1 eM_1
  refine lv_aload_n hC.1 hC.2.1 d_Model_undo_5 rfl (lv_at hl 0 rfl) ?_
  refine gf_Model_160 hC hK hP hst d_Model_undo_6 ?_
  obtain ⟨b0, h⟩ := h
  refine xi_ine hC (tgt := 14) d_Model_undo_9 (by decide) b0 (fun q => ?_) (fun q => ?_)
  · have h := h.1 q
    refine lv_aload_n hC.1 hC.2.1 d_Model_undo_14 rfl (lv_at hl 0 rfl) ?_
    refine lv_dup hC.1 hC.2.1 d_Model_undo_15 rfl ?_
    refine gf_Model_160 hC hK hP hst d_Model_undo_16 ?_
    refine xi_const hC d_Model_undo_19 ?_
    refine xi_sub hC d_Model_undo_20 ?_
    refine pf_Model_160 hC hK hP hS hst d_Model_undo_21 (fun H locs hP hS => ?_)
    obtain ⟨M_2, eM_2⟩ : ∃ y : Mem, y = up M_1 0 17 ((M_1 0 17) - 1) := ⟨_, rfl⟩
    rw [← eM_2] at hP
    have h := h M_2 eM_2
    refine xi_const hC d_Model_undo_24 ?_
    refine lv_istore_n (lv' := [(1, iv 0), (0, .ref (b + 0))]) hC.1 hC.2.1 d_Model_undo_25 rfl hl (by decide) rfl (fun ls hl => ?_)
    obtain ⟨nn, h⟩ := h
    exact s_Model_undo_26 hC hr hlocks hK hst hz nn _ _ _ _ _ h hP hS (lv_sub hl [1, 0] rfl)
  · have h := h.2 q
    refine xi_const hC d_Model_undo_12 ?_
    exact xr_z hC hr hlocks hK hP hS (by decide) h d_Model_undo_13
set_option maxHeartbeats 4000000 in
theorem s_Model_place_23 {p : Program} {l : Launch} {e : Env} {s : State} {m : MethodId} {args : Array Value} {below : List Frame} {meth : Method} {c : Code} {D : va_G} {g : Nat → ClassId} {b sz : Nat} (hC : Cx p m c b_Model_place 3 s args "EdgeJoinsModel") (hr : meth.sig.returnType = some .int) (hlocks : meth.locks = false) (hK : va_K D classes (tyG g) s) (hst : sC (rA b 14 sz) s s.heap) (hz : sz ≤ s.heap.size) {Post : Int → Mem → Prop} : ∀ (x1 x2 t1 : Int) (M0 : Mem) (H : Heap) (locs : List Loc) (ls : Array Slot), wp_Model_place_23 x1 x2 t1 M0 Post → va_P D classes (wsG b 14 (cellN b g) M0) H → va_S (rA b 14 sz) s.heap H locs → lv_has ls 3 [(0, .ref (b + 0)), (1, iv x1), (2, iv x2)] → W p l e ({ frames := 2, cells := 0, slots := 0, locals := 43 }) s m args below meth c H locs 0 0 (MQ below (QI D g b 14 (cellN b g) sz Post) args s 0 0 (rA b 14 sz)) (F0 m 23 ls [iv t1, .ref (b + 0)]) := by
  intro x1 x2 t1 M0 H locs ls h hP hS hl
  unfold wp_Model_place_23 at h
  refine xi_const hC d_Model_place_23 ?_
  refine xi_const hC d_Model_place_24 ?_
  refine xk_Vi (As := [iv t1, iv 0, iv 0]) (rest := []) hC hK hP hS hst hz hl.1 lk_Model_67 rfl rfl rfl ⟨Nat.le_of_ble_eq_true rfl, Nat.le_of_ble_eq_true rfl⟩ (rc_Model hK hP) (fun sz' => c_Model_throwing l D g b sz' h) d_Model_place_25 rfl (Nat.le_of_ble_eq_true rfl) ⟨Nat.le_of_ble_eq_true rfl, Nat.le_of_ble_eq_true rfl⟩ (fun r_1 M_2 H locs h hP hS => ?_)
  try dsimp only at h
  obtain ⟨b0, h⟩ := h
  refine xi_ieq hC (tgt := 33) d_Model_place_28 (by decide) b0 (fun q => ?_) (fun q => ?_)
  · have h := h.1 q
    refine lv_aload_n hC.1 hC.2.1 d_Model_place_33 rfl (lv_at hl 0 rfl) ?_
    refine gf_Model_45 hC hK hP hst d_Model_place_34 ?_
    refine xi_const hC d_Model_place_37 ?_
    refine lv_iload_n hC.1 hC.2.1 d_Model_place_38 rfl (lv_at hl 1 rfl) ?_
    refine xi_mul hC d_Model_place_39 ?_
    refine lv_iload_n hC.1 hC.2.1 d_Model_place_40 rfl (lv_at hl 2 rfl) ?_
    refine xi_add hC d_Model_place_41 ?_
    obtain ⟨hi, h⟩ := h
    refine xg_ald hC hK hP aN_places (by decide) hi d_Model_place_42 ?_
    exact xr_i hC hr hlocks hK hP hS h d_Model_place_43
  · have h := h.2 q
    refine xi_const hC d_Model_place_31 ?_
    exact xr_i hC hr hlocks hK hP hS h d_Model_place_32
set_option maxHeartbeats 4000000 in
theorem s_Model_place_18 {p : Program} {l : Launch} {e : Env} {s : State} {m : MethodId} {args : Array Value} {below : List Frame} {meth : Method} {c : Code} {D : va_G} {g : Nat → ClassId} {b sz : Nat} (hC : Cx p m c b_Model_place 3 s args "EdgeJoinsModel") (hr : meth.sig.returnType = some .int) (hlocks : meth.locks = false) (hK : va_K D classes (tyG g) s) (hst : sC (rA b 14 sz) s s.heap) (hz : sz ≤ s.heap.size) {Post : Int → Mem → Prop} : ∀ (x1 x2 : Int) (M0 : Mem) (H : Heap) (locs : List Loc) (ls : Array Slot), wp_Model_place_18 x1 x2 M0 Post → va_P D classes (wsG b 14 (cellN b g) M0) H → va_S (rA b 14 sz) s.heap H locs → lv_has ls 3 [(0, .ref (b + 0)), (1, iv x1), (2, iv x2)] → W p l e ({ frames := 2, cells := 0, slots := 0, locals := 43 }) s m args below meth c H locs 0 0 (MQ below (QI D g b 14 (cellN b g) sz Post) args s 0 0 (rA b 14 sz)) (F0 m 18 ls [.ref (b + 0)]) := by
  intro x1 x2 M0 H locs ls h hP hS hl
  unfold wp_Model_place_18 at h
  refine xi_const hC d_Model_place_18 ?_
  refine lv_goto (tgt := 23) hC.1 hC.2.1 d_Model_place_19 (by decide) ?_
  exact s_Model_place_23 hC hr hlocks hK hst hz _ _ _ _ _ _ _ h hP hS (lv_sub hl [0, 1, 2] rfl)
set_option maxHeartbeats 4000000 in
theorem c_Model_place (l : Launch) (D : va_G) (g : Nat → ClassId) (b sz : Nat) {x1 x2 : Int} {M0 : Mem} {Post : Int → Mem → Prop} (h : wp_Model_place x1 x2 M0 Post) : Met l y_Model_place (Cond.code y_Model_place b_Model_place 3 (some .int) :: gd) ({ frames := 2, cells := 0, slots := 0, locals := 43 }) (PcG D g b 14 (cellN b g) sz M0 [.ref (b + 0), iv x1, iv x2]) (QI D g b 14 (cellN b g) sz Post) 0 0 (rA b 14 sz) := by
  refine xm_start (by decide) rfl (Nat.le_of_ble_eq_true rfl) ?_
  intro p e s m below meth c ls H args hC hr hlocks hK hP hst hz hS hH hl
  have hl : lv_has ls 3 [(0, .ref (b + 0)), (1, iv x1), (2, iv x2)] := hl
  unfold wp_Model_place at h
  refine lv_aload_n hC.1 hC.2.1 d_Model_place_0 rfl (lv_at hl 0 rfl) ?_
  refine lv_aload_n hC.1 hC.2.1 d_Model_place_1 rfl (lv_at hl 0 rfl) ?_
  refine lv_iload_n hC.1 hC.2.1 d_Model_place_2 rfl (lv_at hl 1 rfl) ?_
  refine xk_VP (As := [iv x1]) (rest := [.ref (b + 0)]) hC hK hP hS hst hz hl.1 lk_Model_71 rfl rfl rfl ⟨Nat.le_of_ble_eq_true rfl, Nat.le_of_ble_eq_true rfl⟩ (rc_Model hK hP) (fun sz' => c_Model_isSherd l D g b sz' h) d_Model_place_3 rfl (Nat.le_of_ble_eq_true rfl) ⟨Nat.le_of_ble_eq_true rfl, Nat.le_of_ble_eq_true rfl⟩ (fun r_1 h => ?_)
  try dsimp only at h
  obtain ⟨b0, h⟩ := h
  refine xi_ieq hC (tgt := 18) d_Model_place_6 (by decide) b0 (fun q => ?_) (fun q => ?_)
  · have h := h.1 q
    exact s_Model_place_18 hC hr hlocks hK hst hz _ _ _ _ _ _ h hP hS (lv_sub hl [0, 1, 2] rfl)
  · have h := h.2 q
    refine lv_iload_n hC.1 hC.2.1 d_Model_place_9 rfl (lv_at hl 2 rfl) ?_
    refine xi_const hC d_Model_place_10 ?_
    refine xi_const hC d_Model_place_11 ?_
    refine xk_SP (As := [iv x2, iv 0, iv 3]) (rest := [.ref (b + 0)]) hC hK hP hS hst hz hl.1 lk_Model_63 rfl rfl rfl ⟨Nat.le_of_ble_eq_true rfl, Nat.le_of_ble_eq_true rfl⟩ (fun sz' => c_Model_in l D g b sz' h) d_Model_place_12 rfl (Nat.le_of_ble_eq_true rfl) ⟨Nat.le_of_ble_eq_true rfl, Nat.le_of_ble_eq_true rfl⟩ (fun r_2 h => ?_)
    try dsimp only at h
    obtain ⟨b0, h⟩ := h
    refine xi_ine hC (tgt := 22) d_Model_place_15 (by decide) b0 (fun q => ?_) (fun q => ?_)
    · have h := h.1 q
      refine xi_const hC d_Model_place_22 ?_
      exact s_Model_place_23 hC hr hlocks hK hst hz _ _ _ _ _ _ _ h hP hS (lv_sub hl [0, 1, 2] rfl)
    · have h := h.2 q
      exact s_Model_place_18 hC hr hlocks hK hst hz _ _ _ _ _ _ h hP hS (lv_sub hl [0, 1, 2] rfl)
