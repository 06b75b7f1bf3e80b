set_option maxHeartbeats 4000000 in
theorem s_Board_frame_45 {p : Program} {l : Launch} {e : Env} {s : State} {m : MethodId} {args : Array Value} {below : List Frame} {meth : Method} {c : Code} {D : va_G} {g : Nat → ClassId} {b sz : Nat} (hC : Cx p m c b_Board_frame 10 s args "EdgeJoins$Board") (hr : meth.sig.returnType = none) (hlocks : meth.locks = false) (hK : va_K D classes (tyG g) s) (hst : sC (rA b 174 sz) s s.heap) (hz : sz ≤ s.heap.size) {k2 : Nat} (hk2 : isL k2) {Post : Mem → Prop} {X35 : Int → Int → Int → Int → Mem → Prop} (hX35 : ∀ (x3 x4 x5 x6 : Int) (M0 : Mem) (H : Heap) (locs : List Loc) (ls : Array Slot), X35 x3 x4 x5 x6 M0 → va_P D classes (wsG b 174 (cellC b g) M0) H → va_S (rA b 174 sz) s.heap H locs → lv_has ls 10 [(0, .ref (b + 111)), (1, .ref (b + 1)), (2, .ref (b + k2)), (3, iv x3), (4, iv x4), (5, iv x5), (6, iv x6)] → W p l e ({ frames := 2, cells := 0, slots := 0, locals := 45 }) s m args below meth c H locs 0 0 (MQ below (QV D g b 174 (cellC b g) sz Post) args s 0 0 (rA b 174 sz)) (F0 m 35 ls [])) : ∀ (n : Nat) (x3 x4 x5 x6 x7 : Int) (M0 : Mem) (H : Heap) (locs : List Loc) (ls : Array Slot), wp_Board_frame_45 X35 k2 Post n x3 x4 x5 x6 x7 M0 → va_P D classes (wsG b 174 (cellC b g) M0) H → va_S (rA b 174 sz) s.heap H locs → lv_has ls 10 [(0, .ref (b + 111)), (1, .ref (b + 1)), (2, .ref (b + k2)), (3, iv x3), (4, iv x4), (5, iv x5), (6, iv x6), (7, iv x7)] → W p l e ({ frames := 2, cells := 0, slots := 0, locals := 45 }) s m args below meth c H locs 0 0 (MQ below (QV D g b 174 (cellC b g) sz Post) args s 0 0 (rA b 174 sz)) (F0 m 45 ls []) := by
  intro n
  induction n with
  | zero => intro x3 x4 x5 x6 x7 M0 H locs ls h; exact h.elim
  | succ n ih =>
  intro x3 x4 x5 x6 x7 M0 H locs ls h hP hS hl
  simp only [wp_Board_frame_45] at h
  refine lv_aload_n hC.1 hC.2.1 d_Board_frame_45 rfl (lv_at hl 2 rfl) ?_
  refine gf_Board_26 hC hK hP hst hk2 d_Board_frame_46 ?_
  refine lv_iload hC.1 hC.2.1 d_Board_frame_49 (lv_at hl 6 rfl) ?_
  obtain ⟨hi, h⟩ := h
  refine xg_ald hC hK hP (aL4 hk2) (by decide) hi d_Board_frame_51 ?_
  refine lv_iload_n hC.1 hC.2.1 d_Board_frame_52 rfl (lv_at hl 3 rfl) ?_
  obtain ⟨b0, h⟩ := h
  obtain ⟨b1, h⟩ := h
  refine xi_cne hC (tgt := 146) d_Board_frame_53 (by decide) b0 b1 (fun q => ?_) (fun q => ?_)
  · have h := h.1 q
    obtain ⟨v6_1, ev6_1⟩ : ∃ y : Int, y = x6 + 1 := ⟨_, rfl⟩
    have h := h v6_1 ev6_1
    refine xi_iinc (v := v6_1) (lv' := [(6, iv v6_1), (0, .ref (b + 111)), (1, .ref (b + 1)), (2, .ref (b + k2)), (3, iv x3), (4, iv x4), (5, iv x5), (7, iv x7)]) hC d_Board_frame_146 hl (k := 6) rfl ev6_1 (by decide) rfl (fun ls hl => ?_)
    refine lv_goto (tgt := 35) hC.1 hC.2.1 d_Board_frame_149 (by decide) ?_
    exact hX35 _ _ _ _ _ _ _ _ h hP hS (lv_sub hl [1, 2, 3, 4, 5, 6, 0] rfl)
  · have h := h.2 q
    refine lv_iload hC.1 hC.2.1 d_Board_frame_56 (lv_at hl 7 rfl) ?_
    refine lv_aload_n hC.1 hC.2.1 d_Board_frame_58 rfl (lv_at hl 1 rfl) ?_
    refine lv_iload hC.1 hC.2.1 d_Board_frame_59 (lv_at hl 6 rfl) ?_
    obtain ⟨hi, h⟩ := h
    refine al_EdgeArr hC hK hP hi d_Board_frame_61 (fun hq_2 => ?_)
    refine gf_Board_47 hC hK hP hst hq_2 d_Board_frame_62 ?_
    obtain ⟨b0, h⟩ := h
    obtain ⟨b1, h⟩ := h
    refine xi_cge hC (tgt := 146) d_Board_frame_65 (by decide) b0 b1 (fun q => ?_) (fun q => ?_)
    · have h := h.1 q
      obtain ⟨v6_3, ev6_3⟩ : ∃ y : Int, y = x6 + 1 := ⟨_, rfl⟩
      have h := h v6_3 ev6_3
      refine xi_iinc (v := v6_3) (lv' := [(6, iv v6_3), (0, .ref (b + 111)), (1, .ref (b + 1)), (2, .ref (b + k2)), (3, iv x3), (4, iv x4), (5, iv x5), (7, iv x7)]) hC d_Board_frame_146 hl (k := 6) rfl ev6_3 (by decide) rfl (fun ls hl => ?_)
      refine lv_goto (tgt := 35) hC.1 hC.2.1 d_Board_frame_149 (by decide) ?_
      exact hX35 _ _ _ _ _ _ _ _ h hP hS (lv_sub hl [1, 2, 3, 4, 5, 6, 0] rfl)
    · have h := h.2 q
      refine lv_aload_n hC.1 hC.2.1 d_Board_frame_68 rfl (lv_at hl 2 rfl) ?_
      refine lv_aload_n hC.1 hC.2.1 d_Board_frame_69 rfl (lv_at hl 1 rfl) ?_
      refine lv_iload hC.1 hC.2.1 d_Board_frame_70 (lv_at hl 6 rfl) ?_
      obtain ⟨hi, h⟩ := h
      refine al_EdgeArr hC hK hP hi d_Board_frame_72 (fun hq_4 => ?_)
      refine lv_iload hC.1 hC.2.1 d_Board_frame_73 (lv_at hl 6 rfl) ?_
      refine lv_iload hC.1 hC.2.1 d_Board_frame_75 (lv_at hl 7 rfl) ?_
      refine xk_VP (As := [.ref (b + (114 + 10 * x6.toNat)), iv x6, iv x7]) (rest := []) hC hK hP hS hst hz hl.1 lk_Board_52 rfl rfl rfl ⟨Nat.le_of_ble_eq_true rfl, Nat.le_of_ble_eq_true rfl⟩ (rc_Layout hK hP hk2) (fun sz' => c_Layout_placedX l D g b sz' hk2 hq_4 h) d_Board_frame_77 rfl (Nat.le_of_ble_eq_true rfl) ⟨Nat.le_of_ble_eq_true rfl, Nat.le_of_ble_eq_true rfl⟩ (fun r_5 h => ?_)
      try dsimp only at h
      refine lv_istore (lv' := [(8, iv r_5), (0, .ref (b + 111)), (1, .ref (b + 1)), (2, .ref (b + k2)), (3, iv x3), (4, iv x4), (5, iv x5), (6, iv x6), (7, iv x7)]) hC.1 hC.2.1 d_Board_frame_80 hl (by decide) rfl (fun ls hl => ?_)
      refine lv_aload_n hC.1 hC.2.1 d_Board_frame_82 rfl (lv_at hl 3 rfl) ?_
      refine lv_aload_n hC.1 hC.2.1 d_Board_frame_83 rfl (lv_at hl 2 rfl) ?_
      refine lv_iload hC.1 hC.2.1 d_Board_frame_84 (lv_at hl 7 rfl) ?_
      obtain ⟨hi, h⟩ := h
      refine al_EdgeArr hC hK hP hi d_Board_frame_86 (fun hq_6 => ?_)
      refine lv_iload hC.1 hC.2.1 d_Board_frame_87 (lv_at hl 7 rfl) ?_
      refine lv_iload hC.1 hC.2.1 d_Board_frame_89 (lv_at hl 8 rfl) ?_
      refine xk_VP (As := [.ref (b + (114 + 10 * x6.toNat)), iv x6, iv x7]) (rest := []) hC hK hP hS hst hz hl.1 lk_Board_56 rfl rfl rfl ⟨Nat.le_of_ble_eq_true rfl, Nat.le_of_ble_eq_true rfl⟩ (rc_Layout hK hP hk2) (fun sz' => c_Layout_placedY l D g b sz' hk2 hq_6 h) d_Board_frame_91 rfl (Nat.le_of_ble_eq_true rfl) ⟨Nat.le_of_ble_eq_true rfl, Nat.le_of_ble_eq_true rfl⟩ (fun r_7 h => ?_)
      try dsimp only at h
      refine lv_istore (lv' := [(9, iv r_7), (8, iv r_5), (0, .ref (b + 111)), (1, .ref (b + 1)), (2, .ref (b + k2)), (3, iv x3), (4, iv x4), (5, iv x5), (6, iv x6), (7, iv x7)]) hC.1 hC.2.1 d_Board_frame_94 hl (by decide) rfl (fun ls hl => ?_)
      refine lv_aload_n hC.1 hC.2.1 d_Board_frame_96 rfl (lv_at hl 2 rfl) ?_
      refine lv_aload_n hC.1 hC.2.1 d_Board_frame_97 rfl (lv_at hl 2 rfl) ?_
      refine gf_Board_38 hC hK hP hst d_Board_frame_98 ?_
      refine lv_iload hC.1 hC.2.1 d_Board_frame_101 (lv_at hl 1 rfl) ?_
      obtain ⟨b0, h⟩ := h
      obtain ⟨b1, h⟩ := h
      refine xi_min hC lm_Board_59 hl.1 (Nat.le_of_ble_eq_true rfl) (Nat.le_of_ble_eq_true rfl) (Nat.le_of_ble_eq_true rfl) (Nat.le_of_ble_eq_true rfl) b0 b1 d_Board_frame_103 ?_
      refine pf_Board_38 hC hK hP hS hst d_Board_frame_106 (fun H locs hP hS => ?_)
      obtain ⟨M_8, eM_8⟩ : ∃ y : Mem, y = up M0 111 2 (min (M0 111 2) r_5) := ⟨_, rfl⟩
      rw [← eM_8] at hP
      have h := h M_8 eM_8
      refine lv_iload hC.1 hC.2.1 d_Board_frame_109 (lv_at hl 6 rfl) ?_
      refine lv_iload hC.1 hC.2.1 d_Board_frame_111 (lv_at hl 1 rfl) ?_
      obtain ⟨b0, h⟩ := h
      obtain ⟨b1, h⟩ := h
      refine xi_max hC lm_Board_65 hl.1 (Nat.le_of_ble_eq_true rfl) (Nat.le_of_ble_eq_true rfl) (Nat.le_of_ble_eq_true rfl) (Nat.le_of_ble_eq_true rfl) b0 b1 d_Board_frame_113 ?_
      refine xi_top (fun v4_9 ev4_9 => ?_)
      have h := h v4_9 ev4_9
      refine lv_istore (lv' := [(4, iv v4_9), (9, iv r_7), (8, iv r_5), (0, .ref (b + 111)), (1, .ref (b + 1)), (2, .ref (b + k2)), (3, iv x3), (5, iv x5), (6, iv x6), (7, iv x7)]) hC.1 hC.2.1 d_Board_frame_116 hl (by decide) rfl (fun ls hl => ?_)
      refine lv_aload_n hC.1 hC.2.1 d_Board_frame_118 rfl (lv_at hl 3 rfl) ?_
      refine lv_aload_n hC.1 hC.2.1 d_Board_frame_119 rfl (lv_at hl 3 rfl) ?_
      refine gf_Board_44 hC hK hP hst d_Board_frame_120 ?_
      refine lv_iload hC.1 hC.2.1 d_Board_frame_123 (lv_at hl 1 rfl) ?_
      obtain ⟨b0, h⟩ := h
      obtain ⟨b1, h⟩ := h
      refine xi_min hC lm_Board_59 hl.1 (Nat.le_of_ble_eq_true rfl) (Nat.le_of_ble_eq_true rfl) (Nat.le_of_ble_eq_true rfl) (Nat.le_of_ble_eq_true rfl) b0 b1 d_Board_frame_125 ?_
      refine pf_Board_44 hC hK hP hS hst d_Board_frame_128 (fun H locs hP hS => ?_)
      obtain ⟨M_10, eM_10⟩ : ∃ y : Mem, y = up M_8 111 3 (min (M_8 111 3) r_7) := ⟨_, rfl⟩
      rw [← eM_10] at hP
      have h := h M_10 eM_10
      refine lv_iload hC.1 hC.2.1 d_Board_frame_131 (lv_at hl 7 rfl) ?_
      refine lv_iload hC.1 hC.2.1 d_Board_frame_133 (lv_at hl 1 rfl) ?_
      obtain ⟨b0, h⟩ := h
      obtain ⟨b1, h⟩ := h
      refine xi_max hC lm_Board_65 hl.1 (Nat.le_of_ble_eq_true rfl) (Nat.le_of_ble_eq_true rfl) (Nat.le_of_ble_eq_true rfl) (Nat.le_of_ble_eq_true rfl) b0 b1 d_Board_frame_135 ?_
      refine xi_top (fun v5_11 ev5_11 => ?_)
      have h := h v5_11 ev5_11
      refine lv_istore (lv' := [(5, iv v5_11), (4, iv v4_9), (9, iv r_7), (8, iv r_5), (0, .ref (b + 111)), (1, .ref (b + 1)), (2, .ref (b + k2)), (3, iv x3), (6, iv x6), (7, iv x7)]) hC.1 hC.2.1 d_Board_frame_138 hl (by decide) rfl (fun ls hl => ?_)
      obtain ⟨v7_12, ev7_12⟩ : ∃ y : Int, y = x7 + 1 := ⟨_, rfl⟩
      have h := h v7_12 ev7_12
      refine xi_iinc (v := v7_12) (lv' := [(7, iv v7_12), (5, iv v5_11), (4, iv v4_9), (9, iv r_7), (8, iv r_5), (0, .ref (b + 111)), (1, .ref (b + 1)), (2, .ref (b + k2)), (3, iv x3), (6, iv x6)]) hC d_Board_frame_140 hl (k := 9) rfl ev7_12 (by decide) rfl (fun ls hl => ?_)
      refine lv_goto (tgt := 45) hC.1 hC.2.1 d_Board_frame_143 (by decide) ?_
      exact ih _ _ _ _ _ _ _ _ _ h hP hS (lv_sub hl [5, 6, 7, 8, 2, 1, 9, 0] rfl)
set_option maxHeartbeats 4000000 in
theorem s_Board_frame_35 {p : Program} {l : Launch} {e : Env} {s : State} {m : MethodId} {args : Array Value} {below : List Frame} {meth : Method} {c : Code} {D : va_G} {g : Nat → ClassId} {b sz : Nat} (hC : Cx p m c b_Board_frame 10 s args "EdgeJoins$Board") (hr : meth.sig.returnType = none) (hlocks : meth.locks = false) (hK : va_K D classes (tyG g) s) (hst : sC (rA b 174 sz) s s.heap) (hz : sz ≤ s.heap.size) {k2 : Nat} (hk2 : isL k2) {Post : Mem → Prop} : ∀ (n : Nat) (x3 x4 x5 x6 : Int) (M0 : Mem) (H : Heap) (locs : List Loc) (ls : Array Slot), wp_Board_frame_35 k2 Post n x3 x4 x5 x6 M0 → va_P D classes (wsG b 174 (cellC b g) M0) H → va_S (rA b 174 sz) s.heap H locs → lv_has ls 10 [(0, .ref (b + 111)), (1, .ref (b + 1)), (2, .ref (b + k2)), (3, iv x3), (4, iv x4), (5, iv x5), (6, iv x6)] → W p l e ({ frames := 2, cells := 0, slots := 0, locals := 45 }) s m args below meth c H locs 0 0 (MQ below (QV D g b 174 (cellC b g) sz Post) args s 0 0 (rA b 174 sz)) (F0 m 35 ls []) := by
  intro n
  induction n with
  | zero => intro x3 x4 x5 x6 M0 H locs ls h; exact h.elim
  | succ n ih =>
  intro x3 x4 x5 x6 M0 H locs ls h hP hS hl
  simp only [wp_Board_frame_35] at h
  refine lv_iload hC.1 hC.2.1 d_Board_frame_35 (lv_at hl 6 rfl) ?_
  refine xi_bipush hC d_Board_frame_37 (by decide) ?_
  obtain ⟨b0, h⟩ := h
  refine xi_cge hC (tgt := 152) d_Board_frame_39 (by decide) b0 (xl rfl) (fun q => ?_) (fun q => ?_)
  · have h := h.1 q
    refine lv_aload_n hC.1 hC.2.1 d_Board_frame_152 rfl (lv_at hl 0 rfl) ?_
    refine lv_dup hC.1 hC.2.1 d_Board_frame_153 rfl ?_
    refine gf_Board_38 hC hK hP hst d_Board_frame_154 ?_
    refine xi_const hC d_Board_frame_157 ?_
    refine xi_sub hC d_Board_frame_158 ?_
    refine pf_Board_38 hC hK hP hS hst d_Board_frame_159 (fun H locs hP hS => ?_)
    obtain ⟨M_1, eM_1⟩ : ∃ y : Mem, y = up M0 111 2 ((M0 111 2) - 1) := ⟨_, rfl⟩
    rw [← eM_1] at hP
    have h := h M_1 eM_1
    refine lv_aload_n hC.1 hC.2.1 d_Board_frame_162 rfl (lv_at hl 0 rfl) ?_
    refine lv_dup hC.1 hC.2.1 d_Board_frame_163 rfl ?_
    refine gf_Board_44 hC hK hP hst d_Board_frame_164 ?_
    refine xi_const hC d_Board_frame_167 ?_
    refine xi_sub hC d_Board_frame_168 ?_
    refine pf_Board_44 hC hK hP hS hst d_Board_frame_169 (fun H locs hP hS => ?_)
    obtain ⟨M_2, eM_2⟩ : ∃ y : Mem, y = up M_1 111 3 ((M_1 111 3) - 1) := ⟨_, rfl⟩
    rw [← eM_2] at hP
    have h := h M_2 eM_2
    refine lv_aload_n hC.1 hC.2.1 d_Board_frame_172 rfl (lv_at hl 0 rfl) ?_
    refine lv_iload hC.1 hC.2.1 d_Board_frame_173 (lv_at hl 4 rfl) ?_
    refine xi_const hC d_Board_frame_175 ?_
    refine xi_add hC d_Board_frame_176 ?_
    refine lv_aload_n hC.1 hC.2.1 d_Board_frame_177 rfl (lv_at hl 0 rfl) ?_
    refine gf_Board_38 hC hK hP hst d_Board_frame_178 ?_
    refine xi_sub hC d_Board_frame_181 ?_
    refine pf_Board_68 hC hK hP hS hst d_Board_frame_182 (fun H locs hP hS => ?_)
    obtain ⟨M_3, eM_3⟩ : ∃ y : Mem, y = up M_2 111 4 ((x4 + 1) - (M_2 111 2)) := ⟨_, rfl⟩
    rw [← eM_3] at hP
    have h := h M_3 eM_3
    refine lv_aload_n hC.1 hC.2.1 d_Board_frame_185 rfl (lv_at hl 0 rfl) ?_
    refine lv_aload_n hC.1 hC.2.1 d_Board_frame_186 rfl (lv_at hl 0 rfl) ?_
    refine gf_Board_68 hC hK hP hst d_Board_frame_187 ?_
    refine lv_iload hC.1 hC.2.1 d_Board_frame_190 (lv_at hl 5 rfl) ?_
    refine xi_const hC d_Board_frame_192 ?_
    refine xi_add hC d_Board_frame_193 ?_
    refine lv_aload_n hC.1 hC.2.1 d_Board_frame_194 rfl (lv_at hl 0 rfl) ?_
    refine gf_Board_44 hC hK hP hst d_Board_frame_195 ?_
    refine xi_sub hC d_Board_frame_198 ?_
    refine xi_mul hC d_Board_frame_199 ?_
    refine xi_sipush hC d_Board_frame_200 (by decide) ?_
    obtain ⟨b0, h⟩ := h
    refine xi_min hC lm_Board_59 hl.1 (Nat.le_of_ble_eq_true rfl) (Nat.le_of_ble_eq_true rfl) (Nat.le_of_ble_eq_true rfl) (Nat.le_of_ble_eq_true rfl) b0 (xl rfl) d_Board_frame_203 ?_
    refine pf_Board_22 hC hK hP hS hst d_Board_frame_206 (fun H locs hP hS => ?_)
    obtain ⟨M_4, eM_4⟩ : ∃ y : Mem, y = up M_3 111 5 (min ((M_3 111 4) * ((x5 + 1) - (M_3 111 3))) 1936) := ⟨_, rfl⟩
    rw [← eM_4] at hP
    have h := h M_4 eM_4
    exact xr_v hC hr hlocks hK hP hS h d_Board_frame_209
  · have h := h.2 q
    refine xi_const hC d_Board_frame_42 ?_
    refine lv_istore (lv' := [(7, iv 0), (0, .ref (b + 111)), (1, .ref (b + 1)), (2, .ref (b + k2)), (3, iv x3), (4, iv x4), (5, iv x5), (6, iv x6)]) hC.1 hC.2.1 d_Board_frame_43 hl (by decide) rfl (fun ls hl => ?_)
    obtain ⟨nn, h⟩ := h
    exact s_Board_frame_45 hC hr hlocks hK hst hz hk2 ih nn _ _ _ _ _ _ _ _ _ h hP hS (lv_sub hl [1, 2, 3, 4, 5, 6, 7, 0] rfl)
set_option maxHeartbeats 4000000 in
theorem c_Board_frame (l : Launch) (D : va_G) (g : Nat → ClassId) (b sz : Nat) {k2 : Nat} (hk2 : isL k2) {x3 : Int} {M0 : Mem} {Post : Mem → Prop} (h : wp_Board_frame k2 x3 M0 Post) : Met l y_Board_frame (Cond.code y_Board_frame b_Board_frame 10 (none) :: gd) ({ frames := 2, cells := 0, slots := 0, locals := 45 }) (PcG D g b 174 (cellC b g) sz M0 [.ref (b + 111), .ref (b + 1), .ref (b + k2), iv x3]) (QV D g b 174 (cellC b g) sz Post) 0 0 (rA b 174 sz) := by
  refine xm_start (by decide) rfl (Nat.le_of_ble_eq_true rfl) ?_
  intro p e s m below meth c ls H args hC hr hlocks hK hP hst hz hS hH hl
  have hl : lv_has ls 10 [(0, .ref (b + 111)), (1, .ref (b + 1)), (2, .ref (b + k2)), (3, iv x3)] := hl
  unfold wp_Board_frame at h
  refine lv_aload_n hC.1 hC.2.1 d_Board_frame_0 rfl (lv_at hl 0 rfl) ?_
  refine lv_aload_n hC.1 hC.2.1 d_Board_frame_1 rfl (lv_at hl 2 rfl) ?_
  refine gf_Board_35 hC hK hP hst hk2 d_Board_frame_2 ?_
  refine lv_iload_n hC.1 hC.2.1 d_Board_frame_5 rfl (lv_at hl 3 rfl) ?_
  obtain ⟨hi, h⟩ := h
  refine xg_ald hC hK hP (aL1 hk2) (by decide) hi d_Board_frame_6 ?_
  refine pf_Board_38 hC hK hP hS hst d_Board_frame_7 (fun H locs hP hS => ?_)
  obtain ⟨M_1, eM_1⟩ : ∃ y : Mem, y = up M0 111 2 (M0 (k2 + 1) x3.toNat) := ⟨_, rfl⟩
  rw [← eM_1] at hP
  have h := h M_1 eM_1
  refine lv_aload_n hC.1 hC.2.1 d_Board_frame_10 rfl (lv_at hl 0 rfl) ?_
  refine lv_aload_n hC.1 hC.2.1 d_Board_frame_11 rfl (lv_at hl 2 rfl) ?_
  refine gf_Board_41 hC hK hP hst hk2 d_Board_frame_12 ?_
  refine lv_iload_n hC.1 hC.2.1 d_Board_frame_15 rfl (lv_at hl 3 rfl) ?_
  obtain ⟨hi, h⟩ := h
  refine xg_ald hC hK hP (aL2 hk2) (by decide) hi d_Board_frame_16 ?_
  refine pf_Board_44 hC hK hP hS hst d_Board_frame_17 (fun H locs hP hS => ?_)
  obtain ⟨M_2, eM_2⟩ : ∃ y : Mem, y = up M_1 111 3 (M_1 (k2 + 2) x3.toNat) := ⟨_, rfl⟩
  rw [← eM_2] at hP
  have h := h M_2 eM_2
  refine lv_aload_n hC.1 hC.2.1 d_Board_frame_20 rfl (lv_at hl 0 rfl) ?_
  refine gf_Board_38 hC hK hP hst d_Board_frame_21 ?_
  refine xi_top (fun v4_3 ev4_3 => ?_)
  have h := h v4_3 ev4_3
  refine lv_istore (lv' := [(4, iv v4_3), (0, .ref (b + 111)), (1, .ref (b + 1)), (2, .ref (b + k2)), (3, iv x3)]) hC.1 hC.2.1 d_Board_frame_24 hl (by decide) rfl (fun ls hl => ?_)
  refine lv_aload_n hC.1 hC.2.1 d_Board_frame_26 rfl (lv_at hl 1 rfl) ?_
  refine gf_Board_44 hC hK hP hst d_Board_frame_27 ?_
  refine xi_top (fun v5_4 ev5_4 => ?_)
  have h := h v5_4 ev5_4
  refine lv_istore (lv' := [(5, iv v5_4), (4, iv v4_3), (0, .ref (b + 111)), (1, .ref (b + 1)), (2, .ref (b + k2)), (3, iv x3)]) hC.1 hC.2.1 d_Board_frame_30 hl (by decide) rfl (fun ls hl => ?_)
  refine xi_const hC d_Board_frame_32 ?_
  refine lv_istore (lv' := [(6, iv 0), (5, iv v5_4), (4, iv v4_3), (0, .ref (b + 111)), (1, .ref (b + 1)), (2, .ref (b + k2)), (3, iv x3)]) hC.1 hC.2.1 d_Board_frame_33 hl (by decide) rfl (fun ls hl => ?_)
  obtain ⟨nn, h⟩ := h
  exact s_Board_frame_35 hC hr hlocks hK hst hz hk2 nn _ _ _ _ _ _ _ _ h hP hS (lv_sub hl [3, 4, 5, 6, 2, 1, 0] rfl)
set_option maxHeartbeats 4000000 in
theorem c_Board_mark (l : Launch) (D : va_G) (g : Nat → ClassId) (b sz : Nat) {x1 x2 x3 : Int} {M0 : Mem} {Post : Mem → Prop} (h : wp_Board_mark x1 x2 x3 M0 Post) : Met l y_Board_mark (Cond.code y_Board_mark b_Board_mark 5 (none) :: gd) ({ frames := 0, cells := 0, slots := 0, locals := 0 }) (PcG D g b 174 (cellC b g) sz M0 [.ref (b + 111), iv x1, iv x2, iv x3]) (QV D g b 174 (cellC b g) sz Post) 0 0 (rA b 174 sz) := by
  refine xm_start (by decide) rfl (Nat.le_of_ble_eq_true rfl) ?_
  intro p e s m below meth c ls H args hC hr hlocks hK hP hst hz hS hH hl
  have hl : lv_has ls 5 [(0, .ref (b + 111)), (1, iv x1), (2, iv x2), (3, iv x3)] := hl
  unfold wp_Board_mark at h
  refine lv_iload_n hC.1 hC.2.1 d_Board_mark_0 rfl (lv_at hl 2 rfl) ?_
  refine lv_aload_n hC.1 hC.2.1 d_Board_mark_1 rfl (lv_at hl 0 rfl) ?_
  refine gf_Board_44 hC hK hP hst d_Board_mark_2 ?_
  refine xi_sub hC d_Board_mark_5 ?_
  refine lv_aload_n hC.1 hC.2.1 d_Board_mark_6 rfl (lv_at hl 0 rfl) ?_
  refine gf_Board_68 hC hK hP hst d_Board_mark_7 ?_
  refine xi_mul hC d_Board_mark_10 ?_
  refine lv_iload_n hC.1 hC.2.1 d_Board_mark_11 rfl (lv_at hl 1 rfl) ?_
  refine xi_add hC d_Board_mark_12 ?_
  refine lv_aload_n hC.1 hC.2.1 d_Board_mark_13 rfl (lv_at hl 0 rfl) ?_
  refine gf_Board_38 hC hK hP hst d_Board_mark_14 ?_
  refine xi_sub hC d_Board_mark_17 ?_
  refine xi_top (fun v4_1 ev4_1 => ?_)
  have h := h v4_1 ev4_1
  refine lv_istore (lv' := [(4, iv v4_1), (0, .ref (b + 111)), (1, iv x1), (2, iv x2), (3, iv x3)]) hC.1 hC.2.1 d_Board_mark_18 hl (by decide) rfl (fun ls hl => ?_)
  refine lv_iload hC.1 hC.2.1 d_Board_mark_20 (lv_at hl 0 rfl) ?_
  obtain ⟨b0, h⟩ := h
  refine xi_ilt hC (tgt := 45) d_Board_mark_22 (by decide) b0 (fun q => ?_) (fun q => ?_)
  · have h := h.1 q
    exact xr_v hC hr hlocks hK hP hS h d_Board_mark_45
  · have h := h.2 q
    refine lv_iload hC.1 hC.2.1 d_Board_mark_25 (lv_at hl 0 rfl) ?_
    refine lv_aload_n hC.1 hC.2.1 d_Board_mark_27 rfl (lv_at hl 1 rfl) ?_
    refine gf_Board_22 hC hK hP hst d_Board_mark_28 ?_
    obtain ⟨b0, h⟩ := h
    obtain ⟨b1, h⟩ := h
    refine xi_cge hC (tgt := 45) d_Board_mark_31 (by decide) b0 b1 (fun q => ?_) (fun q => ?_)
    · have h := h.1 q
      exact xr_v hC hr hlocks hK hP hS h d_Board_mark_45
    · have h := h.2 q
      refine lv_aload_n hC.1 hC.2.1 d_Board_mark_34 rfl (lv_at hl 1 rfl) ?_
      refine gf_Board_11 hC hK hP hst d_Board_mark_35 ?_
      refine lv_iload hC.1 hC.2.1 d_Board_mark_38 (lv_at hl 0 rfl) ?_
      refine lv_dup2_11 hC.1 hC.2.1 d_Board_mark_40 rfl rfl ?_
      obtain ⟨hi, h⟩ := h
      refine xg_ald hC hK hP aB1 (by decide) hi d_Board_mark_41 ?_
      refine lv_iload_n hC.1 hC.2.1 d_Board_mark_42 rfl (lv_at hl 4 rfl) ?_
      refine xi_add hC d_Board_mark_43 ?_
      obtain ⟨hi, h⟩ := h
      refine xg_ast hC hK hP hS aB1 (by decide) hi d_Board_mark_44 (fun H locs hP hS => ?_)
      obtain ⟨M_2, eM_2⟩ : ∃ y : Mem, y = up M0 112 v4_1.toNat ((M0 112 v4_1.toNat) + x3) := ⟨_, rfl⟩
      rw [← eM_2] at hP
      have h := h M_2 eM_2
      exact xr_v hC hr hlocks hK hP hS h d_Board_mark_45
set_option maxHeartbeats 4000000 in
theorem s_Board_markSides_3 {p : Program} {l : Launch} {e : Env} {s : State} {m : MethodId} {args : Array Value} {below : List Frame} {meth : Method} {c : Code} {D : va_G} {g : Nat → ClassId} {b sz : Nat} (hC : Cx p m c b_Board_markSides 8 s args "EdgeJoins$Board") (hr : meth.sig.returnType = none) (hlocks : meth.locks = false) (hK : va_K D classes (tyG g) s) (hst : sC (rA b 174 sz) s s.heap) (hz : sz ≤ s.heap.size) {k1 : Nat} {k2 : Nat} (hk1 : isE k1) (hk2 : isL k2) {Post : Mem → Prop} : ∀ (n : Nat) (x3 x4 : Int) (M0 : Mem) (H : Heap) (locs : List Loc) (ls : Array Slot), wp_Board_markSides_3 k1 k2 Post n x3 x4 M0 → va_P D classes (wsG b 174 (cellC b g) M0) H → va_S (rA b 174 sz) s.heap H locs → lv_has ls 8 [(0, .ref (b + 111)), (1, .ref (b + k1)), (2, .ref (b + k2)), (3, iv x3), (4, iv x4)] → W p l e ({ frames := 2, cells := 0, slots := 0, locals := 45 }) s m args below meth c H locs 0 0 (MQ below (QV D g b 174 (cellC b g) sz Post) args s 0 0 (rA b 174 sz)) (F0 m 3 ls []) := by
  intro n
  induction n with
  | zero => intro x3 x4 M0 H locs ls h; exact h.elim
  | succ n ih =>
  intro x3 x4 M0 H locs ls h hP hS hl
  simp only [wp_Board_markSides_3] at h
  refine lv_iload hC.1 hC.2.1 d_Board_markSides_3 (lv_at hl 4 rfl) ?_
  refine lv_aload_n hC.1 hC.2.1 d_Board_markSides_5 rfl (lv_at hl 1 rfl) ?_
  refine gf_Board_47 hC hK hP hst hk1 d_Board_markSides_6 ?_
  obtain ⟨b0, h⟩ := h
  obtain ⟨b1, h⟩ := h
  refine xi_cge hC (tgt := 91) d_Board_markSides_9 (by decide) b0 b1 (fun q => ?_) (fun q => ?_)
  · have h := h.1 q
    exact xr_v hC hr hlocks hK hP hS h d_Board_markSides_91
  · have h := h.2 q
    refine lv_aload_n hC.1 hC.2.1 d_Board_markSides_12 rfl (lv_at hl 1 rfl) ?_
    refine gf_Board_71 hC hK hP hst hk1 d_Board_markSides_13 ?_
    refine lv_iload hC.1 hC.2.1 d_Board_markSides_16 (lv_at hl 4 rfl) ?_
    obtain ⟨hi, h⟩ := h
    refine xg_ald hC hK hP (aE1 hk1) (by decide) hi d_Board_markSides_18 ?_
    refine lv_aload_n hC.1 hC.2.1 d_Board_markSides_19 rfl (lv_at hl 2 rfl) ?_
    refine gf_Board_74 hC hK hP hst hk2 d_Board_markSides_20 ?_
    refine lv_iload_n hC.1 hC.2.1 d_Board_markSides_23 rfl (lv_at hl 3 rfl) ?_
    obtain ⟨hi, h⟩ := h
    refine xg_ald hC hK hP (aL3 hk2) (by decide) hi d_Board_markSides_24 ?_
    refine xi_add hC d_Board_markSides_25 ?_
    refine xi_const hC d_Board_markSides_26 ?_
    refine xi_and3r hC d_Board_markSides_27 ?_
    refine xi_top (fun v5_1 ev5_1 => ?_)
    have h := h v5_1 ev5_1
    refine lv_istore (lv' := [(5, iv v5_1), (0, .ref (b + 111)), (1, .ref (b + k1)), (2, .ref (b + k2)), (3, iv x3), (4, iv x4)]) hC.1 hC.2.1 d_Board_markSides_28 hl (by decide) rfl (fun ls hl => ?_)
    refine lv_aload_n hC.1 hC.2.1 d_Board_markSides_30 rfl (lv_at hl 3 rfl) ?_
    refine lv_aload_n hC.1 hC.2.1 d_Board_markSides_31 rfl (lv_at hl 2 rfl) ?_
    refine lv_iload_n hC.1 hC.2.1 d_Board_markSides_32 rfl (lv_at hl 4 rfl) ?_
    refine lv_iload hC.1 hC.2.1 d_Board_markSides_33 (lv_at hl 5 rfl) ?_
    refine xk_VP (As := [.ref (b + k1), iv x3, iv x4]) (rest := []) hC hK hP hS hst hz hl.1 lk_Board_52 rfl rfl rfl ⟨Nat.le_of_ble_eq_true rfl, Nat.le_of_ble_eq_true rfl⟩ (rc_Layout hK hP hk2) (fun sz' => c_Layout_placedX l D g b sz' hk2 hk1 h) d_Board_markSides_35 rfl (Nat.le_of_ble_eq_true rfl) ⟨Nat.le_of_ble_eq_true rfl, Nat.le_of_ble_eq_true rfl⟩ (fun r_2 h => ?_)
    try dsimp only at h
    refine lv_istore (lv' := [(6, iv r_2), (5, iv v5_1), (0, .ref (b + 111)), (1, .ref (b + k1)), (2, .ref (b + k2)), (3, iv x3), (4, iv x4)]) hC.1 hC.2.1 d_Board_markSides_38 hl (by decide) rfl (fun ls hl => ?_)
    refine lv_aload_n hC.1 hC.2.1 d_Board_markSides_40 rfl (lv_at hl 4 rfl) ?_
    refine lv_aload_n hC.1 hC.2.1 d_Board_markSides_41 rfl (lv_at hl 3 rfl) ?_
    refine lv_iload_n hC.1 hC.2.1 d_Board_markSides_42 rfl (lv_at hl 5 rfl) ?_
    refine lv_iload hC.1 hC.2.1 d_Board_markSides_43 (lv_at hl 6 rfl) ?_
    refine xk_VP (As := [.ref (b + k1), iv x3, iv x4]) (rest := []) hC hK hP hS hst hz hl.1 lk_Board_56 rfl rfl rfl ⟨Nat.le_of_ble_eq_true rfl, Nat.le_of_ble_eq_true rfl⟩ (rc_Layout hK hP hk2) (fun sz' => c_Layout_placedY l D g b sz' hk2 hk1 h) d_Board_markSides_45 rfl (Nat.le_of_ble_eq_true rfl) ⟨Nat.le_of_ble_eq_true rfl, Nat.le_of_ble_eq_true rfl⟩ (fun r_3 h => ?_)
    try dsimp only at h
    refine lv_istore (lv' := [(7, iv r_3), (6, iv r_2), (5, iv v5_1), (0, .ref (b + 111)), (1, .ref (b + k1)), (2, .ref (b + k2)), (3, iv x3), (4, iv x4)]) hC.1 hC.2.1 d_Board_markSides_48 hl (by decide) rfl (fun ls hl => ?_)
    refine lv_iload hC.1 hC.2.1 d_Board_markSides_50 (lv_at hl 2 rfl) ?_
    refine xi_const hC d_Board_markSides_52 ?_
    obtain ⟨b0, h⟩ := h
    refine xi_cne hC (tgt := 70) d_Board_markSides_53 (by decide) b0 (xl rfl) (fun q => ?_) (fun q => ?_)
    · have h := h.1 q
      refine lv_iload hC.1 hC.2.1 d_Board_markSides_70 (lv_at hl 2 rfl) ?_
      refine xi_const hC d_Board_markSides_72 ?_
      obtain ⟨b0, h⟩ := h
      refine xi_cne hC (tgt := 85) d_Board_markSides_73 (by decide) b0 (xl rfl) (fun q => ?_) (fun q => ?_)
      · have h := h.1 q
        obtain ⟨v4_4, ev4_4⟩ : ∃ y : Int, y = x4 + 1 := ⟨_, rfl⟩
        have h := h v4_4 ev4_4
        refine xi_iinc (v := v4_4) (lv' := [(4, iv v4_4), (7, iv r_3), (6, iv r_2), (5, iv v5_1), (0, .ref (b + 111)), (1, .ref (b + k1)), (2, .ref (b + k2)), (3, iv x3)]) hC d_Board_markSides_85 hl (k := 7) rfl ev4_4 (by decide) rfl (fun ls hl => ?_)
        refine lv_goto (tgt := 3) hC.1 hC.2.1 d_Board_markSides_88 (by decide) ?_
        exact ih _ _ _ _ _ _ h hP hS (lv_sub hl [4, 5, 6, 7, 0] rfl)
      · have h := h.2 q
        refine lv_aload_n hC.1 hC.2.1 d_Board_markSides_76 rfl (lv_at hl 3 rfl) ?_
        refine lv_iload hC.1 hC.2.1 d_Board_markSides_77 (lv_at hl 1 rfl) ?_
        refine lv_iload hC.1 hC.2.1 d_Board_markSides_79 (lv_at hl 0 rfl) ?_
        refine xi_const hC d_Board_markSides_81 ?_
        refine xk_Vv (As := [iv r_2, iv r_3, iv (-1)]) (rest := []) hC hK hP hS hst hz hl.1 lk_Board_77 rfl rfl rfl ⟨Nat.le_of_ble_eq_true rfl, Nat.le_of_ble_eq_true rfl⟩ (rc_Board hK hP) (fun sz' => c_Board_mark l D g b sz' h) d_Board_markSides_82 rfl (Nat.le_of_ble_eq_true rfl) ⟨Nat.le_of_ble_eq_true rfl, Nat.le_of_ble_eq_true rfl⟩ (fun M_6 H locs h hP hS => ?_)
        try dsimp only at h
        obtain ⟨v4_7, ev4_7⟩ : ∃ y : Int, y = x4 + 1 := ⟨_, rfl⟩
        have h := h v4_7 ev4_7
        refine xi_iinc (v := v4_7) (lv' := [(4, iv v4_7), (7, iv r_3), (6, iv r_2), (5, iv v5_1), (0, .ref (b + 111)), (1, .ref (b + k1)), (2, .ref (b + k2)), (3, iv x3)]) hC d_Board_markSides_85 hl (k := 7) rfl ev4_7 (by decide) rfl (fun ls hl => ?_)
        refine lv_goto (tgt := 3) hC.1 hC.2.1 d_Board_markSides_88 (by decide) ?_
        exact ih _ _ _ _ _ _ h hP hS (lv_sub hl [4, 5, 6, 7, 0] rfl)
    · have h := h.2 q
      refine lv_aload_n hC.1 hC.2.1 d_Board_markSides_56 rfl (lv_at hl 3 rfl) ?_
      refine lv_iload hC.1 hC.2.1 d_Board_markSides_57 (lv_at hl 1 rfl) ?_
      refine lv_iload hC.1 hC.2.1 d_Board_markSides_59 (lv_at hl 0 rfl) ?_
      refine xi_const hC d_Board_markSides_61 ?_
      refine xi_sub hC d_Board_markSides_62 ?_
      refine xi_const hC d_Board_markSides_63 ?_
      refine xk_Vv (As := [iv r_2, iv (r_3 - 1), iv 1]) (rest := []) hC hK hP hS hst hz hl.1 lk_Board_77 rfl rfl rfl ⟨Nat.le_of_ble_eq_true rfl, Nat.le_of_ble_eq_true rfl⟩ (rc_Board hK hP) (fun sz' => c_Board_mark l D g b sz' h) d_Board_markSides_64 rfl (Nat.le_of_ble_eq_true rfl) ⟨Nat.le_of_ble_eq_true rfl, Nat.le_of_ble_eq_true rfl⟩ (fun M_9 H locs h hP hS => ?_)
      try dsimp only at h
      refine lv_goto (tgt := 85) hC.1 hC.2.1 d_Board_markSides_67 (by decide) ?_
      obtain ⟨v4_10, ev4_10⟩ : ∃ y : Int, y = x4 + 1 := ⟨_, rfl⟩
      have h := h v4_10 ev4_10
      refine xi_iinc (v := v4_10) (lv' := [(4, iv v4_10), (7, iv r_3), (6, iv r_2), (5, iv v5_1), (0, .ref (b + 111)), (1, .ref (b + k1)), (2, .ref (b + k2)), (3, iv x3)]) hC d_Board_markSides_85 hl (k := 7) rfl ev4_10 (by decide) rfl (fun ls hl => ?_)
      refine lv_goto (tgt := 3) hC.1 hC.2.1 d_Board_markSides_88 (by decide) ?_
      exact ih _ _ _ _ _ _ h hP hS (lv_sub hl [4, 5, 6, 7, 0] rfl)
set_option maxHeartbeats 4000000 in
theorem c_Board_markSides (l : Launch) (D : va_G) (g : Nat → ClassId) (b sz : Nat) {k1 : Nat} {k2 : Nat} (hk1 : isE k1) (hk2 : isL k2) {x3 : Int} {M0 : Mem} {Post : Mem → Prop} (h : wp_Board_markSides k1 k2 x3 M0 Post) : Met l y_Board_markSides (Cond.code y_Board_markSides b_Board_markSides 8 (none) :: gd) ({ frames := 2, cells := 0, slots := 0, locals := 45 }) (PcG D g b 174 (cellC b g) sz M0 [.ref (b + 111), .ref (b + k1), .ref (b + k2), iv x3]) (QV D g b 174 (cellC b g) sz Post) 0 0 (rA b 174 sz) := by
  refine xm_start (by decide) rfl (Nat.le_of_ble_eq_true rfl) ?_
  intro p e s m below meth c ls H args hC hr hlocks hK hP hst hz hS hH hl
  have hl : lv_has ls 8 [(0, .ref (b + 111)), (1, .ref (b + k1)), (2, .ref (b + k2)), (3, iv x3)] := hl
  unfold wp_Board_markSides at h
  refine xi_const hC d_Board_markSides_0 ?_
  refine lv_istore (lv' := [(4, iv 0), (0, .ref (b + 111)), (1, .ref (b + k1)), (2, .ref (b + k2)), (3, iv x3)]) hC.1 hC.2.1 d_Board_markSides_1 hl (by decide) rfl (fun ls hl => ?_)
  obtain ⟨nn, h⟩ := h
  exact s_Board_markSides_3 hC hr hlocks hK hst hz hk1 hk2 nn _ _ _ _ _ _ h hP hS (lv_sub hl [1, 2, 3, 4, 0] rfl)
set_option maxHeartbeats 4000000 in
theorem s_Board_lay_74 {p : Program} {l : Launch} {e : Env} {s : State} {m : MethodId} {args : Array Value} {below : List Frame} {meth : Method} {c : Code} {D : va_G} {g : Nat → ClassId} {b sz : Nat} (hC : Cx p m c b_Board_lay 5 s args "EdgeJoins$Board") (hr : meth.sig.returnType = none) (hlocks : meth.locks = false) (hK : va_K D classes (tyG g) s) (hst : sC (rA b 174 sz) s s.heap) (hz : sz ≤ s.heap.size) {Post : Mem → Prop} : ∀ (n : Nat) (x4 : Int) (M0 : Mem) (H : Heap) (locs : List Loc) (ls : Array Slot), wp_Board_lay_74 Post n x4 M0 → va_P D classes (wsG b 174 (cellC b g) M0) H → va_S (rA b 174 sz) s.heap H locs → lv_has ls 5 [(0, .ref (b + 111)), (4, iv x4)] → W p l e ({ frames := 3, cells := 0, slots := 0, locals := 74 }) s m args below meth c H locs 0 0 (MQ below (QV D g b 174 (cellC b g) sz Post) args s 0 0 (rA b 174 sz)) (F0 m 74 ls []) := by
  intro n
  induction n with
  | zero => intro x4 M0 H locs ls h; exact h.elim
  | succ n ih =>
  intro x4 M0 H locs ls h hP hS hl
  simp only [wp_Board_lay_74] at h
  refine lv_iload hC.1 hC.2.1 d_Board_lay_74 (lv_at hl 1 rfl) ?_
  refine lv_aload_n hC.1 hC.2.1 d_Board_lay_76 rfl (lv_at hl 0 rfl) ?_
  refine gf_Board_22 hC hK hP hst d_Board_lay_77 ?_
  obtain ⟨b0, h⟩ := h
  obtain ⟨b1, h⟩ := h
  refine xi_cge hC (tgt := 108) d_Board_lay_80 (by decide) b0 b1 (fun q => ?_) (fun q => ?_)
  · have h := h.1 q
    exact xr_v hC hr hlocks hK hP hS h d_Board_lay_108
  · have h := h.2 q
    refine lv_aload_n hC.1 hC.2.1 d_Board_lay_83 rfl (lv_at hl 0 rfl) ?_
    refine gf_Board_11 hC hK hP hst d_Board_lay_84 ?_
    refine lv_iload hC.1 hC.2.1 d_Board_lay_87 (lv_at hl 1 rfl) ?_
    refine lv_dup2_11 hC.1 hC.2.1 d_Board_lay_89 rfl rfl ?_
    obtain ⟨hi, h⟩ := h
    refine xg_ald hC hK hP aB1 (by decide) hi d_Board_lay_90 ?_
    refine lv_aload_n hC.1 hC.2.1 d_Board_lay_91 rfl (lv_at hl 0 rfl) ?_
    refine gf_Board_11 hC hK hP hst d_Board_lay_92 ?_
    refine lv_iload hC.1 hC.2.1 d_Board_lay_95 (lv_at hl 1 rfl) ?_
    refine xi_const hC d_Board_lay_97 ?_
    refine xi_sub hC d_Board_lay_98 ?_
    obtain ⟨hi, h⟩ := h
    refine xg_ald hC hK hP aB1 (by decide) hi d_Board_lay_99 ?_
    refine xi_add hC d_Board_lay_100 ?_
    obtain ⟨hi, h⟩ := h
    refine xg_ast hC hK hP hS aB1 (by decide) hi d_Board_lay_101 (fun H locs hP hS => ?_)
    obtain ⟨M_1, eM_1⟩ : ∃ y : Mem, y = up M0 112 x4.toNat ((M0 112 x4.toNat) + (M0 112 (x4 - 1).toNat)) := ⟨_, rfl⟩
    rw [← eM_1] at hP
    have h := h M_1 eM_1
    obtain ⟨v4_2, ev4_2⟩ : ∃ y : Int, y = x4 + 1 := ⟨_, rfl⟩
    have h := h v4_2 ev4_2
    refine xi_iinc (v := v4_2) (lv' := [(4, iv v4_2), (0, .ref (b + 111))]) hC d_Board_lay_102 hl (k := 1) rfl ev4_2 (by decide) rfl (fun ls hl => ?_)
    refine lv_goto (tgt := 74) hC.1 hC.2.1 d_Board_lay_105 (by decide) ?_
    exact ih _ _ _ _ _ h hP hS (lv_sub hl [1, 0] rfl)
set_option maxHeartbeats 4000000 in
theorem s_Board_lay_36 {p : Program} {l : Launch} {e : Env} {s : State} {m : MethodId} {args : Array Value} {below : List Frame} {meth : Method} {c : Code} {D : va_G} {g : Nat → ClassId} {b sz : Nat} (hC : Cx p m c b_Board_lay 5 s args "EdgeJoins$Board") (hr : meth.sig.returnType = none) (hlocks : meth.locks = false) (hK : va_K D classes (tyG g) s) (hst : sC (rA b 174 sz) s s.heap) (hz : sz ≤ s.heap.size) {k2 : Nat} (hk2 : isL k2) {Post : Mem → Prop} : ∀ (n : Nat) (x3 x4 : Int) (M0 : Mem) (H : Heap) (locs : List Loc) (ls : Array Slot), wp_Board_lay_36 k2 Post n x3 x4 M0 → va_P D classes (wsG b 174 (cellC b g) M0) H → va_S (rA b 174 sz) s.heap H locs → lv_has ls 5 [(0, .ref (b + 111)), (1, .ref (b + 1)), (2, .ref (b + k2)), (3, iv x3), (4, iv x4)] → W p l e ({ frames := 3, cells := 0, slots := 0, locals := 74 }) s m args below meth c H locs 0 0 (MQ below (QV D g b 174 (cellC b g) sz Post) args s 0 0 (rA b 174 sz)) (F0 m 36 ls []) := by
  intro n
  induction n with
  | zero => intro x3 x4 M0 H locs ls h; exact h.elim
  | succ n ih =>
  intro x3 x4 M0 H locs ls h hP hS hl
  simp only [wp_Board_lay_36] at h
  refine lv_iload hC.1 hC.2.1 d_Board_lay_36 (lv_at hl 4 rfl) ?_
  refine xi_bipush hC d_Board_lay_38 (by decide) ?_
  obtain ⟨b0, h⟩ := h
  refine xi_cge hC (tgt := 71) d_Board_lay_40 (by decide) b0 (xl rfl) (fun q => ?_) (fun q => ?_)
  · have h := h.1 q
    refine xi_const hC d_Board_lay_71 ?_
    refine lv_istore (lv' := [(4, iv 1), (0, .ref (b + 111)), (1, .ref (b + 1)), (2, .ref (b + k2)), (3, iv x3)]) hC.1 hC.2.1 d_Board_lay_72 hl (by decide) rfl (fun ls hl => ?_)
    obtain ⟨nn, h⟩ := h
    exact s_Board_lay_74 hC hr hlocks hK hst hz nn _ _ _ _ _ h hP hS (lv_sub hl [1, 0] rfl)
  · have h := h.2 q
    refine lv_aload_n hC.1 hC.2.1 d_Board_lay_43 rfl (lv_at hl 2 rfl) ?_
    refine gf_Board_26 hC hK hP hst hk2 d_Board_lay_44 ?_
    refine lv_iload hC.1 hC.2.1 d_Board_lay_47 (lv_at hl 4 rfl) ?_
    obtain ⟨hi, h⟩ := h
    refine xg_ald hC hK hP (aL4 hk2) (by decide) hi d_Board_lay_49 ?_
    refine lv_iload_n hC.1 hC.2.1 d_Board_lay_50 rfl (lv_at hl 3 rfl) ?_
    obtain ⟨b0, h⟩ := h
    obtain ⟨b1, h⟩ := h
    refine xi_cne hC (tgt := 65) d_Board_lay_51 (by decide) b0 b1 (fun q => ?_) (fun q => ?_)
    · have h := h.1 q
      obtain ⟨v4_1, ev4_1⟩ : ∃ y : Int, y = x4 + 1 := ⟨_, rfl⟩
      have h := h v4_1 ev4_1
      refine xi_iinc (v := v4_1) (lv' := [(4, iv v4_1), (0, .ref (b + 111)), (1, .ref (b + 1)), (2, .ref (b + k2)), (3, iv x3)]) hC d_Board_lay_65 hl (k := 4) rfl ev4_1 (by decide) rfl (fun ls hl => ?_)
      refine lv_goto (tgt := 36) hC.1 hC.2.1 d_Board_lay_68 (by decide) ?_
      exact ih _ _ _ _ _ _ h hP hS (lv_sub hl [1, 2, 3, 4, 0] rfl)
    · have h := h.2 q
      refine lv_aload_n hC.1 hC.2.1 d_Board_lay_54 rfl (lv_at hl 0 rfl) ?_
      refine lv_aload_n hC.1 hC.2.1 d_Board_lay_55 rfl (lv_at hl 1 rfl) ?_
      refine lv_iload hC.1 hC.2.1 d_Board_lay_56 (lv_at hl 4 rfl) ?_
      obtain ⟨hi, h⟩ := h
      refine al_EdgeArr hC hK hP hi d_Board_lay_58 (fun hq_2 => ?_)
      refine lv_aload_n hC.1 hC.2.1 d_Board_lay_59 rfl (lv_at hl 2 rfl) ?_
      refine lv_iload hC.1 hC.2.1 d_Board_lay_60 (lv_at hl 4 rfl) ?_
      refine xk_Vv (As := [.ref (b + (114 + 10 * x4.toNat)), .ref (b + k2), iv x4]) (rest := []) hC hK hP hS hst hz hl.1 lk_Board_31 rfl rfl rfl ⟨Nat.le_of_ble_eq_true rfl, Nat.le_of_ble_eq_true rfl⟩ (rc_Board hK hP) (fun sz' => c_Board_markSides l D g b sz' hq_2 hk2 h) d_Board_lay_62 rfl (Nat.le_of_ble_eq_true rfl) ⟨Nat.le_of_ble_eq_true rfl, Nat.le_of_ble_eq_true rfl⟩ (fun M_4 H locs h hP hS => ?_)
      try dsimp only at h
      obtain ⟨v4_5, ev4_5⟩ : ∃ y : Int, y = x4 + 1 := ⟨_, rfl⟩
      have h := h v4_5 ev4_5
      refine xi_iinc (v := v4_5) (lv' := [(4, iv v4_5), (0, .ref (b + 111)), (1, .ref (b + 1)), (2, .ref (b + k2)), (3, iv x3)]) hC d_Board_lay_65 hl (k := 4) rfl ev4_5 (by decide) rfl (fun ls hl => ?_)
      refine lv_goto (tgt := 36) hC.1 hC.2.1 d_Board_lay_68 (by decide) ?_
      exact ih _ _ _ _ _ _ h hP hS (lv_sub hl [1, 2, 3, 4, 0] rfl)
set_option maxHeartbeats 4000000 in
theorem s_Board_lay_10 {p : Program} {l : Launch} {e : Env} {s : State} {m : MethodId} {args : Array Value} {below : List Frame} {meth : Method} {c : Code} {D : va_G} {g : Nat → ClassId} {b sz : Nat} (hC : Cx p m c b_Board_lay 5 s args "EdgeJoins$Board") (hr : meth.sig.returnType = none) (hlocks : meth.locks = false) (hK : va_K D classes (tyG g) s) (hst : sC (rA b 174 sz) s s.heap) (hz : sz ≤ s.heap.size) {k2 : Nat} (hk2 : isL k2) {Post : Mem → Prop} : ∀ (n : Nat) (x3 x4 : Int) (M0 : Mem) (H : Heap) (locs : List Loc) (ls : Array Slot), wp_Board_lay_10 k2 Post n x3 x4 M0 → va_P D classes (wsG b 174 (cellC b g) M0) H → va_S (rA b 174 sz) s.heap H locs → lv_has ls 5 [(0, .ref (b + 111)), (1, .ref (b + 1)), (2, .ref (b + k2)), (3, iv x3), (4, iv x4)] → W p l e ({ frames := 3, cells := 0, slots := 0, locals := 74 }) s m args below meth c H locs 0 0 (MQ below (QV D g b 174 (cellC b g) sz Post) args s 0 0 (rA b 174 sz)) (F0 m 10 ls []) := by
  intro n
  induction n with
  | zero => intro x3 x4 M0 H locs ls h; exact h.elim
  | succ n ih =>
  intro x3 x4 M0 H locs ls h hP hS hl
  simp only [wp_Board_lay_10] at h
  refine lv_iload hC.1 hC.2.1 d_Board_lay_10 (lv_at hl 4 rfl) ?_
  refine lv_aload_n hC.1 hC.2.1 d_Board_lay_12 rfl (lv_at hl 0 rfl) ?_
  refine gf_Board_22 hC hK hP hst d_Board_lay_13 ?_
  obtain ⟨b0, h⟩ := h
  obtain ⟨b1, h⟩ := h
  refine xi_cge hC (tgt := 33) d_Board_lay_16 (by decide) b0 b1 (fun q => ?_) (fun q => ?_)
  · have h := h.1 q
    refine xi_const hC d_Board_lay_33 ?_
    refine lv_istore (lv' := [(4, iv 0), (0, .ref (b + 111)), (1, .ref (b + 1)), (2, .ref (b + k2)), (3, iv x3)]) hC.1 hC.2.1 d_Board_lay_34 hl (by decide) rfl (fun ls hl => ?_)
    obtain ⟨nn, h⟩ := h
    exact s_Board_lay_36 hC hr hlocks hK hst hz hk2 nn _ _ _ _ _ _ h hP hS (lv_sub hl [1, 2, 3, 4, 0] rfl)
  · have h := h.2 q
    refine lv_aload_n hC.1 hC.2.1 d_Board_lay_19 rfl (lv_at hl 0 rfl) ?_
    refine gf_Board_11 hC hK hP hst d_Board_lay_20 ?_
    refine lv_iload hC.1 hC.2.1 d_Board_lay_23 (lv_at hl 4 rfl) ?_
    refine xi_const hC d_Board_lay_25 ?_
    obtain ⟨hi, h⟩ := h
    refine xg_ast hC hK hP hS aB1 (by decide) hi d_Board_lay_26 (fun H locs hP hS => ?_)
    obtain ⟨M_1, eM_1⟩ : ∃ y : Mem, y = up M0 112 x4.toNat 0 := ⟨_, rfl⟩
    rw [← eM_1] at hP
    have h := h M_1 eM_1
    obtain ⟨v4_2, ev4_2⟩ : ∃ y : Int, y = x4 + 1 := ⟨_, rfl⟩
    have h := h v4_2 ev4_2
    refine xi_iinc (v := v4_2) (lv' := [(4, iv v4_2), (0, .ref (b + 111)), (1, .ref (b + 1)), (2, .ref (b + k2)), (3, iv x3)]) hC d_Board_lay_27 hl (k := 4) rfl ev4_2 (by decide) rfl (fun ls hl => ?_)
    refine lv_goto (tgt := 10) hC.1 hC.2.1 d_Board_lay_30 (by decide) ?_
    exact ih _ _ _ _ _ _ h hP hS (lv_sub hl [1, 2, 3, 4, 0] rfl)
set_option maxHeartbeats 4000000 in
theorem c_Board_lay (l : Launch) (D : va_G) (g : Nat → ClassId) (b sz : Nat) {k2 : Nat} (hk2 : isL k2) {x3 : Int} {M0 : Mem} {Post : Mem → Prop} (h : wp_Board_lay k2 x3 M0 Post) : Met l y_Board_lay (Cond.code y_Board_lay b_Board_lay 5 (none) :: gd) ({ frames := 3, cells := 0, slots := 0, locals := 74 }) (PcG D g b 174 (cellC b g) sz M0 [.ref (b + 111), .ref (b + 1), .ref (b + k2), iv x3]) (QV D g b 174 (cellC b g) sz Post) 0 0 (rA b 174 sz) := by
  refine xm_start (by decide) rfl (Nat.le_of_ble_eq_true rfl) ?_
  intro p e s m below meth c ls H args hC hr hlocks hK hP hst hz hS hH hl
  have hl : lv_has ls 5 [(0, .ref (b + 111)), (1, .ref (b + 1)), (2, .ref (b + k2)), (3, iv x3)] := hl
  unfold wp_Board_lay at h
  refine lv_aload_n hC.1 hC.2.1 d_Board_lay_0 rfl (lv_at hl 0 rfl) ?_
  refine lv_aload_n hC.1 hC.2.1 d_Board_lay_1 rfl (lv_at hl 1 rfl) ?_
  refine lv_aload_n hC.1 hC.2.1 d_Board_lay_2 rfl (lv_at hl 2 rfl) ?_
  refine lv_iload_n hC.1 hC.2.1 d_Board_lay_3 rfl (lv_at hl 3 rfl) ?_
  refine xk_Vv (As := [.ref (b + 1), .ref (b + k2), iv x3]) (rest := []) hC hK hP hS hst hz hl.1 lk_Board_18 rfl rfl rfl ⟨Nat.le_of_ble_eq_true rfl, Nat.le_of_ble_eq_true rfl⟩ (rc_Board hK hP) (fun sz' => c_Board_frame l D g b sz' hk2 h) d_Board_lay_4 rfl (Nat.le_of_ble_eq_true rfl) ⟨Nat.le_of_ble_eq_true rfl, Nat.le_of_ble_eq_true rfl⟩ (fun M_2 H locs h hP hS => ?_)
  try dsimp only at h
  refine xi_const hC d_Board_lay_7 ?_
  refine lv_istore (lv' := [(4, iv 0), (0, .ref (b + 111)), (1, .ref (b + 1)), (2, .ref (b + k2)), (3, iv x3)]) hC.1 hC.2.1 d_Board_lay_8 hl (by decide) rfl (fun ls hl => ?_)
  obtain ⟨nn, h⟩ := h
  exact s_Board_lay_10 hC hr hlocks hK hst hz hk2 nn _ _ _ _ _ _ h hP hS (lv_sub hl [1, 2, 3, 4, 0] rfl)
set_option maxHeartbeats 4000000 in
theorem s_Board_hasOverlap_2 {p : Program} {l : Launch} {e : Env} {s : State} {m : MethodId} {args : Array Value} {below : List Frame} {meth : Method} {c : Code} {D : va_G} {g : Nat → ClassId} {b sz : Nat} (hC : Cx p m c b_Board_hasOverlap 2 s args "EdgeJoins$Board") (hr : meth.sig.returnType = some .boolean) (hlocks : meth.locks = false) (hK : va_K D classes (tyG g) s) (hst : sC (rA b 174 sz) s s.heap) (hz : sz ≤ s.heap.size) {M0 : Mem} {H : Heap} (hP : va_P D classes (wsG b 174 (cellC b g) M0) H) (hS : va_S (rA b 174 sz) s.heap H []) (hH : H = s.heap) {Post : Int → Prop} : ∀ (n : Nat) (x1 : Int) (ls : Array Slot), wp_Board_hasOverlap_2 M0 Post n x1 → lv_has ls 2 [(0, .ref (b + 111)), (1, iv x1)] → W p l e ({ frames := 0, cells := 0, slots := 0, locals := 0 }) s m args below meth c H [] 0 0 (MQ below (QP Post) args s 0 0 nil_) (F0 m 2 ls []) := by
  intro n
  induction n with
  | zero => intro x1 ls h; exact h.elim
  | succ n ih =>
  intro x1 ls h hl
  simp only [wp_Board_hasOverlap_2] at h
  refine lv_iload_n hC.1 hC.2.1 d_Board_hasOverlap_2 rfl (lv_at hl 1 rfl) ?_
  refine lv_aload_n hC.1 hC.2.1 d_Board_hasOverlap_3 rfl (lv_at hl 0 rfl) ?_
  refine gf_Board_22 hC hK hP hst d_Board_hasOverlap_4 ?_
  obtain ⟨b0, h⟩ := h
  obtain ⟨b1, h⟩ := h
  refine xi_cge hC (tgt := 28) d_Board_hasOverlap_7 (by decide) b0 b1 (fun q => ?_) (fun q => ?_)
  · have h := h.1 q
    refine xi_const hC d_Board_hasOverlap_28 ?_
    exact xr_zp hC hr hlocks hH (by decide) h d_Board_hasOverlap_29
  · have h := h.2 q
    refine lv_aload_n hC.1 hC.2.1 d_Board_hasOverlap_10 rfl (lv_at hl 0 rfl) ?_
    refine gf_Board_11 hC hK hP hst d_Board_hasOverlap_11 ?_
    refine lv_iload_n hC.1 hC.2.1 d_Board_hasOverlap_14 rfl (lv_at hl 1 rfl) ?_
    obtain ⟨hi, h⟩ := h
    refine xg_ald hC hK hP aB1 (by decide) hi d_Board_hasOverlap_15 ?_
    refine xi_const hC d_Board_hasOverlap_16 ?_
    obtain ⟨b0, h⟩ := h
    refine xi_cle hC (tgt := 22) d_Board_hasOverlap_17 (by decide) b0 (xl rfl) (fun q => ?_) (fun q => ?_)
    · have h := h.1 q
      obtain ⟨v1_1, ev1_1⟩ : ∃ y : Int, y = x1 + 1 := ⟨_, rfl⟩
      have h := h v1_1 ev1_1
      refine xi_iinc (v := v1_1) (lv' := [(1, iv v1_1), (0, .ref (b + 111))]) hC d_Board_hasOverlap_22 hl (k := 1) rfl ev1_1 (by decide) rfl (fun ls hl => ?_)
      refine lv_goto (tgt := 2) hC.1 hC.2.1 d_Board_hasOverlap_25 (by decide) ?_
      exact ih _ _ h (lv_sub hl [1, 0] rfl)
    · have h := h.2 q
      refine xi_const hC d_Board_hasOverlap_20 ?_
      exact xr_zp hC hr hlocks hH (by decide) h d_Board_hasOverlap_21
set_option maxHeartbeats 4000000 in
theorem c_Board_hasOverlap (l : Launch) (D : va_G) (g : Nat → ClassId) (b sz : Nat) {M0 : Mem} {Post : Int → Prop} (h : wp_Board_hasOverlap M0 Post) : Met l y_Board_hasOverlap (Cond.code y_Board_hasOverlap b_Board_hasOverlap 2 (some .boolean) :: gd) ({ frames := 0, cells := 0, slots := 0, locals := 0 }) (PcG D g b 174 (cellC b g) sz M0 [.ref (b + 111)]) (QP Post) 0 0 nil_ := by
  refine xm_start (by decide) rfl (Nat.le_of_ble_eq_true rfl) ?_
  intro p e s m below meth c ls H args hC hr hlocks hK hP hst hz hS hH hl
  have hl : lv_has ls 2 [(0, .ref (b + 111))] := hl
  unfold wp_Board_hasOverlap at h
  refine xi_const hC d_Board_hasOverlap_0 ?_
  refine lv_istore_n (lv' := [(1, iv 0), (0, .ref (b + 111))]) hC.1 hC.2.1 d_Board_hasOverlap_1 rfl hl (by decide) rfl (fun ls hl => ?_)
  obtain ⟨nn, h⟩ := h
  exact s_Board_hasOverlap_2 hC hr hlocks hK hst hz hP hS hH nn _ _ h (lv_sub hl [1, 0] rfl)
