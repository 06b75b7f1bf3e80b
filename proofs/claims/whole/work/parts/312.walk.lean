set_option maxHeartbeats 4000000 in
theorem s_Model_lay_130 {p : Program} {l : Launch} {e : Env} {s : State} {m : MethodId} {args : Array Value} {below : List Frame} {meth : Method} {c : Code} {D : va_G} {g : Nat → ClassId} {b sz : Nat} (hC : Cx p m c b_Model_lay 5 s args "EdgeJoinsModel") (hr : meth.sig.returnType = none) (hlocks : meth.locks = false) (hK : va_K D classes (tyG g) s) (hst : sC (rA b 14 sz) s s.heap) (hz : sz ≤ s.heap.size) {Post : Mem → Prop} {X16 : Int → Int → Mem → Prop} {X23 : Int → Int → Int → Mem → Prop} {X34 : Int → Int → Int → Int → Mem → Prop} (hX16 : ∀ (x1 x2 : Int) (M0 : Mem) (H : Heap) (locs : List Loc) (ls : Array Slot), X16 x1 x2 M0 → va_P D classes (wsG b 14 (cellN b g) M0) H → va_S (rA b 14 sz) s.heap H locs → lv_has ls 5 [(0, .ref (b + 0)), (1, iv x1), (2, iv x2)] → W p l e ({ frames := 1, cells := 0, slots := 0, locals := 25 }) s m args below meth c H locs 0 0 (MQ below (QV D g b 14 (cellN b g) sz Post) args s 0 0 (rA b 14 sz)) (F0 m 16 ls [])) (hX23 : ∀ (x1 x2 x3 : Int) (M0 : Mem) (H : Heap) (locs : List Loc) (ls : Array Slot), X23 x1 x2 x3 M0 → va_P D classes (wsG b 14 (cellN b g) M0) H → va_S (rA b 14 sz) s.heap H locs → lv_has ls 5 [(0, .ref (b + 0)), (1, iv x1), (2, iv x2), (3, iv x3)] → W p l e ({ frames := 1, cells := 0, slots := 0, locals := 25 }) s m args below meth c H locs 0 0 (MQ below (QV D g b 14 (cellN b g) sz Post) args s 0 0 (rA b 14 sz)) (F0 m 23 ls [])) (hX34 : ∀ (x1 x2 x3 x4 : Int) (M0 : Mem) (H : Heap) (locs : List Loc) (ls : Array Slot), X34 x1 x2 x3 x4 M0 → va_P D classes (wsG b 14 (cellN b g) M0) H → va_S (rA b 14 sz) s.heap H locs → lv_has ls 5 [(0, .ref (b + 0)), (1, iv x1), (2, iv x2), (3, iv x3), (4, iv x4)] → W p l e ({ frames := 1, cells := 0, slots := 0, locals := 25 }) s m args below meth c H locs 0 0 (MQ below (QV D g b 14 (cellN b g) sz Post) args s 0 0 (rA b 14 sz)) (F0 m 34 ls [])) : ∀ (x1 x2 x3 x4 : Int) (M0 : Mem) (H : Heap) (locs : List Loc) (ls : Array Slot), wp_Model_lay_130 X16 X23 X34 x1 x2 x3 x4 M0 Post → va_P D classes (wsG b 14 (cellN b g) M0) H → va_S (rA b 14 sz) s.heap H locs → lv_has ls 5 [(0, .ref (b + 0)), (1, iv x1), (2, iv x2), (3, iv x3), (4, iv x4)] → W p l e ({ frames := 1, cells := 0, slots := 0, locals := 25 }) s m args below meth c H locs 0 0 (MQ below (QV D g b 14 (cellN b g) sz Post) args s 0 0 (rA b 14 sz)) (F0 m 130 ls []) := by
  intro x1 x2 x3 x4 M0 H locs ls h hP hS hl
  unfold wp_Model_lay_130 at h
  refine lv_iload_n hC.1 hC.2.1 d_Model_lay_130 rfl (lv_at hl 2 rfl) ?_
  obtain ⟨b0, h⟩ := h
  refine xi_ine hC (tgt := 153) d_Model_lay_131 (by decide) b0 (fun q => ?_) (fun q => ?_)
  · have h := h.1 q
    obtain ⟨v4_1, ev4_1⟩ : ∃ y : Int, y = x4 + 1 := ⟨_, rfl⟩
    have h := h v4_1 ev4_1
    refine xi_iinc (v := v4_1) (lv' := [(4, iv v4_1), (0, .ref (b + 0)), (1, iv x1), (2, iv x2), (3, iv x3)]) hC d_Model_lay_153 hl (k := 4) rfl ev4_1 (by decide) rfl (fun ls hl => ?_)
    refine lv_goto (tgt := 34) hC.1 hC.2.1 d_Model_lay_156 (by decide) ?_
    exact hX34 _ _ _ _ _ _ _ _ h hP hS (lv_sub hl [1, 2, 3, 4, 0] rfl)
  · have h := h.2 q
    refine lv_aload_n hC.1 hC.2.1 d_Model_lay_134 rfl (lv_at hl 0 rfl) ?_
    refine gf_Model_82 hC hK hP hst d_Model_lay_135 ?_
    refine lv_aload_n hC.1 hC.2.1 d_Model_lay_138 rfl (lv_at hl 0 rfl) ?_
    refine gf_Model_166 hC hK hP hst d_Model_lay_139 ?_
    obtain ⟨b0, h⟩ := h
    obtain ⟨b1, h⟩ := h
    refine xi_cge hC (tgt := 153) d_Model_lay_142 (by decide) b0 b1 (fun q => ?_) (fun q => ?_)
    · have h := h.1 q
      obtain ⟨v4_2, ev4_2⟩ : ∃ y : Int, y = x4 + 1 := ⟨_, rfl⟩
      have h := h v4_2 ev4_2
      refine xi_iinc (v := v4_2) (lv' := [(4, iv v4_2), (0, .ref (b + 0)), (1, iv x1), (2, iv x2), (3, iv x3)]) hC d_Model_lay_153 hl (k := 4) rfl ev4_2 (by decide) rfl (fun ls hl => ?_)
      refine lv_goto (tgt := 34) hC.1 hC.2.1 d_Model_lay_156 (by decide) ?_
      exact hX34 _ _ _ _ _ _ _ _ h hP hS (lv_sub hl [1, 2, 3, 4, 0] rfl)
    · have h := h.2 q
      refine lv_aload_n hC.1 hC.2.1 d_Model_lay_145 rfl (lv_at hl 0 rfl) ?_
      refine lv_aload_n hC.1 hC.2.1 d_Model_lay_146 rfl (lv_at hl 0 rfl) ?_
      refine gf_Model_82 hC hK hP hst d_Model_lay_147 ?_
      refine pf_Model_166 hC hK hP hS hst d_Model_lay_150 (fun H locs hP hS => ?_)
      obtain ⟨M_3, eM_3⟩ : ∃ y : Mem, y = up M0 0 23 (M0 0 20) := ⟨_, rfl⟩
      rw [← eM_3] at hP
      have h := h M_3 eM_3
      obtain ⟨v4_4, ev4_4⟩ : ∃ y : Int, y = x4 + 1 := ⟨_, rfl⟩
      have h := h v4_4 ev4_4
      refine xi_iinc (v := v4_4) (lv' := [(4, iv v4_4), (0, .ref (b + 0)), (1, iv x1), (2, iv x2), (3, iv x3)]) hC d_Model_lay_153 hl (k := 4) rfl ev4_4 (by decide) rfl (fun ls hl => ?_)
      refine lv_goto (tgt := 34) hC.1 hC.2.1 d_Model_lay_156 (by decide) ?_
      exact hX34 _ _ _ _ _ _ _ _ h hP hS (lv_sub hl [1, 2, 3, 4, 0] rfl)
set_option maxHeartbeats 4000000 in
theorem s_Model_lay_107 {p : Program} {l : Launch} {e : Env} {s : State} {m : MethodId} {args : Array Value} {below : List Frame} {meth : Method} {c : Code} {D : va_G} {g : Nat → ClassId} {b sz : Nat} (hC : Cx p m c b_Model_lay 5 s args "EdgeJoinsModel") (hr : meth.sig.returnType = none) (hlocks : meth.locks = false) (hK : va_K D classes (tyG g) s) (hst : sC (rA b 14 sz) s s.heap) (hz : sz ≤ s.heap.size) {Post : Mem → Prop} {X16 : Int → Int → Mem → Prop} {X23 : Int → Int → Int → Mem → Prop} {X34 : Int → Int → Int → Int → Mem → Prop} (hX16 : ∀ (x1 x2 : Int) (M0 : Mem) (H : Heap) (locs : List Loc) (ls : Array Slot), X16 x1 x2 M0 → va_P D classes (wsG b 14 (cellN b g) M0) H → va_S (rA b 14 sz) s.heap H locs → lv_has ls 5 [(0, .ref (b + 0)), (1, iv x1), (2, iv x2)] → W p l e ({ frames := 1, cells := 0, slots := 0, locals := 25 }) s m args below meth c H locs 0 0 (MQ below (QV D g b 14 (cellN b g) sz Post) args s 0 0 (rA b 14 sz)) (F0 m 16 ls [])) (hX23 : ∀ (x1 x2 x3 : Int) (M0 : Mem) (H : Heap) (locs : List Loc) (ls : Array Slot), X23 x1 x2 x3 M0 → va_P D classes (wsG b 14 (cellN b g) M0) H → va_S (rA b 14 sz) s.heap H locs → lv_has ls 5 [(0, .ref (b + 0)), (1, iv x1), (2, iv x2), (3, iv x3)] → W p l e ({ frames := 1, cells := 0, slots := 0, locals := 25 }) s m args below meth c H locs 0 0 (MQ below (QV D g b 14 (cellN b g) sz Post) args s 0 0 (rA b 14 sz)) (F0 m 23 ls [])) (hX34 : ∀ (x1 x2 x3 x4 : Int) (M0 : Mem) (H : Heap) (locs : List Loc) (ls : Array Slot), X34 x1 x2 x3 x4 M0 → va_P D classes (wsG b 14 (cellN b g) M0) H → va_S (rA b 14 sz) s.heap H locs → lv_has ls 5 [(0, .ref (b + 0)), (1, iv x1), (2, iv x2), (3, iv x3), (4, iv x4)] → W p l e ({ frames := 1, cells := 0, slots := 0, locals := 25 }) s m args below meth c H locs 0 0 (MQ below (QV D g b 14 (cellN b g) sz Post) args s 0 0 (rA b 14 sz)) (F0 m 34 ls [])) : ∀ (x1 x2 x3 x4 : Int) (M0 : Mem) (H : Heap) (locs : List Loc) (ls : Array Slot), wp_Model_lay_107 X16 X23 X34 x1 x2 x3 x4 M0 Post → va_P D classes (wsG b 14 (cellN b g) M0) H → va_S (rA b 14 sz) s.heap H locs → lv_has ls 5 [(0, .ref (b + 0)), (1, iv x1), (2, iv x2), (3, iv x3), (4, iv x4)] → W p l e ({ frames := 1, cells := 0, slots := 0, locals := 25 }) s m args below meth c H locs 0 0 (MQ below (QV D g b 14 (cellN b g) sz Post) args s 0 0 (rA b 14 sz)) (F0 m 107 ls []) := by
  intro x1 x2 x3 x4 M0 H locs ls h hP hS hl
  unfold wp_Model_lay_107 at h
  refine lv_iload_n hC.1 hC.2.1 d_Model_lay_107 rfl (lv_at hl 2 rfl) ?_
  obtain ⟨b0, h⟩ := h
  refine xi_ine hC (tgt := 130) d_Model_lay_108 (by decide) b0 (fun q => ?_) (fun q => ?_)
  · have h := h.1 q
    exact s_Model_lay_130 hC hr hlocks hK hst hz hX16 hX23 hX34 _ _ _ _ _ _ _ _ h hP hS (lv_sub hl [0, 1, 2, 3, 4] rfl)
  · have h := h.2 q
    refine lv_aload_n hC.1 hC.2.1 d_Model_lay_111 rfl (lv_at hl 0 rfl) ?_
    refine gf_Model_79 hC hK hP hst d_Model_lay_112 ?_
    refine lv_aload_n hC.1 hC.2.1 d_Model_lay_115 rfl (lv_at hl 0 rfl) ?_
    refine gf_Model_163 hC hK hP hst d_Model_lay_116 ?_
    obtain ⟨b0, h⟩ := h
    obtain ⟨b1, h⟩ := h
    refine xi_cge hC (tgt := 130) d_Model_lay_119 (by decide) b0 b1 (fun q => ?_) (fun q => ?_)
    · have h := h.1 q
      exact s_Model_lay_130 hC hr hlocks hK hst hz hX16 hX23 hX34 _ _ _ _ _ _ _ _ h hP hS (lv_sub hl [0, 1, 2, 3, 4] rfl)
    · have h := h.2 q
      refine lv_aload_n hC.1 hC.2.1 d_Model_lay_122 rfl (lv_at hl 0 rfl) ?_
      refine lv_aload_n hC.1 hC.2.1 d_Model_lay_123 rfl (lv_at hl 0 rfl) ?_
      refine gf_Model_79 hC hK hP hst d_Model_lay_124 ?_
      refine pf_Model_163 hC hK hP hS hst d_Model_lay_127 (fun H locs hP hS => ?_)
      obtain ⟨M_1, eM_1⟩ : ∃ y : Mem, y = up M0 0 22 (M0 0 19) := ⟨_, rfl⟩
      rw [← eM_1] at hP
      have h := h M_1 eM_1
      exact s_Model_lay_130 hC hr hlocks hK hst hz hX16 hX23 hX34 _ _ _ _ _ _ _ _ h hP hS (lv_sub hl [0, 1, 2, 3, 4] rfl)
set_option maxHeartbeats 4000000 in
theorem s_Model_lay_34 {p : Program} {l : Launch} {e : Env} {s : State} {m : MethodId} {args : Array Value} {below : List Frame} {meth : Method} {c : Code} {D : va_G} {g : Nat → ClassId} {b sz : Nat} (hC : Cx p m c b_Model_lay 5 s args "EdgeJoinsModel") (hr : meth.sig.returnType = none) (hlocks : meth.locks = false) (hK : va_K D classes (tyG g) s) (hst : sC (rA b 14 sz) s s.heap) (hz : sz ≤ s.heap.size) {Post : Mem → Prop} {X16 : Int → Int → Mem → Prop} {X23 : Int → Int → Int → Mem → Prop} (hX16 : ∀ (x1 x2 : Int) (M0 : Mem) (H : Heap) (locs : List Loc) (ls : Array Slot), X16 x1 x2 M0 → va_P D classes (wsG b 14 (cellN b g) M0) H → va_S (rA b 14 sz) s.heap H locs → lv_has ls 5 [(0, .ref (b + 0)), (1, iv x1), (2, iv x2)] → W p l e ({ frames := 1, cells := 0, slots := 0, locals := 25 }) s m args below meth c H locs 0 0 (MQ below (QV D g b 14 (cellN b g) sz Post) args s 0 0 (rA b 14 sz)) (F0 m 16 ls [])) (hX23 : ∀ (x1 x2 x3 : Int) (M0 : Mem) (H : Heap) (locs : List Loc) (ls : Array Slot), X23 x1 x2 x3 M0 → va_P D classes (wsG b 14 (cellN b g) M0) H → va_S (rA b 14 sz) s.heap H locs → lv_has ls 5 [(0, .ref (b + 0)), (1, iv x1), (2, iv x2), (3, iv x3)] → W p l e ({ frames := 1, cells := 0, slots := 0, locals := 25 }) s m args below meth c H locs 0 0 (MQ below (QV D g b 14 (cellN b g) sz Post) args s 0 0 (rA b 14 sz)) (F0 m 23 ls [])) : ∀ (n : Nat) (x1 x2 x3 x4 : Int) (M0 : Mem) (H : Heap) (locs : List Loc) (ls : Array Slot), wp_Model_lay_34 X16 X23 Post n x1 x2 x3 x4 M0 → va_P D classes (wsG b 14 (cellN b g) M0) H → va_S (rA b 14 sz) s.heap H locs → lv_has ls 5 [(0, .ref (b + 0)), (1, iv x1), (2, iv x2), (3, iv x3), (4, iv x4)] → W p l e ({ frames := 1, cells := 0, slots := 0, locals := 25 }) s m args below meth c H locs 0 0 (MQ below (QV D g b 14 (cellN b g) sz Post) args s 0 0 (rA b 14 sz)) (F0 m 34 ls []) := by
  intro n
  induction n with
  | zero => intro x1 x2 x3 x4 M0 H locs ls h; exact h.elim
  | succ n ih =>
  intro x1 x2 x3 x4 M0 H locs ls h hP hS hl
  simp only [wp_Model_lay_34] at h
  refine lv_iload hC.1 hC.2.1 d_Model_lay_34 (lv_at hl 4 rfl) ?_
  refine lv_aload_n hC.1 hC.2.1 d_Model_lay_36 rfl (lv_at hl 0 rfl) ?_
  refine gf_Model_23 hC hK hP hst d_Model_lay_37 ?_
  refine lv_iload_n hC.1 hC.2.1 d_Model_lay_40 rfl (lv_at hl 3 rfl) ?_
  obtain ⟨hi, h⟩ := h
  refine xg_ald hC hK hP aN_cells (by decide) hi d_Model_lay_41 ?_
  obtain ⟨b0, h⟩ := h
  obtain ⟨b1, h⟩ := h
  refine xi_cge hC (tgt := 159) d_Model_lay_42 (by decide) b0 b1 (fun q => ?_) (fun q => ?_)
  · have h := h.1 q
    obtain ⟨v3_1, ev3_1⟩ : ∃ y : Int, y = x3 + 1 := ⟨_, rfl⟩
    have h := h v3_1 ev3_1
    refine xi_iinc (v := v3_1) (lv' := [(3, iv v3_1), (0, .ref (b + 0)), (1, iv x1), (2, iv x2), (4, iv x4)]) hC d_Model_lay_159 hl (k := 3) rfl ev3_1 (by decide) rfl (fun ls hl => ?_)
    refine lv_goto (tgt := 23) hC.1 hC.2.1 d_Model_lay_162 (by decide) ?_
    exact hX23 _ _ _ _ _ _ _ h hP hS (lv_sub hl [1, 2, 3, 0] rfl)
  · have h := h.2 q
    refine lv_aload_n hC.1 hC.2.1 d_Model_lay_45 rfl (lv_at hl 0 rfl) ?_
    refine gf_Model_45 hC hK hP hst d_Model_lay_46 ?_
    refine xi_const hC d_Model_lay_49 ?_
    refine lv_iload_n hC.1 hC.2.1 d_Model_lay_50 rfl (lv_at hl 3 rfl) ?_
    refine xi_mul hC d_Model_lay_51 ?_
    refine xi_const hC d_Model_lay_52 ?_
    refine xi_add hC d_Model_lay_53 ?_
    obtain ⟨hi, h⟩ := h
    refine xg_ald hC hK hP aN_places (by decide) hi d_Model_lay_54 ?_
    refine lv_iload_n hC.1 hC.2.1 d_Model_lay_55 rfl (lv_at hl 1 rfl) ?_
    obtain ⟨b0, h⟩ := h
    obtain ⟨b1, h⟩ := h
    refine xi_cne hC (tgt := 159) d_Model_lay_56 (by decide) b0 b1 (fun q => ?_) (fun q => ?_)
    · have h := h.1 q
      obtain ⟨v3_2, ev3_2⟩ : ∃ y : Int, y = x3 + 1 := ⟨_, rfl⟩
      have h := h v3_2 ev3_2
      refine xi_iinc (v := v3_2) (lv' := [(3, iv v3_2), (0, .ref (b + 0)), (1, iv x1), (2, iv x2), (4, iv x4)]) hC d_Model_lay_159 hl (k := 3) rfl ev3_2 (by decide) rfl (fun ls hl => ?_)
      refine lv_goto (tgt := 23) hC.1 hC.2.1 d_Model_lay_162 (by decide) ?_
      exact hX23 _ _ _ _ _ _ _ h hP hS (lv_sub hl [1, 2, 3, 0] rfl)
    · have h := h.2 q
      refine lv_aload_n hC.1 hC.2.1 d_Model_lay_59 rfl (lv_at hl 0 rfl) ?_
      refine lv_aload_n hC.1 hC.2.1 d_Model_lay_60 rfl (lv_at hl 0 rfl) ?_
      refine gf_Model_45 hC hK hP hst d_Model_lay_61 ?_
      refine lv_iload_n hC.1 hC.2.1 d_Model_lay_64 rfl (lv_at hl 3 rfl) ?_
      refine lv_iload hC.1 hC.2.1 d_Model_lay_65 (lv_at hl 4 rfl) ?_
      refine xk_Vv (As := [.ref (b + 10), iv x3, iv x4]) (rest := []) hC hK hP hS hst hz hl.1 lk_Model_139 rfl rfl rfl ⟨Nat.le_of_ble_eq_true rfl, Nat.le_of_ble_eq_true rfl⟩ (rc_Model hK hP) (fun sz' => c_Model_cellOf l D g b sz' aN_places h) d_Model_lay_67 rfl (Nat.le_of_ble_eq_true rfl) ⟨Nat.le_of_ble_eq_true rfl, Nat.le_of_ble_eq_true rfl⟩ (fun M_4 H locs h hP hS => ?_)
      try dsimp only at h
      refine lv_iload_n hC.1 hC.2.1 d_Model_lay_70 rfl (lv_at hl 2 rfl) ?_
      refine xi_const hC d_Model_lay_71 ?_
      obtain ⟨b0, h⟩ := h
      refine xi_cne hC (tgt := 107) d_Model_lay_72 (by decide) b0 (xl rfl) (fun q => ?_) (fun q => ?_)
      · have h := h.1 q
        exact s_Model_lay_107 hC hr hlocks hK hst hz hX16 hX23 ih _ _ _ _ _ _ _ _ h hP hS (lv_sub hl [0, 1, 2, 3, 4] rfl)
      · have h := h.2 q
        refine lv_aload_n hC.1 hC.2.1 d_Model_lay_75 rfl (lv_at hl 0 rfl) ?_
        refine gf_Model_54 hC hK hP hst d_Model_lay_76 ?_
        refine xi_bipush hC d_Model_lay_79 (by decide) ?_
        refine lv_aload_n hC.1 hC.2.1 d_Model_lay_81 rfl (lv_at hl 0 rfl) ?_
        refine gf_Model_82 hC hK hP hst d_Model_lay_82 ?_
        refine lv_aload_n hC.1 hC.2.1 d_Model_lay_85 rfl (lv_at hl 0 rfl) ?_
        refine gf_Model_166 hC hK hP hst d_Model_lay_86 ?_
        refine xi_sub hC d_Model_lay_89 ?_
        refine xi_const hC d_Model_lay_90 ?_
        refine xi_add hC d_Model_lay_91 ?_
        refine xi_mul hC d_Model_lay_92 ?_
        refine lv_aload_n hC.1 hC.2.1 d_Model_lay_93 rfl (lv_at hl 0 rfl) ?_
        refine gf_Model_79 hC hK hP hst d_Model_lay_94 ?_
        refine xi_add hC d_Model_lay_97 ?_
        refine lv_aload_n hC.1 hC.2.1 d_Model_lay_98 rfl (lv_at hl 0 rfl) ?_
        refine gf_Model_163 hC hK hP hst d_Model_lay_99 ?_
        refine xi_sub hC d_Model_lay_102 ?_
        refine xi_const hC d_Model_lay_103 ?_
        refine xi_add hC d_Model_lay_104 ?_
        refine xi_const hC d_Model_lay_105 ?_
        obtain ⟨hi, h⟩ := h
        refine xg_ast hC hK hP hS aN_field (by decide) hi d_Model_lay_106 (fun H locs hP hS => ?_)
        obtain ⟨M_5, eM_5⟩ : ∃ y : Mem, y = up M_4 13 ((((90 * (((M_4 0 20) - (M_4 0 23)) + 1)) + (M_4 0 19)) - (M_4 0 22)) + 1).toNat 1 := ⟨_, rfl⟩
        rw [← eM_5] at hP
        have h := h M_5 eM_5
        exact s_Model_lay_107 hC hr hlocks hK hst hz hX16 hX23 ih _ _ _ _ _ _ _ _ h hP hS (lv_sub hl [0, 1, 2, 3, 4] rfl)
set_option maxHeartbeats 4000000 in
theorem s_Model_lay_23 {p : Program} {l : Launch} {e : Env} {s : State} {m : MethodId} {args : Array Value} {below : List Frame} {meth : Method} {c : Code} {D : va_G} {g : Nat → ClassId} {b sz : Nat} (hC : Cx p m c b_Model_lay 5 s args "EdgeJoinsModel") (hr : meth.sig.returnType = none) (hlocks : meth.locks = false) (hK : va_K D classes (tyG g) s) (hst : sC (rA b 14 sz) s s.heap) (hz : sz ≤ s.heap.size) {Post : Mem → Prop} {X16 : Int → Int → Mem → Prop} (hX16 : ∀ (x1 x2 : Int) (M0 : Mem) (H : Heap) (locs : List Loc) (ls : Array Slot), X16 x1 x2 M0 → va_P D classes (wsG b 14 (cellN b g) M0) H → va_S (rA b 14 sz) s.heap H locs → lv_has ls 5 [(0, .ref (b + 0)), (1, iv x1), (2, iv x2)] → W p l e ({ frames := 1, cells := 0, slots := 0, locals := 25 }) s m args below meth c H locs 0 0 (MQ below (QV D g b 14 (cellN b g) sz Post) args s 0 0 (rA b 14 sz)) (F0 m 16 ls [])) : ∀ (n : Nat) (x1 x2 x3 : Int) (M0 : Mem) (H : Heap) (locs : List Loc) (ls : Array Slot), wp_Model_lay_23 X16 Post n x1 x2 x3 M0 → va_P D classes (wsG b 14 (cellN b g) M0) H → va_S (rA b 14 sz) s.heap H locs → lv_has ls 5 [(0, .ref (b + 0)), (1, iv x1), (2, iv x2), (3, iv x3)] → W p l e ({ frames := 1, cells := 0, slots := 0, locals := 25 }) s m args below meth c H locs 0 0 (MQ below (QV D g b 14 (cellN b g) sz Post) args s 0 0 (rA b 14 sz)) (F0 m 23 ls []) := by
  intro n
  induction n with
  | zero => intro x1 x2 x3 M0 H locs ls h; exact h.elim
  | succ n ih =>
  intro x1 x2 x3 M0 H locs ls h hP hS hl
  simp only [wp_Model_lay_23] at h
  refine lv_iload_n hC.1 hC.2.1 d_Model_lay_23 rfl (lv_at hl 3 rfl) ?_
  refine lv_aload_n hC.1 hC.2.1 d_Model_lay_24 rfl (lv_at hl 0 rfl) ?_
  refine gf_Model_60 hC hK hP hst d_Model_lay_25 ?_
  obtain ⟨b0, h⟩ := h
  obtain ⟨b1, h⟩ := h
  refine xi_cge hC (tgt := 165) d_Model_lay_28 (by decide) b0 b1 (fun q => ?_) (fun q => ?_)
  · have h := h.1 q
    obtain ⟨v2_1, ev2_1⟩ : ∃ y : Int, y = x2 + 1 := ⟨_, rfl⟩
    have h := h v2_1 ev2_1
    refine xi_iinc (v := v2_1) (lv' := [(2, iv v2_1), (0, .ref (b + 0)), (1, iv x1), (3, iv x3)]) hC d_Model_lay_165 hl (k := 2) rfl ev2_1 (by decide) rfl (fun ls hl => ?_)
    refine lv_goto (tgt := 16) hC.1 hC.2.1 d_Model_lay_168 (by decide) ?_
    exact hX16 _ _ _ _ _ _ h hP hS (lv_sub hl [1, 2, 0] rfl)
  · have h := h.2 q
    refine xi_const hC d_Model_lay_31 ?_
    refine lv_istore (lv' := [(4, iv 0), (0, .ref (b + 0)), (1, iv x1), (2, iv x2), (3, iv x3)]) hC.1 hC.2.1 d_Model_lay_32 hl (by decide) rfl (fun ls hl => ?_)
    obtain ⟨nn, h⟩ := h
    exact s_Model_lay_34 hC hr hlocks hK hst hz hX16 ih nn _ _ _ _ _ _ _ _ h hP hS (lv_sub hl [1, 2, 3, 4, 0] rfl)
set_option maxHeartbeats 4000000 in
theorem s_Model_lay_16 {p : Program} {l : Launch} {e : Env} {s : State} {m : MethodId} {args : Array Value} {below : List Frame} {meth : Method} {c : Code} {D : va_G} {g : Nat → ClassId} {b sz : Nat} (hC : Cx p m c b_Model_lay 5 s args "EdgeJoinsModel") (hr : meth.sig.returnType = none) (hlocks : meth.locks = false) (hK : va_K D classes (tyG g) s) (hst : sC (rA b 14 sz) s s.heap) (hz : sz ≤ s.heap.size) {Post : Mem → Prop} : ∀ (n : Nat) (x1 x2 : Int) (M0 : Mem) (H : Heap) (locs : List Loc) (ls : Array Slot), wp_Model_lay_16 Post n x1 x2 M0 → va_P D classes (wsG b 14 (cellN b g) M0) H → va_S (rA b 14 sz) s.heap H locs → lv_has ls 5 [(0, .ref (b + 0)), (1, iv x1), (2, iv x2)] → W p l e ({ frames := 1, cells := 0, slots := 0, locals := 25 }) s m args below meth c H locs 0 0 (MQ below (QV D g b 14 (cellN b g) sz Post) args s 0 0 (rA b 14 sz)) (F0 m 16 ls []) := by
  intro n
  induction n with
  | zero => intro x1 x2 M0 H locs ls h; exact h.elim
  | succ n ih =>
  intro x1 x2 M0 H locs ls h hP hS hl
  simp only [wp_Model_lay_16] at h
  refine lv_iload_n hC.1 hC.2.1 d_Model_lay_16 rfl (lv_at hl 2 rfl) ?_
  refine xi_const hC d_Model_lay_17 ?_
  obtain ⟨b0, h⟩ := h
  refine xi_cge hC (tgt := 171) d_Model_lay_18 (by decide) b0 (xl rfl) (fun q => ?_) (fun q => ?_)
  · have h := h.1 q
    exact xr_v hC hr hlocks hK hP hS h d_Model_lay_171
  · have h := h.2 q
    refine xi_const hC d_Model_lay_21 ?_
    refine lv_istore_n (lv' := [(3, iv 0), (0, .ref (b + 0)), (1, iv x1), (2, iv x2)]) hC.1 hC.2.1 d_Model_lay_22 rfl hl (by decide) rfl (fun ls hl => ?_)
    obtain ⟨nn, h⟩ := h
    exact s_Model_lay_23 hC hr hlocks hK hst hz ih nn _ _ _ _ _ _ _ h hP hS (lv_sub hl [1, 2, 3, 0] rfl)
set_option maxHeartbeats 4000000 in
theorem c_Model_lay (l : Launch) (D : va_G) (g : Nat → ClassId) (b sz : Nat) {x1 : Int} {M0 : Mem} {Post : Mem → Prop} (h : wp_Model_lay x1 M0 Post) : Met l y_Model_lay (Cond.code y_Model_lay b_Model_lay 5 (none) :: gd) ({ frames := 1, cells := 0, slots := 0, locals := 25 }) (PcG D g b 14 (cellN b g) sz M0 [.ref (b + 0), iv x1]) (QV D g b 14 (cellN b g) sz Post) 0 0 (rA b 14 sz) := by
  refine xm_start (by decide) rfl (Nat.le_of_ble_eq_true rfl) ?_
  intro p e s m below meth c ls H args hC hr hlocks hK hP hst hz hS hH hl
  have hl : lv_has ls 5 [(0, .ref (b + 0)), (1, iv x1)] := hl
  unfold wp_Model_lay at h
  refine lv_aload_n hC.1 hC.2.1 d_Model_lay_0 rfl (lv_at hl 0 rfl) ?_
  refine xi_sipush hC d_Model_lay_1 (by decide) ?_
  refine pf_Model_163 hC hK hP hS hst d_Model_lay_4 (fun H locs hP hS => ?_)
  obtain ⟨M_1, eM_1⟩ : ∃ y : Mem, y = up M0 0 22 1000 := ⟨_, rfl⟩
  rw [← eM_1] at hP
  have h := h M_1 eM_1
  refine lv_aload_n hC.1 hC.2.1 d_Model_lay_7 rfl (lv_at hl 0 rfl) ?_
  refine xi_sipush hC d_Model_lay_8 (by decide) ?_
  refine pf_Model_166 hC hK hP hS hst d_Model_lay_11 (fun H locs hP hS => ?_)
  obtain ⟨M_2, eM_2⟩ : ∃ y : Mem, y = up M_1 0 23 1000 := ⟨_, rfl⟩
  rw [← eM_2] at hP
  have h := h M_2 eM_2
  refine xi_const hC d_Model_lay_14 ?_
  refine lv_istore_n (lv' := [(2, iv 0), (0, .ref (b + 0)), (1, iv x1)]) hC.1 hC.2.1 d_Model_lay_15 rfl hl (by decide) rfl (fun ls hl => ?_)
  obtain ⟨nn, h⟩ := h
  exact s_Model_lay_16 hC hr hlocks hK hst hz nn _ _ _ _ _ _ h hP hS (lv_sub hl [1, 2, 0] rfl)
set_option maxHeartbeats 4000000 in
theorem c_Model_isOut (l : Launch) (D : va_G) (g : Nat → ClassId) (b sz : Nat) {x1 : Int} {M0 : Mem} {Post : Int → Prop} (h : wp_Model_isOut x1 M0 Post) : Met l y_Model_isOut (Cond.code y_Model_isOut b_Model_isOut 2 (some .boolean) :: gd) ({ frames := 0, cells := 0, slots := 0, locals := 0 }) (PcG D g b 14 (cellN b g) sz M0 [.ref (b + 0), iv x1]) (QP Post) 0 0 nil_ := by
  refine xm_start (by decide) rfl (Nat.le_of_ble_eq_true rfl) ?_
  intro p e s m below meth c ls H args hC hr hlocks hK hP hst hz hS hH hl
  have hl : lv_has ls 2 [(0, .ref (b + 0)), (1, iv x1)] := hl
  unfold wp_Model_isOut at h
  refine lv_iload_n hC.1 hC.2.1 d_Model_isOut_0 rfl (lv_at hl 1 rfl) ?_
  obtain ⟨b0, h⟩ := h
  refine xi_ilt hC (tgt := 25) d_Model_isOut_1 (by decide) b0 (fun q => ?_) (fun q => ?_)
  · have h := h.1 q
    refine xi_const hC d_Model_isOut_25 ?_
    exact xr_zp hC hr hlocks hH (by decide) h d_Model_isOut_26
  · have h := h.2 q
    refine lv_iload_n hC.1 hC.2.1 d_Model_isOut_4 rfl (lv_at hl 1 rfl) ?_
    refine xi_sipush hC d_Model_isOut_5 (by decide) ?_
    obtain ⟨b0, h⟩ := h
    refine xi_cge hC (tgt := 25) d_Model_isOut_8 (by decide) b0 (xl rfl) (fun q => ?_) (fun q => ?_)
    · have h := h.1 q
      refine xi_const hC d_Model_isOut_25 ?_
      exact xr_zp hC hr hlocks hH (by decide) h d_Model_isOut_26
    · have h := h.2 q
      refine lv_aload_n hC.1 hC.2.1 d_Model_isOut_11 rfl (lv_at hl 0 rfl) ?_
      refine gf_Model_54 hC hK hP hst d_Model_isOut_12 ?_
      refine lv_iload_n hC.1 hC.2.1 d_Model_isOut_15 rfl (lv_at hl 1 rfl) ?_
      obtain ⟨hi, h⟩ := h
      refine xg_ald hC hK hP aN_field (by decide) hi d_Model_isOut_16 ?_
      refine xi_const hC d_Model_isOut_17 ?_
      obtain ⟨b0, h⟩ := h
      refine xi_cne hC (tgt := 25) d_Model_isOut_18 (by decide) b0 (xl rfl) (fun q => ?_) (fun q => ?_)
      · have h := h.1 q
        refine xi_const hC d_Model_isOut_25 ?_
        exact xr_zp hC hr hlocks hH (by decide) h d_Model_isOut_26
      · have h := h.2 q
        refine xi_const hC d_Model_isOut_21 ?_
        refine lv_goto (tgt := 26) hC.1 hC.2.1 d_Model_isOut_22 (by decide) ?_
        exact xr_zp hC hr hlocks hH (by decide) h d_Model_isOut_26
set_option maxHeartbeats 4000000 in
theorem s_Model_flood_96 {p : Program} {l : Launch} {e : Env} {s : State} {m : MethodId} {args : Array Value} {below : List Frame} {meth : Method} {c : Code} {D : va_G} {g : Nat → ClassId} {b sz : Nat} (hC : Cx p m c b_Model_flood 4 s args "EdgeJoinsModel") (hr : meth.sig.returnType = none) (hlocks : meth.locks = false) (hK : va_K D classes (tyG g) s) (hst : sC (rA b 14 sz) s s.heap) (hz : sz ≤ s.heap.size) {Post : Mem → Prop} {X9 : Int → Mem → Prop} {X17 : Int → Int → Mem → Prop} (hX9 : ∀ (x1 : Int) (M0 : Mem) (H : Heap) (locs : List Loc) (ls : Array Slot), X9 x1 M0 → va_P D classes (wsG b 14 (cellN b g) M0) H → va_S (rA b 14 sz) s.heap H locs → lv_has ls 4 [(0, .ref (b + 0)), (1, iv x1)] → W p l e ({ frames := 1, cells := 0, slots := 0, locals := 21 }) s m args below meth c H locs 0 0 (MQ below (QV D g b 14 (cellN b g) sz Post) args s 0 0 (rA b 14 sz)) (F0 m 9 ls [])) (hX17 : ∀ (x1 x2 : Int) (M0 : Mem) (H : Heap) (locs : List Loc) (ls : Array Slot), X17 x1 x2 M0 → va_P D classes (wsG b 14 (cellN b g) M0) H → va_S (rA b 14 sz) s.heap H locs → lv_has ls 4 [(0, .ref (b + 0)), (1, iv x1), (2, iv x2)] → W p l e ({ frames := 1, cells := 0, slots := 0, locals := 21 }) s m args below meth c H locs 0 0 (MQ below (QV D g b 14 (cellN b g) sz Post) args s 0 0 (rA b 14 sz)) (F0 m 17 ls [])) : ∀ (x2 : Int) (M0 : Mem) (H : Heap) (locs : List Loc) (ls : Array Slot), wp_Model_flood_96 X9 X17 x2 M0 Post → va_P D classes (wsG b 14 (cellN b g) M0) H → va_S (rA b 14 sz) s.heap H locs → lv_has ls 4 [(0, .ref (b + 0)), (2, iv x2)] → W p l e ({ frames := 1, cells := 0, slots := 0, locals := 21 }) s m args below meth c H locs 0 0 (MQ below (QV D g b 14 (cellN b g) sz Post) args s 0 0 (rA b 14 sz)) (F0 m 96 ls []) := by
  intro x2 M0 H locs ls h hP hS hl
  unfold wp_Model_flood_96 at h
  refine lv_aload_n hC.1 hC.2.1 d_Model_flood_96 rfl (lv_at hl 0 rfl) ?_
  refine gf_Model_54 hC hK hP hst d_Model_flood_97 ?_
  refine lv_iload_n hC.1 hC.2.1 d_Model_flood_100 rfl (lv_at hl 1 rfl) ?_
  refine xi_const hC d_Model_flood_101 ?_
  obtain ⟨hi, h⟩ := h
  refine xg_ast hC hK hP hS aN_field (by decide) hi d_Model_flood_102 (fun H locs hP hS => ?_)
  obtain ⟨M_1, eM_1⟩ : ∃ y : Mem, y = up M0 13 x2.toNat 2 := ⟨_, rfl⟩
  rw [← eM_1] at hP
  have h := h M_1 eM_1
  refine xi_const hC d_Model_flood_103 ?_
  refine lv_istore_n (lv' := [(1, iv 1), (0, .ref (b + 0)), (2, iv x2)]) hC.1 hC.2.1 d_Model_flood_104 rfl hl (by decide) rfl (fun ls hl => ?_)
  obtain ⟨v2_2, ev2_2⟩ : ∃ y : Int, y = x2 + 1 := ⟨_, rfl⟩
  have h := h v2_2 ev2_2
  refine xi_iinc (v := v2_2) (lv' := [(2, iv v2_2), (1, iv 1), (0, .ref (b + 0))]) hC d_Model_flood_105 hl (k := 2) rfl ev2_2 (by decide) rfl (fun ls hl => ?_)
  refine lv_goto (tgt := 17) hC.1 hC.2.1 d_Model_flood_108 (by decide) ?_
  exact hX17 _ _ _ _ _ _ h hP hS (lv_sub hl [2, 1, 0] rfl)
set_option maxHeartbeats 4000000 in
theorem s_Model_flood_71 {p : Program} {l : Launch} {e : Env} {s : State} {m : MethodId} {args : Array Value} {below : List Frame} {meth : Method} {c : Code} {D : va_G} {g : Nat → ClassId} {b sz : Nat} (hC : Cx p m c b_Model_flood 4 s args "EdgeJoinsModel") (hr : meth.sig.returnType = none) (hlocks : meth.locks = false) (hK : va_K D classes (tyG g) s) (hst : sC (rA b 14 sz) s s.heap) (hz : sz ≤ s.heap.size) {Post : Mem → Prop} {X9 : Int → Mem → Prop} {X17 : Int → Int → Mem → Prop} (hX9 : ∀ (x1 : Int) (M0 : Mem) (H : Heap) (locs : List Loc) (ls : Array Slot), X9 x1 M0 → va_P D classes (wsG b 14 (cellN b g) M0) H → va_S (rA b 14 sz) s.heap H locs → lv_has ls 4 [(0, .ref (b + 0)), (1, iv x1)] → W p l e ({ frames := 1, cells := 0, slots := 0, locals := 21 }) s m args below meth c H locs 0 0 (MQ below (QV D g b 14 (cellN b g) sz Post) args s 0 0 (rA b 14 sz)) (F0 m 9 ls [])) (hX17 : ∀ (x1 x2 : Int) (M0 : Mem) (H : Heap) (locs : List Loc) (ls : Array Slot), X17 x1 x2 M0 → va_P D classes (wsG b 14 (cellN b g) M0) H → va_S (rA b 14 sz) s.heap H locs → lv_has ls 4 [(0, .ref (b + 0)), (1, iv x1), (2, iv x2)] → W p l e ({ frames := 1, cells := 0, slots := 0, locals := 21 }) s m args below meth c H locs 0 0 (MQ below (QV D g b 14 (cellN b g) sz Post) args s 0 0 (rA b 14 sz)) (F0 m 17 ls [])) : ∀ (x1 x2 : Int) (M0 : Mem) (H : Heap) (locs : List Loc) (ls : Array Slot), wp_Model_flood_71 X9 X17 x1 x2 M0 Post → va_P D classes (wsG b 14 (cellN b g) M0) H → va_S (rA b 14 sz) s.heap H locs → lv_has ls 4 [(0, .ref (b + 0)), (1, iv x1), (2, iv x2)] → W p l e ({ frames := 1, cells := 0, slots := 0, locals := 21 }) s m args below meth c H locs 0 0 (MQ below (QV D g b 14 (cellN b g) sz Post) args s 0 0 (rA b 14 sz)) (F0 m 71 ls []) := by
  intro x1 x2 M0 H locs ls h hP hS hl
  unfold wp_Model_flood_71 at h
  refine lv_aload_n hC.1 hC.2.1 d_Model_flood_71 rfl (lv_at hl 0 rfl) ?_
  refine lv_iload_n hC.1 hC.2.1 d_Model_flood_72 rfl (lv_at hl 2 rfl) ?_
  refine xi_bipush hC d_Model_flood_73 (by decide) ?_
  refine xi_sub hC d_Model_flood_75 ?_
  refine xk_VP (As := [iv (x2 - 90)]) (rest := []) hC hK hP hS hst hz hl.1 lk_Model_169 rfl rfl rfl ⟨Nat.le_of_ble_eq_true rfl, Nat.le_of_ble_eq_true rfl⟩ (rc_Model hK hP) (fun sz' => c_Model_isOut l D g b sz' h) d_Model_flood_76 rfl (Nat.le_of_ble_eq_true rfl) ⟨Nat.le_of_ble_eq_true rfl, Nat.le_of_ble_eq_true rfl⟩ (fun r_1 h => ?_)
  try dsimp only at h
  obtain ⟨b0, h⟩ := h
  refine xi_ine hC (tgt := 96) d_Model_flood_79 (by decide) b0 (fun q => ?_) (fun q => ?_)
  · have h := h.1 q
    exact s_Model_flood_96 hC hr hlocks hK hst hz hX9 hX17 _ _ _ _ _ h hP hS (lv_sub hl [0, 2] rfl)
  · have h := h.2 q
    refine lv_aload_n hC.1 hC.2.1 d_Model_flood_82 rfl (lv_at hl 0 rfl) ?_
    refine lv_iload_n hC.1 hC.2.1 d_Model_flood_83 rfl (lv_at hl 2 rfl) ?_
    refine xi_bipush hC d_Model_flood_84 (by decide) ?_
    refine xi_add hC d_Model_flood_86 ?_
    refine xk_VP (As := [iv (x2 + 90)]) (rest := []) hC hK hP hS hst hz hl.1 lk_Model_169 rfl rfl rfl ⟨Nat.le_of_ble_eq_true rfl, Nat.le_of_ble_eq_true rfl⟩ (rc_Model hK hP) (fun sz' => c_Model_isOut l D g b sz' h) d_Model_flood_87 rfl (Nat.le_of_ble_eq_true rfl) ⟨Nat.le_of_ble_eq_true rfl, Nat.le_of_ble_eq_true rfl⟩ (fun r_2 h => ?_)
    try dsimp only at h
    obtain ⟨b0, h⟩ := h
    refine xi_ine hC (tgt := 96) d_Model_flood_90 (by decide) b0 (fun q => ?_) (fun q => ?_)
    · have h := h.1 q
      exact s_Model_flood_96 hC hr hlocks hK hst hz hX9 hX17 _ _ _ _ _ h hP hS (lv_sub hl [0, 2] rfl)
    · have h := h.2 q
      refine lv_goto (tgt := 105) hC.1 hC.2.1 d_Model_flood_93 (by decide) ?_
      obtain ⟨v2_3, ev2_3⟩ : ∃ y : Int, y = x2 + 1 := ⟨_, rfl⟩
      have h := h v2_3 ev2_3
      refine xi_iinc (v := v2_3) (lv' := [(2, iv v2_3), (0, .ref (b + 0)), (1, iv x1)]) hC d_Model_flood_105 hl (k := 2) rfl ev2_3 (by decide) rfl (fun ls hl => ?_)
      refine lv_goto (tgt := 17) hC.1 hC.2.1 d_Model_flood_108 (by decide) ?_
      exact hX17 _ _ _ _ _ _ h hP hS (lv_sub hl [1, 2, 0] rfl)
set_option maxHeartbeats 4000000 in
theorem s_Model_flood_55 {p : Program} {l : Launch} {e : Env} {s : State} {m : MethodId} {args : Array Value} {below : List Frame} {meth : Method} {c : Code} {D : va_G} {g : Nat → ClassId} {b sz : Nat} (hC : Cx p m c b_Model_flood 4 s args "EdgeJoinsModel") (hr : meth.sig.returnType = none) (hlocks : meth.locks = false) (hK : va_K D classes (tyG g) s) (hst : sC (rA b 14 sz) s s.heap) (hz : sz ≤ s.heap.size) {Post : Mem → Prop} {X9 : Int → Mem → Prop} {X17 : Int → Int → Mem → Prop} (hX9 : ∀ (x1 : Int) (M0 : Mem) (H : Heap) (locs : List Loc) (ls : Array Slot), X9 x1 M0 → va_P D classes (wsG b 14 (cellN b g) M0) H → va_S (rA b 14 sz) s.heap H locs → lv_has ls 4 [(0, .ref (b + 0)), (1, iv x1)] → W p l e ({ frames := 1, cells := 0, slots := 0, locals := 21 }) s m args below meth c H locs 0 0 (MQ below (QV D g b 14 (cellN b g) sz Post) args s 0 0 (rA b 14 sz)) (F0 m 9 ls [])) (hX17 : ∀ (x1 x2 : Int) (M0 : Mem) (H : Heap) (locs : List Loc) (ls : Array Slot), X17 x1 x2 M0 → va_P D classes (wsG b 14 (cellN b g) M0) H → va_S (rA b 14 sz) s.heap H locs → lv_has ls 4 [(0, .ref (b + 0)), (1, iv x1), (2, iv x2)] → W p l e ({ frames := 1, cells := 0, slots := 0, locals := 21 }) s m args below meth c H locs 0 0 (MQ below (QV D g b 14 (cellN b g) sz Post) args s 0 0 (rA b 14 sz)) (F0 m 17 ls [])) : ∀ (x1 x2 x3 : Int) (M0 : Mem) (H : Heap) (locs : List Loc) (ls : Array Slot), wp_Model_flood_55 X9 X17 x1 x2 x3 M0 Post → va_P D classes (wsG b 14 (cellN b g) M0) H → va_S (rA b 14 sz) s.heap H locs → lv_has ls 4 [(0, .ref (b + 0)), (1, iv x1), (2, iv x2), (3, iv x3)] → W p l e ({ frames := 1, cells := 0, slots := 0, locals := 21 }) s m args below meth c H locs 0 0 (MQ below (QV D g b 14 (cellN b g) sz Post) args s 0 0 (rA b 14 sz)) (F0 m 55 ls []) := by
  intro x1 x2 x3 M0 H locs ls h hP hS hl
  unfold wp_Model_flood_55 at h
  refine lv_iload_n hC.1 hC.2.1 d_Model_flood_55 rfl (lv_at hl 3 rfl) ?_
  refine xi_bipush hC d_Model_flood_56 (by decide) ?_
  obtain ⟨b0, h⟩ := h
  refine xi_cge hC (tgt := 71) d_Model_flood_58 (by decide) b0 (xl rfl) (fun q => ?_) (fun q => ?_)
  · have h := h.1 q
    exact s_Model_flood_71 hC hr hlocks hK hst hz hX9 hX17 _ _ _ _ _ _ h hP hS (lv_sub hl [0, 1, 2] rfl)
  · have h := h.2 q
    refine lv_aload_n hC.1 hC.2.1 d_Model_flood_61 rfl (lv_at hl 0 rfl) ?_
    refine lv_iload_n hC.1 hC.2.1 d_Model_flood_62 rfl (lv_at hl 2 rfl) ?_
    refine xi_const hC d_Model_flood_63 ?_
    refine xi_add hC d_Model_flood_64 ?_
    refine xk_VP (As := [iv (x2 + 1)]) (rest := []) hC hK hP hS hst hz hl.1 lk_Model_169 rfl rfl rfl ⟨Nat.le_of_ble_eq_true rfl, Nat.le_of_ble_eq_true rfl⟩ (rc_Model hK hP) (fun sz' => c_Model_isOut l D g b sz' h) d_Model_flood_65 rfl (Nat.le_of_ble_eq_true rfl) ⟨Nat.le_of_ble_eq_true rfl, Nat.le_of_ble_eq_true rfl⟩ (fun r_1 h => ?_)
    try dsimp only at h
    obtain ⟨b0, h⟩ := h
    refine xi_ine hC (tgt := 96) d_Model_flood_68 (by decide) b0 (fun q => ?_) (fun q => ?_)
    · have h := h.1 q
      exact s_Model_flood_96 hC hr hlocks hK hst hz hX9 hX17 _ _ _ _ _ h hP hS (lv_sub hl [0, 2] rfl)
    · have h := h.2 q
      exact s_Model_flood_71 hC hr hlocks hK hst hz hX9 hX17 _ _ _ _ _ _ h hP hS (lv_sub hl [0, 1, 2] rfl)
set_option maxHeartbeats 4000000 in
theorem s_Model_flood_17 {p : Program} {l : Launch} {e : Env} {s : State} {m : MethodId} {args : Array Value} {below : List Frame} {meth : Method} {c : Code} {D : va_G} {g : Nat → ClassId} {b sz : Nat} (hC : Cx p m c b_Model_flood 4 s args "EdgeJoinsModel") (hr : meth.sig.returnType = none) (hlocks : meth.locks = false) (hK : va_K D classes (tyG g) s) (hst : sC (rA b 14 sz) s s.heap) (hz : sz ≤ s.heap.size) {Post : Mem → Prop} {X9 : Int → Mem → Prop} (hX9 : ∀ (x1 : Int) (M0 : Mem) (H : Heap) (locs : List Loc) (ls : Array Slot), X9 x1 M0 → va_P D classes (wsG b 14 (cellN b g) M0) H → va_S (rA b 14 sz) s.heap H locs → lv_has ls 4 [(0, .ref (b + 0)), (1, iv x1)] → W p l e ({ frames := 1, cells := 0, slots := 0, locals := 21 }) s m args below meth c H locs 0 0 (MQ below (QV D g b 14 (cellN b g) sz Post) args s 0 0 (rA b 14 sz)) (F0 m 9 ls [])) : ∀ (n : Nat) (x1 x2 : Int) (M0 : Mem) (H : Heap) (locs : List Loc) (ls : Array Slot), wp_Model_flood_17 X9 Post n x1 x2 M0 → va_P D classes (wsG b 14 (cellN b g) M0) H → va_S (rA b 14 sz) s.heap H locs → lv_has ls 4 [(0, .ref (b + 0)), (1, iv x1), (2, iv x2)] → W p l e ({ frames := 1, cells := 0, slots := 0, locals := 21 }) s m args below meth c H locs 0 0 (MQ below (QV D g b 14 (cellN b g) sz Post) args s 0 0 (rA b 14 sz)) (F0 m 17 ls []) := by
  intro n
  induction n with
  | zero => intro x1 x2 M0 H locs ls h; exact h.elim
  | succ n ih =>
  intro x1 x2 M0 H locs ls h hP hS hl
  simp only [wp_Model_flood_17] at h
  refine lv_iload_n hC.1 hC.2.1 d_Model_flood_17 rfl (lv_at hl 2 rfl) ?_
  refine xi_sipush hC d_Model_flood_18 (by decide) ?_
  obtain ⟨b0, h⟩ := h
  refine xi_cge hC (tgt := 111) d_Model_flood_21 (by decide) b0 (xl rfl) (fun q => ?_) (fun q => ?_)
  · have h := h.1 q
    refine lv_goto (tgt := 9) hC.1 hC.2.1 d_Model_flood_111 (by decide) ?_
    exact hX9 _ _ _ _ _ h hP hS (lv_sub hl [0, 1] rfl)
  · have h := h.2 q
    refine lv_iload_n hC.1 hC.2.1 d_Model_flood_24 rfl (lv_at hl 2 rfl) ?_
    refine xi_bipush hC d_Model_flood_25 (by decide) ?_
    obtain ⟨hd, h⟩ := h
    refine xi_rem hC d_Model_flood_27 hd ?_
    refine xi_top (fun v3_1 ev3_1 => ?_)
    have h := h v3_1 ev3_1
    refine lv_istore_n (lv' := [(3, iv v3_1), (0, .ref (b + 0)), (1, iv x1), (2, iv x2)]) hC.1 hC.2.1 d_Model_flood_28 rfl hl (by decide) rfl (fun ls hl => ?_)
    refine lv_aload_n hC.1 hC.2.1 d_Model_flood_29 rfl (lv_at hl 1 rfl) ?_
    refine gf_Model_54 hC hK hP hst d_Model_flood_30 ?_
    refine lv_iload_n hC.1 hC.2.1 d_Model_flood_33 rfl (lv_at hl 3 rfl) ?_
    obtain ⟨hi, h⟩ := h
    refine xg_ald hC hK hP aN_field (by decide) hi d_Model_flood_34 ?_
    obtain ⟨b0, h⟩ := h
    refine xi_ieq hC (tgt := 41) d_Model_flood_35 (by decide) b0 (fun q => ?_) (fun q => ?_)
    · have h := h.1 q
      refine lv_iload_n hC.1 hC.2.1 d_Model_flood_41 rfl (lv_at hl 0 rfl) ?_
      obtain ⟨b0, h⟩ := h
      refine xi_ile hC (tgt := 55) d_Model_flood_42 (by decide) b0 (fun q => ?_) (fun q => ?_)
      · have h := h.1 q
        exact s_Model_flood_55 hC hr hlocks hK hst hz hX9 ih _ _ _ _ _ _ _ h hP hS (lv_sub hl [1, 2, 3, 0] rfl)
      · have h := h.2 q
        refine lv_aload_n hC.1 hC.2.1 d_Model_flood_45 rfl (lv_at hl 1 rfl) ?_
        refine lv_iload_n hC.1 hC.2.1 d_Model_flood_46 rfl (lv_at hl 3 rfl) ?_
        refine xi_const hC d_Model_flood_47 ?_
        refine xi_sub hC d_Model_flood_48 ?_
        refine xk_VP (As := [iv (x2 - 1)]) (rest := []) hC hK hP hS hst hz hl.1 lk_Model_169 rfl rfl rfl ⟨Nat.le_of_ble_eq_true rfl, Nat.le_of_ble_eq_true rfl⟩ (rc_Model hK hP) (fun sz' => c_Model_isOut l D g b sz' h) d_Model_flood_49 rfl (Nat.le_of_ble_eq_true rfl) ⟨Nat.le_of_ble_eq_true rfl, Nat.le_of_ble_eq_true rfl⟩ (fun r_2 h => ?_)
        try dsimp only at h
        obtain ⟨b0, h⟩ := h
        refine xi_ine hC (tgt := 96) d_Model_flood_52 (by decide) b0 (fun q => ?_) (fun q => ?_)
        · have h := h.1 q
          exact s_Model_flood_96 hC hr hlocks hK hst hz hX9 ih _ _ _ _ _ h hP hS (lv_sub hl [1, 3] rfl)
        · have h := h.2 q
          exact s_Model_flood_55 hC hr hlocks hK hst hz hX9 ih _ _ _ _ _ _ _ h hP hS (lv_sub hl [1, 2, 3, 0] rfl)
    · have h := h.2 q
      refine lv_goto (tgt := 105) hC.1 hC.2.1 d_Model_flood_38 (by decide) ?_
      obtain ⟨v2_3, ev2_3⟩ : ∃ y : Int, y = x2 + 1 := ⟨_, rfl⟩
      have h := h v2_3 ev2_3
      refine xi_iinc (v := v2_3) (lv' := [(2, iv v2_3), (3, iv v3_1), (0, .ref (b + 0)), (1, iv x1)]) hC d_Model_flood_105 hl (k := 3) rfl ev2_3 (by decide) rfl (fun ls hl => ?_)
      refine lv_goto (tgt := 17) hC.1 hC.2.1 d_Model_flood_108 (by decide) ?_
      exact ih _ _ _ _ _ _ h hP hS (lv_sub hl [2, 3, 0] rfl)
set_option maxHeartbeats 4000000 in
theorem s_Model_flood_9 {p : Program} {l : Launch} {e : Env} {s : State} {m : MethodId} {args : Array Value} {below : List Frame} {meth : Method} {c : Code} {D : va_G} {g : Nat → ClassId} {b sz : Nat} (hC : Cx p m c b_Model_flood 4 s args "EdgeJoinsModel") (hr : meth.sig.returnType = none) (hlocks : meth.locks = false) (hK : va_K D classes (tyG g) s) (hst : sC (rA b 14 sz) s s.heap) (hz : sz ≤ s.heap.size) {Post : Mem → Prop} : ∀ (n : Nat) (x1 : Int) (M0 : Mem) (H : Heap) (locs : List Loc) (ls : Array Slot), wp_Model_flood_9 Post n x1 M0 → va_P D classes (wsG b 14 (cellN b g) M0) H → va_S (rA b 14 sz) s.heap H locs → lv_has ls 4 [(0, .ref (b + 0)), (1, iv x1)] → W p l e ({ frames := 1, cells := 0, slots := 0, locals := 21 }) s m args below meth c H locs 0 0 (MQ below (QV D g b 14 (cellN b g) sz Post) args s 0 0 (rA b 14 sz)) (F0 m 9 ls []) := by
  intro n
  induction n with
  | zero => intro x1 M0 H locs ls h; exact h.elim
  | succ n ih =>
  intro x1 M0 H locs ls h hP hS hl
  simp only [wp_Model_flood_9] at h
  refine lv_iload_n hC.1 hC.2.1 d_Model_flood_9 rfl (lv_at hl 1 rfl) ?_
  obtain ⟨b0, h⟩ := h
  refine xi_ieq hC (tgt := 114) d_Model_flood_10 (by decide) b0 (fun q => ?_) (fun q => ?_)
  · have h := h.1 q
    exact xr_v hC hr hlocks hK hP hS h d_Model_flood_114
  · have h := h.2 q
    refine xi_const hC d_Model_flood_13 ?_
    refine lv_istore_n (lv' := [(1, iv 0), (0, .ref (b + 0))]) hC.1 hC.2.1 d_Model_flood_14 rfl hl (by decide) rfl (fun ls hl => ?_)
    refine xi_const hC d_Model_flood_15 ?_
    refine lv_istore_n (lv' := [(2, iv 0), (1, iv 0), (0, .ref (b + 0))]) hC.1 hC.2.1 d_Model_flood_16 rfl hl (by decide) rfl (fun ls hl => ?_)
    obtain ⟨nn, h⟩ := h
    exact s_Model_flood_17 hC hr hlocks hK hst hz ih nn _ _ _ _ _ _ h hP hS (lv_sub hl [2, 1, 0] rfl)
set_option maxHeartbeats 4000000 in
theorem c_Model_flood (l : Launch) (D : va_G) (g : Nat → ClassId) (b sz : Nat) {M0 : Mem} {Post : Mem → Prop} (h : wp_Model_flood M0 Post) : Met l y_Model_flood (Cond.code y_Model_flood b_Model_flood 4 (none) :: gd) ({ frames := 1, cells := 0, slots := 0, locals := 21 }) (PcG D g b 14 (cellN b g) sz M0 [.ref (b + 0)]) (QV D g b 14 (cellN b g) sz Post) 0 0 (rA b 14 sz) := by
  refine xm_start (by decide) rfl (Nat.le_of_ble_eq_true rfl) ?_
  intro p e s m below meth c ls H args hC hr hlocks hK hP hst hz hS hH hl
  have hl : lv_has ls 4 [(0, .ref (b + 0))] := hl
  unfold wp_Model_flood at h
  refine lv_aload_n hC.1 hC.2.1 d_Model_flood_0 rfl (lv_at hl 0 rfl) ?_
  refine gf_Model_54 hC hK hP hst d_Model_flood_1 ?_
  refine xi_const hC d_Model_flood_4 ?_
  refine xi_const hC d_Model_flood_5 ?_
  obtain ⟨hi, h⟩ := h
  refine xg_ast hC hK hP hS aN_field (by decide) hi d_Model_flood_6 (fun H locs hP hS => ?_)
  obtain ⟨M_1, eM_1⟩ : ∃ y : Mem, y = up M0 13 (0 : Int).toNat 2 := ⟨_, rfl⟩
  rw [← eM_1] at hP
  have h := h M_1 eM_1
  refine xi_const hC d_Model_flood_7 ?_
  refine lv_istore_n (lv' := [(1, iv 1), (0, .ref (b + 0))]) hC.1 hC.2.1 d_Model_flood_8 rfl hl (by decide) rfl (fun ls hl => ?_)
  obtain ⟨nn, h⟩ := h
  exact s_Model_flood_9 hC hr hlocks hK hst hz nn _ _ _ _ _ h hP hS (lv_sub hl [1, 0] rfl)
