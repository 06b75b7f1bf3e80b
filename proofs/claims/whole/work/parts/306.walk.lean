set_option maxHeartbeats 4000000 in
theorem s_Model_space_4 {p : Program} {l : Launch} {e : Env} {s : State} {m : MethodId} {args : Array Value} {below : List Frame} {meth : Method} {c : Code} {D : va_G} {g : Nat → ClassId} {b sz : Nat} (hC : Cx p m c b_Model_space 5 s args "EdgeJoinsModel") (hr : meth.sig.returnType = some .int) (hlocks : meth.locks = false) (hK : va_K D classes (tyG g) s) (hst : sC (rA b 14 sz) s s.heap) (hz : sz ≤ s.heap.size) {Post : Int → Mem → Prop} : ∀ (n : Nat) (x1 x2 x3 : Int) (M0 : Mem) (H : Heap) (locs : List Loc) (ls : Array Slot), wp_Model_space_4 Post n x1 x2 x3 M0 → va_P D classes (wsG b 14 (cellN b g) M0) H → va_S (rA b 14 sz) s.heap H locs → lv_has ls 5 [(0, .ref (b + 0)), (1, iv x1), (2, iv x2), (3, iv x3)] → W p l e ({ frames := 2, cells := 0, slots := 0, locals := 43 }) s m args below meth c H locs 0 0 (MQ below (QI D g b 14 (cellN b g) sz Post) args s 0 0 (rA b 14 sz)) (F0 m 4 ls []) := by
  intro n
  induction n with
  | zero => intro x1 x2 x3 M0 H locs ls h; exact h.elim
  | succ n ih =>
  intro x1 x2 x3 M0 H locs ls h hP hS hl
  simp only [wp_Model_space_4] at h
  refine lv_iload_n hC.1 hC.2.1 d_Model_space_4 rfl (lv_at hl 3 rfl) ?_
  refine lv_aload_n hC.1 hC.2.1 d_Model_space_5 rfl (lv_at hl 0 rfl) ?_
  refine gf_Model_7 hC hK hP hst d_Model_space_6 ?_
  refine lv_iload_n hC.1 hC.2.1 d_Model_space_9 rfl (lv_at hl 1 rfl) ?_
  obtain ⟨hi, h⟩ := h
  refine xg_ald hC hK hP aN_sizes (by decide) hi d_Model_space_10 ?_
  obtain ⟨b0, h⟩ := h
  obtain ⟨b1, h⟩ := h
  refine xi_cge hC (tgt := 63) d_Model_space_11 (by decide) b0 b1 (fun q => ?_) (fun q => ?_)
  · have h := h.1 q
    refine lv_iload_n hC.1 hC.2.1 d_Model_space_63 rfl (lv_at hl 2 rfl) ?_
    exact xr_i hC hr hlocks hK hP hS h d_Model_space_64
  · have h := h.2 q
    refine lv_aload_n hC.1 hC.2.1 d_Model_space_14 rfl (lv_at hl 0 rfl) ?_
    refine lv_iload_n hC.1 hC.2.1 d_Model_space_15 rfl (lv_at hl 1 rfl) ?_
    refine lv_iload_n hC.1 hC.2.1 d_Model_space_16 rfl (lv_at hl 3 rfl) ?_
    refine xk_Vv (As := [iv x1, iv x3]) (rest := []) hC hK hP hS hst hz hl.1 lk_Model_92 rfl rfl rfl ⟨Nat.le_of_ble_eq_true rfl, Nat.le_of_ble_eq_true rfl⟩ (rc_Model hK hP) (fun sz' => c_Model_corner l D g b sz' h) d_Model_space_17 rfl (Nat.le_of_ble_eq_true rfl) ⟨Nat.le_of_ble_eq_true rfl, Nat.le_of_ble_eq_true rfl⟩ (fun M_2 H locs h hP hS => ?_)
    try dsimp only at h
    refine lv_aload_n hC.1 hC.2.1 d_Model_space_20 rfl (lv_at hl 0 rfl) ?_
    refine gf_Model_13 hC hK hP hst d_Model_space_21 ?_
    refine xi_bipush hC d_Model_space_24 (by decide) ?_
    refine lv_iload_n hC.1 hC.2.1 d_Model_space_26 rfl (lv_at hl 1 rfl) ?_
    refine xi_mul hC d_Model_space_27 ?_
    refine lv_iload_n hC.1 hC.2.1 d_Model_space_28 rfl (lv_at hl 3 rfl) ?_
    refine xi_add hC d_Model_space_29 ?_
    obtain ⟨hi, h⟩ := h
    refine xg_ald hC hK hP aN_steps (by decide) hi d_Model_space_30 ?_
    refine xi_top (fun v4_3 ev4_3 => ?_)
    have h := h v4_3 ev4_3
    refine lv_istore (lv' := [(4, iv v4_3), (0, .ref (b + 0)), (1, iv x1), (2, iv x2), (3, iv x3)]) hC.1 hC.2.1 d_Model_space_31 hl (by decide) rfl (fun ls hl => ?_)
    refine lv_iload_n hC.1 hC.2.1 d_Model_space_33 rfl (lv_at hl 3 rfl) ?_
    refine lv_aload_n hC.1 hC.2.1 d_Model_space_34 rfl (lv_at hl 1 rfl) ?_
    refine gf_Model_79 hC hK hP hst d_Model_space_35 ?_
    refine lv_iload hC.1 hC.2.1 d_Model_space_38 (lv_at hl 0 rfl) ?_
    refine xk_SP (As := [iv v4_3]) (rest := [iv (M_2 0 19), iv x2]) hC hK hP hS hst hz hl.1 lk_Model_89 rfl rfl rfl ⟨Nat.le_of_ble_eq_true rfl, Nat.le_of_ble_eq_true rfl⟩ (fun sz' => c_Model_down l D g b sz' h) d_Model_space_40 rfl (Nat.le_of_ble_eq_true rfl) ⟨Nat.le_of_ble_eq_true rfl, Nat.le_of_ble_eq_true rfl⟩ (fun r_4 h => ?_)
    try dsimp only at h
    refine xi_mul hC d_Model_space_43 ?_
    refine lv_aload_n hC.1 hC.2.1 d_Model_space_44 rfl (lv_at hl 1 rfl) ?_
    refine gf_Model_82 hC hK hP hst d_Model_space_45 ?_
    refine lv_iload hC.1 hC.2.1 d_Model_space_48 (lv_at hl 0 rfl) ?_
    refine xk_SP (As := [iv v4_3]) (rest := [iv (M_2 0 20), iv ((M_2 0 19) * r_4), iv x2]) hC hK hP hS hst hz hl.1 lk_Model_85 rfl rfl rfl ⟨Nat.le_of_ble_eq_true rfl, Nat.le_of_ble_eq_true rfl⟩ (fun sz' => c_Model_across l D g b sz' h) d_Model_space_50 rfl (Nat.le_of_ble_eq_true rfl) ⟨Nat.le_of_ble_eq_true rfl, Nat.le_of_ble_eq_true rfl⟩ (fun r_5 h => ?_)
    try dsimp only at h
    refine xi_mul hC d_Model_space_53 ?_
    refine xi_sub hC d_Model_space_54 ?_
    refine xi_add hC d_Model_space_55 ?_
    refine xi_top (fun v2_6 ev2_6 => ?_)
    have h := h v2_6 ev2_6
    refine lv_istore_n (lv' := [(2, iv v2_6), (4, iv v4_3), (0, .ref (b + 0)), (1, iv x1), (3, iv x3)]) hC.1 hC.2.1 d_Model_space_56 rfl hl (by decide) rfl (fun ls hl => ?_)
    obtain ⟨v3_7, ev3_7⟩ : ∃ y : Int, y = x3 + 1 := ⟨_, rfl⟩
    have h := h v3_7 ev3_7
    refine xi_iinc (v := v3_7) (lv' := [(3, iv v3_7), (2, iv v2_6), (4, iv v4_3), (0, .ref (b + 0)), (1, iv x1)]) hC d_Model_space_57 hl (k := 4) rfl ev3_7 (by decide) rfl (fun ls hl => ?_)
    refine lv_goto (tgt := 4) hC.1 hC.2.1 d_Model_space_60 (by decide) ?_
    exact ih _ _ _ _ _ _ _ h hP hS (lv_sub hl [3, 4, 1, 0] rfl)
set_option maxHeartbeats 4000000 in
theorem c_Model_space (l : Launch) (D : va_G) (g : Nat → ClassId) (b sz : Nat) {x1 : Int} {M0 : Mem} {Post : Int → Mem → Prop} (h : wp_Model_space x1 M0 Post) : Met l y_Model_space (Cond.code y_Model_space b_Model_space 5 (some .int) :: gd) ({ frames := 2, cells := 0, slots := 0, locals := 43 }) (PcG D g b 14 (cellN b g) sz M0 [.ref (b + 0), iv x1]) (QI D g b 14 (cellN b g) sz Post) 0 0 (rA b 14 sz) := by
  refine xm_start (by decide) rfl (Nat.le_of_ble_eq_true rfl) ?_
  intro p e s m below meth c ls H args hC hr hlocks hK hP hst hz hS hH hl
  have hl : lv_has ls 5 [(0, .ref (b + 0)), (1, iv x1)] := hl
  unfold wp_Model_space at h
  refine xi_const hC d_Model_space_0 ?_
  refine lv_istore_n (lv' := [(2, iv 0), (0, .ref (b + 0)), (1, iv x1)]) hC.1 hC.2.1 d_Model_space_1 rfl hl (by decide) rfl (fun ls hl => ?_)
  refine xi_const hC d_Model_space_2 ?_
  refine lv_istore_n (lv' := [(3, iv 0), (2, iv 0), (0, .ref (b + 0)), (1, iv x1)]) hC.1 hC.2.1 d_Model_space_3 rfl hl (by decide) rfl (fun ls hl => ?_)
  obtain ⟨nn, h⟩ := h
  exact s_Model_space_4 hC hr hlocks hK hst hz nn _ _ _ _ _ _ _ h hP hS (lv_sub hl [2, 3, 1, 0] rfl)
set_option maxHeartbeats 4000000 in
theorem s_Model_isInside_90 {p : Program} {l : Launch} {e : Env} {s : State} {m : MethodId} {args : Array Value} {below : List Frame} {meth : Method} {c : Code} {D : va_G} {g : Nat → ClassId} {b sz : Nat} (hC : Cx p m c b_Model_isInside 8 s args "EdgeJoinsModel") (hr : meth.sig.returnType = some .boolean) (hlocks : meth.locks = false) (hK : va_K D classes (tyG g) s) (hst : sC (rA b 14 sz) s s.heap) (hz : sz ≤ s.heap.size) {Post : Int → Mem → Prop} {X6 : Int → Int → Int → Int → Int → Mem → Prop} (hX6 : ∀ (x1 x2 x3 x4 x5 : Int) (M0 : Mem) (H : Heap) (locs : List Loc) (ls : Array Slot), X6 x1 x2 x3 x4 x5 M0 → va_P D classes (wsG b 14 (cellN b g) M0) H → va_S (rA b 14 sz) s.heap H locs → lv_has ls 8 [(0, .ref (b + 0)), (1, iv x1), (2, iv x2), (3, iv x3), (4, iv x4), (5, iv x5)] → W p l e ({ frames := 2, cells := 0, slots := 0, locals := 43 }) s m args below meth c H locs 0 0 (MQ below (QI D g b 14 (cellN b g) sz Post) args s 0 0 (rA b 14 sz)) (F0 m 6 ls [])) : ∀ (x1 x2 x3 x5 t0 t1 : Int) (M0 : Mem) (H : Heap) (locs : List Loc) (ls : Array Slot), wp_Model_isInside_90 X6 x1 x2 x3 x5 t0 t1 M0 Post → va_P D classes (wsG b 14 (cellN b g) M0) H → va_S (rA b 14 sz) s.heap H locs → lv_has ls 8 [(0, .ref (b + 0)), (1, iv x1), (2, iv x2), (3, iv x3), (5, iv x5)] → W p l e ({ frames := 2, cells := 0, slots := 0, locals := 43 }) s m args below meth c H locs 0 0 (MQ below (QI D g b 14 (cellN b g) sz Post) args s 0 0 (rA b 14 sz)) (F0 m 90 ls [iv t1, iv t0]) := by
  intro x1 x2 x3 x5 t0 t1 M0 H locs ls h hP hS hl
  unfold wp_Model_isInside_90 at h
  obtain ⟨b0, h⟩ := h
  obtain ⟨b1, h⟩ := h
  refine xi_ceq hC (tgt := 97) d_Model_isInside_90 (by decide) b0 b1 (fun q => ?_) (fun q => ?_)
  · have h := h.1 q
    refine xi_const hC d_Model_isInside_97 ?_
    refine lv_istore (lv' := [(4, iv 0), (0, .ref (b + 0)), (1, iv x1), (2, iv x2), (3, iv x3), (5, iv x5)]) hC.1 hC.2.1 d_Model_isInside_98 hl (by decide) rfl (fun ls hl => ?_)
    obtain ⟨v5_1, ev5_1⟩ : ∃ y : Int, y = x5 + 1 := ⟨_, rfl⟩
    have h := h v5_1 ev5_1
    refine xi_iinc (v := v5_1) (lv' := [(5, iv v5_1), (4, iv 0), (0, .ref (b + 0)), (1, iv x1), (2, iv x2), (3, iv x3)]) hC d_Model_isInside_100 hl (k := 5) rfl ev5_1 (by decide) rfl (fun ls hl => ?_)
    refine lv_goto (tgt := 6) hC.1 hC.2.1 d_Model_isInside_103 (by decide) ?_
    exact hX6 _ _ _ _ _ _ _ _ _ h hP hS (lv_sub hl [2, 3, 4, 5, 1, 0] rfl)
  · have h := h.2 q
    refine xi_const hC d_Model_isInside_93 ?_
    refine lv_goto (tgt := 98) hC.1 hC.2.1 d_Model_isInside_94 (by decide) ?_
    refine lv_istore (lv' := [(4, iv 1), (0, .ref (b + 0)), (1, iv x1), (2, iv x2), (3, iv x3), (5, iv x5)]) hC.1 hC.2.1 d_Model_isInside_98 hl (by decide) rfl (fun ls hl => ?_)
    obtain ⟨v5_2, ev5_2⟩ : ∃ y : Int, y = x5 + 1 := ⟨_, rfl⟩
    have h := h v5_2 ev5_2
    refine xi_iinc (v := v5_2) (lv' := [(5, iv v5_2), (4, iv 1), (0, .ref (b + 0)), (1, iv x1), (2, iv x2), (3, iv x3)]) hC d_Model_isInside_100 hl (k := 5) rfl ev5_2 (by decide) rfl (fun ls hl => ?_)
    refine lv_goto (tgt := 6) hC.1 hC.2.1 d_Model_isInside_103 (by decide) ?_
    exact hX6 _ _ _ _ _ _ _ _ _ h hP hS (lv_sub hl [2, 3, 4, 5, 1, 0] rfl)
set_option maxHeartbeats 4000000 in
theorem s_Model_isInside_89 {p : Program} {l : Launch} {e : Env} {s : State} {m : MethodId} {args : Array Value} {below : List Frame} {meth : Method} {c : Code} {D : va_G} {g : Nat → ClassId} {b sz : Nat} (hC : Cx p m c b_Model_isInside 8 s args "EdgeJoinsModel") (hr : meth.sig.returnType = some .boolean) (hlocks : meth.locks = false) (hK : va_K D classes (tyG g) s) (hst : sC (rA b 14 sz) s s.heap) (hz : sz ≤ s.heap.size) {Post : Int → Mem → Prop} {X6 : Int → Int → Int → Int → Int → Mem → Prop} (hX6 : ∀ (x1 x2 x3 x4 x5 : Int) (M0 : Mem) (H : Heap) (locs : List Loc) (ls : Array Slot), X6 x1 x2 x3 x4 x5 M0 → va_P D classes (wsG b 14 (cellN b g) M0) H → va_S (rA b 14 sz) s.heap H locs → lv_has ls 8 [(0, .ref (b + 0)), (1, iv x1), (2, iv x2), (3, iv x3), (4, iv x4), (5, iv x5)] → W p l e ({ frames := 2, cells := 0, slots := 0, locals := 43 }) s m args below meth c H locs 0 0 (MQ below (QI D g b 14 (cellN b g) sz Post) args s 0 0 (rA b 14 sz)) (F0 m 6 ls [])) : ∀ (x1 x2 x3 x5 t0 : Int) (M0 : Mem) (H : Heap) (locs : List Loc) (ls : Array Slot), wp_Model_isInside_89 X6 x1 x2 x3 x5 t0 M0 Post → va_P D classes (wsG b 14 (cellN b g) M0) H → va_S (rA b 14 sz) s.heap H locs → lv_has ls 8 [(0, .ref (b + 0)), (1, iv x1), (2, iv x2), (3, iv x3), (5, iv x5)] → W p l e ({ frames := 2, cells := 0, slots := 0, locals := 43 }) s m args below meth c H locs 0 0 (MQ below (QI D g b 14 (cellN b g) sz Post) args s 0 0 (rA b 14 sz)) (F0 m 89 ls [iv t0]) := by
  intro x1 x2 x3 x5 t0 M0 H locs ls h hP hS hl
  unfold wp_Model_isInside_89 at h
  refine xi_const hC d_Model_isInside_89 ?_
  exact s_Model_isInside_90 hC hr hlocks hK hst hz hX6 _ _ _ _ _ _ _ _ _ _ h hP hS (lv_sub hl [0, 1, 2, 3, 4] rfl)
set_option maxHeartbeats 4000000 in
theorem s_Model_isInside_67 {p : Program} {l : Launch} {e : Env} {s : State} {m : MethodId} {args : Array Value} {below : List Frame} {meth : Method} {c : Code} {D : va_G} {g : Nat → ClassId} {b sz : Nat} (hC : Cx p m c b_Model_isInside 8 s args "EdgeJoinsModel") (hr : meth.sig.returnType = some .boolean) (hlocks : meth.locks = false) (hK : va_K D classes (tyG g) s) (hst : sC (rA b 14 sz) s s.heap) (hz : sz ≤ s.heap.size) {Post : Int → Mem → Prop} {X6 : Int → Int → Int → Int → Int → Mem → Prop} (hX6 : ∀ (x1 x2 x3 x4 x5 : Int) (M0 : Mem) (H : Heap) (locs : List Loc) (ls : Array Slot), X6 x1 x2 x3 x4 x5 M0 → va_P D classes (wsG b 14 (cellN b g) M0) H → va_S (rA b 14 sz) s.heap H locs → lv_has ls 8 [(0, .ref (b + 0)), (1, iv x1), (2, iv x2), (3, iv x3), (4, iv x4), (5, iv x5)] → W p l e ({ frames := 2, cells := 0, slots := 0, locals := 43 }) s m args below meth c H locs 0 0 (MQ below (QI D g b 14 (cellN b g) sz Post) args s 0 0 (rA b 14 sz)) (F0 m 6 ls [])) : ∀ (x1 x2 x3 x4 x5 t0 : Int) (M0 : Mem) (H : Heap) (locs : List Loc) (ls : Array Slot), wp_Model_isInside_67 X6 x1 x2 x3 x4 x5 t0 M0 Post → va_P D classes (wsG b 14 (cellN b g) M0) H → va_S (rA b 14 sz) s.heap H locs → lv_has ls 8 [(0, .ref (b + 0)), (1, iv x1), (2, iv x2), (3, iv x3), (4, iv x4), (5, iv x5)] → W p l e ({ frames := 2, cells := 0, slots := 0, locals := 43 }) s m args below meth c H locs 0 0 (MQ below (QI D g b 14 (cellN b g) sz Post) args s 0 0 (rA b 14 sz)) (F0 m 67 ls [iv t0]) := by
  intro x1 x2 x3 x4 x5 t0 M0 H locs ls h hP hS hl
  unfold wp_Model_isInside_67 at h
  refine lv_istore (lv' := [(7, iv t0), (0, .ref (b + 0)), (1, iv x1), (2, iv x2), (3, iv x3), (4, iv x4), (5, iv x5)]) hC.1 hC.2.1 d_Model_isInside_67 hl (by decide) rfl (fun ls hl => ?_)
  refine lv_iload hC.1 hC.2.1 d_Model_isInside_69 (lv_at hl 5 rfl) ?_
  refine lv_iload hC.1 hC.2.1 d_Model_isInside_71 (lv_at hl 0 rfl) ?_
  refine lv_iload_n hC.1 hC.2.1 d_Model_isInside_73 rfl (lv_at hl 4 rfl) ?_
  obtain ⟨b0, h⟩ := h
  obtain ⟨b1, h⟩ := h
  refine xi_cne hC (tgt := 89) d_Model_isInside_74 (by decide) b0 b1 (fun q => ?_) (fun q => ?_)
  · have h := h.1 q
    exact s_Model_isInside_89 hC hr hlocks hK hst hz hX6 _ _ _ _ _ _ _ _ _ h hP hS (lv_sub hl [1, 2, 3, 4, 6] rfl)
  · have h := h.2 q
    refine lv_aload_n hC.1 hC.2.1 d_Model_isInside_77 rfl (lv_at hl 1 rfl) ?_
    refine gf_Model_79 hC hK hP hst d_Model_isInside_78 ?_
    refine lv_iload_n hC.1 hC.2.1 d_Model_isInside_81 rfl (lv_at hl 3 rfl) ?_
    obtain ⟨b0, h⟩ := h
    obtain ⟨b1, h⟩ := h
    refine xi_cgt hC (tgt := 89) d_Model_isInside_82 (by decide) b0 b1 (fun q => ?_) (fun q => ?_)
    · have h := h.1 q
      exact s_Model_isInside_89 hC hr hlocks hK hst hz hX6 _ _ _ _ _ _ _ _ _ h hP hS (lv_sub hl [1, 2, 3, 4, 6] rfl)
    · have h := h.2 q
      refine xi_const hC d_Model_isInside_85 ?_
      refine lv_goto (tgt := 90) hC.1 hC.2.1 d_Model_isInside_86 (by decide) ?_
      exact s_Model_isInside_90 hC hr hlocks hK hst hz hX6 _ _ _ _ _ _ _ _ _ _ h hP hS (lv_sub hl [1, 2, 3, 4, 6] rfl)
set_option maxHeartbeats 4000000 in
theorem s_Model_isInside_6 {p : Program} {l : Launch} {e : Env} {s : State} {m : MethodId} {args : Array Value} {below : List Frame} {meth : Method} {c : Code} {D : va_G} {g : Nat → ClassId} {b sz : Nat} (hC : Cx p m c b_Model_isInside 8 s args "EdgeJoinsModel") (hr : meth.sig.returnType = some .boolean) (hlocks : meth.locks = false) (hK : va_K D classes (tyG g) s) (hst : sC (rA b 14 sz) s s.heap) (hz : sz ≤ s.heap.size) {Post : Int → Mem → Prop} : ∀ (n : Nat) (x1 x2 x3 x4 x5 : Int) (M0 : Mem) (H : Heap) (locs : List Loc) (ls : Array Slot), wp_Model_isInside_6 Post n x1 x2 x3 x4 x5 M0 → va_P D classes (wsG b 14 (cellN b g) M0) H → va_S (rA b 14 sz) s.heap H locs → lv_has ls 8 [(0, .ref (b + 0)), (1, iv x1), (2, iv x2), (3, iv x3), (4, iv x4), (5, iv x5)] → W p l e ({ frames := 2, cells := 0, slots := 0, locals := 43 }) s m args below meth c H locs 0 0 (MQ below (QI D g b 14 (cellN b g) sz Post) args s 0 0 (rA b 14 sz)) (F0 m 6 ls []) := by
  intro n
  induction n with
  | zero => intro x1 x2 x3 x4 x5 M0 H locs ls h; exact h.elim
  | succ n ih =>
  intro x1 x2 x3 x4 x5 M0 H locs ls h hP hS hl
  simp only [wp_Model_isInside_6] at h
  refine lv_iload hC.1 hC.2.1 d_Model_isInside_6 (lv_at hl 5 rfl) ?_
  refine lv_aload_n hC.1 hC.2.1 d_Model_isInside_8 rfl (lv_at hl 0 rfl) ?_
  refine gf_Model_7 hC hK hP hst d_Model_isInside_9 ?_
  refine lv_iload_n hC.1 hC.2.1 d_Model_isInside_12 rfl (lv_at hl 1 rfl) ?_
  obtain ⟨hi, h⟩ := h
  refine xg_ald hC hK hP aN_sizes (by decide) hi d_Model_isInside_13 ?_
  obtain ⟨b0, h⟩ := h
  obtain ⟨b1, h⟩ := h
  refine xi_cge hC (tgt := 106) d_Model_isInside_14 (by decide) b0 b1 (fun q => ?_) (fun q => ?_)
  · have h := h.1 q
    refine lv_iload hC.1 hC.2.1 d_Model_isInside_106 (lv_at hl 4 rfl) ?_
    exact xr_z hC hr hlocks hK hP hS h.1 h.2 d_Model_isInside_108
  · have h := h.2 q
    refine lv_aload_n hC.1 hC.2.1 d_Model_isInside_17 rfl (lv_at hl 0 rfl) ?_
    refine gf_Model_13 hC hK hP hst d_Model_isInside_18 ?_
    refine xi_bipush hC d_Model_isInside_21 (by decide) ?_
    refine lv_iload_n hC.1 hC.2.1 d_Model_isInside_23 rfl (lv_at hl 1 rfl) ?_
    refine xi_mul hC d_Model_isInside_24 ?_
    refine lv_iload hC.1 hC.2.1 d_Model_isInside_25 (lv_at hl 5 rfl) ?_
    refine xi_add hC d_Model_isInside_27 ?_
    obtain ⟨hi, h⟩ := h
    refine xg_ald hC hK hP aN_steps (by decide) hi d_Model_isInside_28 ?_
    refine xi_top (fun v6_1 ev6_1 => ?_)
    have h := h v6_1 ev6_1
    refine lv_istore (lv' := [(6, iv v6_1), (0, .ref (b + 0)), (1, iv x1), (2, iv x2), (3, iv x3), (4, iv x4), (5, iv x5)]) hC.1 hC.2.1 d_Model_isInside_29 hl (by decide) rfl (fun ls hl => ?_)
    refine lv_iload hC.1 hC.2.1 d_Model_isInside_31 (lv_at hl 0 rfl) ?_
    refine xi_const hC d_Model_isInside_33 ?_
    obtain ⟨hd, h⟩ := h
    refine xi_rem hC d_Model_isInside_34 hd ?_
    obtain ⟨b0, h⟩ := h
    refine xi_ine hC (tgt := 41) d_Model_isInside_35 (by decide) b0 (fun q => ?_) (fun q => ?_)
    · have h := h.1 q
      refine lv_aload_n hC.1 hC.2.1 d_Model_isInside_41 rfl (lv_at hl 1 rfl) ?_
      refine lv_iload_n hC.1 hC.2.1 d_Model_isInside_42 rfl (lv_at hl 2 rfl) ?_
      refine lv_iload hC.1 hC.2.1 d_Model_isInside_43 (lv_at hl 6 rfl) ?_
      refine xk_Vv (As := [iv x1, iv x5]) (rest := []) hC hK hP hS hst hz hl.1 lk_Model_92 rfl rfl rfl ⟨Nat.le_of_ble_eq_true rfl, Nat.le_of_ble_eq_true rfl⟩ (rc_Model hK hP) (fun sz' => c_Model_corner l D g b sz' h) d_Model_isInside_45 rfl (Nat.le_of_ble_eq_true rfl) ⟨Nat.le_of_ble_eq_true rfl, Nat.le_of_ble_eq_true rfl⟩ (fun M_3 H locs h hP hS => ?_)
      try dsimp only at h
      refine lv_iload hC.1 hC.2.1 d_Model_isInside_48 (lv_at hl 0 rfl) ?_
      refine xi_const hC d_Model_isInside_50 ?_
      obtain ⟨b0, h⟩ := h
      refine xi_cne hC (tgt := 61) d_Model_isInside_51 (by decide) b0 (xl rfl) (fun q => ?_) (fun q => ?_)
      · have h := h.1 q
        refine lv_aload_n hC.1 hC.2.1 d_Model_isInside_61 rfl (lv_at hl 1 rfl) ?_
        refine gf_Model_82 hC hK hP hst d_Model_isInside_62 ?_
        refine xi_const hC d_Model_isInside_65 ?_
        refine xi_sub hC d_Model_isInside_66 ?_
        exact s_Model_isInside_67 hC hr hlocks hK hst hz ih _ _ _ _ _ _ _ _ _ _ h hP hS (lv_sub hl [1, 2, 3, 4, 5, 6] rfl)
      · have h := h.2 q
        refine lv_aload_n hC.1 hC.2.1 d_Model_isInside_54 rfl (lv_at hl 1 rfl) ?_
        refine gf_Model_82 hC hK hP hst d_Model_isInside_55 ?_
        refine lv_goto (tgt := 67) hC.1 hC.2.1 d_Model_isInside_58 (by decide) ?_
        exact s_Model_isInside_67 hC hr hlocks hK hst hz ih _ _ _ _ _ _ _ _ _ _ h hP hS (lv_sub hl [1, 2, 3, 4, 5, 6] rfl)
    · have h := h.2 q
      refine lv_goto (tgt := 100) hC.1 hC.2.1 d_Model_isInside_38 (by decide) ?_
      obtain ⟨v5_4, ev5_4⟩ : ∃ y : Int, y = x5 + 1 := ⟨_, rfl⟩
      have h := h v5_4 ev5_4
      refine xi_iinc (v := v5_4) (lv' := [(5, iv v5_4), (6, iv v6_1), (0, .ref (b + 0)), (1, iv x1), (2, iv x2), (3, iv x3), (4, iv x4)]) hC d_Model_isInside_100 hl (k := 6) rfl ev5_4 (by decide) rfl (fun ls hl => ?_)
      refine lv_goto (tgt := 6) hC.1 hC.2.1 d_Model_isInside_103 (by decide) ?_
      exact ih _ _ _ _ _ _ _ _ _ h hP hS (lv_sub hl [2, 3, 4, 5, 6, 0] rfl)
set_option maxHeartbeats 4000000 in
theorem c_Model_isInside (l : Launch) (D : va_G) (g : Nat → ClassId) (b sz : Nat) {x1 x2 x3 : Int} {M0 : Mem} {Post : Int → Mem → Prop} (h : wp_Model_isInside x1 x2 x3 M0 Post) : Met l y_Model_isInside (Cond.code y_Model_isInside b_Model_isInside 8 (some .boolean) :: gd) ({ frames := 2, cells := 0, slots := 0, locals := 43 }) (PcG D g b 14 (cellN b g) sz M0 [.ref (b + 0), iv x1, iv x2, iv x3]) (QI D g b 14 (cellN b g) sz Post) 0 0 (rA b 14 sz) := by
  refine xm_start (by decide) rfl (Nat.le_of_ble_eq_true rfl) ?_
  intro p e s m below meth c ls H args hC hr hlocks hK hP hst hz hS hH hl
  have hl : lv_has ls 8 [(0, .ref (b + 0)), (1, iv x1), (2, iv x2), (3, iv x3)] := hl
  unfold wp_Model_isInside at h
  refine xi_const hC d_Model_isInside_0 ?_
  refine lv_istore (lv' := [(4, iv 0), (0, .ref (b + 0)), (1, iv x1), (2, iv x2), (3, iv x3)]) hC.1 hC.2.1 d_Model_isInside_1 hl (by decide) rfl (fun ls hl => ?_)
  refine xi_const hC d_Model_isInside_3 ?_
  refine lv_istore (lv' := [(5, iv 0), (4, iv 0), (0, .ref (b + 0)), (1, iv x1), (2, iv x2), (3, iv x3)]) hC.1 hC.2.1 d_Model_isInside_4 hl (by decide) rfl (fun ls hl => ?_)
  obtain ⟨nn, h⟩ := h
  exact s_Model_isInside_6 hC hr hlocks hK hst hz nn _ _ _ _ _ _ _ _ _ h hP hS (lv_sub hl [2, 3, 4, 5, 1, 0] rfl)
set_option maxHeartbeats 4000000 in
theorem s_Model_close_75 {p : Program} {l : Launch} {e : Env} {s : State} {m : MethodId} {args : Array Value} {below : List Frame} {meth : Method} {c : Code} {D : va_G} {g : Nat → ClassId} {b sz : Nat} (hC : Cx p m c b_Model_close 5 s args "EdgeJoinsModel") (hr : meth.sig.returnType = some .int) (hlocks : meth.locks = false) (hK : va_K D classes (tyG g) s) (hst : sC (rA b 14 sz) s s.heap) (hz : sz ≤ s.heap.size) {Post : Int → Mem → Prop} : ∀ (n : Nat) (x1 x2 : Int) (M0 : Mem) (H : Heap) (locs : List Loc) (ls : Array Slot), wp_Model_close_75 Post n x1 x2 M0 → va_P D classes (wsG b 14 (cellN b g) M0) H → va_S (rA b 14 sz) s.heap H locs → lv_has ls 5 [(0, .ref (b + 0)), (1, iv x1), (2, iv x2)] → W p l e ({ frames := 3, cells := 0, slots := 0, locals := 70 }) s m args below meth c H locs 0 0 (MQ below (QI D g b 14 (cellN b g) sz Post) args s 0 0 (rA b 14 sz)) (F0 m 75 ls []) := by
  intro n
  induction n with
  | zero => intro x1 x2 M0 H locs ls h; exact h.elim
  | succ n ih =>
  intro x1 x2 M0 H locs ls h hP hS hl
  simp only [wp_Model_close_75] at h
  refine lv_iload_n hC.1 hC.2.1 d_Model_close_75 rfl (lv_at hl 2 rfl) ?_
  refine xi_sipush hC d_Model_close_76 (by decide) ?_
  obtain ⟨b0, h⟩ := h
  refine xi_cge hC (tgt := 164) d_Model_close_79 (by decide) b0 (xl rfl) (fun q => ?_) (fun q => ?_)
  · have h := h.1 q
    refine lv_aload_n hC.1 hC.2.1 d_Model_close_164 rfl (lv_at hl 0 rfl) ?_
    refine gf_Model_23 hC hK hP hst d_Model_close_165 ?_
    refine lv_iload_n hC.1 hC.2.1 d_Model_close_168 rfl (lv_at hl 1 rfl) ?_
    obtain ⟨hi, h⟩ := h
    refine xg_ald hC hK hP aN_cells (by decide) hi d_Model_close_169 ?_
    exact xr_i hC hr hlocks hK hP hS h d_Model_close_170
  · have h := h.2 q
    refine lv_iload_n hC.1 hC.2.1 d_Model_close_82 rfl (lv_at hl 2 rfl) ?_
    refine xi_bipush hC d_Model_close_83 (by decide) ?_
    obtain ⟨hd, h⟩ := h
    refine xi_rem hC d_Model_close_85 hd ?_
    refine xi_bipush hC d_Model_close_86 (by decide) ?_
    refine xi_sub hC d_Model_close_88 ?_
    refine xi_top (fun v3_1 ev3_1 => ?_)
    have h := h v3_1 ev3_1
    refine lv_istore_n (lv' := [(3, iv v3_1), (0, .ref (b + 0)), (1, iv x1), (2, iv x2)]) hC.1 hC.2.1 d_Model_close_89 rfl hl (by decide) rfl (fun ls hl => ?_)
    refine lv_iload_n hC.1 hC.2.1 d_Model_close_90 rfl (lv_at hl 3 rfl) ?_
    refine xi_bipush hC d_Model_close_91 (by decide) ?_
    obtain ⟨hd, h⟩ := h
    refine xi_div hC d_Model_close_93 hd ?_
    refine xi_bipush hC d_Model_close_94 (by decide) ?_
    refine xi_sub hC d_Model_close_96 ?_
    refine xi_top (fun v4_2 ev4_2 => ?_)
    have h := h v4_2 ev4_2
    refine lv_istore (lv' := [(4, iv v4_2), (3, iv v3_1), (0, .ref (b + 0)), (1, iv x1), (2, iv x2)]) hC.1 hC.2.1 d_Model_close_97 hl (by decide) rfl (fun ls hl => ?_)
    refine lv_aload_n hC.1 hC.2.1 d_Model_close_99 rfl (lv_at hl 2 rfl) ?_
    refine lv_iload_n hC.1 hC.2.1 d_Model_close_100 rfl (lv_at hl 3 rfl) ?_
    refine lv_iload_n hC.1 hC.2.1 d_Model_close_101 rfl (lv_at hl 1 rfl) ?_
    refine lv_iload hC.1 hC.2.1 d_Model_close_102 (lv_at hl 0 rfl) ?_
    refine xk_Vi (As := [iv x1, iv v3_1, iv v4_2]) (rest := []) hC hK hP hS hst hz hl.1 lk_Model_102 rfl rfl rfl ⟨Nat.le_of_ble_eq_true rfl, Nat.le_of_ble_eq_true rfl⟩ (rc_Model hK hP) (fun sz' => c_Model_isInside l D g b sz' h) d_Model_close_104 rfl (Nat.le_of_ble_eq_true rfl) ⟨Nat.le_of_ble_eq_true rfl, Nat.le_of_ble_eq_true rfl⟩ (fun r_3 M_4 H locs h hP hS => ?_)
    try dsimp only at h
    obtain ⟨b0, h⟩ := h
    refine xi_ine hC (tgt := 113) d_Model_close_107 (by decide) b0 (fun q => ?_) (fun q => ?_)
    · have h := h.1 q
      refine lv_aload_n hC.1 hC.2.1 d_Model_close_113 rfl (lv_at hl 2 rfl) ?_
      refine gf_Model_26 hC hK hP hst d_Model_close_114 ?_
      refine xi_bipush hC d_Model_close_117 (by decide) ?_
      refine lv_iload_n hC.1 hC.2.1 d_Model_close_119 rfl (lv_at hl 3 rfl) ?_
      refine xi_mul hC d_Model_close_120 ?_
      refine lv_aload_n hC.1 hC.2.1 d_Model_close_121 rfl (lv_at hl 2 rfl) ?_
      refine gf_Model_23 hC hK hP hst d_Model_close_122 ?_
      refine lv_iload_n hC.1 hC.2.1 d_Model_close_125 rfl (lv_at hl 3 rfl) ?_
      obtain ⟨hi, h⟩ := h
      refine xg_ald hC hK hP aN_cells (by decide) hi d_Model_close_126 ?_
      refine xi_add hC d_Model_close_127 ?_
      refine lv_iload_n hC.1 hC.2.1 d_Model_close_128 rfl (lv_at hl 1 rfl) ?_
      obtain ⟨hi, h⟩ := h
      refine xg_ast hC hK hP hS aN_cellX (by decide) hi d_Model_close_129 (fun H locs hP hS => ?_)
      obtain ⟨M_5, eM_5⟩ : ∃ y : Mem, y = up M_4 6 ((49 * x1) + (M_4 5 x1.toNat)).toNat v3_1 := ⟨_, rfl⟩
      rw [← eM_5] at hP
      have h := h M_5 eM_5
      refine lv_aload_n hC.1 hC.2.1 d_Model_close_130 rfl (lv_at hl 2 rfl) ?_
      refine gf_Model_29 hC hK hP hst d_Model_close_131 ?_
      refine xi_bipush hC d_Model_close_134 (by decide) ?_
      refine lv_iload_n hC.1 hC.2.1 d_Model_close_136 rfl (lv_at hl 3 rfl) ?_
      refine xi_mul hC d_Model_close_137 ?_
      refine lv_aload_n hC.1 hC.2.1 d_Model_close_138 rfl (lv_at hl 2 rfl) ?_
      refine gf_Model_23 hC hK hP hst d_Model_close_139 ?_
      refine lv_iload_n hC.1 hC.2.1 d_Model_close_142 rfl (lv_at hl 3 rfl) ?_
      obtain ⟨hi, h⟩ := h
      refine xg_ald hC hK hP aN_cells (by decide) hi d_Model_close_143 ?_
      refine xi_add hC d_Model_close_144 ?_
      refine lv_iload hC.1 hC.2.1 d_Model_close_145 (lv_at hl 0 rfl) ?_
      obtain ⟨hi, h⟩ := h
      refine xg_ast hC hK hP hS aN_cellY (by decide) hi d_Model_close_147 (fun H locs hP hS => ?_)
      obtain ⟨M_6, eM_6⟩ : ∃ y : Mem, y = up M_5 7 ((49 * x1) + (M_5 5 x1.toNat)).toNat v4_2 := ⟨_, rfl⟩
      rw [← eM_6] at hP
      have h := h M_6 eM_6
      refine lv_aload_n hC.1 hC.2.1 d_Model_close_148 rfl (lv_at hl 2 rfl) ?_
      refine gf_Model_23 hC hK hP hst d_Model_close_149 ?_
      refine lv_iload_n hC.1 hC.2.1 d_Model_close_152 rfl (lv_at hl 3 rfl) ?_
      refine lv_dup2_11 hC.1 hC.2.1 d_Model_close_153 rfl rfl ?_
      obtain ⟨hi, h⟩ := h
      refine xg_ald hC hK hP aN_cells (by decide) hi d_Model_close_154 ?_
      refine xi_const hC d_Model_close_155 ?_
      refine xi_add hC d_Model_close_156 ?_
      obtain ⟨hi, h⟩ := h
      refine xg_ast hC hK hP hS aN_cells (by decide) hi d_Model_close_157 (fun H locs hP hS => ?_)
      obtain ⟨M_7, eM_7⟩ : ∃ y : Mem, y = up M_6 5 x1.toNat ((M_6 5 x1.toNat) + 1) := ⟨_, rfl⟩
      rw [← eM_7] at hP
      have h := h M_7 eM_7
      obtain ⟨v2_8, ev2_8⟩ : ∃ y : Int, y = x2 + 1 := ⟨_, rfl⟩
      have h := h v2_8 ev2_8
      refine xi_iinc (v := v2_8) (lv' := [(2, iv v2_8), (4, iv v4_2), (3, iv v3_1), (0, .ref (b + 0)), (1, iv x1)]) hC d_Model_close_158 hl (k := 4) rfl ev2_8 (by decide) rfl (fun ls hl => ?_)
      refine lv_goto (tgt := 75) hC.1 hC.2.1 d_Model_close_161 (by decide) ?_
      exact ih _ _ _ _ _ _ h hP hS (lv_sub hl [3, 4, 0] rfl)
    · have h := h.2 q
      refine lv_goto (tgt := 158) hC.1 hC.2.1 d_Model_close_110 (by decide) ?_
      obtain ⟨v2_9, ev2_9⟩ : ∃ y : Int, y = x2 + 1 := ⟨_, rfl⟩
      have h := h v2_9 ev2_9
      refine xi_iinc (v := v2_9) (lv' := [(2, iv v2_9), (4, iv v4_2), (3, iv v3_1), (0, .ref (b + 0)), (1, iv x1)]) hC d_Model_close_158 hl (k := 4) rfl ev2_9 (by decide) rfl (fun ls hl => ?_)
      refine lv_goto (tgt := 75) hC.1 hC.2.1 d_Model_close_161 (by decide) ?_
      exact ih _ _ _ _ _ _ h hP hS (lv_sub hl [3, 4, 0] rfl)
set_option maxHeartbeats 4000000 in
theorem s_Model_close_14 {p : Program} {l : Launch} {e : Env} {s : State} {m : MethodId} {args : Array Value} {below : List Frame} {meth : Method} {c : Code} {D : va_G} {g : Nat → ClassId} {b sz : Nat} (hC : Cx p m c b_Model_close 5 s args "EdgeJoinsModel") (hr : meth.sig.returnType = some .int) (hlocks : meth.locks = false) (hK : va_K D classes (tyG g) s) (hst : sC (rA b 14 sz) s s.heap) (hz : sz ≤ s.heap.size) {Post : Int → Mem → Prop} : ∀ (x1 t1 : Int) (M0 : Mem) (H : Heap) (locs : List Loc) (ls : Array Slot), wp_Model_close_14 x1 t1 M0 Post → va_P D classes (wsG b 14 (cellN b g) M0) H → va_S (rA b 14 sz) s.heap H locs → lv_has ls 5 [(0, .ref (b + 0)), (1, iv x1)] → W p l e ({ frames := 3, cells := 0, slots := 0, locals := 70 }) s m args below meth c H locs 0 0 (MQ below (QI D g b 14 (cellN b g) sz Post) args s 0 0 (rA b 14 sz)) (F0 m 14 ls [iv t1, .ref (b + 0)]) := by
  intro x1 t1 M0 H locs ls h hP hS hl
  unfold wp_Model_close_14 at h
  refine xi_const hC d_Model_close_14 ?_
  refine xi_const hC d_Model_close_15 ?_
  refine xk_Vi (As := [iv t1, iv 0, iv 0]) (rest := []) hC hK hP hS hst hz hl.1 lk_Model_67 rfl rfl rfl ⟨Nat.le_of_ble_eq_true rfl, Nat.le_of_ble_eq_true rfl⟩ (rc_Model hK hP) (fun sz' => c_Model_throwing l D g b sz' h) d_Model_close_16 rfl (Nat.le_of_ble_eq_true rfl) ⟨Nat.le_of_ble_eq_true rfl, Nat.le_of_ble_eq_true rfl⟩ (fun r_1 M_2 H locs h hP hS => ?_)
  try dsimp only at h
  obtain ⟨b0, h⟩ := h
  refine xi_ieq hC (tgt := 24) d_Model_close_19 (by decide) b0 (fun q => ?_) (fun q => ?_)
  · have h := h.1 q
    refine lv_aload_n hC.1 hC.2.1 d_Model_close_24 rfl (lv_at hl 0 rfl) ?_
    refine gf_Model_19 hC hK hP hst d_Model_close_25 ?_
    refine lv_iload_n hC.1 hC.2.1 d_Model_close_28 rfl (lv_at hl 1 rfl) ?_
    obtain ⟨hi, h⟩ := h
    refine xg_zald hC hK hP aN_closed (by decide) hi d_Model_close_29 ?_
    obtain ⟨b0, h⟩ := h
    refine xi_ine hC (tgt := 59) d_Model_close_30 (by decide) b0 (fun q => ?_) (fun q => ?_)
    · have h := h.1 q
      refine xi_const hC d_Model_close_59 ?_
      exact xr_i hC hr hlocks hK hP hS h d_Model_close_60
    · have h := h.2 q
      refine lv_aload_n hC.1 hC.2.1 d_Model_close_33 rfl (lv_at hl 0 rfl) ?_
      refine gf_Model_7 hC hK hP hst d_Model_close_34 ?_
      refine lv_iload_n hC.1 hC.2.1 d_Model_close_37 rfl (lv_at hl 1 rfl) ?_
      obtain ⟨hi, h⟩ := h
      refine xg_ald hC hK hP aN_sizes (by decide) hi d_Model_close_38 ?_
      refine xi_const hC d_Model_close_39 ?_
      obtain ⟨b0, h⟩ := h
      refine xi_clt hC (tgt := 59) d_Model_close_40 (by decide) b0 (xl rfl) (fun q => ?_) (fun q => ?_)
      · have h := h.1 q
        refine xi_const hC d_Model_close_59 ?_
        exact xr_i hC hr hlocks hK hP hS h d_Model_close_60
      · have h := h.2 q
        refine lv_aload_n hC.1 hC.2.1 d_Model_close_43 rfl (lv_at hl 0 rfl) ?_
        refine lv_iload_n hC.1 hC.2.1 d_Model_close_44 rfl (lv_at hl 1 rfl) ?_
        refine xk_Vi (As := [iv x1]) (rest := []) hC hK hP hS hst hz hl.1 lk_Model_96 rfl rfl rfl ⟨Nat.le_of_ble_eq_true rfl, Nat.le_of_ble_eq_true rfl⟩ (rc_Model hK hP) (fun sz' => c_Model_isOnce l D g b sz' h) d_Model_close_45 rfl (Nat.le_of_ble_eq_true rfl) ⟨Nat.le_of_ble_eq_true rfl, Nat.le_of_ble_eq_true rfl⟩ (fun r_3 M_4 H locs h hP hS => ?_)
        try dsimp only at h
        obtain ⟨b0, h⟩ := h
        refine xi_ieq hC (tgt := 59) d_Model_close_48 (by decide) b0 (fun q => ?_) (fun q => ?_)
        · have h := h.1 q
          refine xi_const hC d_Model_close_59 ?_
          exact xr_i hC hr hlocks hK hP hS h d_Model_close_60
        · have h := h.2 q
          refine lv_aload_n hC.1 hC.2.1 d_Model_close_51 rfl (lv_at hl 0 rfl) ?_
          refine lv_iload_n hC.1 hC.2.1 d_Model_close_52 rfl (lv_at hl 1 rfl) ?_
          refine xk_Vi (As := [iv x1]) (rest := []) hC hK hP hS hst hz hl.1 lk_Model_99 rfl rfl rfl ⟨Nat.le_of_ble_eq_true rfl, Nat.le_of_ble_eq_true rfl⟩ (rc_Model hK hP) (fun sz' => c_Model_space l D g b sz' h) d_Model_close_53 rfl (Nat.le_of_ble_eq_true rfl) ⟨Nat.le_of_ble_eq_true rfl, Nat.le_of_ble_eq_true rfl⟩ (fun r_5 M_6 H locs h hP hS => ?_)
          try dsimp only at h
          obtain ⟨b0, h⟩ := h
          refine xi_igt hC (tgt := 61) d_Model_close_56 (by decide) b0 (fun q => ?_) (fun q => ?_)
          · have h := h.1 q
            refine lv_aload_n hC.1 hC.2.1 d_Model_close_61 rfl (lv_at hl 0 rfl) ?_
            refine gf_Model_19 hC hK hP hst d_Model_close_62 ?_
            refine lv_iload_n hC.1 hC.2.1 d_Model_close_65 rfl (lv_at hl 1 rfl) ?_
            refine xi_const hC d_Model_close_66 ?_
            obtain ⟨hi, h⟩ := h
            refine xg_zast1 hC hK hP hS aN_closed (by decide) hi d_Model_close_67 (fun H locs hP hS => ?_)
            obtain ⟨M_7, eM_7⟩ : ∃ y : Mem, y = up M_6 4 x1.toNat 1 := ⟨_, rfl⟩
            rw [← eM_7] at hP
            have h := h M_7 eM_7
            refine lv_aload_n hC.1 hC.2.1 d_Model_close_68 rfl (lv_at hl 0 rfl) ?_
            refine xi_const hC d_Model_close_69 ?_
            refine pf_Model_75 hC hK hP hS hst (by decide) d_Model_close_70 (fun H locs hP hS => ?_)
            obtain ⟨M_8, eM_8⟩ : ∃ y : Mem, y = up M_7 0 11 0 := ⟨_, rfl⟩
            rw [← eM_8] at hP
            have h := h M_8 eM_8
            refine xi_const hC d_Model_close_73 ?_
            refine lv_istore_n (lv' := [(2, iv 0), (0, .ref (b + 0)), (1, iv x1)]) hC.1 hC.2.1 d_Model_close_74 rfl hl (by decide) rfl (fun ls hl => ?_)
            obtain ⟨nn, h⟩ := h
            exact s_Model_close_75 hC hr hlocks hK hst hz nn _ _ _ _ _ _ h hP hS (lv_sub hl [1, 2, 0] rfl)
          · have h := h.2 q
            refine xi_const hC d_Model_close_59 ?_
            exact xr_i hC hr hlocks hK hP hS h d_Model_close_60
  · have h := h.2 q
    refine xi_const hC d_Model_close_22 ?_
    exact xr_i hC hr hlocks hK hP hS h d_Model_close_23
set_option maxHeartbeats 4000000 in
theorem c_Model_close (l : Launch) (D : va_G) (g : Nat → ClassId) (b sz : Nat) {x1 : Int} {M0 : Mem} {Post : Int → Mem → Prop} (h : wp_Model_close x1 M0 Post) : Met l y_Model_close (Cond.code y_Model_close b_Model_close 5 (some .int) :: gd) ({ frames := 3, cells := 0, slots := 0, locals := 70 }) (PcG D g b 14 (cellN b g) sz M0 [.ref (b + 0), iv x1]) (QI D g b 14 (cellN b g) sz Post) 0 0 (rA b 14 sz) := by
  refine xm_start (by decide) rfl (Nat.le_of_ble_eq_true rfl) ?_
  intro p e s m below meth c ls H args hC hr hlocks hK hP hst hz hS hH hl
  have hl : lv_has ls 5 [(0, .ref (b + 0)), (1, iv x1)] := hl
  unfold wp_Model_close at h
  refine lv_aload_n hC.1 hC.2.1 d_Model_close_0 rfl (lv_at hl 0 rfl) ?_
  refine lv_aload_n hC.1 hC.2.1 d_Model_close_1 rfl (lv_at hl 0 rfl) ?_
  refine lv_iload_n hC.1 hC.2.1 d_Model_close_2 rfl (lv_at hl 1 rfl) ?_
  refine xk_VP (As := [iv x1]) (rest := [.ref (b + 0)]) hC hK hP hS hst hz hl.1 lk_Model_71 rfl rfl rfl ⟨Nat.le_of_ble_eq_true rfl, Nat.le_of_ble_eq_true rfl⟩ (rc_Model hK hP) (fun sz' => c_Model_isSherd l D g b sz' h) d_Model_close_3 rfl (Nat.le_of_ble_eq_true rfl) ⟨Nat.le_of_ble_eq_true rfl, Nat.le_of_ble_eq_true rfl⟩ (fun r_1 h => ?_)
  try dsimp only at h
  obtain ⟨b0, h⟩ := h
  refine xi_ine hC (tgt := 13) d_Model_close_6 (by decide) b0 (fun q => ?_) (fun q => ?_)
  · have h := h.1 q
    refine xi_const hC d_Model_close_13 ?_
    exact s_Model_close_14 hC hr hlocks hK hst hz _ _ _ _ _ _ h hP hS (lv_sub hl [0, 1] rfl)
  · have h := h.2 q
    refine xi_const hC d_Model_close_9 ?_
    refine lv_goto (tgt := 14) hC.1 hC.2.1 d_Model_close_10 (by decide) ?_
    exact s_Model_close_14 hC hr hlocks hK hst hz _ _ _ _ _ _ h hP hS (lv_sub hl [0, 1] rfl)
set_option maxHeartbeats 4000000 in
theorem s_Model_least_16 {p : Program} {l : Launch} {e : Env} {s : State} {m : MethodId} {args : Array Value} {below : List Frame} {meth : Method} {c : Code} {D : va_G} {g : Nat → ClassId} {b sz : Nat} (hC : Cx p m c b_Model_least 3 s args "EdgeJoinsModel") (hr : meth.sig.returnType = some .int) (hlocks : meth.locks = false) (hK : va_K D classes (tyG g) s) (hst : sC (rA b 14 sz) s s.heap) (hz : sz ≤ s.heap.size) {Post : Int → Mem → Prop} : ∀ (x1 t1 : Int) (M0 : Mem) (H : Heap) (locs : List Loc) (ls : Array Slot), wp_Model_least_16 x1 t1 M0 Post → va_P D classes (wsG b 14 (cellN b g) M0) H → va_S (rA b 14 sz) s.heap H locs → lv_has ls 3 [(0, .ref (b + 0)), (1, iv x1)] → W p l e ({ frames := 1, cells := 0, slots := 0, locals := 23 }) s m args below meth c H locs 0 0 (MQ below (QI D g b 14 (cellN b g) sz Post) args s 0 0 (rA b 14 sz)) (F0 m 16 ls [iv t1, .ref (b + 0)]) := by
  intro x1 t1 M0 H locs ls h hP hS hl
  unfold wp_Model_least_16 at h
  refine xi_const hC d_Model_least_16 ?_
  refine xi_const hC d_Model_least_17 ?_
  refine xk_Vi (As := [iv t1, iv 0, iv 0]) (rest := []) hC hK hP hS hst hz hl.1 lk_Model_67 rfl rfl rfl ⟨Nat.le_of_ble_eq_true rfl, Nat.le_of_ble_eq_true rfl⟩ (rc_Model hK hP) (fun sz' => c_Model_throwing l D g b sz' h) d_Model_least_18 rfl (Nat.le_of_ble_eq_true rfl) ⟨Nat.le_of_ble_eq_true rfl, Nat.le_of_ble_eq_true rfl⟩ (fun r_1 M_2 H locs h hP hS => ?_)
  try dsimp only at h
  obtain ⟨b0, h⟩ := h
  refine xi_ieq hC (tgt := 26) d_Model_least_21 (by decide) b0 (fun q => ?_) (fun q => ?_)
  · have h := h.1 q
    refine lv_aload_n hC.1 hC.2.1 d_Model_least_26 rfl (lv_at hl 0 rfl) ?_
    refine gf_Model_32 hC hK hP hst d_Model_least_27 ?_
    refine xi_top (fun v2_3 ev2_3 => ?_)
    have h := h v2_3 ev2_3
    refine lv_istore_n (lv' := [(2, iv v2_3), (0, .ref (b + 0)), (1, iv x1)]) hC.1 hC.2.1 d_Model_least_30 rfl hl (by decide) rfl (fun ls hl => ?_)
    refine lv_aload_n hC.1 hC.2.1 d_Model_least_31 rfl (lv_at hl 1 rfl) ?_
    refine lv_iload_n hC.1 hC.2.1 d_Model_least_32 rfl (lv_at hl 2 rfl) ?_
    refine pf_Model_32 hC hK hP hS hst d_Model_least_33 (fun H locs hP hS => ?_)
    obtain ⟨M_4, eM_4⟩ : ∃ y : Mem, y = up M_2 0 9 x1 := ⟨_, rfl⟩
    rw [← eM_4] at hP
    have h := h M_4 eM_4
    refine lv_aload_n hC.1 hC.2.1 d_Model_least_36 rfl (lv_at hl 1 rfl) ?_
    refine xi_const hC d_Model_least_37 ?_
    refine pf_Model_75 hC hK hP hS hst (by decide) d_Model_least_38 (fun H locs hP hS => ?_)
    obtain ⟨M_5, eM_5⟩ : ∃ y : Mem, y = up M_4 0 11 0 := ⟨_, rfl⟩
    rw [← eM_5] at hP
    have h := h M_5 eM_5
    refine lv_iload_n hC.1 hC.2.1 d_Model_least_41 rfl (lv_at hl 0 rfl) ?_
    exact xr_i hC hr hlocks hK hP hS h d_Model_least_42
  · have h := h.2 q
    refine xi_const hC d_Model_least_24 ?_
    exact xr_i hC hr hlocks hK hP hS h d_Model_least_25
set_option maxHeartbeats 4000000 in
theorem c_Model_least (l : Launch) (D : va_G) (g : Nat → ClassId) (b sz : Nat) {x1 : Int} {M0 : Mem} {Post : Int → Mem → Prop} (h : wp_Model_least x1 M0 Post) : Met l y_Model_least (Cond.code y_Model_least b_Model_least 3 (some .int) :: gd) ({ frames := 1, cells := 0, slots := 0, locals := 23 }) (PcG D g b 14 (cellN b g) sz M0 [.ref (b + 0), iv x1]) (QI D g b 14 (cellN b g) sz Post) 0 0 (rA b 14 sz) := by
  refine xm_start (by decide) rfl (Nat.le_of_ble_eq_true rfl) ?_
  intro p e s m below meth c ls H args hC hr hlocks hK hP hst hz hS hH hl
  have hl : lv_has ls 3 [(0, .ref (b + 0)), (1, iv x1)] := hl
  unfold wp_Model_least at h
  refine lv_aload_n hC.1 hC.2.1 d_Model_least_0 rfl (lv_at hl 0 rfl) ?_
  refine lv_iload_n hC.1 hC.2.1 d_Model_least_1 rfl (lv_at hl 1 rfl) ?_
  refine xi_const hC d_Model_least_2 ?_
  refine xi_bipush hC d_Model_least_3 (by decide) ?_
  refine xk_SP (As := [iv x1, iv 2, iv 20]) (rest := [.ref (b + 0)]) hC hK hP hS hst hz hl.1 lk_Model_63 rfl rfl rfl ⟨Nat.le_of_ble_eq_true rfl, Nat.le_of_ble_eq_true rfl⟩ (fun sz' => c_Model_in l D g b sz' h) d_Model_least_5 rfl (Nat.le_of_ble_eq_true rfl) ⟨Nat.le_of_ble_eq_true rfl, Nat.le_of_ble_eq_true rfl⟩ (fun r_1 h => ?_)
  try dsimp only at h
  obtain ⟨b0, h⟩ := h
  refine xi_ine hC (tgt := 15) d_Model_least_8 (by decide) b0 (fun q => ?_) (fun q => ?_)
  · have h := h.1 q
    refine xi_const hC d_Model_least_15 ?_
    exact s_Model_least_16 hC hr hlocks hK hst hz _ _ _ _ _ _ h hP hS (lv_sub hl [0, 1] rfl)
  · have h := h.2 q
    refine xi_const hC d_Model_least_11 ?_
    refine lv_goto (tgt := 16) hC.1 hC.2.1 d_Model_least_12 (by decide) ?_
    exact s_Model_least_16 hC hr hlocks hK hst hz _ _ _ _ _ _ h hP hS (lv_sub hl [0, 1] rfl)
