set_option maxHeartbeats 4000000 in
theorem s_Model_bound_17 {p : Program} {l : Launch} {e : Env} {s : State} {m : MethodId} {args : Array Value} {below : List Frame} {meth : Method} {c : Code} {D : va_G} {g : Nat → ClassId} {b sz : Nat} (hC : Cx p m c b_Model_bound 3 s args "EdgeJoinsModel") (hr : meth.sig.returnType = some .int) (hlocks : meth.locks = false) (hK : va_K D classes (tyG g) s) (hst : sC (rA b 14 sz) s s.heap) (hz : sz ≤ s.heap.size) {Post : Int → Mem → Prop} : ∀ (x1 t1 : Int) (M0 : Mem) (H : Heap) (locs : List Loc) (ls : Array Slot), wp_Model_bound_17 x1 t1 M0 Post → va_P D classes (wsG b 14 (cellN b g) M0) H → va_S (rA b 14 sz) s.heap H locs → lv_has ls 3 [(0, .ref (b + 0)), (1, iv x1)] → W p l e ({ frames := 1, cells := 0, slots := 0, locals := 23 }) s m args below meth c H locs 0 0 (MQ below (QI D g b 14 (cellN b g) sz Post) args s 0 0 (rA b 14 sz)) (F0 m 17 ls [iv t1, .ref (b + 0)]) := by
  intro x1 t1 M0 H locs ls h hP hS hl
  unfold wp_Model_bound_17 at h
  refine xi_const hC d_Model_bound_17 ?_
  refine xi_const hC d_Model_bound_18 ?_
  refine xk_Vi (As := [iv t1, iv 0, iv 0]) (rest := []) hC hK hP hS hst hz hl.1 lk_Model_67 rfl rfl rfl ⟨Nat.le_of_ble_eq_true rfl, Nat.le_of_ble_eq_true rfl⟩ (rc_Model hK hP) (fun sz' => c_Model_throwing l D g b sz' h) d_Model_bound_19 rfl (Nat.le_of_ble_eq_true rfl) ⟨Nat.le_of_ble_eq_true rfl, Nat.le_of_ble_eq_true rfl⟩ (fun r_1 M_2 H locs h hP hS => ?_)
  try dsimp only at h
  obtain ⟨b0, h⟩ := h
  refine xi_ieq hC (tgt := 27) d_Model_bound_22 (by decide) b0 (fun q => ?_) (fun q => ?_)
  · have h := h.1 q
    refine lv_aload_n hC.1 hC.2.1 d_Model_bound_27 rfl (lv_at hl 0 rfl) ?_
    refine gf_Model_36 hC hK hP hst d_Model_bound_28 ?_
    refine xi_top (fun v2_3 ev2_3 => ?_)
    have h := h v2_3 ev2_3
    refine lv_istore_n (lv' := [(2, iv v2_3), (0, .ref (b + 0)), (1, iv x1)]) hC.1 hC.2.1 d_Model_bound_31 rfl hl (by decide) rfl (fun ls hl => ?_)
    refine lv_aload_n hC.1 hC.2.1 d_Model_bound_32 rfl (lv_at hl 1 rfl) ?_
    refine lv_iload_n hC.1 hC.2.1 d_Model_bound_33 rfl (lv_at hl 2 rfl) ?_
    refine pf_Model_36 hC hK hP hS hst d_Model_bound_34 (fun H locs hP hS => ?_)
    obtain ⟨M_4, eM_4⟩ : ∃ y : Mem, y = up M_2 0 10 x1 := ⟨_, rfl⟩
    rw [← eM_4] at hP
    have h := h M_4 eM_4
    refine lv_aload_n hC.1 hC.2.1 d_Model_bound_37 rfl (lv_at hl 1 rfl) ?_
    refine xi_const hC d_Model_bound_38 ?_
    refine pf_Model_75 hC hK hP hS hst (by decide) d_Model_bound_39 (fun H locs hP hS => ?_)
    obtain ⟨M_5, eM_5⟩ : ∃ y : Mem, y = up M_4 0 11 0 := ⟨_, rfl⟩
    rw [← eM_5] at hP
    have h := h M_5 eM_5
    refine lv_iload_n hC.1 hC.2.1 d_Model_bound_42 rfl (lv_at hl 0 rfl) ?_
    exact xr_i hC hr hlocks hK hP hS h d_Model_bound_43
  · have h := h.2 q
    refine xi_const hC d_Model_bound_25 ?_
    exact xr_i hC hr hlocks hK hP hS h d_Model_bound_26
set_option maxHeartbeats 4000000 in
theorem c_Model_bound (l : Launch) (D : va_G) (g : Nat → ClassId) (b sz : Nat) {x1 : Int} {M0 : Mem} {Post : Int → Mem → Prop} (h : wp_Model_bound x1 M0 Post) : Met l y_Model_bound (Cond.code y_Model_bound b_Model_bound 3 (some .int) :: gd) ({ frames := 1, cells := 0, slots := 0, locals := 23 }) (PcG D g b 14 (cellN b g) sz M0 [.ref (b + 0), iv x1]) (QI D g b 14 (cellN b g) sz Post) 0 0 (rA b 14 sz) := by
  refine xm_start (by decide) rfl (Nat.le_of_ble_eq_true rfl) ?_
  intro p e s m below meth c ls H args hC hr hlocks hK hP hst hz hS hH hl
  have hl : lv_has ls 3 [(0, .ref (b + 0)), (1, iv x1)] := hl
  unfold wp_Model_bound at h
  refine lv_aload_n hC.1 hC.2.1 d_Model_bound_0 rfl (lv_at hl 0 rfl) ?_
  refine lv_iload_n hC.1 hC.2.1 d_Model_bound_1 rfl (lv_at hl 1 rfl) ?_
  refine xi_const hC d_Model_bound_2 ?_
  refine xi_sipush hC d_Model_bound_3 (by decide) ?_
  refine xk_SP (As := [iv x1, iv 0, iv 9801]) (rest := [.ref (b + 0)]) hC hK hP hS hst hz hl.1 lk_Model_63 rfl rfl rfl ⟨Nat.le_of_ble_eq_true rfl, Nat.le_of_ble_eq_true rfl⟩ (fun sz' => c_Model_in l D g b sz' h) d_Model_bound_6 rfl (Nat.le_of_ble_eq_true rfl) ⟨Nat.le_of_ble_eq_true rfl, Nat.le_of_ble_eq_true rfl⟩ (fun r_1 h => ?_)
  try dsimp only at h
  obtain ⟨b0, h⟩ := h
  refine xi_ine hC (tgt := 16) d_Model_bound_9 (by decide) b0 (fun q => ?_) (fun q => ?_)
  · have h := h.1 q
    refine xi_const hC d_Model_bound_16 ?_
    exact s_Model_bound_17 hC hr hlocks hK hst hz _ _ _ _ _ _ h hP hS (lv_sub hl [0, 1] rfl)
  · have h := h.2 q
    refine xi_const hC d_Model_bound_12 ?_
    refine lv_goto (tgt := 17) hC.1 hC.2.1 d_Model_bound_13 (by decide) ?_
    exact s_Model_bound_17 hC hr hlocks hK hst hz _ _ _ _ _ _ h hP hS (lv_sub hl [0, 1] rfl)
set_option maxHeartbeats 4000000 in
theorem c_Model_stepOf (l : Launch) (D : va_G) (g : Nat → ClassId) (b sz : Nat) {x1 x2 : Int} {M0 : Mem} {Post : Int → Prop} (h : wp_Model_stepOf x1 x2 M0 Post) : Met l y_Model_stepOf (Cond.code y_Model_stepOf b_Model_stepOf 3 (some .int) :: gd) ({ frames := 0, cells := 0, slots := 0, locals := 0 }) (PcG D g b 14 (cellN b g) sz M0 [.ref (b + 0), iv x1, iv x2]) (QP Post) 0 0 nil_ := by
  refine xm_start (by decide) rfl (Nat.le_of_ble_eq_true rfl) ?_
  intro p e s m below meth c ls H args hC hr hlocks hK hP hst hz hS hH hl
  have hl : lv_has ls 3 [(0, .ref (b + 0)), (1, iv x1), (2, iv x2)] := hl
  unfold wp_Model_stepOf at h
  refine lv_aload_n hC.1 hC.2.1 d_Model_stepOf_0 rfl (lv_at hl 0 rfl) ?_
  refine gf_Model_13 hC hK hP hst d_Model_stepOf_1 ?_
  refine xi_bipush hC d_Model_stepOf_4 (by decide) ?_
  refine lv_iload_n hC.1 hC.2.1 d_Model_stepOf_6 rfl (lv_at hl 1 rfl) ?_
  refine xi_mul hC d_Model_stepOf_7 ?_
  refine lv_iload_n hC.1 hC.2.1 d_Model_stepOf_8 rfl (lv_at hl 2 rfl) ?_
  refine lv_aload_n hC.1 hC.2.1 d_Model_stepOf_9 rfl (lv_at hl 0 rfl) ?_
  refine gf_Model_7 hC hK hP hst d_Model_stepOf_10 ?_
  refine lv_iload_n hC.1 hC.2.1 d_Model_stepOf_13 rfl (lv_at hl 1 rfl) ?_
  obtain ⟨hi, h⟩ := h
  refine xg_ald hC hK hP aN_sizes (by decide) hi d_Model_stepOf_14 ?_
  refine xi_add hC d_Model_stepOf_15 ?_
  refine lv_aload_n hC.1 hC.2.1 d_Model_stepOf_16 rfl (lv_at hl 0 rfl) ?_
  refine gf_Model_7 hC hK hP hst d_Model_stepOf_17 ?_
  refine lv_iload_n hC.1 hC.2.1 d_Model_stepOf_20 rfl (lv_at hl 1 rfl) ?_
  obtain ⟨hi, h⟩ := h
  refine xg_ald hC hK hP aN_sizes (by decide) hi d_Model_stepOf_21 ?_
  obtain ⟨hd, h⟩ := h
  refine xi_rem hC d_Model_stepOf_22 hd ?_
  refine xi_add hC d_Model_stepOf_23 ?_
  obtain ⟨hi, h⟩ := h
  refine xg_ald hC hK hP aN_steps (by decide) hi d_Model_stepOf_24 ?_
  exact xr_ip hC hr hlocks hH h d_Model_stepOf_25
set_option maxHeartbeats 4000000 in
theorem c_Model_heightOf (l : Launch) (D : va_G) (g : Nat → ClassId) (b sz : Nat) {x1 x2 : Int} {M0 : Mem} {Post : Int → Prop} (h : wp_Model_heightOf x1 x2 M0 Post) : Met l y_Model_heightOf (Cond.code y_Model_heightOf b_Model_heightOf 3 (some .int) :: gd) ({ frames := 0, cells := 0, slots := 0, locals := 0 }) (PcG D g b 14 (cellN b g) sz M0 [.ref (b + 0), iv x1, iv x2]) (QP Post) 0 0 nil_ := by
  refine xm_start (by decide) rfl (Nat.le_of_ble_eq_true rfl) ?_
  intro p e s m below meth c ls H args hC hr hlocks hK hP hst hz hS hH hl
  have hl : lv_has ls 3 [(0, .ref (b + 0)), (1, iv x1), (2, iv x2)] := hl
  unfold wp_Model_heightOf at h
  refine lv_aload_n hC.1 hC.2.1 d_Model_heightOf_0 rfl (lv_at hl 0 rfl) ?_
  refine gf_Model_16 hC hK hP hst d_Model_heightOf_1 ?_
  refine xi_bipush hC d_Model_heightOf_4 (by decide) ?_
  refine lv_iload_n hC.1 hC.2.1 d_Model_heightOf_6 rfl (lv_at hl 1 rfl) ?_
  refine xi_mul hC d_Model_heightOf_7 ?_
  refine lv_iload_n hC.1 hC.2.1 d_Model_heightOf_8 rfl (lv_at hl 2 rfl) ?_
  refine lv_aload_n hC.1 hC.2.1 d_Model_heightOf_9 rfl (lv_at hl 0 rfl) ?_
  refine gf_Model_7 hC hK hP hst d_Model_heightOf_10 ?_
  refine lv_iload_n hC.1 hC.2.1 d_Model_heightOf_13 rfl (lv_at hl 1 rfl) ?_
  obtain ⟨hi, h⟩ := h
  refine xg_ald hC hK hP aN_sizes (by decide) hi d_Model_heightOf_14 ?_
  refine xi_add hC d_Model_heightOf_15 ?_
  refine lv_aload_n hC.1 hC.2.1 d_Model_heightOf_16 rfl (lv_at hl 0 rfl) ?_
  refine gf_Model_7 hC hK hP hst d_Model_heightOf_17 ?_
  refine lv_iload_n hC.1 hC.2.1 d_Model_heightOf_20 rfl (lv_at hl 1 rfl) ?_
  obtain ⟨hi, h⟩ := h
  refine xg_ald hC hK hP aN_sizes (by decide) hi d_Model_heightOf_21 ?_
  obtain ⟨hd, h⟩ := h
  refine xi_rem hC d_Model_heightOf_22 hd ?_
  refine xi_add hC d_Model_heightOf_23 ?_
  obtain ⟨hi, h⟩ := h
  refine xg_ald hC hK hP aN_heights (by decide) hi d_Model_heightOf_24 ?_
  exact xr_ip hC hr hlocks hH h d_Model_heightOf_25
set_option maxHeartbeats 4000000 in
theorem c_Model_matches (l : Launch) (D : va_G) (g : Nat → ClassId) (b sz : Nat) {x1 x2 x3 x4 x5 : Int} {M0 : Mem} {Post : Int → Prop} (h : wp_Model_matches x1 x2 x3 x4 x5 M0 Post) : Met l y_Model_matches (Cond.code y_Model_matches b_Model_matches 6 (some .boolean) :: gd) ({ frames := 1, cells := 0, slots := 0, locals := 22 }) (PcG D g b 14 (cellN b g) sz M0 [.ref (b + 0), iv x1, iv x2, iv x3, iv x4, iv x5]) (QP Post) 0 0 nil_ := by
  refine xm_start (by decide) rfl (Nat.le_of_ble_eq_true rfl) ?_
  intro p e s m below meth c ls H args hC hr hlocks hK hP hst hz hS hH hl
  have hl : lv_has ls 6 [(0, .ref (b + 0)), (1, iv x1), (2, iv x2), (3, iv x3), (4, iv x4), (5, iv x5)] := hl
  unfold wp_Model_matches at h
  refine lv_aload_n hC.1 hC.2.1 d_Model_matches_0 rfl (lv_at hl 0 rfl) ?_
  refine lv_iload_n hC.1 hC.2.1 d_Model_matches_1 rfl (lv_at hl 3 rfl) ?_
  refine lv_iload hC.1 hC.2.1 d_Model_matches_2 (lv_at hl 4 rfl) ?_
  refine xk_VP (As := [iv x3, iv x4]) (rest := []) hC hK hP hS hst hz hl.1 lk_Model_105 rfl rfl rfl ⟨Nat.le_of_ble_eq_true rfl, Nat.le_of_ble_eq_true rfl⟩ (rc_Model hK hP) (fun sz' => c_Model_stepOf l D g b sz' h) d_Model_matches_4 rfl (Nat.le_of_ble_eq_true rfl) ⟨Nat.le_of_ble_eq_true rfl, Nat.le_of_ble_eq_true rfl⟩ (fun r_1 h => ?_)
  try dsimp only at h
  refine lv_iload hC.1 hC.2.1 d_Model_matches_7 (lv_at hl 5 rfl) ?_
  refine xi_add hC d_Model_matches_9 ?_
  refine xi_const hC d_Model_matches_10 ?_
  refine xi_and3r hC d_Model_matches_11 ?_
  refine lv_aload_n hC.1 hC.2.1 d_Model_matches_12 rfl (lv_at hl 0 rfl) ?_
  refine lv_iload_n hC.1 hC.2.1 d_Model_matches_13 rfl (lv_at hl 1 rfl) ?_
  refine lv_iload_n hC.1 hC.2.1 d_Model_matches_14 rfl (lv_at hl 2 rfl) ?_
  refine xk_VP (As := [iv x1, iv x2]) (rest := [iv ((r_1 + x5) % 4)]) hC hK hP hS hst hz hl.1 lk_Model_105 rfl rfl rfl ⟨Nat.le_of_ble_eq_true rfl, Nat.le_of_ble_eq_true rfl⟩ (rc_Model hK hP) (fun sz' => c_Model_stepOf l D g b sz' h) d_Model_matches_15 rfl (Nat.le_of_ble_eq_true rfl) ⟨Nat.le_of_ble_eq_true rfl, Nat.le_of_ble_eq_true rfl⟩ (fun r_2 h => ?_)
  try dsimp only at h
  refine xi_const hC d_Model_matches_18 ?_
  refine xi_add hC d_Model_matches_19 ?_
  refine xi_const hC d_Model_matches_20 ?_
  refine xi_and3r hC d_Model_matches_21 ?_
  obtain ⟨b0, h⟩ := h
  obtain ⟨b1, h⟩ := h
  refine xi_cne hC (tgt := 29) d_Model_matches_22 (by decide) b0 b1 (fun q => ?_) (fun q => ?_)
  · have h := h.1 q
    refine xi_const hC d_Model_matches_29 ?_
    exact xr_zp hC hr hlocks hH (by decide) h d_Model_matches_30
  · have h := h.2 q
    refine xi_const hC d_Model_matches_25 ?_
    refine lv_goto (tgt := 30) hC.1 hC.2.1 d_Model_matches_26 (by decide) ?_
    exact xr_zp hC hr hlocks hH (by decide) h d_Model_matches_30
set_option maxHeartbeats 4000000 in
theorem c_Model_turnsOf (l : Launch) (D : va_G) (g : Nat → ClassId) (b sz : Nat) {x1 x2 x3 x4 : Int} {M0 : Mem} {Post : Int → Prop} (h : wp_Model_turnsOf x1 x2 x3 x4 M0 Post) : Met l y_Model_turnsOf (Cond.code y_Model_turnsOf b_Model_turnsOf 5 (some .int) :: gd) ({ frames := 1, cells := 0, slots := 0, locals := 22 }) (PcG D g b 14 (cellN b g) sz M0 [.ref (b + 0), iv x1, iv x2, iv x3, iv x4]) (QP Post) 0 0 nil_ := by
  refine xm_start (by decide) rfl (Nat.le_of_ble_eq_true rfl) ?_
  intro p e s m below meth c ls H args hC hr hlocks hK hP hst hz hS hH hl
  have hl : lv_has ls 5 [(0, .ref (b + 0)), (1, iv x1), (2, iv x2), (3, iv x3), (4, iv x4)] := hl
  unfold wp_Model_turnsOf at h
  refine lv_aload_n hC.1 hC.2.1 d_Model_turnsOf_0 rfl (lv_at hl 0 rfl) ?_
  refine lv_iload_n hC.1 hC.2.1 d_Model_turnsOf_1 rfl (lv_at hl 1 rfl) ?_
  refine lv_iload_n hC.1 hC.2.1 d_Model_turnsOf_2 rfl (lv_at hl 2 rfl) ?_
  refine xk_VP (As := [iv x1, iv x2]) (rest := []) hC hK hP hS hst hz hl.1 lk_Model_105 rfl rfl rfl ⟨Nat.le_of_ble_eq_true rfl, Nat.le_of_ble_eq_true rfl⟩ (rc_Model hK hP) (fun sz' => c_Model_stepOf l D g b sz' h) d_Model_turnsOf_3 rfl (Nat.le_of_ble_eq_true rfl) ⟨Nat.le_of_ble_eq_true rfl, Nat.le_of_ble_eq_true rfl⟩ (fun r_1 h => ?_)
  try dsimp only at h
  refine xi_const hC d_Model_turnsOf_6 ?_
  refine xi_add hC d_Model_turnsOf_7 ?_
  refine lv_aload_n hC.1 hC.2.1 d_Model_turnsOf_8 rfl (lv_at hl 0 rfl) ?_
  refine lv_iload_n hC.1 hC.2.1 d_Model_turnsOf_9 rfl (lv_at hl 3 rfl) ?_
  refine lv_iload hC.1 hC.2.1 d_Model_turnsOf_10 (lv_at hl 4 rfl) ?_
  refine xk_VP (As := [iv x3, iv x4]) (rest := [iv (r_1 + 2)]) hC hK hP hS hst hz hl.1 lk_Model_105 rfl rfl rfl ⟨Nat.le_of_ble_eq_true rfl, Nat.le_of_ble_eq_true rfl⟩ (rc_Model hK hP) (fun sz' => c_Model_stepOf l D g b sz' h) d_Model_turnsOf_12 rfl (Nat.le_of_ble_eq_true rfl) ⟨Nat.le_of_ble_eq_true rfl, Nat.le_of_ble_eq_true rfl⟩ (fun r_2 h => ?_)
  try dsimp only at h
  refine xi_sub hC d_Model_turnsOf_15 ?_
  refine xi_const hC d_Model_turnsOf_16 ?_
  refine xi_and3r hC d_Model_turnsOf_17 ?_
  exact xr_ip hC hr hlocks hH h d_Model_turnsOf_18
set_option maxHeartbeats 4000000 in
theorem s_Model_finds_155 {p : Program} {l : Launch} {e : Env} {s : State} {m : MethodId} {args : Array Value} {below : List Frame} {meth : Method} {c : Code} {D : va_G} {g : Nat → ClassId} {b sz : Nat} (hC : Cx p m c b_Model_finds 10 s args "EdgeJoinsModel") (hr : meth.sig.returnType = some .boolean) (hlocks : meth.locks = false) (hK : va_K D classes (tyG g) s) (hst : sC (rA b 14 sz) s s.heap) (hz : sz ≤ s.heap.size) {Post : Int → Mem → Prop} : ∀ (x1 x2 x3 x4 x7 x8 : Int) (M0 : Mem) (H : Heap) (locs : List Loc) (ls : Array Slot), wp_Model_finds_155 x1 x2 x3 x4 x7 x8 M0 Post → va_P D classes (wsG b 14 (cellN b g) M0) H → va_S (rA b 14 sz) s.heap H locs → lv_has ls 10 [(0, .ref (b + 0)), (1, iv x1), (2, iv x2), (3, iv x3), (4, iv x4), (7, iv x7), (8, iv x8)] → W p l e ({ frames := 2, cells := 0, slots := 0, locals := 47 }) s m args below meth c H locs 0 0 (MQ below (QI D g b 14 (cellN b g) sz Post) args s 0 0 (rA b 14 sz)) (F0 m 155 ls []) := by
  intro x1 x2 x3 x4 x7 x8 M0 H locs ls h hP hS hl
  unfold wp_Model_finds_155 at h
  refine lv_aload_n hC.1 hC.2.1 d_Model_finds_155 rfl (lv_at hl 0 rfl) ?_
  refine gf_Model_42 hC hK hP hst d_Model_finds_156 ?_
  refine xi_const hC d_Model_finds_159 ?_
  refine lv_iload_n hC.1 hC.2.1 d_Model_finds_160 rfl (lv_at hl 1 rfl) ?_
  obtain ⟨hi, h⟩ := h
  refine xg_ast hC hK hP hS aN_found (by decide) hi d_Model_finds_161 (fun H locs hP hS => ?_)
  obtain ⟨M_1, eM_1⟩ : ∃ y : Mem, y = up M0 9 (0 : Int).toNat x1 := ⟨_, rfl⟩
  rw [← eM_1] at hP
  have h := h M_1 eM_1
  refine lv_aload_n hC.1 hC.2.1 d_Model_finds_162 rfl (lv_at hl 0 rfl) ?_
  refine gf_Model_42 hC hK hP hst d_Model_finds_163 ?_
  refine xi_const hC d_Model_finds_166 ?_
  refine lv_iload_n hC.1 hC.2.1 d_Model_finds_167 rfl (lv_at hl 2 rfl) ?_
  obtain ⟨hi, h⟩ := h
  refine xg_ast hC hK hP hS aN_found (by decide) hi d_Model_finds_168 (fun H locs hP hS => ?_)
  obtain ⟨M_2, eM_2⟩ : ∃ y : Mem, y = up M_1 9 (1 : Int).toNat x2 := ⟨_, rfl⟩
  rw [← eM_2] at hP
  have h := h M_2 eM_2
  refine lv_aload_n hC.1 hC.2.1 d_Model_finds_169 rfl (lv_at hl 0 rfl) ?_
  refine gf_Model_42 hC hK hP hst d_Model_finds_170 ?_
  refine xi_const hC d_Model_finds_173 ?_
  refine lv_iload_n hC.1 hC.2.1 d_Model_finds_174 rfl (lv_at hl 3 rfl) ?_
  obtain ⟨hi, h⟩ := h
  refine xg_ast hC hK hP hS aN_found (by decide) hi d_Model_finds_175 (fun H locs hP hS => ?_)
  obtain ⟨M_3, eM_3⟩ : ∃ y : Mem, y = up M_2 9 (2 : Int).toNat x3 := ⟨_, rfl⟩
  rw [← eM_3] at hP
  have h := h M_3 eM_3
  refine lv_aload_n hC.1 hC.2.1 d_Model_finds_176 rfl (lv_at hl 0 rfl) ?_
  refine gf_Model_42 hC hK hP hst d_Model_finds_177 ?_
  refine xi_const hC d_Model_finds_180 ?_
  refine lv_iload hC.1 hC.2.1 d_Model_finds_181 (lv_at hl 4 rfl) ?_
  obtain ⟨hi, h⟩ := h
  refine xg_ast hC hK hP hS aN_found (by decide) hi d_Model_finds_183 (fun H locs hP hS => ?_)
  obtain ⟨M_4, eM_4⟩ : ∃ y : Mem, y = up M_3 9 (3 : Int).toNat x4 := ⟨_, rfl⟩
  rw [← eM_4] at hP
  have h := h M_4 eM_4
  refine lv_aload_n hC.1 hC.2.1 d_Model_finds_184 rfl (lv_at hl 0 rfl) ?_
  refine gf_Model_42 hC hK hP hst d_Model_finds_185 ?_
  refine xi_const hC d_Model_finds_188 ?_
  refine lv_iload hC.1 hC.2.1 d_Model_finds_189 (lv_at hl 5 rfl) ?_
  obtain ⟨hi, h⟩ := h
  refine xg_ast hC hK hP hS aN_found (by decide) hi d_Model_finds_191 (fun H locs hP hS => ?_)
  obtain ⟨M_5, eM_5⟩ : ∃ y : Mem, y = up M_4 9 (4 : Int).toNat x7 := ⟨_, rfl⟩
  rw [← eM_5] at hP
  have h := h M_5 eM_5
  refine lv_aload_n hC.1 hC.2.1 d_Model_finds_192 rfl (lv_at hl 0 rfl) ?_
  refine gf_Model_42 hC hK hP hst d_Model_finds_193 ?_
  refine xi_const hC d_Model_finds_196 ?_
  refine lv_iload hC.1 hC.2.1 d_Model_finds_197 (lv_at hl 6 rfl) ?_
  obtain ⟨hi, h⟩ := h
  refine xg_ast hC hK hP hS aN_found (by decide) hi d_Model_finds_199 (fun H locs hP hS => ?_)
  obtain ⟨M_6, eM_6⟩ : ∃ y : Mem, y = up M_5 9 (5 : Int).toNat x8 := ⟨_, rfl⟩
  rw [← eM_6] at hP
  have h := h M_6 eM_6
  refine lv_iload hC.1 hC.2.1 d_Model_finds_200 (lv_at hl 5 rfl) ?_
  refine lv_aload_n hC.1 hC.2.1 d_Model_finds_202 rfl (lv_at hl 0 rfl) ?_
  refine gf_Model_32 hC hK hP hst d_Model_finds_203 ?_
  obtain ⟨b0, h⟩ := h
  obtain ⟨b1, h⟩ := h
  refine xi_clt hC (tgt := 225) d_Model_finds_206 (by decide) b0 b1 (fun q => ?_) (fun q => ?_)
  · have h := h.1 q
    refine xi_const hC d_Model_finds_225 ?_
    exact xr_z hC hr hlocks hK hP hS (by decide) h d_Model_finds_226
  · have h := h.2 q
    refine lv_iload hC.1 hC.2.1 d_Model_finds_209 (lv_at hl 6 rfl) ?_
    refine lv_aload_n hC.1 hC.2.1 d_Model_finds_211 rfl (lv_at hl 0 rfl) ?_
    refine gf_Model_36 hC hK hP hst d_Model_finds_212 ?_
    refine lv_iload hC.1 hC.2.1 d_Model_finds_215 (lv_at hl 5 rfl) ?_
    refine xi_mul hC d_Model_finds_217 ?_
    obtain ⟨b0, h⟩ := h
    obtain ⟨b1, h⟩ := h
    refine xi_cgt hC (tgt := 225) d_Model_finds_218 (by decide) b0 b1 (fun q => ?_) (fun q => ?_)
    · have h := h.1 q
      refine xi_const hC d_Model_finds_225 ?_
      exact xr_z hC hr hlocks hK hP hS (by decide) h d_Model_finds_226
    · have h := h.2 q
      refine xi_const hC d_Model_finds_221 ?_
      refine lv_goto (tgt := 226) hC.1 hC.2.1 d_Model_finds_222 (by decide) ?_
      exact xr_z hC hr hlocks hK hP hS (by decide) h d_Model_finds_226
set_option maxHeartbeats 4000000 in
theorem s_Model_finds_69 {p : Program} {l : Launch} {e : Env} {s : State} {m : MethodId} {args : Array Value} {below : List Frame} {meth : Method} {c : Code} {D : va_G} {g : Nat → ClassId} {b sz : Nat} (hC : Cx p m c b_Model_finds 10 s args "EdgeJoinsModel") (hr : meth.sig.returnType = some .boolean) (hlocks : meth.locks = false) (hK : va_K D classes (tyG g) s) (hst : sC (rA b 14 sz) s s.heap) (hz : sz ≤ s.heap.size) {Post : Int → Mem → Prop} : ∀ (n : Nat) (x1 x2 x3 x4 x5 x6 x7 x8 : Int) (M0 : Mem) (H : Heap) (locs : List Loc) (ls : Array Slot), wp_Model_finds_69 Post n x1 x2 x3 x4 x5 x6 x7 x8 M0 → va_P D classes (wsG b 14 (cellN b g) M0) H → va_S (rA b 14 sz) s.heap H locs → lv_has ls 10 [(0, .ref (b + 0)), (1, iv x1), (2, iv x2), (3, iv x3), (4, iv x4), (5, iv x5), (6, iv x6), (7, iv x7), (8, iv x8)] → W p l e ({ frames := 2, cells := 0, slots := 0, locals := 47 }) s m args below meth c H locs 0 0 (MQ below (QI D g b 14 (cellN b g) sz Post) args s 0 0 (rA b 14 sz)) (F0 m 69 ls []) := by
  intro n
  induction n with
  | zero => intro x1 x2 x3 x4 x5 x6 x7 x8 M0 H locs ls h; exact h.elim
  | succ n ih =>
  intro x1 x2 x3 x4 x5 x6 x7 x8 M0 H locs ls h hP hS hl
  simp only [wp_Model_finds_69] at h
  refine lv_iload hC.1 hC.2.1 d_Model_finds_69 (lv_at hl 7 rfl) ?_
  refine lv_iload hC.1 hC.2.1 d_Model_finds_71 (lv_at hl 6 rfl) ?_
  obtain ⟨b0, h⟩ := h
  obtain ⟨b1, h⟩ := h
  refine xi_cge hC (tgt := 155) d_Model_finds_73 (by decide) b0 b1 (fun q => ?_) (fun q => ?_)
  · have h := h.1 q
    exact s_Model_finds_155 hC hr hlocks hK hst hz _ _ _ _ _ _ _ _ _ _ h hP hS (lv_sub hl [0, 1, 2, 3, 4, 7, 8] rfl)
  · have h := h.2 q
    refine lv_aload_n hC.1 hC.2.1 d_Model_finds_76 rfl (lv_at hl 0 rfl) ?_
    refine lv_iload_n hC.1 hC.2.1 d_Model_finds_77 rfl (lv_at hl 1 rfl) ?_
    refine lv_iload_n hC.1 hC.2.1 d_Model_finds_78 rfl (lv_at hl 2 rfl) ?_
    refine lv_iload hC.1 hC.2.1 d_Model_finds_79 (lv_at hl 7 rfl) ?_
    refine xi_add hC d_Model_finds_81 ?_
    refine lv_aload_n hC.1 hC.2.1 d_Model_finds_82 rfl (lv_at hl 0 rfl) ?_
    refine gf_Model_7 hC hK hP hst d_Model_finds_83 ?_
    refine lv_iload_n hC.1 hC.2.1 d_Model_finds_86 rfl (lv_at hl 1 rfl) ?_
    obtain ⟨hi, h⟩ := h
    refine xg_ald hC hK hP aN_sizes (by decide) hi d_Model_finds_87 ?_
    obtain ⟨hd, h⟩ := h
    refine xi_rem hC d_Model_finds_88 hd ?_
    refine lv_iload_n hC.1 hC.2.1 d_Model_finds_89 rfl (lv_at hl 3 rfl) ?_
    refine lv_iload hC.1 hC.2.1 d_Model_finds_90 (lv_at hl 4 rfl) ?_
    refine lv_iload hC.1 hC.2.1 d_Model_finds_92 (lv_at hl 7 rfl) ?_
    refine xi_sub hC d_Model_finds_94 ?_
    refine lv_aload_n hC.1 hC.2.1 d_Model_finds_95 rfl (lv_at hl 0 rfl) ?_
    refine gf_Model_7 hC hK hP hst d_Model_finds_96 ?_
    refine lv_iload_n hC.1 hC.2.1 d_Model_finds_99 rfl (lv_at hl 3 rfl) ?_
    obtain ⟨hi, h⟩ := h
    refine xg_ald hC hK hP aN_sizes (by decide) hi d_Model_finds_100 ?_
    refine xi_add hC d_Model_finds_101 ?_
    refine lv_aload_n hC.1 hC.2.1 d_Model_finds_102 rfl (lv_at hl 0 rfl) ?_
    refine gf_Model_7 hC hK hP hst d_Model_finds_103 ?_
    refine lv_iload_n hC.1 hC.2.1 d_Model_finds_106 rfl (lv_at hl 3 rfl) ?_
    obtain ⟨hi, h⟩ := h
    refine xg_ald hC hK hP aN_sizes (by decide) hi d_Model_finds_107 ?_
    obtain ⟨hd, h⟩ := h
    refine xi_rem hC d_Model_finds_108 hd ?_
    refine lv_iload hC.1 hC.2.1 d_Model_finds_109 (lv_at hl 5 rfl) ?_
    refine xk_VP (As := [iv x1, iv ((x2 + x7) % (M0 1 x1.toNat)), iv x3, iv (((x4 - x7) + (M0 1 x3.toNat)) % (M0 1 x3.toNat)), iv x5]) (rest := []) hC hK hP hS hst hz hl.1 lk_Model_113 rfl rfl rfl ⟨Nat.le_of_ble_eq_true rfl, Nat.le_of_ble_eq_true rfl⟩ (rc_Model hK hP) (fun sz' => c_Model_matches l D g b sz' h) d_Model_finds_111 rfl (Nat.le_of_ble_eq_true rfl) ⟨Nat.le_of_ble_eq_true rfl, Nat.le_of_ble_eq_true rfl⟩ (fun r_1 h => ?_)
    try dsimp only at h
    obtain ⟨b0, h⟩ := h
    refine xi_ieq hC (tgt := 155) d_Model_finds_114 (by decide) b0 (fun q => ?_) (fun q => ?_)
    · have h := h.1 q
      exact s_Model_finds_155 hC hr hlocks hK hst hz _ _ _ _ _ _ _ _ _ _ h hP hS (lv_sub hl [0, 1, 2, 3, 4, 7, 8] rfl)
    · have h := h.2 q
      refine lv_aload_n hC.1 hC.2.1 d_Model_finds_117 rfl (lv_at hl 0 rfl) ?_
      refine lv_iload_n hC.1 hC.2.1 d_Model_finds_118 rfl (lv_at hl 1 rfl) ?_
      refine lv_iload_n hC.1 hC.2.1 d_Model_finds_119 rfl (lv_at hl 2 rfl) ?_
      refine lv_iload hC.1 hC.2.1 d_Model_finds_120 (lv_at hl 7 rfl) ?_
      refine xi_add hC d_Model_finds_122 ?_
      refine xk_VP (As := [iv x1, iv (x2 + x7)]) (rest := []) hC hK hP hS hst hz hl.1 lk_Model_117 rfl rfl rfl ⟨Nat.le_of_ble_eq_true rfl, Nat.le_of_ble_eq_true rfl⟩ (rc_Model hK hP) (fun sz' => c_Model_heightOf l D g b sz' h) d_Model_finds_123 rfl (Nat.le_of_ble_eq_true rfl) ⟨Nat.le_of_ble_eq_true rfl, Nat.le_of_ble_eq_true rfl⟩ (fun r_2 h => ?_)
      try dsimp only at h
      refine lv_aload_n hC.1 hC.2.1 d_Model_finds_126 rfl (lv_at hl 0 rfl) ?_
      refine lv_iload_n hC.1 hC.2.1 d_Model_finds_127 rfl (lv_at hl 3 rfl) ?_
      refine lv_iload hC.1 hC.2.1 d_Model_finds_128 (lv_at hl 4 rfl) ?_
      refine lv_iload hC.1 hC.2.1 d_Model_finds_130 (lv_at hl 7 rfl) ?_
      refine xi_sub hC d_Model_finds_132 ?_
      refine xk_VP (As := [iv x3, iv (x4 - x7)]) (rest := [iv r_2]) hC hK hP hS hst hz hl.1 lk_Model_117 rfl rfl rfl ⟨Nat.le_of_ble_eq_true rfl, Nat.le_of_ble_eq_true rfl⟩ (rc_Model hK hP) (fun sz' => c_Model_heightOf l D g b sz' h) d_Model_finds_133 rfl (Nat.le_of_ble_eq_true rfl) ⟨Nat.le_of_ble_eq_true rfl, Nat.le_of_ble_eq_true rfl⟩ (fun r_3 h => ?_)
      try dsimp only at h
      refine xi_sub hC d_Model_finds_136 ?_
      refine xi_top (fun v9_4 ev9_4 => ?_)
      have h := h v9_4 ev9_4
      refine lv_istore (lv' := [(9, iv v9_4), (0, .ref (b + 0)), (1, iv x1), (2, iv x2), (3, iv x3), (4, iv x4), (5, iv x5), (6, iv x6), (7, iv x7), (8, iv x8)]) hC.1 hC.2.1 d_Model_finds_137 hl (by decide) rfl (fun ls hl => ?_)
      refine lv_iload hC.1 hC.2.1 d_Model_finds_139 (lv_at hl 9 rfl) ?_
      refine lv_iload hC.1 hC.2.1 d_Model_finds_141 (lv_at hl 0 rfl) ?_
      refine lv_iload hC.1 hC.2.1 d_Model_finds_143 (lv_at hl 0 rfl) ?_
      refine xi_mul hC d_Model_finds_145 ?_
      refine xi_add hC d_Model_finds_146 ?_
      refine xi_top (fun v8_5 ev8_5 => ?_)
      have h := h v8_5 ev8_5
      refine lv_istore (lv' := [(8, iv v8_5), (9, iv v9_4), (0, .ref (b + 0)), (1, iv x1), (2, iv x2), (3, iv x3), (4, iv x4), (5, iv x5), (6, iv x6), (7, iv x7)]) hC.1 hC.2.1 d_Model_finds_147 hl (by decide) rfl (fun ls hl => ?_)
      obtain ⟨v7_6, ev7_6⟩ : ∃ y : Int, y = x7 + 1 := ⟨_, rfl⟩
      have h := h v7_6 ev7_6
      refine xi_iinc (v := v7_6) (lv' := [(7, iv v7_6), (8, iv v8_5), (9, iv v9_4), (0, .ref (b + 0)), (1, iv x1), (2, iv x2), (3, iv x3), (4, iv x4), (5, iv x5), (6, iv x6)]) hC d_Model_finds_149 hl (k := 9) rfl ev7_6 (by decide) rfl (fun ls hl => ?_)
      refine lv_goto (tgt := 69) hC.1 hC.2.1 d_Model_finds_152 (by decide) ?_
      exact ih _ _ _ _ _ _ _ _ _ _ _ _ h hP hS (lv_sub hl [3, 4, 5, 6, 7, 8, 9, 0, 1] rfl)
set_option maxHeartbeats 4000000 in
theorem c_Model_finds (l : Launch) (D : va_G) (g : Nat → ClassId) (b sz : Nat) {x1 x2 x3 x4 : Int} {M0 : Mem} {Post : Int → Mem → Prop} (h : wp_Model_finds x1 x2 x3 x4 M0 Post) : Met l y_Model_finds (Cond.code y_Model_finds b_Model_finds 10 (some .boolean) :: gd) ({ frames := 2, cells := 0, slots := 0, locals := 47 }) (PcG D g b 14 (cellN b g) sz M0 [.ref (b + 0), iv x1, iv x2, iv x3, iv x4]) (QI D g b 14 (cellN b g) sz Post) 0 0 (rA b 14 sz) := by
  refine xm_start (by decide) rfl (Nat.le_of_ble_eq_true rfl) ?_
  intro p e s m below meth c ls H args hC hr hlocks hK hP hst hz hS hH hl
  have hl : lv_has ls 10 [(0, .ref (b + 0)), (1, iv x1), (2, iv x2), (3, iv x3), (4, iv x4)] := hl
  unfold wp_Model_finds at h
  refine lv_aload_n hC.1 hC.2.1 d_Model_finds_0 rfl (lv_at hl 0 rfl) ?_
  refine lv_iload_n hC.1 hC.2.1 d_Model_finds_1 rfl (lv_at hl 1 rfl) ?_
  refine lv_iload_n hC.1 hC.2.1 d_Model_finds_2 rfl (lv_at hl 2 rfl) ?_
  refine lv_iload_n hC.1 hC.2.1 d_Model_finds_3 rfl (lv_at hl 3 rfl) ?_
  refine lv_iload hC.1 hC.2.1 d_Model_finds_4 (lv_at hl 4 rfl) ?_
  refine xk_VP (As := [iv x1, iv x2, iv x3, iv x4]) (rest := []) hC hK hP hS hst hz hl.1 lk_Model_109 rfl rfl rfl ⟨Nat.le_of_ble_eq_true rfl, Nat.le_of_ble_eq_true rfl⟩ (rc_Model hK hP) (fun sz' => c_Model_turnsOf l D g b sz' h) d_Model_finds_6 rfl (Nat.le_of_ble_eq_true rfl) ⟨Nat.le_of_ble_eq_true rfl, Nat.le_of_ble_eq_true rfl⟩ (fun r_1 h => ?_)
  try dsimp only at h
  refine lv_istore (lv' := [(5, iv r_1), (0, .ref (b + 0)), (1, iv x1), (2, iv x2), (3, iv x3), (4, iv x4)]) hC.1 hC.2.1 d_Model_finds_9 hl (by decide) rfl (fun ls hl => ?_)
  refine lv_aload_n hC.1 hC.2.1 d_Model_finds_11 rfl (lv_at hl 1 rfl) ?_
  refine lv_iload_n hC.1 hC.2.1 d_Model_finds_12 rfl (lv_at hl 2 rfl) ?_
  refine lv_iload_n hC.1 hC.2.1 d_Model_finds_13 rfl (lv_at hl 3 rfl) ?_
  refine xi_const hC d_Model_finds_14 ?_
  refine xi_sub hC d_Model_finds_15 ?_
  refine lv_iload_n hC.1 hC.2.1 d_Model_finds_16 rfl (lv_at hl 4 rfl) ?_
  refine lv_iload hC.1 hC.2.1 d_Model_finds_17 (lv_at hl 5 rfl) ?_
  refine xi_const hC d_Model_finds_19 ?_
  refine xi_add hC d_Model_finds_20 ?_
  refine lv_iload hC.1 hC.2.1 d_Model_finds_21 (lv_at hl 0 rfl) ?_
  refine xk_VP (As := [iv x1, iv (x2 - 1), iv x3, iv (x4 + 1), iv r_1]) (rest := []) hC hK hP hS hst hz hl.1 lk_Model_113 rfl rfl rfl ⟨Nat.le_of_ble_eq_true rfl, Nat.le_of_ble_eq_true rfl⟩ (rc_Model hK hP) (fun sz' => c_Model_matches l D g b sz' h) d_Model_finds_23 rfl (Nat.le_of_ble_eq_true rfl) ⟨Nat.le_of_ble_eq_true rfl, Nat.le_of_ble_eq_true rfl⟩ (fun r_2 h => ?_)
  try dsimp only at h
  obtain ⟨b0, h⟩ := h
  refine xi_ieq hC (tgt := 31) d_Model_finds_26 (by decide) b0 (fun q => ?_) (fun q => ?_)
  · have h := h.1 q
    refine lv_aload_n hC.1 hC.2.1 d_Model_finds_31 rfl (lv_at hl 1 rfl) ?_
    refine gf_Model_7 hC hK hP hst d_Model_finds_32 ?_
    refine lv_iload_n hC.1 hC.2.1 d_Model_finds_35 rfl (lv_at hl 2 rfl) ?_
    obtain ⟨hi, h⟩ := h
    refine xg_ald hC hK hP aN_sizes (by decide) hi d_Model_finds_36 ?_
    refine lv_aload_n hC.1 hC.2.1 d_Model_finds_37 rfl (lv_at hl 1 rfl) ?_
    refine gf_Model_7 hC hK hP hst d_Model_finds_38 ?_
    refine lv_iload_n hC.1 hC.2.1 d_Model_finds_41 rfl (lv_at hl 4 rfl) ?_
    obtain ⟨hi, h⟩ := h
    refine xg_ald hC hK hP aN_sizes (by decide) hi d_Model_finds_42 ?_
    obtain ⟨b0, h⟩ := h
    obtain ⟨b1, h⟩ := h
    refine xi_cge hC (tgt := 55) d_Model_finds_43 (by decide) b0 b1 (fun q => ?_) (fun q => ?_)
    · have h := h.1 q
      refine lv_aload_n hC.1 hC.2.1 d_Model_finds_55 rfl (lv_at hl 1 rfl) ?_
      refine gf_Model_7 hC hK hP hst d_Model_finds_56 ?_
      refine lv_iload_n hC.1 hC.2.1 d_Model_finds_59 rfl (lv_at hl 4 rfl) ?_
      obtain ⟨hi, h⟩ := h
      refine xg_ald hC hK hP aN_sizes (by decide) hi d_Model_finds_60 ?_
      refine xi_top (fun v6_3 ev6_3 => ?_)
      have h := h v6_3 ev6_3
      refine lv_istore (lv' := [(6, iv v6_3), (5, iv r_1), (0, .ref (b + 0)), (1, iv x1), (2, iv x2), (3, iv x3), (4, iv x4)]) hC.1 hC.2.1 d_Model_finds_61 hl (by decide) rfl (fun ls hl => ?_)
      refine xi_const hC d_Model_finds_63 ?_
      refine lv_istore (lv' := [(7, iv 0), (6, iv v6_3), (5, iv r_1), (0, .ref (b + 0)), (1, iv x1), (2, iv x2), (3, iv x3), (4, iv x4)]) hC.1 hC.2.1 d_Model_finds_64 hl (by decide) rfl (fun ls hl => ?_)
      refine xi_const hC d_Model_finds_66 ?_
      refine lv_istore (lv' := [(8, iv 0), (7, iv 0), (6, iv v6_3), (5, iv r_1), (0, .ref (b + 0)), (1, iv x1), (2, iv x2), (3, iv x3), (4, iv x4)]) hC.1 hC.2.1 d_Model_finds_67 hl (by decide) rfl (fun ls hl => ?_)
      obtain ⟨nn, h⟩ := h
      exact s_Model_finds_69 hC hr hlocks hK hst hz nn _ _ _ _ _ _ _ _ _ _ _ _ h hP hS (lv_sub hl [4, 5, 6, 7, 8, 3, 2, 1, 0] rfl)
    · have h := h.2 q
      refine lv_aload_n hC.1 hC.2.1 d_Model_finds_46 rfl (lv_at hl 1 rfl) ?_
      refine gf_Model_7 hC hK hP hst d_Model_finds_47 ?_
      refine lv_iload_n hC.1 hC.2.1 d_Model_finds_50 rfl (lv_at hl 2 rfl) ?_
      obtain ⟨hi, h⟩ := h
      refine xg_ald hC hK hP aN_sizes (by decide) hi d_Model_finds_51 ?_
      refine lv_goto (tgt := 61) hC.1 hC.2.1 d_Model_finds_52 (by decide) ?_
      refine xi_top (fun v6_4 ev6_4 => ?_)
      have h := h v6_4 ev6_4
      refine lv_istore (lv' := [(6, iv v6_4), (5, iv r_1), (0, .ref (b + 0)), (1, iv x1), (2, iv x2), (3, iv x3), (4, iv x4)]) hC.1 hC.2.1 d_Model_finds_61 hl (by decide) rfl (fun ls hl => ?_)
      refine xi_const hC d_Model_finds_63 ?_
      refine lv_istore (lv' := [(7, iv 0), (6, iv v6_4), (5, iv r_1), (0, .ref (b + 0)), (1, iv x1), (2, iv x2), (3, iv x3), (4, iv x4)]) hC.1 hC.2.1 d_Model_finds_64 hl (by decide) rfl (fun ls hl => ?_)
      refine xi_const hC d_Model_finds_66 ?_
      refine lv_istore (lv' := [(8, iv 0), (7, iv 0), (6, iv v6_4), (5, iv r_1), (0, .ref (b + 0)), (1, iv x1), (2, iv x2), (3, iv x3), (4, iv x4)]) hC.1 hC.2.1 d_Model_finds_67 hl (by decide) rfl (fun ls hl => ?_)
      obtain ⟨nn, h⟩ := h
      exact s_Model_finds_69 hC hr hlocks hK hst hz nn _ _ _ _ _ _ _ _ _ _ _ _ h hP hS (lv_sub hl [4, 5, 6, 7, 8, 3, 2, 1, 0] rfl)
  · have h := h.2 q
    refine xi_const hC d_Model_finds_29 ?_
    exact xr_z hC hr hlocks hK hP hS (by decide) h d_Model_finds_30
set_option maxHeartbeats 4000000 in
theorem s_Model_isAhead_99 {p : Program} {l : Launch} {e : Env} {s : State} {m : MethodId} {args : Array Value} {below : List Frame} {meth : Method} {c : Code} {D : va_G} {g : Nat → ClassId} {b sz : Nat} (hC : Cx p m c b_Model_isAhead 6 s args "EdgeJoinsModel") (hr : meth.sig.returnType = some .boolean) (hlocks : meth.locks = false) (hK : va_K D classes (tyG g) s) (hst : sC (rA b 14 sz) s s.heap) (hz : sz ≤ s.heap.size) {M0 : Mem} {H : Heap} (hP : va_P D classes (wsG b 14 (cellN b g) M0) H) (hS : va_S (rA b 14 sz) s.heap H []) (hH : H = s.heap) {Post : Int → Prop} : ∀ (n : Nat) (x2 x5 : Int) (ls : Array Slot), wp_Model_isAhead_99 M0 Post n x2 x5 → lv_has ls 6 [(0, .ref (b + 0)), (2, iv x2), (5, iv x5)] → W p l e ({ frames := 0, cells := 0, slots := 0, locals := 0 }) s m args below meth c H [] 0 0 (MQ below (QP Post) args s 0 0 nil_) (F0 m 99 ls []) := by
  intro n
  induction n with
  | zero => intro x2 x5 ls h; exact h.elim
  | succ n ih =>
  intro x2 x5 ls h hl
  simp only [wp_Model_isAhead_99] at h
  refine lv_iload hC.1 hC.2.1 d_Model_isAhead_99 (lv_at hl 2 rfl) ?_
  refine xi_const hC d_Model_isAhead_101 ?_
  obtain ⟨b0, h⟩ := h
  refine xi_cge hC (tgt := 155) d_Model_isAhead_102 (by decide) b0 (xl rfl) (fun q => ?_) (fun q => ?_)
  · have h := h.1 q
    refine xi_const hC d_Model_isAhead_155 ?_
    exact xr_zp hC hr hlocks hH (by decide) h d_Model_isAhead_156
  · have h := h.2 q
    refine lv_aload_n hC.1 hC.2.1 d_Model_isAhead_105 rfl (lv_at hl 0 rfl) ?_
    refine gf_Model_42 hC hK hP hst d_Model_isAhead_106 ?_
    refine lv_iload hC.1 hC.2.1 d_Model_isAhead_109 (lv_at hl 2 rfl) ?_
    obtain ⟨hi, h⟩ := h
    refine xg_ald hC hK hP aN_found (by decide) hi d_Model_isAhead_111 ?_
    refine lv_aload_n hC.1 hC.2.1 d_Model_isAhead_112 rfl (lv_at hl 0 rfl) ?_
    refine gf_Model_39 hC hK hP hst d_Model_isAhead_113 ?_
    refine lv_iload_n hC.1 hC.2.1 d_Model_isAhead_116 rfl (lv_at hl 1 rfl) ?_
    refine lv_iload hC.1 hC.2.1 d_Model_isAhead_117 (lv_at hl 2 rfl) ?_
    refine xi_add hC d_Model_isAhead_119 ?_
    obtain ⟨hi, h⟩ := h
    refine xg_ald hC hK hP aN_list (by decide) hi d_Model_isAhead_120 ?_
    obtain ⟨b0, h⟩ := h
    obtain ⟨b1, h⟩ := h
    refine xi_ceq hC (tgt := 149) d_Model_isAhead_121 (by decide) b0 b1 (fun q => ?_) (fun q => ?_)
    · have h := h.1 q
      obtain ⟨v5_1, ev5_1⟩ : ∃ y : Int, y = x5 + 1 := ⟨_, rfl⟩
      have h := h v5_1 ev5_1
      refine xi_iinc (v := v5_1) (lv' := [(5, iv v5_1), (0, .ref (b + 0)), (2, iv x2)]) hC d_Model_isAhead_149 hl (k := 2) rfl ev5_1 (by decide) rfl (fun ls hl => ?_)
      refine lv_goto (tgt := 99) hC.1 hC.2.1 d_Model_isAhead_152 (by decide) ?_
      exact ih _ _ _ h (lv_sub hl [1, 2, 0] rfl)
    · have h := h.2 q
      refine lv_aload_n hC.1 hC.2.1 d_Model_isAhead_124 rfl (lv_at hl 0 rfl) ?_
      refine gf_Model_42 hC hK hP hst d_Model_isAhead_125 ?_
      refine lv_iload hC.1 hC.2.1 d_Model_isAhead_128 (lv_at hl 2 rfl) ?_
      obtain ⟨hi, h⟩ := h
      refine xg_ald hC hK hP aN_found (by decide) hi d_Model_isAhead_130 ?_
      refine lv_aload_n hC.1 hC.2.1 d_Model_isAhead_131 rfl (lv_at hl 0 rfl) ?_
      refine gf_Model_39 hC hK hP hst d_Model_isAhead_132 ?_
      refine lv_iload_n hC.1 hC.2.1 d_Model_isAhead_135 rfl (lv_at hl 1 rfl) ?_
      refine lv_iload hC.1 hC.2.1 d_Model_isAhead_136 (lv_at hl 2 rfl) ?_
      refine xi_add hC d_Model_isAhead_138 ?_
      obtain ⟨hi, h⟩ := h
      refine xg_ald hC hK hP aN_list (by decide) hi d_Model_isAhead_139 ?_
      obtain ⟨b0, h⟩ := h
      obtain ⟨b1, h⟩ := h
      refine xi_cge hC (tgt := 147) d_Model_isAhead_140 (by decide) b0 b1 (fun q => ?_) (fun q => ?_)
      · have h := h.1 q
        refine xi_const hC d_Model_isAhead_147 ?_
        exact xr_zp hC hr hlocks hH (by decide) h d_Model_isAhead_148
      · have h := h.2 q
        refine xi_const hC d_Model_isAhead_143 ?_
        refine lv_goto (tgt := 148) hC.1 hC.2.1 d_Model_isAhead_144 (by decide) ?_
        exact xr_zp hC hr hlocks hH (by decide) h d_Model_isAhead_148
set_option maxHeartbeats 4000000 in
theorem c_Model_isAhead (l : Launch) (D : va_G) (g : Nat → ClassId) (b sz : Nat) {x1 : Int} {M0 : Mem} {Post : Int → Prop} (h : wp_Model_isAhead x1 M0 Post) : Met l y_Model_isAhead (Cond.code y_Model_isAhead b_Model_isAhead 6 (some .boolean) :: gd) ({ frames := 0, cells := 0, slots := 0, locals := 0 }) (PcG D g b 14 (cellN b g) sz M0 [.ref (b + 0), iv x1]) (QP Post) 0 0 nil_ := by
  refine xm_start (by decide) rfl (Nat.le_of_ble_eq_true rfl) ?_
  intro p e s m below meth c ls H args hC hr hlocks hK hP hst hz hS hH hl
  have hl : lv_has ls 6 [(0, .ref (b + 0)), (1, iv x1)] := hl
  unfold wp_Model_isAhead at h
  refine xi_bipush hC d_Model_isAhead_0 (by decide) ?_
  refine lv_iload_n hC.1 hC.2.1 d_Model_isAhead_2 rfl (lv_at hl 1 rfl) ?_
  refine xi_mul hC d_Model_isAhead_3 ?_
  refine xi_top (fun v2_1 ev2_1 => ?_)
  have h := h v2_1 ev2_1
  refine lv_istore_n (lv' := [(2, iv v2_1), (0, .ref (b + 0)), (1, iv x1)]) hC.1 hC.2.1 d_Model_isAhead_4 rfl hl (by decide) rfl (fun ls hl => ?_)
  refine lv_aload_n hC.1 hC.2.1 d_Model_isAhead_5 rfl (lv_at hl 1 rfl) ?_
  refine gf_Model_42 hC hK hP hst d_Model_isAhead_6 ?_
  refine xi_const hC d_Model_isAhead_9 ?_
  obtain ⟨hi, h⟩ := h
  refine xg_ald hC hK hP aN_found (by decide) hi d_Model_isAhead_10 ?_
  refine lv_aload_n hC.1 hC.2.1 d_Model_isAhead_11 rfl (lv_at hl 1 rfl) ?_
  refine gf_Model_39 hC hK hP hst d_Model_isAhead_12 ?_
  refine lv_iload_n hC.1 hC.2.1 d_Model_isAhead_15 rfl (lv_at hl 0 rfl) ?_
  refine xi_const hC d_Model_isAhead_16 ?_
  refine xi_add hC d_Model_isAhead_17 ?_
  obtain ⟨hi, h⟩ := h
  refine xg_ald hC hK hP aN_list (by decide) hi d_Model_isAhead_18 ?_
  refine xi_mul hC d_Model_isAhead_19 ?_
  refine xi_top (fun v3_2 ev3_2 => ?_)
  have h := h v3_2 ev3_2
  refine lv_istore_n (lv' := [(3, iv v3_2), (2, iv v2_1), (0, .ref (b + 0)), (1, iv x1)]) hC.1 hC.2.1 d_Model_isAhead_20 rfl hl (by decide) rfl (fun ls hl => ?_)
  refine lv_aload_n hC.1 hC.2.1 d_Model_isAhead_21 rfl (lv_at hl 2 rfl) ?_
  refine gf_Model_39 hC hK hP hst d_Model_isAhead_22 ?_
  refine lv_iload_n hC.1 hC.2.1 d_Model_isAhead_25 rfl (lv_at hl 1 rfl) ?_
  refine xi_const hC d_Model_isAhead_26 ?_
  refine xi_add hC d_Model_isAhead_27 ?_
  obtain ⟨hi, h⟩ := h
  refine xg_ald hC hK hP aN_list (by decide) hi d_Model_isAhead_28 ?_
  refine lv_aload_n hC.1 hC.2.1 d_Model_isAhead_29 rfl (lv_at hl 2 rfl) ?_
  refine gf_Model_42 hC hK hP hst d_Model_isAhead_30 ?_
  refine xi_const hC d_Model_isAhead_33 ?_
  obtain ⟨hi, h⟩ := h
  refine xg_ald hC hK hP aN_found (by decide) hi d_Model_isAhead_34 ?_
  refine xi_mul hC d_Model_isAhead_35 ?_
  refine xi_top (fun v4_3 ev4_3 => ?_)
  have h := h v4_3 ev4_3
  refine lv_istore (lv' := [(4, iv v4_3), (3, iv v3_2), (2, iv v2_1), (0, .ref (b + 0)), (1, iv x1)]) hC.1 hC.2.1 d_Model_isAhead_36 hl (by decide) rfl (fun ls hl => ?_)
  refine lv_iload_n hC.1 hC.2.1 d_Model_isAhead_38 rfl (lv_at hl 1 rfl) ?_
  refine lv_iload hC.1 hC.2.1 d_Model_isAhead_39 (lv_at hl 0 rfl) ?_
  obtain ⟨b0, h⟩ := h
  obtain ⟨b1, h⟩ := h
  refine xi_ceq hC (tgt := 56) d_Model_isAhead_41 (by decide) b0 b1 (fun q => ?_) (fun q => ?_)
  · have h := h.1 q
    refine lv_aload_n hC.1 hC.2.1 d_Model_isAhead_56 rfl (lv_at hl 3 rfl) ?_
    refine gf_Model_42 hC hK hP hst d_Model_isAhead_57 ?_
    refine xi_const hC d_Model_isAhead_60 ?_
    obtain ⟨hi, h⟩ := h
    refine xg_ald hC hK hP aN_found (by decide) hi d_Model_isAhead_61 ?_
    refine lv_aload_n hC.1 hC.2.1 d_Model_isAhead_62 rfl (lv_at hl 3 rfl) ?_
    refine gf_Model_39 hC hK hP hst d_Model_isAhead_63 ?_
    refine lv_iload_n hC.1 hC.2.1 d_Model_isAhead_66 rfl (lv_at hl 2 rfl) ?_
    refine xi_const hC d_Model_isAhead_67 ?_
    refine xi_add hC d_Model_isAhead_68 ?_
    obtain ⟨hi, h⟩ := h
    refine xg_ald hC hK hP aN_list (by decide) hi d_Model_isAhead_69 ?_
    obtain ⟨b0, h⟩ := h
    obtain ⟨b1, h⟩ := h
    refine xi_ceq hC (tgt := 96) d_Model_isAhead_70 (by decide) b0 b1 (fun q => ?_) (fun q => ?_)
    · have h := h.1 q
      refine xi_const hC d_Model_isAhead_96 ?_
      refine lv_istore (lv' := [(5, iv 0), (4, iv v4_3), (3, iv v3_2), (2, iv v2_1), (0, .ref (b + 0)), (1, iv x1)]) hC.1 hC.2.1 d_Model_isAhead_97 hl (by decide) rfl (fun ls hl => ?_)
      obtain ⟨nn, h⟩ := h
      exact s_Model_isAhead_99 hC hr hlocks hK hst hz hP hS hH nn _ _ _ h (lv_sub hl [4, 3, 0] rfl)
    · have h := h.2 q
      refine lv_aload_n hC.1 hC.2.1 d_Model_isAhead_73 rfl (lv_at hl 3 rfl) ?_
      refine gf_Model_42 hC hK hP hst d_Model_isAhead_74 ?_
      refine xi_const hC d_Model_isAhead_77 ?_
      obtain ⟨hi, h⟩ := h
      refine xg_ald hC hK hP aN_found (by decide) hi d_Model_isAhead_78 ?_
      refine lv_aload_n hC.1 hC.2.1 d_Model_isAhead_79 rfl (lv_at hl 3 rfl) ?_
      refine gf_Model_39 hC hK hP hst d_Model_isAhead_80 ?_
      refine lv_iload_n hC.1 hC.2.1 d_Model_isAhead_83 rfl (lv_at hl 2 rfl) ?_
      refine xi_const hC d_Model_isAhead_84 ?_
      refine xi_add hC d_Model_isAhead_85 ?_
      obtain ⟨hi, h⟩ := h
      refine xg_ald hC hK hP aN_list (by decide) hi d_Model_isAhead_86 ?_
      obtain ⟨b0, h⟩ := h
      obtain ⟨b1, h⟩ := h
      refine xi_cle hC (tgt := 94) d_Model_isAhead_87 (by decide) b0 b1 (fun q => ?_) (fun q => ?_)
      · have h := h.1 q
        refine xi_const hC d_Model_isAhead_94 ?_
        exact xr_zp hC hr hlocks hH (by decide) h d_Model_isAhead_95
      · have h := h.2 q
        refine xi_const hC d_Model_isAhead_90 ?_
        refine lv_goto (tgt := 95) hC.1 hC.2.1 d_Model_isAhead_91 (by decide) ?_
        exact xr_zp hC hr hlocks hH (by decide) h d_Model_isAhead_95
  · have h := h.2 q
    refine lv_iload_n hC.1 hC.2.1 d_Model_isAhead_44 rfl (lv_at hl 1 rfl) ?_
    refine lv_iload hC.1 hC.2.1 d_Model_isAhead_45 (lv_at hl 0 rfl) ?_
    obtain ⟨b0, h⟩ := h
    obtain ⟨b1, h⟩ := h
    refine xi_cge hC (tgt := 54) d_Model_isAhead_47 (by decide) b0 b1 (fun q => ?_) (fun q => ?_)
    · have h := h.1 q
      refine xi_const hC d_Model_isAhead_54 ?_
      exact xr_zp hC hr hlocks hH (by decide) h d_Model_isAhead_55
    · have h := h.2 q
      refine xi_const hC d_Model_isAhead_50 ?_
      refine lv_goto (tgt := 55) hC.1 hC.2.1 d_Model_isAhead_51 (by decide) ?_
      exact xr_zp hC hr hlocks hH (by decide) h d_Model_isAhead_55
