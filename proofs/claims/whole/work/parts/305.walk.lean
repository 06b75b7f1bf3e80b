set_option maxHeartbeats 4000000 in
theorem s_Model_step_59 {p : Program} {l : Launch} {e : Env} {s : State} {m : MethodId} {args : Array Value} {below : List Frame} {meth : Method} {c : Code} {D : va_G} {g : Nat → ClassId} {b sz : Nat} (hC : Cx p m c b_Model_step 4 s args "EdgeJoinsModel") (hr : meth.sig.returnType = some .int) (hlocks : meth.locks = false) (hK : va_K D classes (tyG g) s) (hst : sC (rA b 14 sz) s s.heap) (hz : sz ≤ s.heap.size) {Post : Int → Mem → Prop} : ∀ (x1 x2 t1 t2 t3 : Int) (M0 : Mem) (H : Heap) (locs : List Loc) (ls : Array Slot), wp_Model_step_59 x1 x2 t1 t2 t3 M0 Post → va_P D classes (wsG b 14 (cellN b g) M0) H → va_S (rA b 14 sz) s.heap H locs → lv_has ls 4 [(0, .ref (b + 0)), (1, iv x1), (2, iv x2)] → W p l e ({ frames := 2, cells := 0, slots := 0, locals := 43 }) s m args below meth c H locs 0 0 (MQ below (QI D g b 14 (cellN b g) sz Post) args s 0 0 (rA b 14 sz)) (F0 m 59 ls [iv t3, iv t2, iv t1, .ref (b + 0)]) := by
  intro x1 x2 t1 t2 t3 M0 H locs ls h hP hS hl
  unfold wp_Model_step_59 at h
  refine xk_Vi (As := [iv t1, iv t2, iv t3]) (rest := []) hC hK hP hS hst hz hl.1 lk_Model_67 rfl rfl rfl ⟨Nat.le_of_ble_eq_true rfl, Nat.le_of_ble_eq_true rfl⟩ (rc_Model hK hP) (fun sz' => c_Model_throwing l D g b sz' h) d_Model_step_59 rfl (Nat.le_of_ble_eq_true rfl) ⟨Nat.le_of_ble_eq_true rfl, Nat.le_of_ble_eq_true rfl⟩ (fun r_1 M_2 H locs h hP hS => ?_)
  try dsimp only at h
  obtain ⟨b0, h⟩ := h
  refine xi_ieq hC (tgt := 67) d_Model_step_62 (by decide) b0 (fun q => ?_) (fun q => ?_)
  · have h := h.1 q
    refine lv_aload_n hC.1 hC.2.1 d_Model_step_67 rfl (lv_at hl 0 rfl) ?_
    refine gf_Model_13 hC hK hP hst d_Model_step_68 ?_
    refine xi_bipush hC d_Model_step_71 (by decide) ?_
    refine lv_iload_n hC.1 hC.2.1 d_Model_step_73 rfl (lv_at hl 1 rfl) ?_
    refine xi_mul hC d_Model_step_74 ?_
    refine lv_aload_n hC.1 hC.2.1 d_Model_step_75 rfl (lv_at hl 0 rfl) ?_
    refine gf_Model_7 hC hK hP hst d_Model_step_76 ?_
    refine lv_iload_n hC.1 hC.2.1 d_Model_step_79 rfl (lv_at hl 1 rfl) ?_
    obtain ⟨hi, h⟩ := h
    refine xg_ald hC hK hP aN_sizes (by decide) hi d_Model_step_80 ?_
    refine xi_add hC d_Model_step_81 ?_
    refine lv_iload_n hC.1 hC.2.1 d_Model_step_82 rfl (lv_at hl 2 rfl) ?_
    obtain ⟨hi, h⟩ := h
    refine xg_ast hC hK hP hS aN_steps (by decide) hi d_Model_step_83 (fun H locs hP hS => ?_)
    obtain ⟨M_3, eM_3⟩ : ∃ y : Mem, y = up M_2 2 ((28 * x1) + (M_2 1 x1.toNat)).toNat x2 := ⟨_, rfl⟩
    rw [← eM_3] at hP
    have h := h M_3 eM_3
    refine lv_aload_n hC.1 hC.2.1 d_Model_step_84 rfl (lv_at hl 0 rfl) ?_
    refine gf_Model_7 hC hK hP hst d_Model_step_85 ?_
    refine lv_iload_n hC.1 hC.2.1 d_Model_step_88 rfl (lv_at hl 1 rfl) ?_
    refine lv_dup2_11 hC.1 hC.2.1 d_Model_step_89 rfl rfl ?_
    obtain ⟨hi, h⟩ := h
    refine xg_ald hC hK hP aN_sizes (by decide) hi d_Model_step_90 ?_
    refine xi_const hC d_Model_step_91 ?_
    refine xi_add hC d_Model_step_92 ?_
    obtain ⟨hi, h⟩ := h
    refine xg_ast hC hK hP hS aN_sizes (by decide) hi d_Model_step_93 (fun H locs hP hS => ?_)
    obtain ⟨M_4, eM_4⟩ : ∃ y : Mem, y = up M_3 1 x1.toNat ((M_3 1 x1.toNat) + 1) := ⟨_, rfl⟩
    rw [← eM_4] at hP
    have h := h M_4 eM_4
    refine lv_aload_n hC.1 hC.2.1 d_Model_step_94 rfl (lv_at hl 0 rfl) ?_
    refine gf_Model_7 hC hK hP hst d_Model_step_95 ?_
    refine lv_iload_n hC.1 hC.2.1 d_Model_step_98 rfl (lv_at hl 1 rfl) ?_
    obtain ⟨hi, h⟩ := h
    refine xg_ald hC hK hP aN_sizes (by decide) hi d_Model_step_99 ?_
    exact xr_i hC hr hlocks hK hP hS h d_Model_step_100
  · have h := h.2 q
    refine xi_const hC d_Model_step_65 ?_
    exact xr_i hC hr hlocks hK hP hS h d_Model_step_66
set_option maxHeartbeats 4000000 in
theorem s_Model_step_45 {p : Program} {l : Launch} {e : Env} {s : State} {m : MethodId} {args : Array Value} {below : List Frame} {meth : Method} {c : Code} {D : va_G} {g : Nat → ClassId} {b sz : Nat} (hC : Cx p m c b_Model_step 4 s args "EdgeJoinsModel") (hr : meth.sig.returnType = some .int) (hlocks : meth.locks = false) (hK : va_K D classes (tyG g) s) (hst : sC (rA b 14 sz) s s.heap) (hz : sz ≤ s.heap.size) {Post : Int → Mem → Prop} : ∀ (x1 x2 t1 t2 : Int) (M0 : Mem) (H : Heap) (locs : List Loc) (ls : Array Slot), wp_Model_step_45 x1 x2 t1 t2 M0 Post → va_P D classes (wsG b 14 (cellN b g) M0) H → va_S (rA b 14 sz) s.heap H locs → lv_has ls 4 [(0, .ref (b + 0)), (1, iv x1), (2, iv x2)] → W p l e ({ frames := 2, cells := 0, slots := 0, locals := 43 }) s m args below meth c H locs 0 0 (MQ below (QI D g b 14 (cellN b g) sz Post) args s 0 0 (rA b 14 sz)) (F0 m 45 ls [iv t2, iv t1, .ref (b + 0)]) := by
  intro x1 x2 t1 t2 M0 H locs ls h hP hS hl
  unfold wp_Model_step_45 at h
  refine lv_iload_n hC.1 hC.2.1 d_Model_step_45 rfl (lv_at hl 2 rfl) ?_
  refine xi_const hC d_Model_step_46 ?_
  refine xi_const hC d_Model_step_47 ?_
  refine xk_SP (As := [iv x2, iv 0, iv 3]) (rest := [iv t2, iv t1, .ref (b + 0)]) hC hK hP hS hst hz hl.1 lk_Model_63 rfl rfl rfl ⟨Nat.le_of_ble_eq_true rfl, Nat.le_of_ble_eq_true rfl⟩ (fun sz' => c_Model_in l D g b sz' h) d_Model_step_48 rfl (Nat.le_of_ble_eq_true rfl) ⟨Nat.le_of_ble_eq_true rfl, Nat.le_of_ble_eq_true rfl⟩ (fun r_1 h => ?_)
  try dsimp only at h
  obtain ⟨b0, h⟩ := h
  refine xi_ine hC (tgt := 58) d_Model_step_51 (by decide) b0 (fun q => ?_) (fun q => ?_)
  · have h := h.1 q
    refine xi_const hC d_Model_step_58 ?_
    exact s_Model_step_59 hC hr hlocks hK hst hz _ _ _ _ _ _ _ _ _ h hP hS (lv_sub hl [0, 1, 2] rfl)
  · have h := h.2 q
    refine xi_const hC d_Model_step_54 ?_
    refine lv_goto (tgt := 59) hC.1 hC.2.1 d_Model_step_55 (by decide) ?_
    exact s_Model_step_59 hC hr hlocks hK hst hz _ _ _ _ _ _ _ _ _ h hP hS (lv_sub hl [0, 1, 2] rfl)
set_option maxHeartbeats 4000000 in
theorem s_Model_step_44 {p : Program} {l : Launch} {e : Env} {s : State} {m : MethodId} {args : Array Value} {below : List Frame} {meth : Method} {c : Code} {D : va_G} {g : Nat → ClassId} {b sz : Nat} (hC : Cx p m c b_Model_step 4 s args "EdgeJoinsModel") (hr : meth.sig.returnType = some .int) (hlocks : meth.locks = false) (hK : va_K D classes (tyG g) s) (hst : sC (rA b 14 sz) s s.heap) (hz : sz ≤ s.heap.size) {Post : Int → Mem → Prop} : ∀ (x1 x2 t1 : Int) (M0 : Mem) (H : Heap) (locs : List Loc) (ls : Array Slot), wp_Model_step_44 x1 x2 t1 M0 Post → va_P D classes (wsG b 14 (cellN b g) M0) H → va_S (rA b 14 sz) s.heap H locs → lv_has ls 4 [(0, .ref (b + 0)), (1, iv x1), (2, iv x2)] → W p l e ({ frames := 2, cells := 0, slots := 0, locals := 43 }) s m args below meth c H locs 0 0 (MQ below (QI D g b 14 (cellN b g) sz Post) args s 0 0 (rA b 14 sz)) (F0 m 44 ls [iv t1, .ref (b + 0)]) := by
  intro x1 x2 t1 M0 H locs ls h hP hS hl
  unfold wp_Model_step_44 at h
  refine xi_const hC d_Model_step_44 ?_
  exact s_Model_step_45 hC hr hlocks hK hst hz _ _ _ _ _ _ _ _ h hP hS (lv_sub hl [0, 1, 2] rfl)
set_option maxHeartbeats 4000000 in
theorem s_Model_step_40 {p : Program} {l : Launch} {e : Env} {s : State} {m : MethodId} {args : Array Value} {below : List Frame} {meth : Method} {c : Code} {D : va_G} {g : Nat → ClassId} {b sz : Nat} (hC : Cx p m c b_Model_step 4 s args "EdgeJoinsModel") (hr : meth.sig.returnType = some .int) (hlocks : meth.locks = false) (hK : va_K D classes (tyG g) s) (hst : sC (rA b 14 sz) s s.heap) (hz : sz ≤ s.heap.size) {Post : Int → Mem → Prop} : ∀ (x1 x2 t1 : Int) (M0 : Mem) (H : Heap) (locs : List Loc) (ls : Array Slot), wp_Model_step_40 x1 x2 t1 M0 Post → va_P D classes (wsG b 14 (cellN b g) M0) H → va_S (rA b 14 sz) s.heap H locs → lv_has ls 4 [(0, .ref (b + 0)), (1, iv x1), (2, iv x2)] → W p l e ({ frames := 2, cells := 0, slots := 0, locals := 43 }) s m args below meth c H locs 0 0 (MQ below (QI D g b 14 (cellN b g) sz Post) args s 0 0 (rA b 14 sz)) (F0 m 40 ls [iv t1, .ref (b + 0)]) := by
  intro x1 x2 t1 M0 H locs ls h hP hS hl
  unfold wp_Model_step_40 at h
  refine xi_const hC d_Model_step_40 ?_
  refine lv_goto (tgt := 45) hC.1 hC.2.1 d_Model_step_41 (by decide) ?_
  exact s_Model_step_45 hC hr hlocks hK hst hz _ _ _ _ _ _ _ _ h hP hS (lv_sub hl [0, 1, 2] rfl)
set_option maxHeartbeats 4000000 in
theorem s_Model_step_13 {p : Program} {l : Launch} {e : Env} {s : State} {m : MethodId} {args : Array Value} {below : List Frame} {meth : Method} {c : Code} {D : va_G} {g : Nat → ClassId} {b sz : Nat} (hC : Cx p m c b_Model_step 4 s args "EdgeJoinsModel") (hr : meth.sig.returnType = some .int) (hlocks : meth.locks = false) (hK : va_K D classes (tyG g) s) (hst : sC (rA b 14 sz) s s.heap) (hz : sz ≤ s.heap.size) {Post : Int → Mem → Prop} : ∀ (x1 x2 t0 : Int) (M0 : Mem) (H : Heap) (locs : List Loc) (ls : Array Slot), wp_Model_step_13 x1 x2 t0 M0 Post → va_P D classes (wsG b 14 (cellN b g) M0) H → va_S (rA b 14 sz) s.heap H locs → lv_has ls 4 [(0, .ref (b + 0)), (1, iv x1), (2, iv x2)] → W p l e ({ frames := 2, cells := 0, slots := 0, locals := 43 }) s m args below meth c H locs 0 0 (MQ below (QI D g b 14 (cellN b g) sz Post) args s 0 0 (rA b 14 sz)) (F0 m 13 ls [iv t0]) := by
  intro x1 x2 t0 M0 H locs ls h hP hS hl
  unfold wp_Model_step_13 at h
  refine lv_istore_n (lv' := [(3, iv t0), (0, .ref (b + 0)), (1, iv x1), (2, iv x2)]) hC.1 hC.2.1 d_Model_step_13 rfl hl (by decide) rfl (fun ls hl => ?_)
  refine lv_aload_n hC.1 hC.2.1 d_Model_step_14 rfl (lv_at hl 1 rfl) ?_
  refine lv_iload_n hC.1 hC.2.1 d_Model_step_15 rfl (lv_at hl 0 rfl) ?_
  refine lv_iload_n hC.1 hC.2.1 d_Model_step_16 rfl (lv_at hl 0 rfl) ?_
  obtain ⟨b0, h⟩ := h
  refine xi_ine hC (tgt := 44) d_Model_step_17 (by decide) b0 (fun q => ?_) (fun q => ?_)
  · have h := h.1 q
    exact s_Model_step_44 hC hr hlocks hK hst hz _ _ _ _ _ _ _ h hP hS (lv_sub hl [1, 2, 3] rfl)
  · have h := h.2 q
    refine lv_aload_n hC.1 hC.2.1 d_Model_step_20 rfl (lv_at hl 1 rfl) ?_
    refine gf_Model_19 hC hK hP hst d_Model_step_21 ?_
    refine lv_iload_n hC.1 hC.2.1 d_Model_step_24 rfl (lv_at hl 2 rfl) ?_
    obtain ⟨hi, h⟩ := h
    refine xg_zald hC hK hP aN_closed (by decide) hi d_Model_step_25 ?_
    obtain ⟨b0, h⟩ := h
    refine xi_ine hC (tgt := 40) d_Model_step_26 (by decide) b0 (fun q => ?_) (fun q => ?_)
    · have h := h.1 q
      exact s_Model_step_40 hC hr hlocks hK hst hz _ _ _ _ _ _ _ h hP hS (lv_sub hl [1, 2, 3] rfl)
    · have h := h.2 q
      refine lv_aload_n hC.1 hC.2.1 d_Model_step_29 rfl (lv_at hl 1 rfl) ?_
      refine gf_Model_7 hC hK hP hst d_Model_step_30 ?_
      refine lv_iload_n hC.1 hC.2.1 d_Model_step_33 rfl (lv_at hl 2 rfl) ?_
      obtain ⟨hi, h⟩ := h
      refine xg_ald hC hK hP aN_sizes (by decide) hi d_Model_step_34 ?_
      refine xi_bipush hC d_Model_step_35 (by decide) ?_
      obtain ⟨b0, h⟩ := h
      refine xi_cne hC (tgt := 44) d_Model_step_37 (by decide) b0 (xl rfl) (fun q => ?_) (fun q => ?_)
      · have h := h.1 q
        exact s_Model_step_44 hC hr hlocks hK hst hz _ _ _ _ _ _ _ h hP hS (lv_sub hl [1, 2, 3] rfl)
      · have h := h.2 q
        exact s_Model_step_40 hC hr hlocks hK hst hz _ _ _ _ _ _ _ h hP hS (lv_sub hl [1, 2, 3] rfl)
set_option maxHeartbeats 4000000 in
theorem c_Model_step (l : Launch) (D : va_G) (g : Nat → ClassId) (b sz : Nat) {x1 x2 : Int} {M0 : Mem} {Post : Int → Mem → Prop} (h : wp_Model_step x1 x2 M0 Post) : Met l y_Model_step (Cond.code y_Model_step b_Model_step 4 (some .int) :: gd) ({ frames := 2, cells := 0, slots := 0, locals := 43 }) (PcG D g b 14 (cellN b g) sz M0 [.ref (b + 0), iv x1, iv x2]) (QI D g b 14 (cellN b g) sz Post) 0 0 (rA b 14 sz) := by
  refine xm_start (by decide) rfl (Nat.le_of_ble_eq_true rfl) ?_
  intro p e s m below meth c ls H args hC hr hlocks hK hP hst hz hS hH hl
  have hl : lv_has ls 4 [(0, .ref (b + 0)), (1, iv x1), (2, iv x2)] := hl
  unfold wp_Model_step at h
  refine lv_aload_n hC.1 hC.2.1 d_Model_step_0 rfl (lv_at hl 0 rfl) ?_
  refine lv_iload_n hC.1 hC.2.1 d_Model_step_1 rfl (lv_at hl 1 rfl) ?_
  refine xk_VP (As := [iv x1]) (rest := []) hC hK hP hS hst hz hl.1 lk_Model_71 rfl rfl rfl ⟨Nat.le_of_ble_eq_true rfl, Nat.le_of_ble_eq_true rfl⟩ (rc_Model hK hP) (fun sz' => c_Model_isSherd l D g b sz' h) d_Model_step_2 rfl (Nat.le_of_ble_eq_true rfl) ⟨Nat.le_of_ble_eq_true rfl, Nat.le_of_ble_eq_true rfl⟩ (fun r_1 h => ?_)
  try dsimp only at h
  obtain ⟨b0, h⟩ := h
  refine xi_ine hC (tgt := 12) d_Model_step_5 (by decide) b0 (fun q => ?_) (fun q => ?_)
  · have h := h.1 q
    refine xi_const hC d_Model_step_12 ?_
    exact s_Model_step_13 hC hr hlocks hK hst hz _ _ _ _ _ _ _ h hP hS (lv_sub hl [0, 1, 2] rfl)
  · have h := h.2 q
    refine xi_const hC d_Model_step_8 ?_
    refine lv_goto (tgt := 13) hC.1 hC.2.1 d_Model_step_9 (by decide) ?_
    exact s_Model_step_13 hC hr hlocks hK hst hz _ _ _ _ _ _ _ h hP hS (lv_sub hl [0, 1, 2] rfl)
set_option maxHeartbeats 4000000 in
theorem s_Model_height_49 {p : Program} {l : Launch} {e : Env} {s : State} {m : MethodId} {args : Array Value} {below : List Frame} {meth : Method} {c : Code} {D : va_G} {g : Nat → ClassId} {b sz : Nat} (hC : Cx p m c b_Model_height 6 s args "EdgeJoinsModel") (hr : meth.sig.returnType = some .int) (hlocks : meth.locks = false) (hK : va_K D classes (tyG g) s) (hst : sC (rA b 14 sz) s s.heap) (hz : sz ≤ s.heap.size) {Post : Int → Mem → Prop} : ∀ (x1 x2 x3 t1 t2 : Int) (M0 : Mem) (H : Heap) (locs : List Loc) (ls : Array Slot), wp_Model_height_49 x1 x2 x3 t1 t2 M0 Post → va_P D classes (wsG b 14 (cellN b g) M0) H → va_S (rA b 14 sz) s.heap H locs → lv_has ls 6 [(0, .ref (b + 0)), (1, iv x1), (2, iv x2), (3, iv x3)] → W p l e ({ frames := 2, cells := 0, slots := 0, locals := 43 }) s m args below meth c H locs 0 0 (MQ below (QI D g b 14 (cellN b g) sz Post) args s 0 0 (rA b 14 sz)) (F0 m 49 ls [iv t2, iv t1, .ref (b + 0)]) := by
  intro x1 x2 x3 t1 t2 M0 H locs ls h hP hS hl
  unfold wp_Model_height_49 at h
  refine xi_const hC d_Model_height_49 ?_
  refine xk_Vi (As := [iv t1, iv t2, iv 0]) (rest := []) hC hK hP hS hst hz hl.1 lk_Model_67 rfl rfl rfl ⟨Nat.le_of_ble_eq_true rfl, Nat.le_of_ble_eq_true rfl⟩ (rc_Model hK hP) (fun sz' => c_Model_throwing l D g b sz' h) d_Model_height_50 rfl (Nat.le_of_ble_eq_true rfl) ⟨Nat.le_of_ble_eq_true rfl, Nat.le_of_ble_eq_true rfl⟩ (fun r_1 M_2 H locs h hP hS => ?_)
  try dsimp only at h
  obtain ⟨b0, h⟩ := h
  refine xi_ieq hC (tgt := 58) d_Model_height_53 (by decide) b0 (fun q => ?_) (fun q => ?_)
  · have h := h.1 q
    refine lv_aload_n hC.1 hC.2.1 d_Model_height_58 rfl (lv_at hl 0 rfl) ?_
    refine gf_Model_16 hC hK hP hst d_Model_height_59 ?_
    refine xi_bipush hC d_Model_height_62 (by decide) ?_
    refine lv_iload_n hC.1 hC.2.1 d_Model_height_64 rfl (lv_at hl 1 rfl) ?_
    refine xi_mul hC d_Model_height_65 ?_
    refine lv_iload_n hC.1 hC.2.1 d_Model_height_66 rfl (lv_at hl 2 rfl) ?_
    refine xi_add hC d_Model_height_67 ?_
    obtain ⟨hi, h⟩ := h
    refine xg_ald hC hK hP aN_heights (by decide) hi d_Model_height_68 ?_
    refine xi_top (fun v5_3 ev5_3 => ?_)
    have h := h v5_3 ev5_3
    refine lv_istore (lv' := [(5, iv v5_3), (0, .ref (b + 0)), (1, iv x1), (2, iv x2), (3, iv x3)]) hC.1 hC.2.1 d_Model_height_69 hl (by decide) rfl (fun ls hl => ?_)
    refine lv_aload_n hC.1 hC.2.1 d_Model_height_71 rfl (lv_at hl 1 rfl) ?_
    refine gf_Model_16 hC hK hP hst d_Model_height_72 ?_
    refine xi_bipush hC d_Model_height_75 (by decide) ?_
    refine lv_iload_n hC.1 hC.2.1 d_Model_height_77 rfl (lv_at hl 2 rfl) ?_
    refine xi_mul hC d_Model_height_78 ?_
    refine lv_iload_n hC.1 hC.2.1 d_Model_height_79 rfl (lv_at hl 3 rfl) ?_
    refine xi_add hC d_Model_height_80 ?_
    refine lv_iload_n hC.1 hC.2.1 d_Model_height_81 rfl (lv_at hl 4 rfl) ?_
    obtain ⟨hi, h⟩ := h
    refine xg_ast hC hK hP hS aN_heights (by decide) hi d_Model_height_82 (fun H locs hP hS => ?_)
    obtain ⟨M_4, eM_4⟩ : ∃ y : Mem, y = up M_2 3 ((28 * x1) + x2).toNat x3 := ⟨_, rfl⟩
    rw [← eM_4] at hP
    have h := h M_4 eM_4
    refine lv_aload_n hC.1 hC.2.1 d_Model_height_83 rfl (lv_at hl 1 rfl) ?_
    refine xi_const hC d_Model_height_84 ?_
    refine pf_Model_75 hC hK hP hS hst (by decide) d_Model_height_85 (fun H locs hP hS => ?_)
    obtain ⟨M_5, eM_5⟩ : ∃ y : Mem, y = up M_4 0 11 0 := ⟨_, rfl⟩
    rw [← eM_5] at hP
    have h := h M_5 eM_5
    refine lv_iload hC.1 hC.2.1 d_Model_height_88 (lv_at hl 0 rfl) ?_
    exact xr_i hC hr hlocks hK hP hS h d_Model_height_90
  · have h := h.2 q
    refine xi_const hC d_Model_height_56 ?_
    exact xr_i hC hr hlocks hK hP hS h d_Model_height_57
set_option maxHeartbeats 4000000 in
theorem s_Model_height_29 {p : Program} {l : Launch} {e : Env} {s : State} {m : MethodId} {args : Array Value} {below : List Frame} {meth : Method} {c : Code} {D : va_G} {g : Nat → ClassId} {b sz : Nat} (hC : Cx p m c b_Model_height 6 s args "EdgeJoinsModel") (hr : meth.sig.returnType = some .int) (hlocks : meth.locks = false) (hK : va_K D classes (tyG g) s) (hst : sC (rA b 14 sz) s s.heap) (hz : sz ≤ s.heap.size) {Post : Int → Mem → Prop} : ∀ (x1 x2 x3 t0 : Int) (M0 : Mem) (H : Heap) (locs : List Loc) (ls : Array Slot), wp_Model_height_29 x1 x2 x3 t0 M0 Post → va_P D classes (wsG b 14 (cellN b g) M0) H → va_S (rA b 14 sz) s.heap H locs → lv_has ls 6 [(0, .ref (b + 0)), (1, iv x1), (2, iv x2), (3, iv x3)] → W p l e ({ frames := 2, cells := 0, slots := 0, locals := 43 }) s m args below meth c H locs 0 0 (MQ below (QI D g b 14 (cellN b g) sz Post) args s 0 0 (rA b 14 sz)) (F0 m 29 ls [iv t0]) := by
  intro x1 x2 x3 t0 M0 H locs ls h hP hS hl
  unfold wp_Model_height_29 at h
  refine lv_istore (lv' := [(4, iv t0), (0, .ref (b + 0)), (1, iv x1), (2, iv x2), (3, iv x3)]) hC.1 hC.2.1 d_Model_height_29 hl (by decide) rfl (fun ls hl => ?_)
  refine lv_aload_n hC.1 hC.2.1 d_Model_height_31 rfl (lv_at hl 1 rfl) ?_
  refine lv_iload hC.1 hC.2.1 d_Model_height_32 (lv_at hl 0 rfl) ?_
  refine lv_iload_n hC.1 hC.2.1 d_Model_height_34 rfl (lv_at hl 4 rfl) ?_
  refine xi_const hC d_Model_height_35 ?_
  refine xi_bipush hC d_Model_height_36 (by decide) ?_
  refine xk_SP (As := [iv x3, iv 0, iv 99]) (rest := [iv t0, .ref (b + 0)]) hC hK hP hS hst hz hl.1 lk_Model_63 rfl rfl rfl ⟨Nat.le_of_ble_eq_true rfl, Nat.le_of_ble_eq_true rfl⟩ (fun sz' => c_Model_in l D g b sz' h) d_Model_height_38 rfl (Nat.le_of_ble_eq_true rfl) ⟨Nat.le_of_ble_eq_true rfl, Nat.le_of_ble_eq_true rfl⟩ (fun r_1 h => ?_)
  try dsimp only at h
  obtain ⟨b0, h⟩ := h
  refine xi_ine hC (tgt := 48) d_Model_height_41 (by decide) b0 (fun q => ?_) (fun q => ?_)
  · have h := h.1 q
    refine xi_const hC d_Model_height_48 ?_
    exact s_Model_height_49 hC hr hlocks hK hst hz _ _ _ _ _ _ _ _ _ h hP hS (lv_sub hl [1, 2, 3, 4] rfl)
  · have h := h.2 q
    refine xi_const hC d_Model_height_44 ?_
    refine lv_goto (tgt := 49) hC.1 hC.2.1 d_Model_height_45 (by decide) ?_
    exact s_Model_height_49 hC hr hlocks hK hst hz _ _ _ _ _ _ _ _ _ h hP hS (lv_sub hl [1, 2, 3, 4] rfl)
set_option maxHeartbeats 4000000 in
theorem s_Model_height_24 {p : Program} {l : Launch} {e : Env} {s : State} {m : MethodId} {args : Array Value} {below : List Frame} {meth : Method} {c : Code} {D : va_G} {g : Nat → ClassId} {b sz : Nat} (hC : Cx p m c b_Model_height 6 s args "EdgeJoinsModel") (hr : meth.sig.returnType = some .int) (hlocks : meth.locks = false) (hK : va_K D classes (tyG g) s) (hst : sC (rA b 14 sz) s s.heap) (hz : sz ≤ s.heap.size) {Post : Int → Mem → Prop} : ∀ (x1 x2 x3 : Int) (M0 : Mem) (H : Heap) (locs : List Loc) (ls : Array Slot), wp_Model_height_24 x1 x2 x3 M0 Post → va_P D classes (wsG b 14 (cellN b g) M0) H → va_S (rA b 14 sz) s.heap H locs → lv_has ls 6 [(0, .ref (b + 0)), (1, iv x1), (2, iv x2), (3, iv x3)] → W p l e ({ frames := 2, cells := 0, slots := 0, locals := 43 }) s m args below meth c H locs 0 0 (MQ below (QI D g b 14 (cellN b g) sz Post) args s 0 0 (rA b 14 sz)) (F0 m 24 ls []) := by
  intro x1 x2 x3 M0 H locs ls h hP hS hl
  unfold wp_Model_height_24 at h
  refine xi_const hC d_Model_height_24 ?_
  refine lv_goto (tgt := 29) hC.1 hC.2.1 d_Model_height_25 (by decide) ?_
  exact s_Model_height_29 hC hr hlocks hK hst hz _ _ _ _ _ _ _ _ h hP hS (lv_sub hl [0, 1, 2, 3] rfl)
set_option maxHeartbeats 4000000 in
theorem c_Model_height (l : Launch) (D : va_G) (g : Nat → ClassId) (b sz : Nat) {x1 x2 x3 : Int} {M0 : Mem} {Post : Int → Mem → Prop} (h : wp_Model_height x1 x2 x3 M0 Post) : Met l y_Model_height (Cond.code y_Model_height b_Model_height 6 (some .int) :: gd) ({ frames := 2, cells := 0, slots := 0, locals := 43 }) (PcG D g b 14 (cellN b g) sz M0 [.ref (b + 0), iv x1, iv x2, iv x3]) (QI D g b 14 (cellN b g) sz Post) 0 0 (rA b 14 sz) := by
  refine xm_start (by decide) rfl (Nat.le_of_ble_eq_true rfl) ?_
  intro p e s m below meth c ls H args hC hr hlocks hK hP hst hz hS hH hl
  have hl : lv_has ls 6 [(0, .ref (b + 0)), (1, iv x1), (2, iv x2), (3, iv x3)] := hl
  unfold wp_Model_height at h
  refine lv_aload_n hC.1 hC.2.1 d_Model_height_0 rfl (lv_at hl 0 rfl) ?_
  refine lv_iload_n hC.1 hC.2.1 d_Model_height_1 rfl (lv_at hl 1 rfl) ?_
  refine xk_VP (As := [iv x1]) (rest := []) hC hK hP hS hst hz hl.1 lk_Model_71 rfl rfl rfl ⟨Nat.le_of_ble_eq_true rfl, Nat.le_of_ble_eq_true rfl⟩ (rc_Model hK hP) (fun sz' => c_Model_isSherd l D g b sz' h) d_Model_height_2 rfl (Nat.le_of_ble_eq_true rfl) ⟨Nat.le_of_ble_eq_true rfl, Nat.le_of_ble_eq_true rfl⟩ (fun r_1 h => ?_)
  try dsimp only at h
  obtain ⟨b0, h⟩ := h
  refine xi_ieq hC (tgt := 24) d_Model_height_5 (by decide) b0 (fun q => ?_) (fun q => ?_)
  · have h := h.1 q
    exact s_Model_height_24 hC hr hlocks hK hst hz _ _ _ _ _ _ _ h hP hS (lv_sub hl [0, 1, 2, 3] rfl)
  · have h := h.2 q
    refine lv_iload_n hC.1 hC.2.1 d_Model_height_8 rfl (lv_at hl 2 rfl) ?_
    refine xi_const hC d_Model_height_9 ?_
    refine lv_aload_n hC.1 hC.2.1 d_Model_height_10 rfl (lv_at hl 0 rfl) ?_
    refine gf_Model_7 hC hK hP hst d_Model_height_11 ?_
    refine lv_iload_n hC.1 hC.2.1 d_Model_height_14 rfl (lv_at hl 1 rfl) ?_
    obtain ⟨hi, h⟩ := h
    refine xg_ald hC hK hP aN_sizes (by decide) hi d_Model_height_15 ?_
    refine xi_const hC d_Model_height_16 ?_
    refine xi_sub hC d_Model_height_17 ?_
    refine xk_SP (As := [iv x2, iv 0, iv ((M0 1 x1.toNat) - 1)]) (rest := []) hC hK hP hS hst hz hl.1 lk_Model_63 rfl rfl rfl ⟨Nat.le_of_ble_eq_true rfl, Nat.le_of_ble_eq_true rfl⟩ (fun sz' => c_Model_in l D g b sz' h) d_Model_height_18 rfl (Nat.le_of_ble_eq_true rfl) ⟨Nat.le_of_ble_eq_true rfl, Nat.le_of_ble_eq_true rfl⟩ (fun r_2 h => ?_)
    try dsimp only at h
    obtain ⟨b0, h⟩ := h
    refine xi_ine hC (tgt := 28) d_Model_height_21 (by decide) b0 (fun q => ?_) (fun q => ?_)
    · have h := h.1 q
      refine xi_const hC d_Model_height_28 ?_
      exact s_Model_height_29 hC hr hlocks hK hst hz _ _ _ _ _ _ _ _ h hP hS (lv_sub hl [0, 1, 2, 3] rfl)
    · have h := h.2 q
      exact s_Model_height_24 hC hr hlocks hK hst hz _ _ _ _ _ _ _ h hP hS (lv_sub hl [0, 1, 2, 3] rfl)
set_option maxHeartbeats 4000000 in
theorem c_Model_across (l : Launch) (D : va_G) (g : Nat → ClassId) (b sz : Nat) {x0 : Int} {M0 : Mem} {Post : Int → Prop} (h : wp_Model_across x0 M0 Post) : Met l y_Model_across (Cond.code y_Model_across b_Model_across 1 (some .int) :: gd) ({ frames := 0, cells := 0, slots := 0, locals := 0 }) (PcG D g b 14 (cellN b g) sz M0 [iv x0]) (QP Post) 0 0 nil_ := by
  refine xm_start (by decide) rfl (Nat.le_of_ble_eq_true rfl) ?_
  intro p e s m below meth c ls H args hC hr hlocks hK hP hst hz hS hH hl
  have hl : lv_has ls 1 [(0, iv x0)] := hl
  unfold wp_Model_across at h
  refine lv_iload_n hC.1 hC.2.1 d_Model_across_0 rfl (lv_at hl 0 rfl) ?_
  obtain ⟨b0, h⟩ := h
  refine xi_ine hC (tgt := 8) d_Model_across_1 (by decide) b0 (fun q => ?_) (fun q => ?_)
  · have h := h.1 q
    refine lv_iload_n hC.1 hC.2.1 d_Model_across_8 rfl (lv_at hl 0 rfl) ?_
    refine xi_const hC d_Model_across_9 ?_
    obtain ⟨b0, h⟩ := h
    refine xi_cne hC (tgt := 17) d_Model_across_10 (by decide) b0 (xl rfl) (fun q => ?_) (fun q => ?_)
    · have h := h.1 q
      refine xi_const hC d_Model_across_17 ?_
      exact xr_ip hC hr hlocks hH h d_Model_across_18
    · have h := h.2 q
      refine xi_const hC d_Model_across_13 ?_
      refine lv_goto (tgt := 18) hC.1 hC.2.1 d_Model_across_14 (by decide) ?_
      exact xr_ip hC hr hlocks hH h d_Model_across_18
  · have h := h.2 q
    refine xi_const hC d_Model_across_4 ?_
    refine lv_goto (tgt := 18) hC.1 hC.2.1 d_Model_across_5 (by decide) ?_
    exact xr_ip hC hr hlocks hH h d_Model_across_18
set_option maxHeartbeats 4000000 in
theorem c_Model_down (l : Launch) (D : va_G) (g : Nat → ClassId) (b sz : Nat) {x0 : Int} {M0 : Mem} {Post : Int → Prop} (h : wp_Model_down x0 M0 Post) : Met l y_Model_down (Cond.code y_Model_down b_Model_down 1 (some .int) :: gd) ({ frames := 0, cells := 0, slots := 0, locals := 0 }) (PcG D g b 14 (cellN b g) sz M0 [iv x0]) (QP Post) 0 0 nil_ := by
  refine xm_start (by decide) rfl (Nat.le_of_ble_eq_true rfl) ?_
  intro p e s m below meth c ls H args hC hr hlocks hK hP hst hz hS hH hl
  have hl : lv_has ls 1 [(0, iv x0)] := hl
  unfold wp_Model_down at h
  refine lv_iload_n hC.1 hC.2.1 d_Model_down_0 rfl (lv_at hl 0 rfl) ?_
  refine xi_const hC d_Model_down_1 ?_
  obtain ⟨b0, h⟩ := h
  refine xi_cne hC (tgt := 9) d_Model_down_2 (by decide) b0 (xl rfl) (fun q => ?_) (fun q => ?_)
  · have h := h.1 q
    refine lv_iload_n hC.1 hC.2.1 d_Model_down_9 rfl (lv_at hl 0 rfl) ?_
    refine xi_const hC d_Model_down_10 ?_
    obtain ⟨b0, h⟩ := h
    refine xi_cne hC (tgt := 18) d_Model_down_11 (by decide) b0 (xl rfl) (fun q => ?_) (fun q => ?_)
    · have h := h.1 q
      refine xi_const hC d_Model_down_18 ?_
      exact xr_ip hC hr hlocks hH h d_Model_down_19
    · have h := h.2 q
      refine xi_const hC d_Model_down_14 ?_
      refine lv_goto (tgt := 19) hC.1 hC.2.1 d_Model_down_15 (by decide) ?_
      exact xr_ip hC hr hlocks hH h d_Model_down_19
  · have h := h.2 q
    refine xi_const hC d_Model_down_5 ?_
    refine lv_goto (tgt := 19) hC.1 hC.2.1 d_Model_down_6 (by decide) ?_
    exact xr_ip hC hr hlocks hH h d_Model_down_19
set_option maxHeartbeats 4000000 in
theorem s_Model_corner_12 {p : Program} {l : Launch} {e : Env} {s : State} {m : MethodId} {args : Array Value} {below : List Frame} {meth : Method} {c : Code} {D : va_G} {g : Nat → ClassId} {b sz : Nat} (hC : Cx p m c b_Model_corner 4 s args "EdgeJoinsModel") (hr : meth.sig.returnType = none) (hlocks : meth.locks = false) (hK : va_K D classes (tyG g) s) (hst : sC (rA b 14 sz) s s.heap) (hz : sz ≤ s.heap.size) {Post : Mem → Prop} : ∀ (n : Nat) (x1 x2 x3 : Int) (M0 : Mem) (H : Heap) (locs : List Loc) (ls : Array Slot), wp_Model_corner_12 Post n x1 x2 x3 M0 → va_P D classes (wsG b 14 (cellN b g) M0) H → va_S (rA b 14 sz) s.heap H locs → lv_has ls 4 [(0, .ref (b + 0)), (1, iv x1), (2, iv x2), (3, iv x3)] → W p l e ({ frames := 1, cells := 0, slots := 0, locals := 20 }) s m args below meth c H locs 0 0 (MQ below (QV D g b 14 (cellN b g) sz Post) args s 0 0 (rA b 14 sz)) (F0 m 12 ls []) := by
  intro n
  induction n with
  | zero => intro x1 x2 x3 M0 H locs ls h; exact h.elim
  | succ n ih =>
  intro x1 x2 x3 M0 H locs ls h hP hS hl
  simp only [wp_Model_corner_12] at h
  refine lv_iload_n hC.1 hC.2.1 d_Model_corner_12 rfl (lv_at hl 3 rfl) ?_
  refine lv_iload_n hC.1 hC.2.1 d_Model_corner_13 rfl (lv_at hl 2 rfl) ?_
  obtain ⟨b0, h⟩ := h
  obtain ⟨b1, h⟩ := h
  refine xi_cge hC (tgt := 69) d_Model_corner_14 (by decide) b0 b1 (fun q => ?_) (fun q => ?_)
  · have h := h.1 q
    exact xr_v hC hr hlocks hK hP hS h d_Model_corner_69
  · have h := h.2 q
    refine lv_aload_n hC.1 hC.2.1 d_Model_corner_17 rfl (lv_at hl 0 rfl) ?_
    refine lv_dup hC.1 hC.2.1 d_Model_corner_18 rfl ?_
    refine gf_Model_79 hC hK hP hst d_Model_corner_19 ?_
    refine lv_aload_n hC.1 hC.2.1 d_Model_corner_22 rfl (lv_at hl 0 rfl) ?_
    refine gf_Model_13 hC hK hP hst d_Model_corner_23 ?_
    refine xi_bipush hC d_Model_corner_26 (by decide) ?_
    refine lv_iload_n hC.1 hC.2.1 d_Model_corner_28 rfl (lv_at hl 1 rfl) ?_
    refine xi_mul hC d_Model_corner_29 ?_
    refine lv_iload_n hC.1 hC.2.1 d_Model_corner_30 rfl (lv_at hl 3 rfl) ?_
    refine xi_add hC d_Model_corner_31 ?_
    obtain ⟨hi, h⟩ := h
    refine xg_ald hC hK hP aN_steps (by decide) hi d_Model_corner_32 ?_
    refine xk_SP (As := [iv (M0 2 ((28 * x1) + x3).toNat)]) (rest := [iv (M0 0 19), .ref (b + 0)]) hC hK hP hS hst hz hl.1 lk_Model_85 rfl rfl rfl ⟨Nat.le_of_ble_eq_true rfl, Nat.le_of_ble_eq_true rfl⟩ (fun sz' => c_Model_across l D g b sz' h) d_Model_corner_33 rfl (Nat.le_of_ble_eq_true rfl) ⟨Nat.le_of_ble_eq_true rfl, Nat.le_of_ble_eq_true rfl⟩ (fun r_1 h => ?_)
    try dsimp only at h
    refine xi_add hC d_Model_corner_36 ?_
    refine pf_Model_79 hC hK hP hS hst d_Model_corner_37 (fun H locs hP hS => ?_)
    obtain ⟨M_2, eM_2⟩ : ∃ y : Mem, y = up M0 0 19 ((M0 0 19) + r_1) := ⟨_, rfl⟩
    rw [← eM_2] at hP
    have h := h M_2 eM_2
    refine lv_aload_n hC.1 hC.2.1 d_Model_corner_40 rfl (lv_at hl 0 rfl) ?_
    refine lv_dup hC.1 hC.2.1 d_Model_corner_41 rfl ?_
    refine gf_Model_82 hC hK hP hst d_Model_corner_42 ?_
    refine lv_aload_n hC.1 hC.2.1 d_Model_corner_45 rfl (lv_at hl 0 rfl) ?_
    refine gf_Model_13 hC hK hP hst d_Model_corner_46 ?_
    refine xi_bipush hC d_Model_corner_49 (by decide) ?_
    refine lv_iload_n hC.1 hC.2.1 d_Model_corner_51 rfl (lv_at hl 1 rfl) ?_
    refine xi_mul hC d_Model_corner_52 ?_
    refine lv_iload_n hC.1 hC.2.1 d_Model_corner_53 rfl (lv_at hl 3 rfl) ?_
    refine xi_add hC d_Model_corner_54 ?_
    obtain ⟨hi, h⟩ := h
    refine xg_ald hC hK hP aN_steps (by decide) hi d_Model_corner_55 ?_
    refine xk_SP (As := [iv (M_2 2 ((28 * x1) + x3).toNat)]) (rest := [iv (M_2 0 20), .ref (b + 0)]) hC hK hP hS hst hz hl.1 lk_Model_89 rfl rfl rfl ⟨Nat.le_of_ble_eq_true rfl, Nat.le_of_ble_eq_true rfl⟩ (fun sz' => c_Model_down l D g b sz' h) d_Model_corner_56 rfl (Nat.le_of_ble_eq_true rfl) ⟨Nat.le_of_ble_eq_true rfl, Nat.le_of_ble_eq_true rfl⟩ (fun r_3 h => ?_)
    try dsimp only at h
    refine xi_add hC d_Model_corner_59 ?_
    refine pf_Model_82 hC hK hP hS hst d_Model_corner_60 (fun H locs hP hS => ?_)
    obtain ⟨M_4, eM_4⟩ : ∃ y : Mem, y = up M_2 0 20 ((M_2 0 20) + r_3) := ⟨_, rfl⟩
    rw [← eM_4] at hP
    have h := h M_4 eM_4
    obtain ⟨v3_5, ev3_5⟩ : ∃ y : Int, y = x3 + 1 := ⟨_, rfl⟩
    have h := h v3_5 ev3_5
    refine xi_iinc (v := v3_5) (lv' := [(3, iv v3_5), (0, .ref (b + 0)), (1, iv x1), (2, iv x2)]) hC d_Model_corner_63 hl (k := 3) rfl ev3_5 (by decide) rfl (fun ls hl => ?_)
    refine lv_goto (tgt := 12) hC.1 hC.2.1 d_Model_corner_66 (by decide) ?_
    exact ih _ _ _ _ _ _ _ h hP hS (lv_sub hl [1, 2, 3, 0] rfl)
set_option maxHeartbeats 4000000 in
theorem c_Model_corner (l : Launch) (D : va_G) (g : Nat → ClassId) (b sz : Nat) {x1 x2 : Int} {M0 : Mem} {Post : Mem → Prop} (h : wp_Model_corner x1 x2 M0 Post) : Met l y_Model_corner (Cond.code y_Model_corner b_Model_corner 4 (none) :: gd) ({ frames := 1, cells := 0, slots := 0, locals := 20 }) (PcG D g b 14 (cellN b g) sz M0 [.ref (b + 0), iv x1, iv x2]) (QV D g b 14 (cellN b g) sz Post) 0 0 (rA b 14 sz) := by
  refine xm_start (by decide) rfl (Nat.le_of_ble_eq_true rfl) ?_
  intro p e s m below meth c ls H args hC hr hlocks hK hP hst hz hS hH hl
  have hl : lv_has ls 4 [(0, .ref (b + 0)), (1, iv x1), (2, iv x2)] := hl
  unfold wp_Model_corner at h
  refine lv_aload_n hC.1 hC.2.1 d_Model_corner_0 rfl (lv_at hl 0 rfl) ?_
  refine xi_const hC d_Model_corner_1 ?_
  refine pf_Model_79 hC hK hP hS hst d_Model_corner_2 (fun H locs hP hS => ?_)
  obtain ⟨M_1, eM_1⟩ : ∃ y : Mem, y = up M0 0 19 0 := ⟨_, rfl⟩
  rw [← eM_1] at hP
  have h := h M_1 eM_1
  refine lv_aload_n hC.1 hC.2.1 d_Model_corner_5 rfl (lv_at hl 0 rfl) ?_
  refine xi_const hC d_Model_corner_6 ?_
  refine pf_Model_82 hC hK hP hS hst d_Model_corner_7 (fun H locs hP hS => ?_)
  obtain ⟨M_2, eM_2⟩ : ∃ y : Mem, y = up M_1 0 20 0 := ⟨_, rfl⟩
  rw [← eM_2] at hP
  have h := h M_2 eM_2
  refine xi_const hC d_Model_corner_10 ?_
  refine lv_istore_n (lv' := [(3, iv 0), (0, .ref (b + 0)), (1, iv x1), (2, iv x2)]) hC.1 hC.2.1 d_Model_corner_11 rfl hl (by decide) rfl (fun ls hl => ?_)
  obtain ⟨nn, h⟩ := h
  exact s_Model_corner_12 hC hr hlocks hK hst hz nn _ _ _ _ _ _ _ h hP hS (lv_sub hl [1, 2, 3, 0] rfl)
set_option maxHeartbeats 4000000 in
theorem s_Model_isOnce_32 {p : Program} {l : Launch} {e : Env} {s : State} {m : MethodId} {args : Array Value} {below : List Frame} {meth : Method} {c : Code} {D : va_G} {g : Nat → ClassId} {b sz : Nat} (hC : Cx p m c b_Model_isOnce 6 s args "EdgeJoinsModel") (hr : meth.sig.returnType = some .boolean) (hlocks : meth.locks = false) (hK : va_K D classes (tyG g) s) (hst : sC (rA b 14 sz) s s.heap) (hz : sz ≤ s.heap.size) {Post : Int → Mem → Prop} {X2 : Int → Int → Mem → Prop} (hX2 : ∀ (x1 x2 : Int) (M0 : Mem) (H : Heap) (locs : List Loc) (ls : Array Slot), X2 x1 x2 M0 → va_P D classes (wsG b 14 (cellN b g) M0) H → va_S (rA b 14 sz) s.heap H locs → lv_has ls 6 [(0, .ref (b + 0)), (1, iv x1), (2, iv x2)] → W p l e ({ frames := 2, cells := 0, slots := 0, locals := 43 }) s m args below meth c H locs 0 0 (MQ below (QI D g b 14 (cellN b g) sz Post) args s 0 0 (rA b 14 sz)) (F0 m 2 ls [])) : ∀ (n : Nat) (x1 x2 x3 x4 x5 : Int) (M0 : Mem) (H : Heap) (locs : List Loc) (ls : Array Slot), wp_Model_isOnce_32 X2 Post n x1 x2 x3 x4 x5 M0 → va_P D classes (wsG b 14 (cellN b g) M0) H → va_S (rA b 14 sz) s.heap H locs → lv_has ls 6 [(0, .ref (b + 0)), (1, iv x1), (2, iv x2), (3, iv x3), (4, iv x4), (5, iv x5)] → W p l e ({ frames := 2, cells := 0, slots := 0, locals := 43 }) s m args below meth c H locs 0 0 (MQ below (QI D g b 14 (cellN b g) sz Post) args s 0 0 (rA b 14 sz)) (F0 m 32 ls []) := by
  intro n
  induction n with
  | zero => intro x1 x2 x3 x4 x5 M0 H locs ls h; exact h.elim
  | succ n ih =>
  intro x1 x2 x3 x4 x5 M0 H locs ls h hP hS hl
  simp only [wp_Model_isOnce_32] at h
  refine lv_iload hC.1 hC.2.1 d_Model_isOnce_32 (lv_at hl 5 rfl) ?_
  refine lv_iload_n hC.1 hC.2.1 d_Model_isOnce_34 rfl (lv_at hl 2 rfl) ?_
  obtain ⟨b0, h⟩ := h
  obtain ⟨b1, h⟩ := h
  refine xi_cge hC (tgt := 70) d_Model_isOnce_35 (by decide) b0 b1 (fun q => ?_) (fun q => ?_)
  · have h := h.1 q
    obtain ⟨v2_1, ev2_1⟩ : ∃ y : Int, y = x2 + 1 := ⟨_, rfl⟩
    have h := h v2_1 ev2_1
    refine xi_iinc (v := v2_1) (lv' := [(2, iv v2_1), (0, .ref (b + 0)), (1, iv x1), (3, iv x3), (4, iv x4), (5, iv x5)]) hC d_Model_isOnce_70 hl (k := 2) rfl ev2_1 (by decide) rfl (fun ls hl => ?_)
    refine lv_goto (tgt := 2) hC.1 hC.2.1 d_Model_isOnce_73 (by decide) ?_
    exact hX2 _ _ _ _ _ _ h hP hS (lv_sub hl [1, 2, 0] rfl)
  · have h := h.2 q
    refine lv_aload_n hC.1 hC.2.1 d_Model_isOnce_38 rfl (lv_at hl 0 rfl) ?_
    refine lv_iload_n hC.1 hC.2.1 d_Model_isOnce_39 rfl (lv_at hl 1 rfl) ?_
    refine lv_iload hC.1 hC.2.1 d_Model_isOnce_40 (lv_at hl 5 rfl) ?_
    refine xk_Vv (As := [iv x1, iv x5]) (rest := []) hC hK hP hS hst hz hl.1 lk_Model_92 rfl rfl rfl ⟨Nat.le_of_ble_eq_true rfl, Nat.le_of_ble_eq_true rfl⟩ (rc_Model hK hP) (fun sz' => c_Model_corner l D g b sz' h) d_Model_isOnce_42 rfl (Nat.le_of_ble_eq_true rfl) ⟨Nat.le_of_ble_eq_true rfl, Nat.le_of_ble_eq_true rfl⟩ (fun M_3 H locs h hP hS => ?_)
    try dsimp only at h
    refine lv_aload_n hC.1 hC.2.1 d_Model_isOnce_45 rfl (lv_at hl 0 rfl) ?_
    refine gf_Model_79 hC hK hP hst d_Model_isOnce_46 ?_
    refine lv_iload_n hC.1 hC.2.1 d_Model_isOnce_49 rfl (lv_at hl 3 rfl) ?_
    obtain ⟨b0, h⟩ := h
    obtain ⟨b1, h⟩ := h
    refine xi_cne hC (tgt := 64) d_Model_isOnce_50 (by decide) b0 b1 (fun q => ?_) (fun q => ?_)
    · have h := h.1 q
      obtain ⟨v5_4, ev5_4⟩ : ∃ y : Int, y = x5 + 1 := ⟨_, rfl⟩
      have h := h v5_4 ev5_4
      refine xi_iinc (v := v5_4) (lv' := [(5, iv v5_4), (0, .ref (b + 0)), (1, iv x1), (2, iv x2), (3, iv x3), (4, iv x4)]) hC d_Model_isOnce_64 hl (k := 5) rfl ev5_4 (by decide) rfl (fun ls hl => ?_)
      refine lv_goto (tgt := 32) hC.1 hC.2.1 d_Model_isOnce_67 (by decide) ?_
      exact ih _ _ _ _ _ _ _ _ _ h hP hS (lv_sub hl [1, 2, 3, 4, 5, 0] rfl)
    · have h := h.2 q
      refine lv_aload_n hC.1 hC.2.1 d_Model_isOnce_53 rfl (lv_at hl 0 rfl) ?_
      refine gf_Model_82 hC hK hP hst d_Model_isOnce_54 ?_
      refine lv_iload hC.1 hC.2.1 d_Model_isOnce_57 (lv_at hl 4 rfl) ?_
      obtain ⟨b0, h⟩ := h
      obtain ⟨b1, h⟩ := h
      refine xi_cne hC (tgt := 64) d_Model_isOnce_59 (by decide) b0 b1 (fun q => ?_) (fun q => ?_)
      · have h := h.1 q
        obtain ⟨v5_5, ev5_5⟩ : ∃ y : Int, y = x5 + 1 := ⟨_, rfl⟩
        have h := h v5_5 ev5_5
        refine xi_iinc (v := v5_5) (lv' := [(5, iv v5_5), (0, .ref (b + 0)), (1, iv x1), (2, iv x2), (3, iv x3), (4, iv x4)]) hC d_Model_isOnce_64 hl (k := 5) rfl ev5_5 (by decide) rfl (fun ls hl => ?_)
        refine lv_goto (tgt := 32) hC.1 hC.2.1 d_Model_isOnce_67 (by decide) ?_
        exact ih _ _ _ _ _ _ _ _ _ h hP hS (lv_sub hl [1, 2, 3, 4, 5, 0] rfl)
      · have h := h.2 q
        refine xi_const hC d_Model_isOnce_62 ?_
        exact xr_z hC hr hlocks hK hP hS (by decide) h d_Model_isOnce_63
set_option maxHeartbeats 4000000 in
theorem s_Model_isOnce_2 {p : Program} {l : Launch} {e : Env} {s : State} {m : MethodId} {args : Array Value} {below : List Frame} {meth : Method} {c : Code} {D : va_G} {g : Nat → ClassId} {b sz : Nat} (hC : Cx p m c b_Model_isOnce 6 s args "EdgeJoinsModel") (hr : meth.sig.returnType = some .boolean) (hlocks : meth.locks = false) (hK : va_K D classes (tyG g) s) (hst : sC (rA b 14 sz) s s.heap) (hz : sz ≤ s.heap.size) {Post : Int → Mem → Prop} : ∀ (n : Nat) (x1 x2 : Int) (M0 : Mem) (H : Heap) (locs : List Loc) (ls : Array Slot), wp_Model_isOnce_2 Post n x1 x2 M0 → va_P D classes (wsG b 14 (cellN b g) M0) H → va_S (rA b 14 sz) s.heap H locs → lv_has ls 6 [(0, .ref (b + 0)), (1, iv x1), (2, iv x2)] → W p l e ({ frames := 2, cells := 0, slots := 0, locals := 43 }) s m args below meth c H locs 0 0 (MQ below (QI D g b 14 (cellN b g) sz Post) args s 0 0 (rA b 14 sz)) (F0 m 2 ls []) := by
  intro n
  induction n with
  | zero => intro x1 x2 M0 H locs ls h; exact h.elim
  | succ n ih =>
  intro x1 x2 M0 H locs ls h hP hS hl
  simp only [wp_Model_isOnce_2] at h
  refine lv_iload_n hC.1 hC.2.1 d_Model_isOnce_2 rfl (lv_at hl 2 rfl) ?_
  refine lv_aload_n hC.1 hC.2.1 d_Model_isOnce_3 rfl (lv_at hl 0 rfl) ?_
  refine gf_Model_7 hC hK hP hst d_Model_isOnce_4 ?_
  refine lv_iload_n hC.1 hC.2.1 d_Model_isOnce_7 rfl (lv_at hl 1 rfl) ?_
  obtain ⟨hi, h⟩ := h
  refine xg_ald hC hK hP aN_sizes (by decide) hi d_Model_isOnce_8 ?_
  obtain ⟨b0, h⟩ := h
  obtain ⟨b1, h⟩ := h
  refine xi_cge hC (tgt := 76) d_Model_isOnce_9 (by decide) b0 b1 (fun q => ?_) (fun q => ?_)
  · have h := h.1 q
    refine lv_aload_n hC.1 hC.2.1 d_Model_isOnce_76 rfl (lv_at hl 0 rfl) ?_
    refine lv_iload_n hC.1 hC.2.1 d_Model_isOnce_77 rfl (lv_at hl 1 rfl) ?_
    refine lv_aload_n hC.1 hC.2.1 d_Model_isOnce_78 rfl (lv_at hl 0 rfl) ?_
    refine gf_Model_7 hC hK hP hst d_Model_isOnce_79 ?_
    refine lv_iload_n hC.1 hC.2.1 d_Model_isOnce_82 rfl (lv_at hl 1 rfl) ?_
    obtain ⟨hi, h⟩ := h
    refine xg_ald hC hK hP aN_sizes (by decide) hi d_Model_isOnce_83 ?_
    refine xk_Vv (As := [iv x1, iv (M0 1 x1.toNat)]) (rest := []) hC hK hP hS hst hz hl.1 lk_Model_92 rfl rfl rfl ⟨Nat.le_of_ble_eq_true rfl, Nat.le_of_ble_eq_true rfl⟩ (rc_Model hK hP) (fun sz' => c_Model_corner l D g b sz' h) d_Model_isOnce_84 rfl (Nat.le_of_ble_eq_true rfl) ⟨Nat.le_of_ble_eq_true rfl, Nat.le_of_ble_eq_true rfl⟩ (fun M_2 H locs h hP hS => ?_)
    try dsimp only at h
    refine lv_aload_n hC.1 hC.2.1 d_Model_isOnce_87 rfl (lv_at hl 0 rfl) ?_
    refine gf_Model_79 hC hK hP hst d_Model_isOnce_88 ?_
    obtain ⟨b0, h⟩ := h
    refine xi_ine hC (tgt := 105) d_Model_isOnce_91 (by decide) b0 (fun q => ?_) (fun q => ?_)
    · have h := h.1 q
      refine xi_const hC d_Model_isOnce_105 ?_
      exact xr_z hC hr hlocks hK hP hS (by decide) h d_Model_isOnce_106
    · have h := h.2 q
      refine lv_aload_n hC.1 hC.2.1 d_Model_isOnce_94 rfl (lv_at hl 0 rfl) ?_
      refine gf_Model_82 hC hK hP hst d_Model_isOnce_95 ?_
      obtain ⟨b0, h⟩ := h
      refine xi_ine hC (tgt := 105) d_Model_isOnce_98 (by decide) b0 (fun q => ?_) (fun q => ?_)
      · have h := h.1 q
        refine xi_const hC d_Model_isOnce_105 ?_
        exact xr_z hC hr hlocks hK hP hS (by decide) h d_Model_isOnce_106
      · have h := h.2 q
        refine xi_const hC d_Model_isOnce_101 ?_
        refine lv_goto (tgt := 106) hC.1 hC.2.1 d_Model_isOnce_102 (by decide) ?_
        exact xr_z hC hr hlocks hK hP hS (by decide) h d_Model_isOnce_106
  · have h := h.2 q
    refine lv_aload_n hC.1 hC.2.1 d_Model_isOnce_12 rfl (lv_at hl 0 rfl) ?_
    refine lv_iload_n hC.1 hC.2.1 d_Model_isOnce_13 rfl (lv_at hl 1 rfl) ?_
    refine lv_iload_n hC.1 hC.2.1 d_Model_isOnce_14 rfl (lv_at hl 2 rfl) ?_
    refine xk_Vv (As := [iv x1, iv x2]) (rest := []) hC hK hP hS hst hz hl.1 lk_Model_92 rfl rfl rfl ⟨Nat.le_of_ble_eq_true rfl, Nat.le_of_ble_eq_true rfl⟩ (rc_Model hK hP) (fun sz' => c_Model_corner l D g b sz' h) d_Model_isOnce_15 rfl (Nat.le_of_ble_eq_true rfl) ⟨Nat.le_of_ble_eq_true rfl, Nat.le_of_ble_eq_true rfl⟩ (fun M_4 H locs h hP hS => ?_)
    try dsimp only at h
    refine lv_aload_n hC.1 hC.2.1 d_Model_isOnce_18 rfl (lv_at hl 0 rfl) ?_
    refine gf_Model_79 hC hK hP hst d_Model_isOnce_19 ?_
    refine xi_top (fun v3_5 ev3_5 => ?_)
    have h := h v3_5 ev3_5
    refine lv_istore_n (lv' := [(3, iv v3_5), (0, .ref (b + 0)), (1, iv x1), (2, iv x2)]) hC.1 hC.2.1 d_Model_isOnce_22 rfl hl (by decide) rfl (fun ls hl => ?_)
    refine lv_aload_n hC.1 hC.2.1 d_Model_isOnce_23 rfl (lv_at hl 1 rfl) ?_
    refine gf_Model_82 hC hK hP hst d_Model_isOnce_24 ?_
    refine xi_top (fun v4_6 ev4_6 => ?_)
    have h := h v4_6 ev4_6
    refine lv_istore (lv' := [(4, iv v4_6), (3, iv v3_5), (0, .ref (b + 0)), (1, iv x1), (2, iv x2)]) hC.1 hC.2.1 d_Model_isOnce_27 hl (by decide) rfl (fun ls hl => ?_)
    refine xi_const hC d_Model_isOnce_29 ?_
    refine lv_istore (lv' := [(5, iv 0), (4, iv v4_6), (3, iv v3_5), (0, .ref (b + 0)), (1, iv x1), (2, iv x2)]) hC.1 hC.2.1 d_Model_isOnce_30 hl (by decide) rfl (fun ls hl => ?_)
    obtain ⟨nn, h⟩ := h
    exact s_Model_isOnce_32 hC hr hlocks hK hst hz ih nn _ _ _ _ _ _ _ _ _ h hP hS (lv_sub hl [3, 4, 5, 2, 1, 0] rfl)
set_option maxHeartbeats 4000000 in
theorem c_Model_isOnce (l : Launch) (D : va_G) (g : Nat → ClassId) (b sz : Nat) {x1 : Int} {M0 : Mem} {Post : Int → Mem → Prop} (h : wp_Model_isOnce x1 M0 Post) : Met l y_Model_isOnce (Cond.code y_Model_isOnce b_Model_isOnce 6 (some .boolean) :: gd) ({ frames := 2, cells := 0, slots := 0, locals := 43 }) (PcG D g b 14 (cellN b g) sz M0 [.ref (b + 0), iv x1]) (QI D g b 14 (cellN b g) sz Post) 0 0 (rA b 14 sz) := by
  refine xm_start (by decide) rfl (Nat.le_of_ble_eq_true rfl) ?_
  intro p e s m below meth c ls H args hC hr hlocks hK hP hst hz hS hH hl
  have hl : lv_has ls 6 [(0, .ref (b + 0)), (1, iv x1)] := hl
  unfold wp_Model_isOnce at h
  refine xi_const hC d_Model_isOnce_0 ?_
  refine lv_istore_n (lv' := [(2, iv 0), (0, .ref (b + 0)), (1, iv x1)]) hC.1 hC.2.1 d_Model_isOnce_1 rfl hl (by decide) rfl (fun ls hl => ?_)
  obtain ⟨nn, h⟩ := h
  exact s_Model_isOnce_2 hC hr hlocks hK hst hz nn _ _ _ _ _ _ h hP hS (lv_sub hl [1, 2, 0] rfl)
