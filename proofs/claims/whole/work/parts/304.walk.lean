set_option maxHeartbeats 4000000 in
theorem c_X_tryToJoin (l : Launch) (D : va_G) (g : Nat → ClassId) (b sz : Nat) {k1 : Nat} (hk1 : isP k1) {x2 x3 x4 : Int} {M0 : Mem} {Post : Int → Mem → Prop} (h : wp_X_tryToJoin k1 x2 x3 x4 M0 Post) : Met l y_X_tryToJoin (Cond.code y_X_tryToJoin b_X_tryToJoin 5 (some .int) :: gd) ({ frames := 4, cells := 0, slots := 0, locals := 98 }) (PcG D g b 174 (cellC b g) sz M0 [.ref (b + 0), .ref (b + k1), iv x2, iv x3, iv x4]) (QI D g b 174 (cellC b g) sz Post) 0 0 (rA b 174 sz) := by
  refine xm_start (by decide) rfl (Nat.le_of_ble_eq_true rfl) ?_
  intro p e s m below meth c ls H args hC hr hlocks hK hP hst hz hS hH hl
  have hl : lv_has ls 5 [(0, .ref (b + 0)), (1, .ref (b + k1)), (2, iv x2), (3, iv x3), (4, iv x4)] := hl
  unfold wp_X_tryToJoin at h
  refine lv_aload_n hC.1 hC.2.1 d_X_tryToJoin_0 rfl (lv_at hl 0 rfl) ?_
  refine gf_X_47 hC hK hP hst d_X_tryToJoin_1 ?_
  refine lv_aload_n hC.1 hC.2.1 d_X_tryToJoin_4 rfl (lv_at hl 0 rfl) ?_
  refine gf_X_22 hC hK hP hst d_X_tryToJoin_5 ?_
  refine an_LayArr hC hK hP d_X_tryToJoin_8 ?_
  obtain ⟨b0, h⟩ := h
  refine xi_clt hC (tgt := 14) d_X_tryToJoin_9 (by decide) b0 (xl rfl) (fun q => ?_) (fun q => ?_)
  · have h := h.1 q
    refine lv_aload_n hC.1 hC.2.1 d_X_tryToJoin_14 rfl (lv_at hl 0 rfl) ?_
    refine gf_X_22 hC hK hP hst d_X_tryToJoin_15 ?_
    refine lv_aload_n hC.1 hC.2.1 d_X_tryToJoin_18 rfl (lv_at hl 0 rfl) ?_
    refine gf_X_47 hC hK hP hst d_X_tryToJoin_19 ?_
    obtain ⟨hi, h⟩ := h
    refine al_LayArr hC hK hP hi d_X_tryToJoin_22 (fun hq_1 => ?_)
    refine lv_aload_n hC.1 hC.2.1 d_X_tryToJoin_23 rfl (lv_at hl 0 rfl) ?_
    refine gf_X_18 hC hK hP hst d_X_tryToJoin_24 ?_
    refine xk_Vv (As := [.ref (b + 2)]) (rest := []) hC hK hP hS hst hz hl.1 lk_X_177 rfl rfl rfl ⟨Nat.le_of_ble_eq_true rfl, Nat.le_of_ble_eq_true rfl⟩ (rc_Layout hK hP hq_1) (fun sz' => c_Layout_copy l D g b sz' hq_1 isL_2 h) d_X_tryToJoin_27 rfl (Nat.le_of_ble_eq_true rfl) ⟨Nat.le_of_ble_eq_true rfl, Nat.le_of_ble_eq_true rfl⟩ (fun M_3 H locs h hP hS => ?_)
    try dsimp only at h
    refine lv_aload_n hC.1 hC.2.1 d_X_tryToJoin_30 rfl (lv_at hl 0 rfl) ?_
    refine gf_X_18 hC hK hP hst d_X_tryToJoin_31 ?_
    refine lv_aload_n hC.1 hC.2.1 d_X_tryToJoin_34 rfl (lv_at hl 1 rfl) ?_
    refine gf_X_128 hC hK hP hst hk1 d_X_tryToJoin_35 ?_
    refine lv_iload_n hC.1 hC.2.1 d_X_tryToJoin_38 rfl (lv_at hl 2 rfl) ?_
    refine lv_iload_n hC.1 hC.2.1 d_X_tryToJoin_39 rfl (lv_at hl 3 rfl) ?_
    refine lv_iload hC.1 hC.2.1 d_X_tryToJoin_40 (lv_at hl 4 rfl) ?_
    refine xk_Vv (As := [iv (M_3 k1 2), iv x2, iv x3, iv x4]) (rest := []) hC hK hP hS hst hz hl.1 lk_X_245 rfl rfl rfl ⟨Nat.le_of_ble_eq_true rfl, Nat.le_of_ble_eq_true rfl⟩ (rc_Layout hK hP isL_2) (fun sz' => c_Layout_bring l D g b sz' isL_2 h) d_X_tryToJoin_42 rfl (Nat.le_of_ble_eq_true rfl) ⟨Nat.le_of_ble_eq_true rfl, Nat.le_of_ble_eq_true rfl⟩ (fun M_5 H locs h hP hS => ?_)
    try dsimp only at h
    refine lv_aload_n hC.1 hC.2.1 d_X_tryToJoin_45 rfl (lv_at hl 0 rfl) ?_
    refine gf_X_18 hC hK hP hst d_X_tryToJoin_46 ?_
    refine lv_aload_n hC.1 hC.2.1 d_X_tryToJoin_49 rfl (lv_at hl 1 rfl) ?_
    refine gf_X_120 hC hK hP hst hk1 d_X_tryToJoin_50 ?_
    refine lv_aload_n hC.1 hC.2.1 d_X_tryToJoin_53 rfl (lv_at hl 1 rfl) ?_
    refine gf_X_128 hC hK hP hst hk1 d_X_tryToJoin_54 ?_
    refine xk_Vv (As := [iv (M_5 k1 0), iv (M_5 k1 2)]) (rest := []) hC hK hP hS hst hz hl.1 lk_X_249 rfl rfl rfl ⟨Nat.le_of_ble_eq_true rfl, Nat.le_of_ble_eq_true rfl⟩ (rc_Layout hK hP isL_2) (fun sz' => c_Layout_unite l D g b sz' isL_2 h) d_X_tryToJoin_57 rfl (Nat.le_of_ble_eq_true rfl) ⟨Nat.le_of_ble_eq_true rfl, Nat.le_of_ble_eq_true rfl⟩ (fun M_7 H locs h hP hS => ?_)
    try dsimp only at h
    refine lv_aload_n hC.1 hC.2.1 d_X_tryToJoin_60 rfl (lv_at hl 0 rfl) ?_
    refine gf_X_36 hC hK hP hst d_X_tryToJoin_61 ?_
    refine lv_aload_n hC.1 hC.2.1 d_X_tryToJoin_64 rfl (lv_at hl 0 rfl) ?_
    refine gf_X_11 hC hK hP hst d_X_tryToJoin_65 ?_
    refine lv_aload_n hC.1 hC.2.1 d_X_tryToJoin_68 rfl (lv_at hl 0 rfl) ?_
    refine gf_X_18 hC hK hP hst d_X_tryToJoin_69 ?_
    refine lv_aload_n hC.1 hC.2.1 d_X_tryToJoin_72 rfl (lv_at hl 0 rfl) ?_
    refine gf_X_18 hC hK hP hst d_X_tryToJoin_73 ?_
    refine gf_X_166 hC hK hP hst isL_2 d_X_tryToJoin_76 ?_
    refine lv_aload_n hC.1 hC.2.1 d_X_tryToJoin_79 rfl (lv_at hl 1 rfl) ?_
    refine gf_X_120 hC hK hP hst hk1 d_X_tryToJoin_80 ?_
    obtain ⟨hi, h⟩ := h
    refine xg_ald hC hK hP (aL4 isL_2) (by decide) hi d_X_tryToJoin_83 ?_
    refine xk_Vv (As := [.ref (b + 1), .ref (b + 2), iv (M_7 (2 + 4) (M_7 k1 0).toNat)]) (rest := []) hC hK hP hS hst hz hl.1 lk_X_195 rfl rfl rfl ⟨Nat.le_of_ble_eq_true rfl, Nat.le_of_ble_eq_true rfl⟩ (rc_Board hK hP) (fun sz' => c_Board_lay l D g b sz' isL_2 h) d_X_tryToJoin_84 rfl (Nat.le_of_ble_eq_true rfl) ⟨Nat.le_of_ble_eq_true rfl, Nat.le_of_ble_eq_true rfl⟩ (fun M_9 H locs h hP hS => ?_)
    try dsimp only at h
    refine lv_aload_n hC.1 hC.2.1 d_X_tryToJoin_87 rfl (lv_at hl 0 rfl) ?_
    refine gf_X_36 hC hK hP hst d_X_tryToJoin_88 ?_
    refine xk_VP (As := []) (rest := []) hC hK hP hS hst hz hl.1 lk_X_253 rfl rfl rfl ⟨Nat.le_of_ble_eq_true rfl, Nat.le_of_ble_eq_true rfl⟩ (rc_Board hK hP) (fun sz' => c_Board_hasOverlap l D g b sz' h) d_X_tryToJoin_91 rfl (Nat.le_of_ble_eq_true rfl) ⟨Nat.le_of_ble_eq_true rfl, Nat.le_of_ble_eq_true rfl⟩ (fun r_10 h => ?_)
    try dsimp only at h
    obtain ⟨b0, h⟩ := h
    refine xi_ieq hC (tgt := 115) d_X_tryToJoin_94 (by decide) b0 (fun q => ?_) (fun q => ?_)
    · have h := h.1 q
      refine lv_aload_n hC.1 hC.2.1 d_X_tryToJoin_115 rfl (lv_at hl 0 rfl) ?_
      refine lv_dup hC.1 hC.2.1 d_X_tryToJoin_116 rfl ?_
      refine gf_X_47 hC hK hP hst d_X_tryToJoin_117 ?_
      refine xi_const hC d_X_tryToJoin_120 ?_
      refine xi_add hC d_X_tryToJoin_121 ?_
      refine pf_X_47 hC hK hP hS hst d_X_tryToJoin_122 (fun H locs hP hS => ?_)
      obtain ⟨M_11, eM_11⟩ : ∃ y : Mem, y = up M_9 0 7 ((M_9 0 7) + 1) := ⟨_, rfl⟩
      rw [← eM_11] at hP
      have h := h M_11 eM_11
      refine xi_const hC d_X_tryToJoin_125 ?_
      exact xr_i hC hr hlocks hK hP hS h d_X_tryToJoin_126
    · have h := h.2 q
      refine lv_aload_n hC.1 hC.2.1 d_X_tryToJoin_97 rfl (lv_at hl 0 rfl) ?_
      refine gf_X_18 hC hK hP hst d_X_tryToJoin_98 ?_
      refine lv_aload_n hC.1 hC.2.1 d_X_tryToJoin_101 rfl (lv_at hl 0 rfl) ?_
      refine gf_X_22 hC hK hP hst d_X_tryToJoin_102 ?_
      refine lv_aload_n hC.1 hC.2.1 d_X_tryToJoin_105 rfl (lv_at hl 0 rfl) ?_
      refine gf_X_47 hC hK hP hst d_X_tryToJoin_106 ?_
      obtain ⟨hi, h⟩ := h
      refine al_LayArr hC hK hP hi d_X_tryToJoin_109 (fun hq_12 => ?_)
      refine xk_Vv (As := [.ref (b + (119 + 10 * (M_9 0 7).toNat))]) (rest := []) hC hK hP hS hst hz hl.1 lk_X_177 rfl rfl rfl ⟨Nat.le_of_ble_eq_true rfl, Nat.le_of_ble_eq_true rfl⟩ (rc_Layout hK hP isL_2) (fun sz' => c_Layout_copy l D g b sz' isL_2 hq_12 h) d_X_tryToJoin_110 rfl (Nat.le_of_ble_eq_true rfl) ⟨Nat.le_of_ble_eq_true rfl, Nat.le_of_ble_eq_true rfl⟩ (fun M_14 H locs h hP hS => ?_)
      try dsimp only at h
      refine xi_const hC d_X_tryToJoin_113 ?_
      exact xr_i hC hr hlocks hK hP hS h d_X_tryToJoin_114
  · have h := h.2 q
    refine xi_const hC d_X_tryToJoin_12 ?_
    exact xr_i hC hr hlocks hK hP hS h d_X_tryToJoin_13
set_option maxHeartbeats 4000000 in
theorem c_X_undo (l : Launch) (D : va_G) (g : Nat → ClassId) (b sz : Nat) {M0 : Mem} {Post : Int → Mem → Prop} (h : wp_X_undo M0 Post) : Met l y_X_undo (Cond.code y_X_undo b_X_undo 1 (some .boolean) :: gd) ({ frames := 1, cells := 0, slots := 0, locals := 22 }) (PcG D g b 174 (cellC b g) sz M0 [.ref (b + 0)]) (QI D g b 174 (cellC b g) sz Post) 0 0 (rA b 174 sz) := by
  refine xm_start (by decide) rfl (Nat.le_of_ble_eq_true rfl) ?_
  intro p e s m below meth c ls H args hC hr hlocks hK hP hst hz hS hH hl
  have hl : lv_has ls 1 [(0, .ref (b + 0))] := hl
  unfold wp_X_undo at h
  refine lv_aload_n hC.1 hC.2.1 d_X_undo_0 rfl (lv_at hl 0 rfl) ?_
  refine gf_X_47 hC hK hP hst d_X_undo_1 ?_
  obtain ⟨b0, h⟩ := h
  refine xi_ine hC (tgt := 9) d_X_undo_4 (by decide) b0 (fun q => ?_) (fun q => ?_)
  · have h := h.1 q
    refine lv_aload_n hC.1 hC.2.1 d_X_undo_9 rfl (lv_at hl 0 rfl) ?_
    refine lv_dup hC.1 hC.2.1 d_X_undo_10 rfl ?_
    refine gf_X_47 hC hK hP hst d_X_undo_11 ?_
    refine xi_const hC d_X_undo_14 ?_
    refine xi_sub hC d_X_undo_15 ?_
    refine pf_X_47 hC hK hP hS hst d_X_undo_16 (fun H locs hP hS => ?_)
    obtain ⟨M_1, eM_1⟩ : ∃ y : Mem, y = up M0 0 7 ((M0 0 7) - 1) := ⟨_, rfl⟩
    rw [← eM_1] at hP
    have h := h M_1 eM_1
    refine lv_aload_n hC.1 hC.2.1 d_X_undo_19 rfl (lv_at hl 0 rfl) ?_
    refine gf_X_18 hC hK hP hst d_X_undo_20 ?_
    refine lv_aload_n hC.1 hC.2.1 d_X_undo_23 rfl (lv_at hl 0 rfl) ?_
    refine gf_X_22 hC hK hP hst d_X_undo_24 ?_
    refine lv_aload_n hC.1 hC.2.1 d_X_undo_27 rfl (lv_at hl 0 rfl) ?_
    refine gf_X_47 hC hK hP hst d_X_undo_28 ?_
    obtain ⟨hi, h⟩ := h
    refine al_LayArr hC hK hP hi d_X_undo_31 (fun hq_2 => ?_)
    refine xk_Vv (As := [.ref (b + (119 + 10 * (M_1 0 7).toNat))]) (rest := []) hC hK hP hS hst hz hl.1 lk_X_177 rfl rfl rfl ⟨Nat.le_of_ble_eq_true rfl, Nat.le_of_ble_eq_true rfl⟩ (rc_Layout hK hP isL_2) (fun sz' => c_Layout_copy l D g b sz' isL_2 hq_2 h) d_X_undo_32 rfl (Nat.le_of_ble_eq_true rfl) ⟨Nat.le_of_ble_eq_true rfl, Nat.le_of_ble_eq_true rfl⟩ (fun M_4 H locs h hP hS => ?_)
    try dsimp only at h
    refine xi_const hC d_X_undo_35 ?_
    exact xr_z hC hr hlocks hK hP hS (by decide) h d_X_undo_36
  · have h := h.2 q
    refine xi_const hC d_X_undo_7 ?_
    exact xr_z hC hr hlocks hK hP hS (by decide) h d_X_undo_8
set_option maxHeartbeats 4000000 in
theorem c_Board_reach (l : Launch) (D : va_G) (g : Nat → ClassId) (b sz : Nat) {x1 x2 : Int} {M0 : Mem} {Post : Int → Mem → Prop} (h : wp_Board_reach x1 x2 M0 Post) : Met l y_Board_reach (Cond.code y_Board_reach b_Board_reach 3 (some .int) :: gd) ({ frames := 0, cells := 0, slots := 0, locals := 0 }) (PcG D g b 174 (cellC b g) sz M0 [.ref (b + 111), iv x1, iv x2]) (QI D g b 174 (cellC b g) sz Post) 0 0 (rA b 174 sz) := by
  refine xm_start (by decide) rfl (Nat.le_of_ble_eq_true rfl) ?_
  intro p e s m below meth c ls H args hC hr hlocks hK hP hst hz hS hH hl
  have hl : lv_has ls 3 [(0, .ref (b + 111)), (1, iv x1), (2, iv x2)] := hl
  unfold wp_Board_reach at h
  refine lv_iload_n hC.1 hC.2.1 d_Board_reach_0 rfl (lv_at hl 1 rfl) ?_
  obtain ⟨b0, h⟩ := h
  refine xi_ilt hC (tgt := 28) d_Board_reach_1 (by decide) b0 (fun q => ?_) (fun q => ?_)
  · have h := h.1 q
    refine lv_iload_n hC.1 hC.2.1 d_Board_reach_28 rfl (lv_at hl 2 rfl) ?_
    exact xr_i hC hr hlocks hK hP hS h d_Board_reach_29
  · have h := h.2 q
    refine lv_iload_n hC.1 hC.2.1 d_Board_reach_4 rfl (lv_at hl 1 rfl) ?_
    refine lv_aload_n hC.1 hC.2.1 d_Board_reach_5 rfl (lv_at hl 0 rfl) ?_
    refine gf_Board_22 hC hK hP hst d_Board_reach_6 ?_
    obtain ⟨b0, h⟩ := h
    obtain ⟨b1, h⟩ := h
    refine xi_cge hC (tgt := 28) d_Board_reach_9 (by decide) b0 b1 (fun q => ?_) (fun q => ?_)
    · have h := h.1 q
      refine lv_iload_n hC.1 hC.2.1 d_Board_reach_28 rfl (lv_at hl 2 rfl) ?_
      exact xr_i hC hr hlocks hK hP hS h d_Board_reach_29
    · have h := h.2 q
      refine lv_iload_n hC.1 hC.2.1 d_Board_reach_12 rfl (lv_at hl 2 rfl) ?_
      refine xi_sipush hC d_Board_reach_13 (by decide) ?_
      obtain ⟨b0, h⟩ := h
      refine xi_cge hC (tgt := 28) d_Board_reach_16 (by decide) b0 (xl rfl) (fun q => ?_) (fun q => ?_)
      · have h := h.1 q
        refine lv_iload_n hC.1 hC.2.1 d_Board_reach_28 rfl (lv_at hl 2 rfl) ?_
        exact xr_i hC hr hlocks hK hP hS h d_Board_reach_29
      · have h := h.2 q
        refine lv_aload_n hC.1 hC.2.1 d_Board_reach_19 rfl (lv_at hl 0 rfl) ?_
        refine gf_Board_11 hC hK hP hst d_Board_reach_20 ?_
        refine lv_iload_n hC.1 hC.2.1 d_Board_reach_23 rfl (lv_at hl 1 rfl) ?_
        obtain ⟨hi, h⟩ := h
        refine xg_ald hC hK hP aB1 (by decide) hi d_Board_reach_24 ?_
        obtain ⟨b0, h⟩ := h
        refine xi_ieq hC (tgt := 30) d_Board_reach_25 (by decide) b0 (fun q => ?_) (fun q => ?_)
        · have h := h.1 q
          refine lv_aload_n hC.1 hC.2.1 d_Board_reach_30 rfl (lv_at hl 0 rfl) ?_
          refine gf_Board_11 hC hK hP hst d_Board_reach_31 ?_
          refine lv_iload_n hC.1 hC.2.1 d_Board_reach_34 rfl (lv_at hl 1 rfl) ?_
          refine xi_const hC d_Board_reach_35 ?_
          obtain ⟨hi, h⟩ := h
          refine xg_ast hC hK hP hS aB1 (by decide) hi d_Board_reach_36 (fun H locs hP hS => ?_)
          obtain ⟨M_1, eM_1⟩ : ∃ y : Mem, y = up M0 112 x1.toNat (-1) := ⟨_, rfl⟩
          rw [← eM_1] at hP
          have h := h M_1 eM_1
          refine lv_aload_n hC.1 hC.2.1 d_Board_reach_37 rfl (lv_at hl 0 rfl) ?_
          refine gf_Board_15 hC hK hP hst d_Board_reach_38 ?_
          refine lv_iload_n hC.1 hC.2.1 d_Board_reach_41 rfl (lv_at hl 2 rfl) ?_
          refine lv_iload_n hC.1 hC.2.1 d_Board_reach_42 rfl (lv_at hl 1 rfl) ?_
          obtain ⟨hi, h⟩ := h
          refine xg_ast hC hK hP hS aB2 (by decide) hi d_Board_reach_43 (fun H locs hP hS => ?_)
          obtain ⟨M_2, eM_2⟩ : ∃ y : Mem, y = up M_1 113 x2.toNat x1 := ⟨_, rfl⟩
          rw [← eM_2] at hP
          have h := h M_2 eM_2
          refine lv_iload_n hC.1 hC.2.1 d_Board_reach_44 rfl (lv_at hl 2 rfl) ?_
          refine xi_const hC d_Board_reach_45 ?_
          refine xi_add hC d_Board_reach_46 ?_
          exact xr_i hC hr hlocks hK hP hS h d_Board_reach_47
        · have h := h.2 q
          refine lv_iload_n hC.1 hC.2.1 d_Board_reach_28 rfl (lv_at hl 2 rfl) ?_
          exact xr_i hC hr hlocks hK hP hS h d_Board_reach_29
set_option maxHeartbeats 4000000 in
theorem s_Board_flood_9 {p : Program} {l : Launch} {e : Env} {s : State} {m : MethodId} {args : Array Value} {below : List Frame} {meth : Method} {c : Code} {D : va_G} {g : Nat → ClassId} {b sz : Nat} (hC : Cx p m c b_Board_flood 4 s args "EdgeJoins$Board") (hr : meth.sig.returnType = none) (hlocks : meth.locks = false) (hK : va_K D classes (tyG g) s) (hst : sC (rA b 174 sz) s s.heap) (hz : sz ≤ s.heap.size) {Post : Mem → Prop} : ∀ (n : Nat) (x1 x2 : Int) (M0 : Mem) (H : Heap) (locs : List Loc) (ls : Array Slot), wp_Board_flood_9 Post n x1 x2 M0 → va_P D classes (wsG b 174 (cellC b g) M0) H → va_S (rA b 174 sz) s.heap H locs → lv_has ls 4 [(0, .ref (b + 111)), (1, iv x1), (2, iv x2)] → W p l e ({ frames := 1, cells := 0, slots := 0, locals := 22 }) s m args below meth c H locs 0 0 (MQ below (QV D g b 174 (cellC b g) sz Post) args s 0 0 (rA b 174 sz)) (F0 m 9 ls []) := by
  intro n
  induction n with
  | zero => intro x1 x2 M0 H locs ls h; exact h.elim
  | succ n ih =>
  intro x1 x2 M0 H locs ls h hP hS hl
  simp only [wp_Board_flood_9] at h
  refine lv_iload_n hC.1 hC.2.1 d_Board_flood_9 rfl (lv_at hl 2 rfl) ?_
  refine lv_iload_n hC.1 hC.2.1 d_Board_flood_10 rfl (lv_at hl 1 rfl) ?_
  obtain ⟨b0, h⟩ := h
  obtain ⟨b1, h⟩ := h
  refine xi_cge hC (tgt := 76) d_Board_flood_11 (by decide) b0 b1 (fun q => ?_) (fun q => ?_)
  · have h := h.1 q
    exact xr_v hC hr hlocks hK hP hS h d_Board_flood_76
  · have h := h.2 q
    refine lv_iload_n hC.1 hC.2.1 d_Board_flood_14 rfl (lv_at hl 2 rfl) ?_
    refine xi_sipush hC d_Board_flood_15 (by decide) ?_
    obtain ⟨b0, h⟩ := h
    refine xi_cge hC (tgt := 76) d_Board_flood_18 (by decide) b0 (xl rfl) (fun q => ?_) (fun q => ?_)
    · have h := h.1 q
      exact xr_v hC hr hlocks hK hP hS h d_Board_flood_76
    · have h := h.2 q
      refine lv_aload_n hC.1 hC.2.1 d_Board_flood_21 rfl (lv_at hl 0 rfl) ?_
      refine gf_Board_15 hC hK hP hst d_Board_flood_22 ?_
      refine lv_iload_n hC.1 hC.2.1 d_Board_flood_25 rfl (lv_at hl 2 rfl) ?_
      obtain ⟨hi, h⟩ := h
      refine xg_ald hC hK hP aB2 (by decide) hi d_Board_flood_26 ?_
      refine xi_top (fun v3_1 ev3_1 => ?_)
      have h := h v3_1 ev3_1
      refine lv_istore_n (lv' := [(3, iv v3_1), (0, .ref (b + 111)), (1, iv x1), (2, iv x2)]) hC.1 hC.2.1 d_Board_flood_27 rfl hl (by decide) rfl (fun ls hl => ?_)
      refine lv_aload_n hC.1 hC.2.1 d_Board_flood_28 rfl (lv_at hl 1 rfl) ?_
      refine lv_iload_n hC.1 hC.2.1 d_Board_flood_29 rfl (lv_at hl 0 rfl) ?_
      refine xi_const hC d_Board_flood_30 ?_
      refine xi_add hC d_Board_flood_31 ?_
      refine lv_iload_n hC.1 hC.2.1 d_Board_flood_32 rfl (lv_at hl 2 rfl) ?_
      refine xk_Vi (As := [iv (v3_1 + 1), iv x1]) (rest := []) hC hK hP hS hst hz hl.1 lk_Board_84 rfl rfl rfl ⟨Nat.le_of_ble_eq_true rfl, Nat.le_of_ble_eq_true rfl⟩ (rc_Board hK hP) (fun sz' => c_Board_reach l D g b sz' h) d_Board_flood_33 rfl (Nat.le_of_ble_eq_true rfl) ⟨Nat.le_of_ble_eq_true rfl, Nat.le_of_ble_eq_true rfl⟩ (fun r_2 M_3 H locs h hP hS => ?_)
      try dsimp only at h
      refine lv_istore_n (lv' := [(1, iv r_2), (3, iv v3_1), (0, .ref (b + 111)), (2, iv x2)]) hC.1 hC.2.1 d_Board_flood_36 rfl hl (by decide) rfl (fun ls hl => ?_)
      refine lv_aload_n hC.1 hC.2.1 d_Board_flood_37 rfl (lv_at hl 2 rfl) ?_
      refine lv_iload_n hC.1 hC.2.1 d_Board_flood_38 rfl (lv_at hl 1 rfl) ?_
      refine xi_const hC d_Board_flood_39 ?_
      refine xi_sub hC d_Board_flood_40 ?_
      refine lv_iload_n hC.1 hC.2.1 d_Board_flood_41 rfl (lv_at hl 0 rfl) ?_
      refine xk_Vi (As := [iv (v3_1 - 1), iv r_2]) (rest := []) hC hK hP hS hst hz hl.1 lk_Board_84 rfl rfl rfl ⟨Nat.le_of_ble_eq_true rfl, Nat.le_of_ble_eq_true rfl⟩ (rc_Board hK hP) (fun sz' => c_Board_reach l D g b sz' h) d_Board_flood_42 rfl (Nat.le_of_ble_eq_true rfl) ⟨Nat.le_of_ble_eq_true rfl, Nat.le_of_ble_eq_true rfl⟩ (fun r_4 M_5 H locs h hP hS => ?_)
      try dsimp only at h
      refine lv_istore_n (lv' := [(1, iv r_4), (3, iv v3_1), (0, .ref (b + 111)), (2, iv x2)]) hC.1 hC.2.1 d_Board_flood_45 rfl hl (by decide) rfl (fun ls hl => ?_)
      refine lv_aload_n hC.1 hC.2.1 d_Board_flood_46 rfl (lv_at hl 2 rfl) ?_
      refine lv_iload_n hC.1 hC.2.1 d_Board_flood_47 rfl (lv_at hl 1 rfl) ?_
      refine lv_aload_n hC.1 hC.2.1 d_Board_flood_48 rfl (lv_at hl 2 rfl) ?_
      refine gf_Board_68 hC hK hP hst d_Board_flood_49 ?_
      refine xi_add hC d_Board_flood_52 ?_
      refine lv_iload_n hC.1 hC.2.1 d_Board_flood_53 rfl (lv_at hl 0 rfl) ?_
      refine xk_Vi (As := [iv (v3_1 + (M_5 111 4)), iv r_4]) (rest := []) hC hK hP hS hst hz hl.1 lk_Board_84 rfl rfl rfl ⟨Nat.le_of_ble_eq_true rfl, Nat.le_of_ble_eq_true rfl⟩ (rc_Board hK hP) (fun sz' => c_Board_reach l D g b sz' h) d_Board_flood_54 rfl (Nat.le_of_ble_eq_true rfl) ⟨Nat.le_of_ble_eq_true rfl, Nat.le_of_ble_eq_true rfl⟩ (fun r_6 M_7 H locs h hP hS => ?_)
      try dsimp only at h
      refine lv_istore_n (lv' := [(1, iv r_6), (3, iv v3_1), (0, .ref (b + 111)), (2, iv x2)]) hC.1 hC.2.1 d_Board_flood_57 rfl hl (by decide) rfl (fun ls hl => ?_)
      refine lv_aload_n hC.1 hC.2.1 d_Board_flood_58 rfl (lv_at hl 2 rfl) ?_
      refine lv_iload_n hC.1 hC.2.1 d_Board_flood_59 rfl (lv_at hl 1 rfl) ?_
      refine lv_aload_n hC.1 hC.2.1 d_Board_flood_60 rfl (lv_at hl 2 rfl) ?_
      refine gf_Board_68 hC hK hP hst d_Board_flood_61 ?_
      refine xi_sub hC d_Board_flood_64 ?_
      refine lv_iload_n hC.1 hC.2.1 d_Board_flood_65 rfl (lv_at hl 0 rfl) ?_
      refine xk_Vi (As := [iv (v3_1 - (M_7 111 4)), iv r_6]) (rest := []) hC hK hP hS hst hz hl.1 lk_Board_84 rfl rfl rfl ⟨Nat.le_of_ble_eq_true rfl, Nat.le_of_ble_eq_true rfl⟩ (rc_Board hK hP) (fun sz' => c_Board_reach l D g b sz' h) d_Board_flood_66 rfl (Nat.le_of_ble_eq_true rfl) ⟨Nat.le_of_ble_eq_true rfl, Nat.le_of_ble_eq_true rfl⟩ (fun r_8 M_9 H locs h hP hS => ?_)
      try dsimp only at h
      refine lv_istore_n (lv' := [(1, iv r_8), (3, iv v3_1), (0, .ref (b + 111)), (2, iv x2)]) hC.1 hC.2.1 d_Board_flood_69 rfl hl (by decide) rfl (fun ls hl => ?_)
      obtain ⟨v2_10, ev2_10⟩ : ∃ y : Int, y = x2 + 1 := ⟨_, rfl⟩
      have h := h v2_10 ev2_10
      refine xi_iinc (v := v2_10) (lv' := [(2, iv v2_10), (1, iv r_8), (3, iv v3_1), (0, .ref (b + 111))]) hC d_Board_flood_70 hl (k := 3) rfl ev2_10 (by decide) rfl (fun ls hl => ?_)
      refine lv_goto (tgt := 9) hC.1 hC.2.1 d_Board_flood_73 (by decide) ?_
      exact ih _ _ _ _ _ _ h hP hS (lv_sub hl [3, 1, 0] rfl)
set_option maxHeartbeats 4000000 in
theorem c_Board_flood (l : Launch) (D : va_G) (g : Nat → ClassId) (b sz : Nat) {M0 : Mem} {Post : Mem → Prop} (h : wp_Board_flood M0 Post) : Met l y_Board_flood (Cond.code y_Board_flood b_Board_flood 4 (none) :: gd) ({ frames := 1, cells := 0, slots := 0, locals := 22 }) (PcG D g b 174 (cellC b g) sz M0 [.ref (b + 111)]) (QV D g b 174 (cellC b g) sz Post) 0 0 (rA b 174 sz) := by
  refine xm_start (by decide) rfl (Nat.le_of_ble_eq_true rfl) ?_
  intro p e s m below meth c ls H args hC hr hlocks hK hP hst hz hS hH hl
  have hl : lv_has ls 4 [(0, .ref (b + 111))] := hl
  unfold wp_Board_flood at h
  refine lv_aload_n hC.1 hC.2.1 d_Board_flood_0 rfl (lv_at hl 0 rfl) ?_
  refine xi_const hC d_Board_flood_1 ?_
  refine xi_const hC d_Board_flood_2 ?_
  refine xk_Vi (As := [iv 0, iv 0]) (rest := []) hC hK hP hS hst hz hl.1 lk_Board_84 rfl rfl rfl ⟨Nat.le_of_ble_eq_true rfl, Nat.le_of_ble_eq_true rfl⟩ (rc_Board hK hP) (fun sz' => c_Board_reach l D g b sz' h) d_Board_flood_3 rfl (Nat.le_of_ble_eq_true rfl) ⟨Nat.le_of_ble_eq_true rfl, Nat.le_of_ble_eq_true rfl⟩ (fun r_1 M_2 H locs h hP hS => ?_)
  try dsimp only at h
  refine lv_istore_n (lv' := [(1, iv r_1), (0, .ref (b + 111))]) hC.1 hC.2.1 d_Board_flood_6 rfl hl (by decide) rfl (fun ls hl => ?_)
  refine xi_const hC d_Board_flood_7 ?_
  refine lv_istore_n (lv' := [(2, iv 0), (1, iv r_1), (0, .ref (b + 111))]) hC.1 hC.2.1 d_Board_flood_8 rfl hl (by decide) rfl (fun ls hl => ?_)
  obtain ⟨nn, h⟩ := h
  exact s_Board_flood_9 hC hr hlocks hK hst hz nn _ _ _ _ _ _ h hP hS (lv_sub hl [2, 1, 0] rfl)
set_option maxHeartbeats 4000000 in
theorem s_Board_enclosedCells_8 {p : Program} {l : Launch} {e : Env} {s : State} {m : MethodId} {args : Array Value} {below : List Frame} {meth : Method} {c : Code} {D : va_G} {g : Nat → ClassId} {b sz : Nat} (hC : Cx p m c b_Board_enclosedCells 3 s args "EdgeJoins$Board") (hr : meth.sig.returnType = some .int) (hlocks : meth.locks = false) (hK : va_K D classes (tyG g) s) (hst : sC (rA b 174 sz) s s.heap) (hz : sz ≤ s.heap.size) {Post : Int → Mem → Prop} : ∀ (n : Nat) (x1 x2 : Int) (M0 : Mem) (H : Heap) (locs : List Loc) (ls : Array Slot), wp_Board_enclosedCells_8 Post n x1 x2 M0 → va_P D classes (wsG b 174 (cellC b g) M0) H → va_S (rA b 174 sz) s.heap H locs → lv_has ls 3 [(0, .ref (b + 111)), (1, iv x1), (2, iv x2)] → W p l e ({ frames := 2, cells := 0, slots := 0, locals := 45 }) s m args below meth c H locs 0 0 (MQ below (QI D g b 174 (cellC b g) sz Post) args s 0 0 (rA b 174 sz)) (F0 m 8 ls []) := by
  intro n
  induction n with
  | zero => intro x1 x2 M0 H locs ls h; exact h.elim
  | succ n ih =>
  intro x1 x2 M0 H locs ls h hP hS hl
  simp only [wp_Board_enclosedCells_8] at h
  refine lv_iload_n hC.1 hC.2.1 d_Board_enclosedCells_8 rfl (lv_at hl 2 rfl) ?_
  refine lv_aload_n hC.1 hC.2.1 d_Board_enclosedCells_9 rfl (lv_at hl 0 rfl) ?_
  refine gf_Board_22 hC hK hP hst d_Board_enclosedCells_10 ?_
  obtain ⟨b0, h⟩ := h
  obtain ⟨b1, h⟩ := h
  refine xi_cge hC (tgt := 34) d_Board_enclosedCells_13 (by decide) b0 b1 (fun q => ?_) (fun q => ?_)
  · have h := h.1 q
    refine lv_iload_n hC.1 hC.2.1 d_Board_enclosedCells_34 rfl (lv_at hl 1 rfl) ?_
    exact xr_i hC hr hlocks hK hP hS h d_Board_enclosedCells_35
  · have h := h.2 q
    refine lv_aload_n hC.1 hC.2.1 d_Board_enclosedCells_16 rfl (lv_at hl 0 rfl) ?_
    refine gf_Board_11 hC hK hP hst d_Board_enclosedCells_17 ?_
    refine lv_iload_n hC.1 hC.2.1 d_Board_enclosedCells_20 rfl (lv_at hl 2 rfl) ?_
    obtain ⟨hi, h⟩ := h
    refine xg_ald hC hK hP aB1 (by decide) hi d_Board_enclosedCells_21 ?_
    obtain ⟨b0, h⟩ := h
    refine xi_ine hC (tgt := 28) d_Board_enclosedCells_22 (by decide) b0 (fun q => ?_) (fun q => ?_)
    · have h := h.1 q
      obtain ⟨v2_1, ev2_1⟩ : ∃ y : Int, y = x2 + 1 := ⟨_, rfl⟩
      have h := h v2_1 ev2_1
      refine xi_iinc (v := v2_1) (lv' := [(2, iv v2_1), (0, .ref (b + 111)), (1, iv x1)]) hC d_Board_enclosedCells_28 hl (k := 2) rfl ev2_1 (by decide) rfl (fun ls hl => ?_)
      refine lv_goto (tgt := 8) hC.1 hC.2.1 d_Board_enclosedCells_31 (by decide) ?_
      exact ih _ _ _ _ _ _ h hP hS (lv_sub hl [1, 2, 0] rfl)
    · have h := h.2 q
      obtain ⟨v1_2, ev1_2⟩ : ∃ y : Int, y = x1 + 1 := ⟨_, rfl⟩
      have h := h v1_2 ev1_2
      refine xi_iinc (v := v1_2) (lv' := [(1, iv v1_2), (0, .ref (b + 111)), (2, iv x2)]) hC d_Board_enclosedCells_25 hl (k := 1) rfl ev1_2 (by decide) rfl (fun ls hl => ?_)
      obtain ⟨v2_3, ev2_3⟩ : ∃ y : Int, y = x2 + 1 := ⟨_, rfl⟩
      have h := h v2_3 ev2_3
      refine xi_iinc (v := v2_3) (lv' := [(2, iv v2_3), (1, iv v1_2), (0, .ref (b + 111))]) hC d_Board_enclosedCells_28 hl (k := 2) rfl ev2_3 (by decide) rfl (fun ls hl => ?_)
      refine lv_goto (tgt := 8) hC.1 hC.2.1 d_Board_enclosedCells_31 (by decide) ?_
      exact ih _ _ _ _ _ _ h hP hS (lv_sub hl [2, 1, 0] rfl)
set_option maxHeartbeats 4000000 in
theorem c_Board_enclosedCells (l : Launch) (D : va_G) (g : Nat → ClassId) (b sz : Nat) {M0 : Mem} {Post : Int → Mem → Prop} (h : wp_Board_enclosedCells M0 Post) : Met l y_Board_enclosedCells (Cond.code y_Board_enclosedCells b_Board_enclosedCells 3 (some .int) :: gd) ({ frames := 2, cells := 0, slots := 0, locals := 45 }) (PcG D g b 174 (cellC b g) sz M0 [.ref (b + 111)]) (QI D g b 174 (cellC b g) sz Post) 0 0 (rA b 174 sz) := by
  refine xm_start (by decide) rfl (Nat.le_of_ble_eq_true rfl) ?_
  intro p e s m below meth c ls H args hC hr hlocks hK hP hst hz hS hH hl
  have hl : lv_has ls 3 [(0, .ref (b + 111))] := hl
  unfold wp_Board_enclosedCells at h
  refine lv_aload_n hC.1 hC.2.1 d_Board_enclosedCells_0 rfl (lv_at hl 0 rfl) ?_
  refine xk_Vv (As := []) (rest := []) hC hK hP hS hst hz hl.1 lk_Board_81 rfl rfl rfl ⟨Nat.le_of_ble_eq_true rfl, Nat.le_of_ble_eq_true rfl⟩ (rc_Board hK hP) (fun sz' => c_Board_flood l D g b sz' h) d_Board_enclosedCells_1 rfl (Nat.le_of_ble_eq_true rfl) ⟨Nat.le_of_ble_eq_true rfl, Nat.le_of_ble_eq_true rfl⟩ (fun M_2 H locs h hP hS => ?_)
  try dsimp only at h
  refine xi_const hC d_Board_enclosedCells_4 ?_
  refine lv_istore_n (lv' := [(1, iv 0), (0, .ref (b + 111))]) hC.1 hC.2.1 d_Board_enclosedCells_5 rfl hl (by decide) rfl (fun ls hl => ?_)
  refine xi_const hC d_Board_enclosedCells_6 ?_
  refine lv_istore_n (lv' := [(2, iv 0), (1, iv 0), (0, .ref (b + 111))]) hC.1 hC.2.1 d_Board_enclosedCells_7 rfl hl (by decide) rfl (fun ls hl => ?_)
  obtain ⟨nn, h⟩ := h
  exact s_Board_enclosedCells_8 hC hr hlocks hK hst hz nn _ _ _ _ _ _ h hP hS (lv_sub hl [2, 1, 0] rfl)
set_option maxHeartbeats 4000000 in
theorem c_Model_thrown (l : Launch) (D : va_G) (g : Nat → ClassId) (b sz : Nat) {M0 : Mem} {Post : Int → Prop} (h : wp_Model_thrown M0 Post) : Met l y_Model_thrown (Cond.code y_Model_thrown b_Model_thrown 1 (some .int) :: gd) ({ frames := 0, cells := 0, slots := 0, locals := 0 }) (PcG D g b 14 (cellN b g) sz M0 [.ref (b + 0)]) (QP Post) 0 0 nil_ := by
  refine xm_start (by decide) rfl (Nat.le_of_ble_eq_true rfl) ?_
  intro p e s m below meth c ls H args hC hr hlocks hK hP hst hz hS hH hl
  have hl : lv_has ls 1 [(0, .ref (b + 0))] := hl
  unfold wp_Model_thrown at h
  refine lv_aload_n hC.1 hC.2.1 d_Model_thrown_0 rfl (lv_at hl 0 rfl) ?_
  refine gf_Model_57 hC hK hP hst d_Model_thrown_1 ?_
  exact xr_ip hC hr hlocks hH h d_Model_thrown_4
set_option maxHeartbeats 4000000 in
theorem s_Model_throwing_26 {p : Program} {l : Launch} {e : Env} {s : State} {m : MethodId} {args : Array Value} {below : List Frame} {meth : Method} {c : Code} {D : va_G} {g : Nat → ClassId} {b sz : Nat} (hC : Cx p m c b_Model_throwing 4 s args "EdgeJoinsModel") (hr : meth.sig.returnType = some .boolean) (hlocks : meth.locks = false) (hK : va_K D classes (tyG g) s) (hst : sC (rA b 14 sz) s s.heap) (hz : sz ≤ s.heap.size) {Post : Int → Mem → Prop} : ∀ (t1 : Int) (M0 : Mem) (H : Heap) (locs : List Loc) (ls : Array Slot), wp_Model_throwing_26 t1 M0 Post → va_P D classes (wsG b 14 (cellN b g) M0) H → va_S (rA b 14 sz) s.heap H locs → lv_has ls 4 [(0, .ref (b + 0))] → W p l e ({ frames := 0, cells := 0, slots := 0, locals := 0 }) s m args below meth c H locs 0 0 (MQ below (QI D g b 14 (cellN b g) sz Post) args s 0 0 (rA b 14 sz)) (F0 m 26 ls [iv t1, .ref (b + 0)]) := by
  intro t1 M0 H locs ls h hP hS hl
  unfold wp_Model_throwing_26 at h
  refine pf_Model_57 hC hK hP hS hst d_Model_throwing_26 (fun H locs hP hS => ?_)
  obtain ⟨M_1, eM_1⟩ : ∃ y : Mem, y = up M0 0 0 t1 := ⟨_, rfl⟩
  rw [← eM_1] at hP
  have h := h M_1 eM_1
  refine lv_aload_n hC.1 hC.2.1 d_Model_throwing_29 rfl (lv_at hl 0 rfl) ?_
  refine gf_Model_57 hC hK hP hst d_Model_throwing_30 ?_
  obtain ⟨b0, h⟩ := h
  refine xi_ile hC (tgt := 40) d_Model_throwing_33 (by decide) b0 (fun q => ?_) (fun q => ?_)
  · have h := h.1 q
    refine xi_const hC d_Model_throwing_40 ?_
    exact xr_z hC hr hlocks hK hP hS (by decide) h d_Model_throwing_41
  · have h := h.2 q
    refine xi_const hC d_Model_throwing_36 ?_
    refine lv_goto (tgt := 41) hC.1 hC.2.1 d_Model_throwing_37 (by decide) ?_
    exact xr_z hC hr hlocks hK hP hS (by decide) h d_Model_throwing_41
set_option maxHeartbeats 4000000 in
theorem c_Model_throwing (l : Launch) (D : va_G) (g : Nat → ClassId) (b sz : Nat) {x1 x2 x3 : Int} {M0 : Mem} {Post : Int → Mem → Prop} (h : wp_Model_throwing x1 x2 x3 M0 Post) : Met l y_Model_throwing (Cond.code y_Model_throwing b_Model_throwing 4 (some .boolean) :: gd) ({ frames := 0, cells := 0, slots := 0, locals := 0 }) (PcG D g b 14 (cellN b g) sz M0 [.ref (b + 0), iv x1, iv x2, iv x3]) (QI D g b 14 (cellN b g) sz Post) 0 0 (rA b 14 sz) := by
  refine xm_start (by decide) rfl (Nat.le_of_ble_eq_true rfl) ?_
  intro p e s m below meth c ls H args hC hr hlocks hK hP hst hz hS hH hl
  have hl : lv_has ls 4 [(0, .ref (b + 0)), (1, iv x1), (2, iv x2), (3, iv x3)] := hl
  unfold wp_Model_throwing at h
  refine lv_aload_n hC.1 hC.2.1 d_Model_throwing_0 rfl (lv_at hl 0 rfl) ?_
  refine lv_iload_n hC.1 hC.2.1 d_Model_throwing_1 rfl (lv_at hl 1 rfl) ?_
  obtain ⟨b0, h⟩ := h
  refine xi_ieq hC (tgt := 9) d_Model_throwing_2 (by decide) b0 (fun q => ?_) (fun q => ?_)
  · have h := h.1 q
    refine lv_iload_n hC.1 hC.2.1 d_Model_throwing_9 rfl (lv_at hl 2 rfl) ?_
    obtain ⟨b0, h⟩ := h
    refine xi_ieq hC (tgt := 17) d_Model_throwing_10 (by decide) b0 (fun q => ?_) (fun q => ?_)
    · have h := h.1 q
      refine lv_iload_n hC.1 hC.2.1 d_Model_throwing_17 rfl (lv_at hl 3 rfl) ?_
      obtain ⟨b0, h⟩ := h
      refine xi_ieq hC (tgt := 25) d_Model_throwing_18 (by decide) b0 (fun q => ?_) (fun q => ?_)
      · have h := h.1 q
        refine xi_const hC d_Model_throwing_25 ?_
        exact s_Model_throwing_26 hC hr hlocks hK hst hz _ _ _ _ _ h hP hS (lv_sub hl [0] rfl)
      · have h := h.2 q
        refine xi_const hC d_Model_throwing_21 ?_
        refine lv_goto (tgt := 26) hC.1 hC.2.1 d_Model_throwing_22 (by decide) ?_
        exact s_Model_throwing_26 hC hr hlocks hK hst hz _ _ _ _ _ h hP hS (lv_sub hl [0] rfl)
    · have h := h.2 q
      refine xi_const hC d_Model_throwing_13 ?_
      refine lv_goto (tgt := 26) hC.1 hC.2.1 d_Model_throwing_14 (by decide) ?_
      exact s_Model_throwing_26 hC hr hlocks hK hst hz _ _ _ _ _ h hP hS (lv_sub hl [0] rfl)
  · have h := h.2 q
    refine xi_const hC d_Model_throwing_5 ?_
    refine lv_goto (tgt := 26) hC.1 hC.2.1 d_Model_throwing_6 (by decide) ?_
    exact s_Model_throwing_26 hC hr hlocks hK hst hz _ _ _ _ _ h hP hS (lv_sub hl [0] rfl)
set_option maxHeartbeats 4000000 in
theorem c_Model_in (l : Launch) (D : va_G) (g : Nat → ClassId) (b sz : Nat) {x0 x1 x2 : Int} {M0 : Mem} {Post : Int → Prop} (h : wp_Model_in x0 x1 x2 M0 Post) : Met l y_Model_in (Cond.code y_Model_in b_Model_in 3 (some .boolean) :: gd) ({ frames := 0, cells := 0, slots := 0, locals := 0 }) (PcG D g b 14 (cellN b g) sz M0 [iv x0, iv x1, iv x2]) (QP Post) 0 0 nil_ := by
  refine xm_start (by decide) rfl (Nat.le_of_ble_eq_true rfl) ?_
  intro p e s m below meth c ls H args hC hr hlocks hK hP hst hz hS hH hl
  have hl : lv_has ls 3 [(0, iv x0), (1, iv x1), (2, iv x2)] := hl
  unfold wp_Model_in at h
  refine lv_iload_n hC.1 hC.2.1 d_Model_in_0 rfl (lv_at hl 0 rfl) ?_
  refine lv_iload_n hC.1 hC.2.1 d_Model_in_1 rfl (lv_at hl 1 rfl) ?_
  obtain ⟨b0, h⟩ := h
  obtain ⟨b1, h⟩ := h
  refine xi_clt hC (tgt := 14) d_Model_in_2 (by decide) b0 b1 (fun q => ?_) (fun q => ?_)
  · have h := h.1 q
    refine xi_const hC d_Model_in_14 ?_
    exact xr_zp hC hr hlocks hH (by decide) h d_Model_in_15
  · have h := h.2 q
    refine lv_iload_n hC.1 hC.2.1 d_Model_in_5 rfl (lv_at hl 0 rfl) ?_
    refine lv_iload_n hC.1 hC.2.1 d_Model_in_6 rfl (lv_at hl 2 rfl) ?_
    obtain ⟨b0, h⟩ := h
    obtain ⟨b1, h⟩ := h
    refine xi_cgt hC (tgt := 14) d_Model_in_7 (by decide) b0 b1 (fun q => ?_) (fun q => ?_)
    · have h := h.1 q
      refine xi_const hC d_Model_in_14 ?_
      exact xr_zp hC hr hlocks hH (by decide) h d_Model_in_15
    · have h := h.2 q
      refine xi_const hC d_Model_in_10 ?_
      refine lv_goto (tgt := 15) hC.1 hC.2.1 d_Model_in_11 (by decide) ?_
      exact xr_zp hC hr hlocks hH (by decide) h d_Model_in_15
set_option maxHeartbeats 4000000 in
theorem c_Model_isSherd (l : Launch) (D : va_G) (g : Nat → ClassId) (b sz : Nat) {x1 : Int} {M0 : Mem} {Post : Int → Prop} (h : wp_Model_isSherd x1 M0 Post) : Met l y_Model_isSherd (Cond.code y_Model_isSherd b_Model_isSherd 2 (some .boolean) :: gd) ({ frames := 1, cells := 0, slots := 0, locals := 22 }) (PcG D g b 14 (cellN b g) sz M0 [.ref (b + 0), iv x1]) (QP Post) 0 0 nil_ := by
  refine xm_start (by decide) rfl (Nat.le_of_ble_eq_true rfl) ?_
  intro p e s m below meth c ls H args hC hr hlocks hK hP hst hz hS hH hl
  have hl : lv_has ls 2 [(0, .ref (b + 0)), (1, iv x1)] := hl
  unfold wp_Model_isSherd at h
  refine lv_iload_n hC.1 hC.2.1 d_Model_isSherd_0 rfl (lv_at hl 1 rfl) ?_
  refine xi_const hC d_Model_isSherd_1 ?_
  refine lv_aload_n hC.1 hC.2.1 d_Model_isSherd_2 rfl (lv_at hl 0 rfl) ?_
  refine gf_Model_60 hC hK hP hst d_Model_isSherd_3 ?_
  refine xi_const hC d_Model_isSherd_6 ?_
  refine xi_sub hC d_Model_isSherd_7 ?_
  refine xk_SP (As := [iv x1, iv 0, iv ((M0 0 1) - 1)]) (rest := []) hC hK hP hS hst hz hl.1 lk_Model_63 rfl rfl rfl ⟨Nat.le_of_ble_eq_true rfl, Nat.le_of_ble_eq_true rfl⟩ (fun sz' => c_Model_in l D g b sz' h) d_Model_isSherd_8 rfl (Nat.le_of_ble_eq_true rfl) ⟨Nat.le_of_ble_eq_true rfl, Nat.le_of_ble_eq_true rfl⟩ (fun r_1 h => ?_)
  try dsimp only at h
  exact xr_zp hC hr hlocks hH h.1 h.2 d_Model_isSherd_11
set_option maxHeartbeats 4000000 in
theorem s_Model_sherd_15 {p : Program} {l : Launch} {e : Env} {s : State} {m : MethodId} {args : Array Value} {below : List Frame} {meth : Method} {c : Code} {D : va_G} {g : Nat → ClassId} {b sz : Nat} (hC : Cx p m c b_Model_sherd 1 s args "EdgeJoinsModel") (hr : meth.sig.returnType = some .int) (hlocks : meth.locks = false) (hK : va_K D classes (tyG g) s) (hst : sC (rA b 14 sz) s s.heap) (hz : sz ≤ s.heap.size) {Post : Int → Mem → Prop} : ∀ (t1 : Int) (M0 : Mem) (H : Heap) (locs : List Loc) (ls : Array Slot), wp_Model_sherd_15 t1 M0 Post → va_P D classes (wsG b 14 (cellN b g) M0) H → va_S (rA b 14 sz) s.heap H locs → lv_has ls 1 [(0, .ref (b + 0))] → W p l e ({ frames := 1, cells := 0, slots := 0, locals := 23 }) s m args below meth c H locs 0 0 (MQ below (QI D g b 14 (cellN b g) sz Post) args s 0 0 (rA b 14 sz)) (F0 m 15 ls [iv t1, .ref (b + 0)]) := by
  intro t1 M0 H locs ls h hP hS hl
  unfold wp_Model_sherd_15 at h
  refine xi_const hC d_Model_sherd_15 ?_
  refine xi_const hC d_Model_sherd_16 ?_
  refine xk_Vi (As := [iv t1, iv 0, iv 0]) (rest := []) hC hK hP hS hst hz hl.1 lk_Model_67 rfl rfl rfl ⟨Nat.le_of_ble_eq_true rfl, Nat.le_of_ble_eq_true rfl⟩ (rc_Model hK hP) (fun sz' => c_Model_throwing l D g b sz' h) d_Model_sherd_17 rfl (Nat.le_of_ble_eq_true rfl) ⟨Nat.le_of_ble_eq_true rfl, Nat.le_of_ble_eq_true rfl⟩ (fun r_1 M_2 H locs h hP hS => ?_)
  try dsimp only at h
  obtain ⟨b0, h⟩ := h
  refine xi_ieq hC (tgt := 25) d_Model_sherd_20 (by decide) b0 (fun q => ?_) (fun q => ?_)
  · have h := h.1 q
    refine lv_aload_n hC.1 hC.2.1 d_Model_sherd_25 rfl (lv_at hl 0 rfl) ?_
    refine lv_dup hC.1 hC.2.1 d_Model_sherd_26 rfl ?_
    refine gf_Model_60 hC hK hP hst d_Model_sherd_27 ?_
    refine xi_const hC d_Model_sherd_30 ?_
    refine xi_add hC d_Model_sherd_31 ?_
    refine pf_Model_60 hC hK hP hS hst d_Model_sherd_32 (fun H locs hP hS => ?_)
    obtain ⟨M_3, eM_3⟩ : ∃ y : Mem, y = up M_2 0 1 ((M_2 0 1) + 1) := ⟨_, rfl⟩
    rw [← eM_3] at hP
    have h := h M_3 eM_3
    refine lv_aload_n hC.1 hC.2.1 d_Model_sherd_35 rfl (lv_at hl 0 rfl) ?_
    refine gf_Model_60 hC hK hP hst d_Model_sherd_36 ?_
    refine xi_const hC d_Model_sherd_39 ?_
    refine xi_sub hC d_Model_sherd_40 ?_
    exact xr_i hC hr hlocks hK hP hS h d_Model_sherd_41
  · have h := h.2 q
    refine xi_const hC d_Model_sherd_23 ?_
    exact xr_i hC hr hlocks hK hP hS h d_Model_sherd_24
set_option maxHeartbeats 4000000 in
theorem c_Model_sherd (l : Launch) (D : va_G) (g : Nat → ClassId) (b sz : Nat) {M0 : Mem} {Post : Int → Mem → Prop} (h : wp_Model_sherd M0 Post) : Met l y_Model_sherd (Cond.code y_Model_sherd b_Model_sherd 1 (some .int) :: gd) ({ frames := 1, cells := 0, slots := 0, locals := 23 }) (PcG D g b 14 (cellN b g) sz M0 [.ref (b + 0)]) (QI D g b 14 (cellN b g) sz Post) 0 0 (rA b 14 sz) := by
  refine xm_start (by decide) rfl (Nat.le_of_ble_eq_true rfl) ?_
  intro p e s m below meth c ls H args hC hr hlocks hK hP hst hz hS hH hl
  have hl : lv_has ls 1 [(0, .ref (b + 0))] := hl
  unfold wp_Model_sherd at h
  refine lv_aload_n hC.1 hC.2.1 d_Model_sherd_0 rfl (lv_at hl 0 rfl) ?_
  refine lv_aload_n hC.1 hC.2.1 d_Model_sherd_1 rfl (lv_at hl 0 rfl) ?_
  refine gf_Model_60 hC hK hP hst d_Model_sherd_2 ?_
  refine xi_bipush hC d_Model_sherd_5 (by decide) ?_
  obtain ⟨b0, h⟩ := h
  refine xi_cne hC (tgt := 14) d_Model_sherd_7 (by decide) b0 (xl rfl) (fun q => ?_) (fun q => ?_)
  · have h := h.1 q
    refine xi_const hC d_Model_sherd_14 ?_
    exact s_Model_sherd_15 hC hr hlocks hK hst hz _ _ _ _ _ h hP hS (lv_sub hl [0] rfl)
  · have h := h.2 q
    refine xi_const hC d_Model_sherd_10 ?_
    refine lv_goto (tgt := 15) hC.1 hC.2.1 d_Model_sherd_11 (by decide) ?_
    exact s_Model_sherd_15 hC hr hlocks hK hst hz _ _ _ _ _ h hP hS (lv_sub hl [0] rfl)
