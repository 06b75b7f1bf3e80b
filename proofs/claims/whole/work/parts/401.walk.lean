set_option maxHeartbeats 4000000 in
theorem c_X_place (l : Launch) (hfl : l.stackTraces = false) (D : va_G) (g : Nat → ClassId) (b sz : Nat) {x1 x2 : Int} {M0 : Mem} {Post : Int → Prop} {PostX : Nat → Prop} (h : wp_X_place x1 x2 M0 Post PostX) : MetX l y_X_place (Cond.code y_X_place b_X_place 3 (some .int) :: gd) ({ frames := 6, cells := 1, slots := 6, locals := 90 }) (PcG D g b 174 (cellC b g) sz M0 [.ref (b + 0), iv x1, iv x2]) (QXP Post PostX) 1 6 nil_ := by
  refine xm_startX (by decide) rfl (Nat.le_of_ble_eq_true rfl) ?_
  intro p e s m below meth c ls H args hC hr hlocks hexc hK hP hst hz hS hH hl
  have hl : lv_has ls 3 [(0, .ref (b + 0)), (1, iv x1), (2, iv x2)] := hl
  unfold wp_X_place at h
  refine lv_aload_n hC.1 hC.2.1 d_X_place_0 rfl (lv_at hl 0 rfl) ?_
  refine lv_iload_n hC.1 hC.2.1 d_X_place_1 rfl (lv_at hl 1 rfl) ?_
  refine xk_VP (As := [iv x1]) (rest := []) hC hK hP hS hst hz hl.1 lk_X_181 rfl rfl rfl ⟨Nat.le_of_ble_eq_true rfl, Nat.le_of_ble_eq_true rfl⟩ (rc_X hK hP) (fun sz' => c_X_isSherd l D g b sz' h) d_X_place_2 rfl (Nat.le_of_ble_eq_true rfl) ⟨Nat.le_of_ble_eq_true rfl, Nat.le_of_ble_eq_true rfl⟩ (fun r_1 h => ?_)
  try dsimp only at h
  obtain ⟨b0, h⟩ := h
  refine xi_ine hC (tgt := 18) d_X_place_5 (by decide) b0 (fun q => ?_) (fun q => ?_)
  · have h := h.1 q
    refine lv_iload_n hC.1 hC.2.1 d_X_place_18 rfl (lv_at hl 2 rfl) ?_
    obtain ⟨b0, h⟩ := h
    rcases (show x2 = 0 ∨ x2 = 1 ∨ x2 = 2 ∨ x2 = 3 ∨ (x2 < 0 ∨ 3 < x2) by omega) with q | q | q | q | q
    · have h := h.1 q
      refine lv_tableIn (off := 29) (tgt := 48) hC.1 hC.2.1 d_X_place_19 (by rw [xi_T b0, q]; decide) (by rw [xi_T b0, q]; decide) (by rw [xi_T b0, q]; rfl) (by decide) ?_
      refine lv_aload_n hC.1 hC.2.1 d_X_place_48 rfl (lv_at hl 0 rfl) ?_
      refine gf_X_18 hC hK hP hst d_X_place_49 ?_
      refine gf_X_187 hC hK hP hst isL_2 d_X_place_52 ?_
      refine lv_iload_n hC.1 hC.2.1 d_X_place_55 rfl (lv_at hl 1 rfl) ?_
      obtain ⟨hi, h⟩ := h
      refine xg_ald hC hK hP (aL1 isL_2) (by decide) hi d_X_place_56 ?_
      exact xr_ipX hC hr hlocks hH h d_X_place_57 (Nat.le_of_ble_eq_true rfl) (Nat.le_of_ble_eq_true rfl)
    · have h := h.2.1 q
      refine lv_tableIn (off := 39) (tgt := 58) hC.1 hC.2.1 d_X_place_19 (by rw [xi_T b0, q]; decide) (by rw [xi_T b0, q]; decide) (by rw [xi_T b0, q]; rfl) (by decide) ?_
      refine lv_aload_n hC.1 hC.2.1 d_X_place_58 rfl (lv_at hl 0 rfl) ?_
      refine gf_X_18 hC hK hP hst d_X_place_59 ?_
      refine gf_X_190 hC hK hP hst isL_2 d_X_place_62 ?_
      refine lv_iload_n hC.1 hC.2.1 d_X_place_65 rfl (lv_at hl 1 rfl) ?_
      obtain ⟨hi, h⟩ := h
      refine xg_ald hC hK hP (aL2 isL_2) (by decide) hi d_X_place_66 ?_
      exact xr_ipX hC hr hlocks hH h d_X_place_67 (Nat.le_of_ble_eq_true rfl) (Nat.le_of_ble_eq_true rfl)
    · have h := h.2.2.1 q
      refine lv_tableIn (off := 49) (tgt := 68) hC.1 hC.2.1 d_X_place_19 (by rw [xi_T b0, q]; decide) (by rw [xi_T b0, q]; decide) (by rw [xi_T b0, q]; rfl) (by decide) ?_
      refine lv_aload_n hC.1 hC.2.1 d_X_place_68 rfl (lv_at hl 0 rfl) ?_
      refine gf_X_18 hC hK hP hst d_X_place_69 ?_
      refine gf_X_142 hC hK hP hst isL_2 d_X_place_72 ?_
      refine lv_iload_n hC.1 hC.2.1 d_X_place_75 rfl (lv_at hl 1 rfl) ?_
      obtain ⟨hi, h⟩ := h
      refine xg_ald hC hK hP (aL3 isL_2) (by decide) hi d_X_place_76 ?_
      exact xr_ipX hC hr hlocks hH h d_X_place_77 (Nat.le_of_ble_eq_true rfl) (Nat.le_of_ble_eq_true rfl)
    · have h := h.2.2.2.1 q
      refine lv_tableIn (off := 59) (tgt := 78) hC.1 hC.2.1 d_X_place_19 (by rw [xi_T b0, q]; decide) (by rw [xi_T b0, q]; decide) (by rw [xi_T b0, q]; rfl) (by decide) ?_
      refine lv_aload_n hC.1 hC.2.1 d_X_place_78 rfl (lv_at hl 0 rfl) ?_
      refine gf_X_18 hC hK hP hst d_X_place_79 ?_
      refine gf_X_166 hC hK hP hst isL_2 d_X_place_82 ?_
      refine lv_iload_n hC.1 hC.2.1 d_X_place_85 rfl (lv_at hl 1 rfl) ?_
      obtain ⟨hi, h⟩ := h
      refine xg_ald hC hK hP (aL4 isL_2) (by decide) hi d_X_place_86 ?_
      exact xr_ipX hC hr hlocks hH h d_X_place_87 (Nat.le_of_ble_eq_true rfl) (Nat.le_of_ble_eq_true rfl)
    · have h := h.2.2.2.2 q
      refine lv_tableOut (tgt := 88) hC.1 hC.2.1 d_X_place_19 (by rw [xi_T b0]; exact q) (by decide) ?_
      exact xt_core hfl (fun a t hx => Or.inr ⟨a, _, rfl, h, hx⟩) hC hlocks hexc hH hst hl.1 lt_X_86_193_90 d_X_place_88 d_X_place_91 d_X_place_92 d_X_place_94 d_X_place_97 (Nat.le_of_ble_eq_true rfl) (Nat.le_of_ble_eq_true rfl) ⟨Nat.le_of_ble_eq_true rfl, Nat.le_of_ble_eq_true rfl⟩ (Nat.le_of_ble_eq_true rfl) (Nat.le_of_ble_eq_true rfl)
  · have h := h.2 q
    exact xt_core hfl (fun a t hx => Or.inr ⟨a, _, rfl, h, hx⟩) hC hlocks hexc hH hst hl.1 lt_X_86_185_90 d_X_place_8 d_X_place_11 d_X_place_12 d_X_place_14 d_X_place_17 (Nat.le_of_ble_eq_true rfl) (Nat.le_of_ble_eq_true rfl) ⟨Nat.le_of_ble_eq_true rfl, Nat.le_of_ble_eq_true rfl⟩ (Nat.le_of_ble_eq_true rfl) (Nat.le_of_ble_eq_true rfl)
set_option maxHeartbeats 4000000 in
theorem c_X_holes (l : Launch) (hfl : l.stackTraces = false) (D : va_G) (g : Nat → ClassId) (b sz : Nat) {x1 : Int} {M0 : Mem} {Post : Int → Mem → Prop} {PostX : Nat → Prop} (h : wp_X_holes x1 M0 Post PostX) : MetX l y_X_holes (Cond.code y_X_holes b_X_holes 2 (some .int) :: gd) ({ frames := 7, cells := 1, slots := 6, locals := 111 }) (PcG D g b 174 (cellC b g) sz M0 [.ref (b + 0), iv x1]) (QXI D g b 174 (cellC b g) sz Post PostX) 1 6 (rA b 174 sz) := by
  refine xm_startX (by decide) rfl (Nat.le_of_ble_eq_true rfl) ?_
  intro p e s m below meth c ls H args hC hr hlocks hexc hK hP hst hz hS hH hl
  have hl : lv_has ls 2 [(0, .ref (b + 0)), (1, iv x1)] := hl
  unfold wp_X_holes at h
  refine lv_aload_n hC.1 hC.2.1 d_X_holes_0 rfl (lv_at hl 0 rfl) ?_
  refine lv_iload_n hC.1 hC.2.1 d_X_holes_1 rfl (lv_at hl 1 rfl) ?_
  refine xk_VrX (fun a x t hp hx => Or.inr ⟨a, x, rfl, hp, hx⟩) (As := [iv x1]) (rest := []) hC hK hP hS hst hz hl.1 lk_X_64 ln_X_64 rfl rfl rfl ⟨Nat.le_of_ble_eq_true rfl, Nat.le_of_ble_eq_true rfl⟩ (rc_X hK hP) (fun sz' => c_X_edgeOf l hfl D g b sz' h) d_X_holes_2 rfl (Nat.le_of_ble_eq_true rfl) ⟨Nat.le_of_ble_eq_true rfl, Nat.le_of_ble_eq_true rfl⟩ ⟨Nat.le_of_ble_eq_true rfl, Nat.le_of_ble_eq_true rfl⟩ hlocks hexc hH (fun r_1 hq_r_1 h => ?_)
  try dsimp only at h
  refine gf_X_68 hC hK hP hst hq_r_1 d_X_holes_5 ?_
  obtain ⟨b0, h⟩ := h
  refine xi_ine hC (tgt := 13) d_X_holes_8 (by decide) b0 (fun q => ?_) (fun q => ?_)
  · have h := h.1 q
    refine lv_aload_n hC.1 hC.2.1 d_X_holes_13 rfl (lv_at hl 0 rfl) ?_
    refine gf_X_36 hC hK hP hst d_X_holes_14 ?_
    refine lv_aload_n hC.1 hC.2.1 d_X_holes_17 rfl (lv_at hl 0 rfl) ?_
    refine gf_X_11 hC hK hP hst d_X_holes_18 ?_
    refine lv_aload_n hC.1 hC.2.1 d_X_holes_21 rfl (lv_at hl 0 rfl) ?_
    refine gf_X_18 hC hK hP hst d_X_holes_22 ?_
    refine lv_aload_n hC.1 hC.2.1 d_X_holes_25 rfl (lv_at hl 0 rfl) ?_
    refine gf_X_18 hC hK hP hst d_X_holes_26 ?_
    refine gf_X_166 hC hK hP hst isL_2 d_X_holes_29 ?_
    refine lv_iload_n hC.1 hC.2.1 d_X_holes_32 rfl (lv_at hl 1 rfl) ?_
    obtain ⟨hi, h⟩ := h
    refine xg_ald hC hK hP (aL4 isL_2) (by decide) hi d_X_holes_33 ?_
    refine xk_Vv (As := [.ref (b + 1), .ref (b + 2), iv (M0 (2 + 4) x1.toNat)]) (rest := []) hC hK hP hS hst hz hl.1 lk_X_195 rfl rfl rfl ⟨Nat.le_of_ble_eq_true rfl, Nat.le_of_ble_eq_true rfl⟩ (rc_Board hK hP) (fun sz' => c_Board_lay l D g b sz' isL_2 h) d_X_holes_34 rfl (Nat.le_of_ble_eq_true rfl) ⟨Nat.le_of_ble_eq_true rfl, Nat.le_of_ble_eq_true rfl⟩ (fun M_3 H locs h hP hS => ?_)
    try dsimp only at h
    refine lv_aload_n hC.1 hC.2.1 d_X_holes_37 rfl (lv_at hl 0 rfl) ?_
    refine gf_X_36 hC hK hP hst d_X_holes_38 ?_
    refine xk_Vi (As := []) (rest := []) hC hK hP hS hst hz hl.1 lk_X_199 rfl rfl rfl ⟨Nat.le_of_ble_eq_true rfl, Nat.le_of_ble_eq_true rfl⟩ (rc_Board hK hP) (fun sz' => c_Board_enclosedCells l D g b sz' h) d_X_holes_41 rfl (Nat.le_of_ble_eq_true rfl) ⟨Nat.le_of_ble_eq_true rfl, Nat.le_of_ble_eq_true rfl⟩ (fun r_4 M_5 H locs h hP hS => ?_)
    try dsimp only at h
    exact xr_iX hC hr hlocks hK hP hS h d_X_holes_44 (Nat.le_of_ble_eq_true rfl) (Nat.le_of_ble_eq_true rfl)
  · have h := h.2 q
    refine xi_const hC d_X_holes_11 ?_
    exact xr_iX hC hr hlocks hK hP hS h d_X_holes_12 (Nat.le_of_ble_eq_true rfl) (Nat.le_of_ble_eq_true rfl)
set_option maxHeartbeats 4000000 in
theorem c_X_count (l : Launch) (hfl : l.stackTraces = false) (D : va_G) (g : Nat → ClassId) (b sz : Nat) {x1 : Int} {M0 : Mem} {Post : Int → Prop} {PostX : Nat → Prop} (h : wp_X_count x1 M0 Post PostX) : MetX l y_X_count (Cond.code y_X_count b_X_count 2 (some .int) :: gd) ({ frames := 6, cells := 1, slots := 6, locals := 90 }) (PcG D g b 174 (cellC b g) sz M0 [.ref (b + 0), iv x1]) (QXP Post PostX) 1 6 nil_ := by
  refine xm_startX (by decide) rfl (Nat.le_of_ble_eq_true rfl) ?_
  intro p e s m below meth c ls H args hC hr hlocks hexc hK hP hst hz hS hH hl
  have hl : lv_has ls 2 [(0, .ref (b + 0)), (1, iv x1)] := hl
  unfold wp_X_count at h
  refine lv_iload_n hC.1 hC.2.1 d_X_count_0 rfl (lv_at hl 1 rfl) ?_
  obtain ⟨b0, h⟩ := h
  rcases (show x1 = 0 ∨ x1 = 1 ∨ x1 = 2 ∨ x1 = 3 ∨ (x1 < 0 ∨ 3 < x1) by omega) with q | q | q | q | q
  · have h := h.1 q
    refine lv_tableIn (off := 31) (tgt := 32) hC.1 hC.2.1 d_X_count_1 (by rw [xi_T b0, q]; decide) (by rw [xi_T b0, q]; decide) (by rw [xi_T b0, q]; rfl) (by decide) ?_
    refine lv_aload_n hC.1 hC.2.1 d_X_count_32 rfl (lv_at hl 0 rfl) ?_
    refine gf_X_40 hC hK hP hst d_X_count_33 ?_
    exact xr_ipX hC hr hlocks hH h d_X_count_36 (Nat.le_of_ble_eq_true rfl) (Nat.le_of_ble_eq_true rfl)
  · have h := h.2.1 q
    refine lv_tableIn (off := 36) (tgt := 37) hC.1 hC.2.1 d_X_count_1 (by rw [xi_T b0, q]; decide) (by rw [xi_T b0, q]; decide) (by rw [xi_T b0, q]; rfl) (by decide) ?_
    refine lv_aload_n hC.1 hC.2.1 d_X_count_37 rfl (lv_at hl 0 rfl) ?_
    refine gf_X_44 hC hK hP hst d_X_count_38 ?_
    exact xr_ipX hC hr hlocks hH h d_X_count_41 (Nat.le_of_ble_eq_true rfl) (Nat.le_of_ble_eq_true rfl)
  · have h := h.2.2.1 q
    refine lv_tableIn (off := 41) (tgt := 42) hC.1 hC.2.1 d_X_count_1 (by rw [xi_T b0, q]; decide) (by rw [xi_T b0, q]; decide) (by rw [xi_T b0, q]; rfl) (by decide) ?_
    refine lv_aload_n hC.1 hC.2.1 d_X_count_42 rfl (lv_at hl 0 rfl) ?_
    refine gf_X_29 hC hK hP hst d_X_count_43 ?_
    refine gf_X_202 hC hK hP hst d_X_count_46 ?_
    exact xr_ipX hC hr hlocks hH h d_X_count_49 (Nat.le_of_ble_eq_true rfl) (Nat.le_of_ble_eq_true rfl)
  · have h := h.2.2.2.1 q
    refine lv_tableIn (off := 49) (tgt := 50) hC.1 hC.2.1 d_X_count_1 (by rw [xi_T b0, q]; decide) (by rw [xi_T b0, q]; decide) (by rw [xi_T b0, q]; rfl) (by decide) ?_
    refine lv_aload_n hC.1 hC.2.1 d_X_count_50 rfl (lv_at hl 0 rfl) ?_
    refine gf_X_47 hC hK hP hst d_X_count_51 ?_
    exact xr_ipX hC hr hlocks hH h d_X_count_54 (Nat.le_of_ble_eq_true rfl) (Nat.le_of_ble_eq_true rfl)
  · have h := h.2.2.2.2 q
    refine lv_tableOut (tgt := 55) hC.1 hC.2.1 d_X_count_1 (by rw [xi_T b0]; exact q) (by decide) ?_
    exact xt_core hfl (fun a t hx => Or.inr ⟨a, _, rfl, h, hx⟩) hC hlocks hexc hH hst hl.1 lt_X_86_203_90 d_X_count_55 d_X_count_58 d_X_count_59 d_X_count_61 d_X_count_64 (Nat.le_of_ble_eq_true rfl) (Nat.le_of_ble_eq_true rfl) ⟨Nat.le_of_ble_eq_true rfl, Nat.le_of_ble_eq_true rfl⟩ (Nat.le_of_ble_eq_true rfl) (Nat.le_of_ble_eq_true rfl)
