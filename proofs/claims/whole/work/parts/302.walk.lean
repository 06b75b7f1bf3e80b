set_option maxHeartbeats 4000000 in
theorem c_X_turnedX (l : Launch) (D : va_G) (g : Nat → ClassId) (b sz : Nat) {x0 x1 x2 : Int} {M0 : Mem} {Post : Int → Prop} (h : wp_X_turnedX x0 x1 x2 M0 Post) : Met l y_X_turnedX (Cond.code y_X_turnedX b_X_turnedX 3 (some .int) :: gd) ({ frames := 0, cells := 0, slots := 0, locals := 0 }) (PcG D g b 174 (cellC b g) sz M0 [iv x0, iv x1, iv x2]) (QP Post) 0 0 nil_ := by
  refine xm_start (by decide) rfl (Nat.le_of_ble_eq_true rfl) ?_
  intro p e s m below meth c ls H args hC hr hlocks hK hP hst hz hS hH hl
  have hl : lv_has ls 3 [(0, iv x0), (1, iv x1), (2, iv x2)] := hl
  unfold wp_X_turnedX at h
  refine lv_iload_n hC.1 hC.2.1 d_X_turnedX_0 rfl (lv_at hl 2 rfl) ?_
  refine xi_const hC d_X_turnedX_1 ?_
  refine xi_and3r hC d_X_turnedX_2 ?_
  obtain ⟨b0, h⟩ := h
  rcases (show (x2 % 4) = 0 ∨ (x2 % 4) = 1 ∨ (x2 % 4) = 2 ∨ ((x2 % 4) < 0 ∨ 2 < (x2 % 4)) by omega) with q | q | q | q
  · have h := h.1 q
    refine lv_tableIn (off := 25) (tgt := 28) hC.1 hC.2.1 d_X_turnedX_3 (by rw [xi_T b0, q]; decide) (by rw [xi_T b0, q]; decide) (by rw [xi_T b0, q]; rfl) (by decide) ?_
    refine lv_iload_n hC.1 hC.2.1 d_X_turnedX_28 rfl (lv_at hl 0 rfl) ?_
    exact xr_ip hC hr hlocks hH h d_X_turnedX_29
  · have h := h.2.1 q
    refine lv_tableIn (off := 27) (tgt := 30) hC.1 hC.2.1 d_X_turnedX_3 (by rw [xi_T b0, q]; decide) (by rw [xi_T b0, q]; decide) (by rw [xi_T b0, q]; rfl) (by decide) ?_
    refine lv_iload_n hC.1 hC.2.1 d_X_turnedX_30 rfl (lv_at hl 1 rfl) ?_
    refine xi_neg hC d_X_turnedX_31 ?_
    exact xr_ip hC hr hlocks hH h d_X_turnedX_32
  · have h := h.2.2.1 q
    refine lv_tableIn (off := 30) (tgt := 33) hC.1 hC.2.1 d_X_turnedX_3 (by rw [xi_T b0, q]; decide) (by rw [xi_T b0, q]; decide) (by rw [xi_T b0, q]; rfl) (by decide) ?_
    refine lv_iload_n hC.1 hC.2.1 d_X_turnedX_33 rfl (lv_at hl 0 rfl) ?_
    refine xi_neg hC d_X_turnedX_34 ?_
    exact xr_ip hC hr hlocks hH h d_X_turnedX_35
  · have h := h.2.2.2 q
    refine lv_tableOut (tgt := 36) hC.1 hC.2.1 d_X_turnedX_3 (by rw [xi_T b0]; exact q) (by decide) ?_
    refine lv_iload_n hC.1 hC.2.1 d_X_turnedX_36 rfl (lv_at hl 1 rfl) ?_
    exact xr_ip hC hr hlocks hH h d_X_turnedX_37
set_option maxHeartbeats 4000000 in
theorem c_Layout_placedX (l : Launch) (D : va_G) (g : Nat → ClassId) (b sz : Nat) {k0 : Nat} {k1 : Nat} (hk0 : isL k0) (hk1 : isE k1) {x2 x3 : Int} {M0 : Mem} {Post : Int → Prop} (h : wp_Layout_placedX k0 k1 x2 x3 M0 Post) : Met l y_Layout_placedX (Cond.code y_Layout_placedX b_Layout_placedX 4 (some .int) :: gd) ({ frames := 1, cells := 0, slots := 0, locals := 22 }) (PcG D g b 174 (cellC b g) sz M0 [.ref (b + k0), .ref (b + k1), iv x2, iv x3]) (QP Post) 0 0 nil_ := by
  refine xm_start (by decide) rfl (Nat.le_of_ble_eq_true rfl) ?_
  intro p e s m below meth c ls H args hC hr hlocks hK hP hst hz hS hH hl
  have hl : lv_has ls 4 [(0, .ref (b + k0)), (1, .ref (b + k1)), (2, iv x2), (3, iv x3)] := hl
  unfold wp_Layout_placedX at h
  refine lv_aload_n hC.1 hC.2.1 d_Layout_placedX_0 rfl (lv_at hl 0 rfl) ?_
  refine gf_Layout_9 hC hK hP hst hk0 d_Layout_placedX_1 ?_
  refine lv_iload_n hC.1 hC.2.1 d_Layout_placedX_4 rfl (lv_at hl 2 rfl) ?_
  obtain ⟨hi, h⟩ := h
  refine xg_ald hC hK hP (aL1 hk0) (by decide) hi d_Layout_placedX_5 ?_
  refine lv_aload_n hC.1 hC.2.1 d_Layout_placedX_6 rfl (lv_at hl 1 rfl) ?_
  refine gf_Layout_24 hC hK hP hst hk1 d_Layout_placedX_7 ?_
  refine lv_iload_n hC.1 hC.2.1 d_Layout_placedX_10 rfl (lv_at hl 3 rfl) ?_
  obtain ⟨hi, h⟩ := h
  refine xg_ald hC hK hP (aE3 hk1) (by decide) hi d_Layout_placedX_11 ?_
  refine lv_aload_n hC.1 hC.2.1 d_Layout_placedX_12 rfl (lv_at hl 1 rfl) ?_
  refine gf_Layout_29 hC hK hP hst hk1 d_Layout_placedX_13 ?_
  refine lv_iload_n hC.1 hC.2.1 d_Layout_placedX_16 rfl (lv_at hl 3 rfl) ?_
  obtain ⟨hi, h⟩ := h
  refine xg_ald hC hK hP (aE4 hk1) (by decide) hi d_Layout_placedX_17 ?_
  refine lv_aload_n hC.1 hC.2.1 d_Layout_placedX_18 rfl (lv_at hl 0 rfl) ?_
  refine gf_Layout_18 hC hK hP hst hk0 d_Layout_placedX_19 ?_
  refine lv_iload_n hC.1 hC.2.1 d_Layout_placedX_22 rfl (lv_at hl 2 rfl) ?_
  obtain ⟨hi, h⟩ := h
  refine xg_ald hC hK hP (aL3 hk0) (by decide) hi d_Layout_placedX_23 ?_
  refine xk_SP (As := [iv (M0 (k1 + 3) x3.toNat), iv (M0 (k1 + 4) x3.toNat), iv (M0 (k0 + 3) x2.toNat)]) (rest := [iv (M0 (k0 + 1) x2.toNat)]) hC hK hP hS hst hz hl.1 lk_Layout_32 rfl rfl rfl ⟨Nat.le_of_ble_eq_true rfl, Nat.le_of_ble_eq_true rfl⟩ (fun sz' => c_X_turnedX l D g b sz' h) d_Layout_placedX_24 rfl (Nat.le_of_ble_eq_true rfl) ⟨Nat.le_of_ble_eq_true rfl, Nat.le_of_ble_eq_true rfl⟩ (fun r_1 h => ?_)
  try dsimp only at h
  refine xi_add hC d_Layout_placedX_27 ?_
  exact xr_ip hC hr hlocks hH h d_Layout_placedX_28
set_option maxHeartbeats 4000000 in
theorem c_X_turnedY (l : Launch) (D : va_G) (g : Nat → ClassId) (b sz : Nat) {x0 x1 x2 : Int} {M0 : Mem} {Post : Int → Prop} (h : wp_X_turnedY x0 x1 x2 M0 Post) : Met l y_X_turnedY (Cond.code y_X_turnedY b_X_turnedY 3 (some .int) :: gd) ({ frames := 0, cells := 0, slots := 0, locals := 0 }) (PcG D g b 174 (cellC b g) sz M0 [iv x0, iv x1, iv x2]) (QP Post) 0 0 nil_ := by
  refine xm_start (by decide) rfl (Nat.le_of_ble_eq_true rfl) ?_
  intro p e s m below meth c ls H args hC hr hlocks hK hP hst hz hS hH hl
  have hl : lv_has ls 3 [(0, iv x0), (1, iv x1), (2, iv x2)] := hl
  unfold wp_X_turnedY at h
  refine lv_iload_n hC.1 hC.2.1 d_X_turnedY_0 rfl (lv_at hl 2 rfl) ?_
  refine xi_const hC d_X_turnedY_1 ?_
  refine xi_and3r hC d_X_turnedY_2 ?_
  obtain ⟨b0, h⟩ := h
  rcases (show (x2 % 4) = 0 ∨ (x2 % 4) = 1 ∨ (x2 % 4) = 2 ∨ ((x2 % 4) < 0 ∨ 2 < (x2 % 4)) by omega) with q | q | q | q
  · have h := h.1 q
    refine lv_tableIn (off := 25) (tgt := 28) hC.1 hC.2.1 d_X_turnedY_3 (by rw [xi_T b0, q]; decide) (by rw [xi_T b0, q]; decide) (by rw [xi_T b0, q]; rfl) (by decide) ?_
    refine lv_iload_n hC.1 hC.2.1 d_X_turnedY_28 rfl (lv_at hl 1 rfl) ?_
    exact xr_ip hC hr hlocks hH h d_X_turnedY_29
  · have h := h.2.1 q
    refine lv_tableIn (off := 27) (tgt := 30) hC.1 hC.2.1 d_X_turnedY_3 (by rw [xi_T b0, q]; decide) (by rw [xi_T b0, q]; decide) (by rw [xi_T b0, q]; rfl) (by decide) ?_
    refine lv_iload_n hC.1 hC.2.1 d_X_turnedY_30 rfl (lv_at hl 0 rfl) ?_
    exact xr_ip hC hr hlocks hH h d_X_turnedY_31
  · have h := h.2.2.1 q
    refine lv_tableIn (off := 29) (tgt := 32) hC.1 hC.2.1 d_X_turnedY_3 (by rw [xi_T b0, q]; decide) (by rw [xi_T b0, q]; decide) (by rw [xi_T b0, q]; rfl) (by decide) ?_
    refine lv_iload_n hC.1 hC.2.1 d_X_turnedY_32 rfl (lv_at hl 1 rfl) ?_
    refine xi_neg hC d_X_turnedY_33 ?_
    exact xr_ip hC hr hlocks hH h d_X_turnedY_34
  · have h := h.2.2.2 q
    refine lv_tableOut (tgt := 35) hC.1 hC.2.1 d_X_turnedY_3 (by rw [xi_T b0]; exact q) (by decide) ?_
    refine lv_iload_n hC.1 hC.2.1 d_X_turnedY_35 rfl (lv_at hl 0 rfl) ?_
    refine xi_neg hC d_X_turnedY_36 ?_
    exact xr_ip hC hr hlocks hH h d_X_turnedY_37
set_option maxHeartbeats 4000000 in
theorem c_Layout_placedY (l : Launch) (D : va_G) (g : Nat → ClassId) (b sz : Nat) {k0 : Nat} {k1 : Nat} (hk0 : isL k0) (hk1 : isE k1) {x2 x3 : Int} {M0 : Mem} {Post : Int → Prop} (h : wp_Layout_placedY k0 k1 x2 x3 M0 Post) : Met l y_Layout_placedY (Cond.code y_Layout_placedY b_Layout_placedY 4 (some .int) :: gd) ({ frames := 1, cells := 0, slots := 0, locals := 22 }) (PcG D g b 174 (cellC b g) sz M0 [.ref (b + k0), .ref (b + k1), iv x2, iv x3]) (QP Post) 0 0 nil_ := by
  refine xm_start (by decide) rfl (Nat.le_of_ble_eq_true rfl) ?_
  intro p e s m below meth c ls H args hC hr hlocks hK hP hst hz hS hH hl
  have hl : lv_has ls 4 [(0, .ref (b + k0)), (1, .ref (b + k1)), (2, iv x2), (3, iv x3)] := hl
  unfold wp_Layout_placedY at h
  refine lv_aload_n hC.1 hC.2.1 d_Layout_placedY_0 rfl (lv_at hl 0 rfl) ?_
  refine gf_Layout_15 hC hK hP hst hk0 d_Layout_placedY_1 ?_
  refine lv_iload_n hC.1 hC.2.1 d_Layout_placedY_4 rfl (lv_at hl 2 rfl) ?_
  obtain ⟨hi, h⟩ := h
  refine xg_ald hC hK hP (aL2 hk0) (by decide) hi d_Layout_placedY_5 ?_
  refine lv_aload_n hC.1 hC.2.1 d_Layout_placedY_6 rfl (lv_at hl 1 rfl) ?_
  refine gf_Layout_24 hC hK hP hst hk1 d_Layout_placedY_7 ?_
  refine lv_iload_n hC.1 hC.2.1 d_Layout_placedY_10 rfl (lv_at hl 3 rfl) ?_
  obtain ⟨hi, h⟩ := h
  refine xg_ald hC hK hP (aE3 hk1) (by decide) hi d_Layout_placedY_11 ?_
  refine lv_aload_n hC.1 hC.2.1 d_Layout_placedY_12 rfl (lv_at hl 1 rfl) ?_
  refine gf_Layout_29 hC hK hP hst hk1 d_Layout_placedY_13 ?_
  refine lv_iload_n hC.1 hC.2.1 d_Layout_placedY_16 rfl (lv_at hl 3 rfl) ?_
  obtain ⟨hi, h⟩ := h
  refine xg_ald hC hK hP (aE4 hk1) (by decide) hi d_Layout_placedY_17 ?_
  refine lv_aload_n hC.1 hC.2.1 d_Layout_placedY_18 rfl (lv_at hl 0 rfl) ?_
  refine gf_Layout_18 hC hK hP hst hk0 d_Layout_placedY_19 ?_
  refine lv_iload_n hC.1 hC.2.1 d_Layout_placedY_22 rfl (lv_at hl 2 rfl) ?_
  obtain ⟨hi, h⟩ := h
  refine xg_ald hC hK hP (aL3 hk0) (by decide) hi d_Layout_placedY_23 ?_
  refine xk_SP (As := [iv (M0 (k1 + 3) x3.toNat), iv (M0 (k1 + 4) x3.toNat), iv (M0 (k0 + 3) x2.toNat)]) (rest := [iv (M0 (k0 + 2) x2.toNat)]) hC hK hP hS hst hz hl.1 lk_Layout_36 rfl rfl rfl ⟨Nat.le_of_ble_eq_true rfl, Nat.le_of_ble_eq_true rfl⟩ (fun sz' => c_X_turnedY l D g b sz' h) d_Layout_placedY_24 rfl (Nat.le_of_ble_eq_true rfl) ⟨Nat.le_of_ble_eq_true rfl, Nat.le_of_ble_eq_true rfl⟩ (fun r_1 h => ?_)
  try dsimp only at h
  refine xi_add hC d_Layout_placedY_27 ?_
  exact xr_ip hC hr hlocks hH h d_Layout_placedY_28
set_option maxHeartbeats 4000000 in
theorem c_Layout_lies (l : Launch) (D : va_G) (g : Nat → ClassId) (b sz : Nat) {k0 : Nat} (hk0 : isL k0) {x1 x2 x3 x4 : Int} {M0 : Mem} {Post : Int → Prop} (h : wp_Layout_lies k0 x1 x2 x3 x4 M0 Post) : Met l y_Layout_lies (Cond.code y_Layout_lies b_Layout_lies 5 (some .boolean) :: gd) ({ frames := 0, cells := 0, slots := 0, locals := 0 }) (PcG D g b 174 (cellC b g) sz M0 [.ref (b + k0), iv x1, iv x2, iv x3, iv x4]) (QP Post) 0 0 nil_ := by
  refine xm_start (by decide) rfl (Nat.le_of_ble_eq_true rfl) ?_
  intro p e s m below meth c ls H args hC hr hlocks hK hP hst hz hS hH hl
  have hl : lv_has ls 5 [(0, .ref (b + k0)), (1, iv x1), (2, iv x2), (3, iv x3), (4, iv x4)] := hl
  unfold wp_Layout_lies at h
  refine lv_aload_n hC.1 hC.2.1 d_Layout_lies_0 rfl (lv_at hl 0 rfl) ?_
  refine gf_Layout_9 hC hK hP hst hk0 d_Layout_lies_1 ?_
  refine lv_iload_n hC.1 hC.2.1 d_Layout_lies_4 rfl (lv_at hl 1 rfl) ?_
  obtain ⟨hi, h⟩ := h
  refine xg_ald hC hK hP (aL1 hk0) (by decide) hi d_Layout_lies_5 ?_
  refine lv_iload_n hC.1 hC.2.1 d_Layout_lies_6 rfl (lv_at hl 2 rfl) ?_
  obtain ⟨b0, h⟩ := h
  obtain ⟨b1, h⟩ := h
  refine xi_cne hC (tgt := 35) d_Layout_lies_7 (by decide) b0 b1 (fun q => ?_) (fun q => ?_)
  · have h := h.1 q
    refine xi_const hC d_Layout_lies_35 ?_
    exact xr_zp hC hr hlocks hH (by decide) h d_Layout_lies_36
  · have h := h.2 q
    refine lv_aload_n hC.1 hC.2.1 d_Layout_lies_10 rfl (lv_at hl 0 rfl) ?_
    refine gf_Layout_15 hC hK hP hst hk0 d_Layout_lies_11 ?_
    refine lv_iload_n hC.1 hC.2.1 d_Layout_lies_14 rfl (lv_at hl 1 rfl) ?_
    obtain ⟨hi, h⟩ := h
    refine xg_ald hC hK hP (aL2 hk0) (by decide) hi d_Layout_lies_15 ?_
    refine lv_iload_n hC.1 hC.2.1 d_Layout_lies_16 rfl (lv_at hl 3 rfl) ?_
    obtain ⟨b0, h⟩ := h
    obtain ⟨b1, h⟩ := h
    refine xi_cne hC (tgt := 35) d_Layout_lies_17 (by decide) b0 b1 (fun q => ?_) (fun q => ?_)
    · have h := h.1 q
      refine xi_const hC d_Layout_lies_35 ?_
      exact xr_zp hC hr hlocks hH (by decide) h d_Layout_lies_36
    · have h := h.2 q
      refine lv_aload_n hC.1 hC.2.1 d_Layout_lies_20 rfl (lv_at hl 0 rfl) ?_
      refine gf_Layout_18 hC hK hP hst hk0 d_Layout_lies_21 ?_
      refine lv_iload_n hC.1 hC.2.1 d_Layout_lies_24 rfl (lv_at hl 1 rfl) ?_
      obtain ⟨hi, h⟩ := h
      refine xg_ald hC hK hP (aL3 hk0) (by decide) hi d_Layout_lies_25 ?_
      refine lv_iload hC.1 hC.2.1 d_Layout_lies_26 (lv_at hl 4 rfl) ?_
      obtain ⟨b0, h⟩ := h
      obtain ⟨b1, h⟩ := h
      refine xi_cne hC (tgt := 35) d_Layout_lies_28 (by decide) b0 b1 (fun q => ?_) (fun q => ?_)
      · have h := h.1 q
        refine xi_const hC d_Layout_lies_35 ?_
        exact xr_zp hC hr hlocks hH (by decide) h d_Layout_lies_36
      · have h := h.2 q
        refine xi_const hC d_Layout_lies_31 ?_
        refine lv_goto (tgt := 36) hC.1 hC.2.1 d_Layout_lies_32 (by decide) ?_
        exact xr_zp hC hr hlocks hH (by decide) h d_Layout_lies_36
set_option maxHeartbeats 4000000 in
theorem s_Layout_copy_2 {p : Program} {l : Launch} {e : Env} {s : State} {m : MethodId} {args : Array Value} {below : List Frame} {meth : Method} {c : Code} {D : va_G} {g : Nat → ClassId} {b sz : Nat} (hC : Cx p m c b_Layout_copy 3 s args "EdgeJoins$Layout") (hr : meth.sig.returnType = none) (hlocks : meth.locks = false) (hK : va_K D classes (tyG g) s) (hst : sC (rA b 174 sz) s s.heap) (hz : sz ≤ s.heap.size) {k0 : Nat} {k1 : Nat} (hk0 : isL k0) (hk1 : isL k1) {Post : Mem → Prop} : ∀ (n : Nat) (x2 : Int) (M0 : Mem) (H : Heap) (locs : List Loc) (ls : Array Slot), wp_Layout_copy_2 k0 k1 Post n x2 M0 → va_P D classes (wsG b 174 (cellC b g) M0) H → va_S (rA b 174 sz) s.heap H locs → lv_has ls 3 [(0, .ref (b + k0)), (1, .ref (b + k1)), (2, iv x2)] → W p l e ({ frames := 0, cells := 0, slots := 0, locals := 0 }) s m args below meth c H locs 0 0 (MQ below (QV D g b 174 (cellC b g) sz Post) args s 0 0 (rA b 174 sz)) (F0 m 2 ls []) := by
  intro n
  induction n with
  | zero => intro x2 M0 H locs ls h; exact h.elim
  | succ n ih =>
  intro x2 M0 H locs ls h hP hS hl
  simp only [wp_Layout_copy_2] at h
  refine lv_iload_n hC.1 hC.2.1 d_Layout_copy_2 rfl (lv_at hl 2 rfl) ?_
  refine xi_bipush hC d_Layout_copy_3 (by decide) ?_
  obtain ⟨b0, h⟩ := h
  refine xi_cge hC (tgt := 62) d_Layout_copy_5 (by decide) b0 (xl rfl) (fun q => ?_) (fun q => ?_)
  · have h := h.1 q
    exact xr_v hC hr hlocks hK hP hS h d_Layout_copy_62
  · have h := h.2 q
    refine lv_aload_n hC.1 hC.2.1 d_Layout_copy_8 rfl (lv_at hl 0 rfl) ?_
    refine gf_Layout_9 hC hK hP hst hk0 d_Layout_copy_9 ?_
    refine lv_iload_n hC.1 hC.2.1 d_Layout_copy_12 rfl (lv_at hl 2 rfl) ?_
    refine lv_aload_n hC.1 hC.2.1 d_Layout_copy_13 rfl (lv_at hl 1 rfl) ?_
    refine gf_Layout_9 hC hK hP hst hk1 d_Layout_copy_14 ?_
    refine lv_iload_n hC.1 hC.2.1 d_Layout_copy_17 rfl (lv_at hl 2 rfl) ?_
    obtain ⟨hi, h⟩ := h
    refine xg_ald hC hK hP (aL1 hk1) (by decide) hi d_Layout_copy_18 ?_
    obtain ⟨hi, h⟩ := h
    refine xg_ast hC hK hP hS (aL1 hk0) (by decide) hi d_Layout_copy_19 (fun H locs hP hS => ?_)
    obtain ⟨M_1, eM_1⟩ : ∃ y : Mem, y = up M0 (k0 + 1) x2.toNat (M0 (k1 + 1) x2.toNat) := ⟨_, rfl⟩
    rw [← eM_1] at hP
    have h := h M_1 eM_1
    refine lv_aload_n hC.1 hC.2.1 d_Layout_copy_20 rfl (lv_at hl 0 rfl) ?_
    refine gf_Layout_15 hC hK hP hst hk0 d_Layout_copy_21 ?_
    refine lv_iload_n hC.1 hC.2.1 d_Layout_copy_24 rfl (lv_at hl 2 rfl) ?_
    refine lv_aload_n hC.1 hC.2.1 d_Layout_copy_25 rfl (lv_at hl 1 rfl) ?_
    refine gf_Layout_15 hC hK hP hst hk1 d_Layout_copy_26 ?_
    refine lv_iload_n hC.1 hC.2.1 d_Layout_copy_29 rfl (lv_at hl 2 rfl) ?_
    obtain ⟨hi, h⟩ := h
    refine xg_ald hC hK hP (aL2 hk1) (by decide) hi d_Layout_copy_30 ?_
    obtain ⟨hi, h⟩ := h
    refine xg_ast hC hK hP hS (aL2 hk0) (by decide) hi d_Layout_copy_31 (fun H locs hP hS => ?_)
    obtain ⟨M_2, eM_2⟩ : ∃ y : Mem, y = up M_1 (k0 + 2) x2.toNat (M_1 (k1 + 2) x2.toNat) := ⟨_, rfl⟩
    rw [← eM_2] at hP
    have h := h M_2 eM_2
    refine lv_aload_n hC.1 hC.2.1 d_Layout_copy_32 rfl (lv_at hl 0 rfl) ?_
    refine gf_Layout_18 hC hK hP hst hk0 d_Layout_copy_33 ?_
    refine lv_iload_n hC.1 hC.2.1 d_Layout_copy_36 rfl (lv_at hl 2 rfl) ?_
    refine lv_aload_n hC.1 hC.2.1 d_Layout_copy_37 rfl (lv_at hl 1 rfl) ?_
    refine gf_Layout_18 hC hK hP hst hk1 d_Layout_copy_38 ?_
    refine lv_iload_n hC.1 hC.2.1 d_Layout_copy_41 rfl (lv_at hl 2 rfl) ?_
    obtain ⟨hi, h⟩ := h
    refine xg_ald hC hK hP (aL3 hk1) (by decide) hi d_Layout_copy_42 ?_
    obtain ⟨hi, h⟩ := h
    refine xg_ast hC hK hP hS (aL3 hk0) (by decide) hi d_Layout_copy_43 (fun H locs hP hS => ?_)
    obtain ⟨M_3, eM_3⟩ : ∃ y : Mem, y = up M_2 (k0 + 3) x2.toNat (M_2 (k1 + 3) x2.toNat) := ⟨_, rfl⟩
    rw [← eM_3] at hP
    have h := h M_3 eM_3
    refine lv_aload_n hC.1 hC.2.1 d_Layout_copy_44 rfl (lv_at hl 0 rfl) ?_
    refine gf_Layout_21 hC hK hP hst hk0 d_Layout_copy_45 ?_
    refine lv_iload_n hC.1 hC.2.1 d_Layout_copy_48 rfl (lv_at hl 2 rfl) ?_
    refine lv_aload_n hC.1 hC.2.1 d_Layout_copy_49 rfl (lv_at hl 1 rfl) ?_
    refine gf_Layout_21 hC hK hP hst hk1 d_Layout_copy_50 ?_
    refine lv_iload_n hC.1 hC.2.1 d_Layout_copy_53 rfl (lv_at hl 2 rfl) ?_
    obtain ⟨hi, h⟩ := h
    refine xg_ald hC hK hP (aL4 hk1) (by decide) hi d_Layout_copy_54 ?_
    obtain ⟨hi, h⟩ := h
    refine xg_ast hC hK hP hS (aL4 hk0) (by decide) hi d_Layout_copy_55 (fun H locs hP hS => ?_)
    obtain ⟨M_4, eM_4⟩ : ∃ y : Mem, y = up M_3 (k0 + 4) x2.toNat (M_3 (k1 + 4) x2.toNat) := ⟨_, rfl⟩
    rw [← eM_4] at hP
    have h := h M_4 eM_4
    obtain ⟨v2_5, ev2_5⟩ : ∃ y : Int, y = x2 + 1 := ⟨_, rfl⟩
    have h := h v2_5 ev2_5
    refine xi_iinc (v := v2_5) (lv' := [(2, iv v2_5), (0, .ref (b + k0)), (1, .ref (b + k1))]) hC d_Layout_copy_56 hl (k := 2) rfl ev2_5 (by decide) rfl (fun ls hl => ?_)
    refine lv_goto (tgt := 2) hC.1 hC.2.1 d_Layout_copy_59 (by decide) ?_
    exact ih _ _ _ _ _ h hP hS (lv_sub hl [1, 2, 0] rfl)
set_option maxHeartbeats 4000000 in
theorem c_Layout_copy (l : Launch) (D : va_G) (g : Nat → ClassId) (b sz : Nat) {k0 : Nat} {k1 : Nat} (hk0 : isL k0) (hk1 : isL k1) {M0 : Mem} {Post : Mem → Prop} (h : wp_Layout_copy k0 k1 M0 Post) : Met l y_Layout_copy (Cond.code y_Layout_copy b_Layout_copy 3 (none) :: gd) ({ frames := 0, cells := 0, slots := 0, locals := 0 }) (PcG D g b 174 (cellC b g) sz M0 [.ref (b + k0), .ref (b + k1)]) (QV D g b 174 (cellC b g) sz Post) 0 0 (rA b 174 sz) := by
  refine xm_start (by decide) rfl (Nat.le_of_ble_eq_true rfl) ?_
  intro p e s m below meth c ls H args hC hr hlocks hK hP hst hz hS hH hl
  have hl : lv_has ls 3 [(0, .ref (b + k0)), (1, .ref (b + k1))] := hl
  unfold wp_Layout_copy at h
  refine xi_const hC d_Layout_copy_0 ?_
  refine lv_istore_n (lv' := [(2, iv 0), (0, .ref (b + k0)), (1, .ref (b + k1))]) hC.1 hC.2.1 d_Layout_copy_1 rfl hl (by decide) rfl (fun ls hl => ?_)
  obtain ⟨nn, h⟩ := h
  exact s_Layout_copy_2 hC hr hlocks hK hst hz hk0 hk1 nn _ _ _ _ _ h hP hS (lv_sub hl [1, 2, 0] rfl)
set_option maxHeartbeats 4000000 in
theorem s_Layout_bring_58 {p : Program} {l : Launch} {e : Env} {s : State} {m : MethodId} {args : Array Value} {below : List Frame} {meth : Method} {c : Code} {D : va_G} {g : Nat → ClassId} {b sz : Nat} (hC : Cx p m c b_Layout_bring 11 s args "EdgeJoins$Layout") (hr : meth.sig.returnType = none) (hlocks : meth.locks = false) (hK : va_K D classes (tyG g) s) (hst : sC (rA b 174 sz) s s.heap) (hz : sz ≤ s.heap.size) {k0 : Nat} (hk0 : isL k0) {Post : Mem → Prop} : ∀ (n : Nat) (x1 x5 x6 x7 x8 : Int) (M0 : Mem) (H : Heap) (locs : List Loc) (ls : Array Slot), wp_Layout_bring_58 k0 Post n x1 x5 x6 x7 x8 M0 → va_P D classes (wsG b 174 (cellC b g) M0) H → va_S (rA b 174 sz) s.heap H locs → lv_has ls 11 [(0, .ref (b + k0)), (1, iv x1), (5, iv x5), (6, iv x6), (7, iv x7), (8, iv x8)] → W p l e ({ frames := 1, cells := 0, slots := 0, locals := 22 }) s m args below meth c H locs 0 0 (MQ below (QV D g b 174 (cellC b g) sz Post) args s 0 0 (rA b 174 sz)) (F0 m 58 ls []) := by
  intro n
  induction n with
  | zero => intro x1 x5 x6 x7 x8 M0 H locs ls h; exact h.elim
  | succ n ih =>
  intro x1 x5 x6 x7 x8 M0 H locs ls h hP hS hl
  simp only [wp_Layout_bring_58] at h
  refine lv_iload hC.1 hC.2.1 d_Layout_bring_58 (lv_at hl 5 rfl) ?_
  refine xi_bipush hC d_Layout_bring_60 (by decide) ?_
  obtain ⟨b0, h⟩ := h
  refine xi_cge hC (tgt := 162) d_Layout_bring_62 (by decide) b0 (xl rfl) (fun q => ?_) (fun q => ?_)
  · have h := h.1 q
    exact xr_v hC hr hlocks hK hP hS h d_Layout_bring_162
  · have h := h.2 q
    refine lv_aload_n hC.1 hC.2.1 d_Layout_bring_65 rfl (lv_at hl 0 rfl) ?_
    refine gf_Layout_21 hC hK hP hst hk0 d_Layout_bring_66 ?_
    refine lv_iload hC.1 hC.2.1 d_Layout_bring_69 (lv_at hl 5 rfl) ?_
    obtain ⟨hi, h⟩ := h
    refine xg_ald hC hK hP (aL4 hk0) (by decide) hi d_Layout_bring_71 ?_
    refine lv_aload_n hC.1 hC.2.1 d_Layout_bring_72 rfl (lv_at hl 0 rfl) ?_
    refine gf_Layout_21 hC hK hP hst hk0 d_Layout_bring_73 ?_
    refine lv_iload_n hC.1 hC.2.1 d_Layout_bring_76 rfl (lv_at hl 1 rfl) ?_
    obtain ⟨hi, h⟩ := h
    refine xg_ald hC hK hP (aL4 hk0) (by decide) hi d_Layout_bring_77 ?_
    obtain ⟨b0, h⟩ := h
    obtain ⟨b1, h⟩ := h
    refine xi_cne hC (tgt := 156) d_Layout_bring_78 (by decide) b0 b1 (fun q => ?_) (fun q => ?_)
    · have h := h.1 q
      obtain ⟨v8_1, ev8_1⟩ : ∃ y : Int, y = x8 + 1 := ⟨_, rfl⟩
      have h := h v8_1 ev8_1
      refine xi_iinc (v := v8_1) (lv' := [(8, iv v8_1), (0, .ref (b + k0)), (1, iv x1), (5, iv x5), (6, iv x6), (7, iv x7)]) hC d_Layout_bring_156 hl (k := 5) rfl ev8_1 (by decide) rfl (fun ls hl => ?_)
      refine lv_goto (tgt := 58) hC.1 hC.2.1 d_Layout_bring_159 (by decide) ?_
      exact ih _ _ _ _ _ _ _ _ _ h hP hS (lv_sub hl [1, 2, 3, 4, 5, 0] rfl)
    · have h := h.2 q
      refine lv_aload_n hC.1 hC.2.1 d_Layout_bring_81 rfl (lv_at hl 0 rfl) ?_
      refine gf_Layout_9 hC hK hP hst hk0 d_Layout_bring_82 ?_
      refine lv_iload hC.1 hC.2.1 d_Layout_bring_85 (lv_at hl 5 rfl) ?_
      obtain ⟨hi, h⟩ := h
      refine xg_ald hC hK hP (aL1 hk0) (by decide) hi d_Layout_bring_87 ?_
      refine xi_top (fun v9_2 ev9_2 => ?_)
      have h := h v9_2 ev9_2
      refine lv_istore (lv' := [(9, iv v9_2), (0, .ref (b + k0)), (1, iv x1), (5, iv x5), (6, iv x6), (7, iv x7), (8, iv x8)]) hC.1 hC.2.1 d_Layout_bring_88 hl (by decide) rfl (fun ls hl => ?_)
      refine lv_aload_n hC.1 hC.2.1 d_Layout_bring_90 rfl (lv_at hl 1 rfl) ?_
      refine gf_Layout_15 hC hK hP hst hk0 d_Layout_bring_91 ?_
      refine lv_iload hC.1 hC.2.1 d_Layout_bring_94 (lv_at hl 6 rfl) ?_
      obtain ⟨hi, h⟩ := h
      refine xg_ald hC hK hP (aL2 hk0) (by decide) hi d_Layout_bring_96 ?_
      refine xi_top (fun v10_3 ev10_3 => ?_)
      have h := h v10_3 ev10_3
      refine lv_istore (lv' := [(10, iv v10_3), (9, iv v9_2), (0, .ref (b + k0)), (1, iv x1), (5, iv x5), (6, iv x6), (7, iv x7), (8, iv x8)]) hC.1 hC.2.1 d_Layout_bring_97 hl (by decide) rfl (fun ls hl => ?_)
      refine lv_aload_n hC.1 hC.2.1 d_Layout_bring_99 rfl (lv_at hl 2 rfl) ?_
      refine gf_Layout_9 hC hK hP hst hk0 d_Layout_bring_100 ?_
      refine lv_iload hC.1 hC.2.1 d_Layout_bring_103 (lv_at hl 7 rfl) ?_
      refine lv_iload hC.1 hC.2.1 d_Layout_bring_105 (lv_at hl 1 rfl) ?_
      refine lv_iload hC.1 hC.2.1 d_Layout_bring_107 (lv_at hl 0 rfl) ?_
      refine lv_iload hC.1 hC.2.1 d_Layout_bring_109 (lv_at hl 4 rfl) ?_
      refine xk_SP (As := [iv v9_2, iv v10_3, iv x5]) (rest := [iv x8, .ref (b + (k0 + 1))]) hC hK hP hS hst hz hl.1 lk_Layout_32 rfl rfl rfl ⟨Nat.le_of_ble_eq_true rfl, Nat.le_of_ble_eq_true rfl⟩ (fun sz' => c_X_turnedX l D g b sz' h) d_Layout_bring_111 rfl (Nat.le_of_ble_eq_true rfl) ⟨Nat.le_of_ble_eq_true rfl, Nat.le_of_ble_eq_true rfl⟩ (fun r_4 h => ?_)
      try dsimp only at h
      refine lv_iload hC.1 hC.2.1 d_Layout_bring_114 (lv_at hl 5 rfl) ?_
      refine xi_add hC d_Layout_bring_116 ?_
      obtain ⟨hi, h⟩ := h
      refine xg_ast hC hK hP hS (aL1 hk0) (by decide) hi d_Layout_bring_117 (fun H locs hP hS => ?_)
      obtain ⟨M_5, eM_5⟩ : ∃ y : Mem, y = up M0 (k0 + 1) x8.toNat (r_4 + x6) := ⟨_, rfl⟩
      rw [← eM_5] at hP
      have h := h M_5 eM_5
      refine lv_aload_n hC.1 hC.2.1 d_Layout_bring_118 rfl (lv_at hl 2 rfl) ?_
      refine gf_Layout_15 hC hK hP hst hk0 d_Layout_bring_119 ?_
      refine lv_iload hC.1 hC.2.1 d_Layout_bring_122 (lv_at hl 7 rfl) ?_
      refine lv_iload hC.1 hC.2.1 d_Layout_bring_124 (lv_at hl 1 rfl) ?_
      refine lv_iload hC.1 hC.2.1 d_Layout_bring_126 (lv_at hl 0 rfl) ?_
      refine lv_iload hC.1 hC.2.1 d_Layout_bring_128 (lv_at hl 4 rfl) ?_
      refine xk_SP (As := [iv v9_2, iv v10_3, iv x5]) (rest := [iv x8, .ref (b + (k0 + 2))]) hC hK hP hS hst hz hl.1 lk_Layout_36 rfl rfl rfl ⟨Nat.le_of_ble_eq_true rfl, Nat.le_of_ble_eq_true rfl⟩ (fun sz' => c_X_turnedY l D g b sz' h) d_Layout_bring_130 rfl (Nat.le_of_ble_eq_true rfl) ⟨Nat.le_of_ble_eq_true rfl, Nat.le_of_ble_eq_true rfl⟩ (fun r_6 h => ?_)
      try dsimp only at h
      refine lv_iload hC.1 hC.2.1 d_Layout_bring_133 (lv_at hl 6 rfl) ?_
      refine xi_add hC d_Layout_bring_135 ?_
      obtain ⟨hi, h⟩ := h
      refine xg_ast hC hK hP hS (aL2 hk0) (by decide) hi d_Layout_bring_136 (fun H locs hP hS => ?_)
      obtain ⟨M_7, eM_7⟩ : ∃ y : Mem, y = up M_5 (k0 + 2) x8.toNat (r_6 + x7) := ⟨_, rfl⟩
      rw [← eM_7] at hP
      have h := h M_7 eM_7
      refine lv_aload_n hC.1 hC.2.1 d_Layout_bring_137 rfl (lv_at hl 2 rfl) ?_
      refine gf_Layout_18 hC hK hP hst hk0 d_Layout_bring_138 ?_
      refine lv_iload hC.1 hC.2.1 d_Layout_bring_141 (lv_at hl 7 rfl) ?_
      refine lv_aload_n hC.1 hC.2.1 d_Layout_bring_143 rfl (lv_at hl 2 rfl) ?_
      refine gf_Layout_18 hC hK hP hst hk0 d_Layout_bring_144 ?_
      refine lv_iload hC.1 hC.2.1 d_Layout_bring_147 (lv_at hl 7 rfl) ?_
      obtain ⟨hi, h⟩ := h
      refine xg_ald hC hK hP (aL3 hk0) (by decide) hi d_Layout_bring_149 ?_
      refine lv_iload hC.1 hC.2.1 d_Layout_bring_150 (lv_at hl 4 rfl) ?_
      refine xi_add hC d_Layout_bring_152 ?_
      refine xi_const hC d_Layout_bring_153 ?_
      refine xi_and3r hC d_Layout_bring_154 ?_
      obtain ⟨hi, h⟩ := h
      refine xg_ast hC hK hP hS (aL3 hk0) (by decide) hi d_Layout_bring_155 (fun H locs hP hS => ?_)
      obtain ⟨M_8, eM_8⟩ : ∃ y : Mem, y = up M_7 (k0 + 3) x8.toNat (((M_7 (k0 + 3) x8.toNat) + x5) % 4) := ⟨_, rfl⟩
      rw [← eM_8] at hP
      have h := h M_8 eM_8
      obtain ⟨v8_9, ev8_9⟩ : ∃ y : Int, y = x8 + 1 := ⟨_, rfl⟩
      have h := h v8_9 ev8_9
      refine xi_iinc (v := v8_9) (lv' := [(8, iv v8_9), (10, iv v10_3), (9, iv v9_2), (0, .ref (b + k0)), (1, iv x1), (5, iv x5), (6, iv x6), (7, iv x7)]) hC d_Layout_bring_156 hl (k := 7) rfl ev8_9 (by decide) rfl (fun ls hl => ?_)
      refine lv_goto (tgt := 58) hC.1 hC.2.1 d_Layout_bring_159 (by decide) ?_
      exact ih _ _ _ _ _ _ _ _ _ h hP hS (lv_sub hl [3, 4, 5, 6, 7, 0] rfl)
set_option maxHeartbeats 4000000 in
theorem c_Layout_bring (l : Launch) (D : va_G) (g : Nat → ClassId) (b sz : Nat) {k0 : Nat} (hk0 : isL k0) {x1 x2 x3 x4 : Int} {M0 : Mem} {Post : Mem → Prop} (h : wp_Layout_bring k0 x1 x2 x3 x4 M0 Post) : Met l y_Layout_bring (Cond.code y_Layout_bring b_Layout_bring 11 (none) :: gd) ({ frames := 1, cells := 0, slots := 0, locals := 22 }) (PcG D g b 174 (cellC b g) sz M0 [.ref (b + k0), iv x1, iv x2, iv x3, iv x4]) (QV D g b 174 (cellC b g) sz Post) 0 0 (rA b 174 sz) := by
  refine xm_start (by decide) rfl (Nat.le_of_ble_eq_true rfl) ?_
  intro p e s m below meth c ls H args hC hr hlocks hK hP hst hz hS hH hl
  have hl : lv_has ls 11 [(0, .ref (b + k0)), (1, iv x1), (2, iv x2), (3, iv x3), (4, iv x4)] := hl
  unfold wp_Layout_bring at h
  refine lv_iload hC.1 hC.2.1 d_Layout_bring_0 (lv_at hl 4 rfl) ?_
  refine lv_aload_n hC.1 hC.2.1 d_Layout_bring_2 rfl (lv_at hl 0 rfl) ?_
  refine gf_Layout_18 hC hK hP hst hk0 d_Layout_bring_3 ?_
  refine lv_iload_n hC.1 hC.2.1 d_Layout_bring_6 rfl (lv_at hl 1 rfl) ?_
  obtain ⟨hi, h⟩ := h
  refine xg_ald hC hK hP (aL3 hk0) (by decide) hi d_Layout_bring_7 ?_
  refine xi_sub hC d_Layout_bring_8 ?_
  refine xi_const hC d_Layout_bring_9 ?_
  refine xi_and3r hC d_Layout_bring_10 ?_
  refine xi_top (fun v5_1 ev5_1 => ?_)
  have h := h v5_1 ev5_1
  refine lv_istore (lv' := [(5, iv v5_1), (0, .ref (b + k0)), (1, iv x1), (2, iv x2), (3, iv x3), (4, iv x4)]) hC.1 hC.2.1 d_Layout_bring_11 hl (by decide) rfl (fun ls hl => ?_)
  refine lv_iload_n hC.1 hC.2.1 d_Layout_bring_13 rfl (lv_at hl 3 rfl) ?_
  refine lv_aload_n hC.1 hC.2.1 d_Layout_bring_14 rfl (lv_at hl 1 rfl) ?_
  refine gf_Layout_9 hC hK hP hst hk0 d_Layout_bring_15 ?_
  refine lv_iload_n hC.1 hC.2.1 d_Layout_bring_18 rfl (lv_at hl 2 rfl) ?_
  obtain ⟨hi, h⟩ := h
  refine xg_ald hC hK hP (aL1 hk0) (by decide) hi d_Layout_bring_19 ?_
  refine lv_aload_n hC.1 hC.2.1 d_Layout_bring_20 rfl (lv_at hl 1 rfl) ?_
  refine gf_Layout_15 hC hK hP hst hk0 d_Layout_bring_21 ?_
  refine lv_iload_n hC.1 hC.2.1 d_Layout_bring_24 rfl (lv_at hl 2 rfl) ?_
  obtain ⟨hi, h⟩ := h
  refine xg_ald hC hK hP (aL2 hk0) (by decide) hi d_Layout_bring_25 ?_
  refine lv_iload hC.1 hC.2.1 d_Layout_bring_26 (lv_at hl 0 rfl) ?_
  refine xk_SP (As := [iv (M0 (k0 + 1) x1.toNat), iv (M0 (k0 + 2) x1.toNat), iv v5_1]) (rest := [iv x2]) hC hK hP hS hst hz hl.1 lk_Layout_32 rfl rfl rfl ⟨Nat.le_of_ble_eq_true rfl, Nat.le_of_ble_eq_true rfl⟩ (fun sz' => c_X_turnedX l D g b sz' h) d_Layout_bring_28 rfl (Nat.le_of_ble_eq_true rfl) ⟨Nat.le_of_ble_eq_true rfl, Nat.le_of_ble_eq_true rfl⟩ (fun r_2 h => ?_)
  try dsimp only at h
  refine xi_sub hC d_Layout_bring_31 ?_
  refine xi_top (fun v6_3 ev6_3 => ?_)
  have h := h v6_3 ev6_3
  refine lv_istore (lv' := [(6, iv v6_3), (5, iv v5_1), (0, .ref (b + k0)), (1, iv x1), (2, iv x2), (3, iv x3), (4, iv x4)]) hC.1 hC.2.1 d_Layout_bring_32 hl (by decide) rfl (fun ls hl => ?_)
  refine lv_iload_n hC.1 hC.2.1 d_Layout_bring_34 rfl (lv_at hl 5 rfl) ?_
  refine lv_aload_n hC.1 hC.2.1 d_Layout_bring_35 rfl (lv_at hl 2 rfl) ?_
  refine gf_Layout_9 hC hK hP hst hk0 d_Layout_bring_36 ?_
  refine lv_iload_n hC.1 hC.2.1 d_Layout_bring_39 rfl (lv_at hl 3 rfl) ?_
  obtain ⟨hi, h⟩ := h
  refine xg_ald hC hK hP (aL1 hk0) (by decide) hi d_Layout_bring_40 ?_
  refine lv_aload_n hC.1 hC.2.1 d_Layout_bring_41 rfl (lv_at hl 2 rfl) ?_
  refine gf_Layout_15 hC hK hP hst hk0 d_Layout_bring_42 ?_
  refine lv_iload_n hC.1 hC.2.1 d_Layout_bring_45 rfl (lv_at hl 3 rfl) ?_
  obtain ⟨hi, h⟩ := h
  refine xg_ald hC hK hP (aL2 hk0) (by decide) hi d_Layout_bring_46 ?_
  refine lv_iload hC.1 hC.2.1 d_Layout_bring_47 (lv_at hl 1 rfl) ?_
  refine xk_SP (As := [iv (M0 (k0 + 1) x1.toNat), iv (M0 (k0 + 2) x1.toNat), iv v5_1]) (rest := [iv x3]) hC hK hP hS hst hz hl.1 lk_Layout_36 rfl rfl rfl ⟨Nat.le_of_ble_eq_true rfl, Nat.le_of_ble_eq_true rfl⟩ (fun sz' => c_X_turnedY l D g b sz' h) d_Layout_bring_49 rfl (Nat.le_of_ble_eq_true rfl) ⟨Nat.le_of_ble_eq_true rfl, Nat.le_of_ble_eq_true rfl⟩ (fun r_4 h => ?_)
  try dsimp only at h
  refine xi_sub hC d_Layout_bring_52 ?_
  refine xi_top (fun v7_5 ev7_5 => ?_)
  have h := h v7_5 ev7_5
  refine lv_istore (lv' := [(7, iv v7_5), (6, iv v6_3), (5, iv v5_1), (0, .ref (b + k0)), (1, iv x1), (2, iv x2), (3, iv x3), (4, iv x4)]) hC.1 hC.2.1 d_Layout_bring_53 hl (by decide) rfl (fun ls hl => ?_)
  refine xi_const hC d_Layout_bring_55 ?_
  refine lv_istore (lv' := [(8, iv 0), (7, iv v7_5), (6, iv v6_3), (5, iv v5_1), (0, .ref (b + k0)), (1, iv x1), (2, iv x2), (3, iv x3), (4, iv x4)]) hC.1 hC.2.1 d_Layout_bring_56 hl (by decide) rfl (fun ls hl => ?_)
  obtain ⟨nn, h⟩ := h
  exact s_Layout_bring_58 hC hr hlocks hK hst hz hk0 nn _ _ _ _ _ _ _ _ _ h hP hS (lv_sub hl [4, 5, 3, 2, 1, 0] rfl)
set_option maxHeartbeats 4000000 in
theorem s_Layout_unite_36 {p : Program} {l : Launch} {e : Env} {s : State} {m : MethodId} {args : Array Value} {below : List Frame} {meth : Method} {c : Code} {D : va_G} {g : Nat → ClassId} {b sz : Nat} (hC : Cx p m c b_Layout_unite 6 s args "EdgeJoins$Layout") (hr : meth.sig.returnType = none) (hlocks : meth.locks = false) (hK : va_K D classes (tyG g) s) (hst : sC (rA b 174 sz) s s.heap) (hz : sz ≤ s.heap.size) {k0 : Nat} (hk0 : isL k0) {Post : Mem → Prop} : ∀ (n : Nat) (x3 x4 x5 : Int) (M0 : Mem) (H : Heap) (locs : List Loc) (ls : Array Slot), wp_Layout_unite_36 k0 Post n x3 x4 x5 M0 → va_P D classes (wsG b 174 (cellC b g) M0) H → va_S (rA b 174 sz) s.heap H locs → lv_has ls 6 [(0, .ref (b + k0)), (3, iv x3), (4, iv x4), (5, iv x5)] → W p l e ({ frames := 1, cells := 0, slots := 0, locals := 24 }) s m args below meth c H locs 0 0 (MQ below (QV D g b 174 (cellC b g) sz Post) args s 0 0 (rA b 174 sz)) (F0 m 36 ls []) := by
  intro n
  induction n with
  | zero => intro x3 x4 x5 M0 H locs ls h; exact h.elim
  | succ n ih =>
  intro x3 x4 x5 M0 H locs ls h hP hS hl
  simp only [wp_Layout_unite_36] at h
  refine lv_iload hC.1 hC.2.1 d_Layout_unite_36 (lv_at hl 3 rfl) ?_
  refine xi_bipush hC d_Layout_unite_38 (by decide) ?_
  obtain ⟨b0, h⟩ := h
  refine xi_cge hC (tgt := 69) d_Layout_unite_40 (by decide) b0 (xl rfl) (fun q => ?_) (fun q => ?_)
  · have h := h.1 q
    exact xr_v hC hr hlocks hK hP hS h d_Layout_unite_69
  · have h := h.2 q
    refine lv_aload_n hC.1 hC.2.1 d_Layout_unite_43 rfl (lv_at hl 0 rfl) ?_
    refine gf_Layout_21 hC hK hP hst hk0 d_Layout_unite_44 ?_
    refine lv_iload hC.1 hC.2.1 d_Layout_unite_47 (lv_at hl 3 rfl) ?_
    obtain ⟨hi, h⟩ := h
    refine xg_ald hC hK hP (aL4 hk0) (by decide) hi d_Layout_unite_49 ?_
    refine lv_iload hC.1 hC.2.1 d_Layout_unite_50 (lv_at hl 2 rfl) ?_
    obtain ⟨b0, h⟩ := h
    obtain ⟨b1, h⟩ := h
    refine xi_cne hC (tgt := 63) d_Layout_unite_52 (by decide) b0 b1 (fun q => ?_) (fun q => ?_)
    · have h := h.1 q
      obtain ⟨v5_1, ev5_1⟩ : ∃ y : Int, y = x5 + 1 := ⟨_, rfl⟩
      have h := h v5_1 ev5_1
      refine xi_iinc (v := v5_1) (lv' := [(5, iv v5_1), (0, .ref (b + k0)), (3, iv x3), (4, iv x4)]) hC d_Layout_unite_63 hl (k := 3) rfl ev5_1 (by decide) rfl (fun ls hl => ?_)
      refine lv_goto (tgt := 36) hC.1 hC.2.1 d_Layout_unite_66 (by decide) ?_
      exact ih _ _ _ _ _ _ _ h hP hS (lv_sub hl [1, 2, 3, 0] rfl)
    · have h := h.2 q
      refine lv_aload_n hC.1 hC.2.1 d_Layout_unite_55 rfl (lv_at hl 0 rfl) ?_
      refine gf_Layout_21 hC hK hP hst hk0 d_Layout_unite_56 ?_
      refine lv_iload hC.1 hC.2.1 d_Layout_unite_59 (lv_at hl 3 rfl) ?_
      refine lv_iload_n hC.1 hC.2.1 d_Layout_unite_61 rfl (lv_at hl 1 rfl) ?_
      obtain ⟨hi, h⟩ := h
      refine xg_ast hC hK hP hS (aL4 hk0) (by decide) hi d_Layout_unite_62 (fun H locs hP hS => ?_)
      obtain ⟨M_2, eM_2⟩ : ∃ y : Mem, y = up M0 (k0 + 4) x5.toNat x3 := ⟨_, rfl⟩
      rw [← eM_2] at hP
      have h := h M_2 eM_2
      obtain ⟨v5_3, ev5_3⟩ : ∃ y : Int, y = x5 + 1 := ⟨_, rfl⟩
      have h := h v5_3 ev5_3
      refine xi_iinc (v := v5_3) (lv' := [(5, iv v5_3), (0, .ref (b + k0)), (3, iv x3), (4, iv x4)]) hC d_Layout_unite_63 hl (k := 3) rfl ev5_3 (by decide) rfl (fun ls hl => ?_)
      refine lv_goto (tgt := 36) hC.1 hC.2.1 d_Layout_unite_66 (by decide) ?_
      exact ih _ _ _ _ _ _ _ h hP hS (lv_sub hl [1, 2, 3, 0] rfl)
set_option maxHeartbeats 4000000 in
theorem c_Layout_unite (l : Launch) (D : va_G) (g : Nat → ClassId) (b sz : Nat) {k0 : Nat} (hk0 : isL k0) {x1 x2 : Int} {M0 : Mem} {Post : Mem → Prop} (h : wp_Layout_unite k0 x1 x2 M0 Post) : Met l y_Layout_unite (Cond.code y_Layout_unite b_Layout_unite 6 (none) :: gd) ({ frames := 1, cells := 0, slots := 0, locals := 24 }) (PcG D g b 174 (cellC b g) sz M0 [.ref (b + k0), iv x1, iv x2]) (QV D g b 174 (cellC b g) sz Post) 0 0 (rA b 174 sz) := by
  refine xm_start (by decide) rfl (Nat.le_of_ble_eq_true rfl) ?_
  intro p e s m below meth c ls H args hC hr hlocks hK hP hst hz hS hH hl
  have hl : lv_has ls 6 [(0, .ref (b + k0)), (1, iv x1), (2, iv x2)] := hl
  unfold wp_Layout_unite at h
  refine lv_aload_n hC.1 hC.2.1 d_Layout_unite_0 rfl (lv_at hl 0 rfl) ?_
  refine gf_Layout_21 hC hK hP hst hk0 d_Layout_unite_1 ?_
  refine lv_iload_n hC.1 hC.2.1 d_Layout_unite_4 rfl (lv_at hl 1 rfl) ?_
  obtain ⟨hi, h⟩ := h
  refine xg_ald hC hK hP (aL4 hk0) (by decide) hi d_Layout_unite_5 ?_
  refine lv_aload_n hC.1 hC.2.1 d_Layout_unite_6 rfl (lv_at hl 0 rfl) ?_
  refine gf_Layout_21 hC hK hP hst hk0 d_Layout_unite_7 ?_
  refine lv_iload_n hC.1 hC.2.1 d_Layout_unite_10 rfl (lv_at hl 2 rfl) ?_
  obtain ⟨hi, h⟩ := h
  refine xg_ald hC hK hP (aL4 hk0) (by decide) hi d_Layout_unite_11 ?_
  obtain ⟨b0, h⟩ := h
  obtain ⟨b1, h⟩ := h
  refine xi_min hC lm_Layout_39 hl.1 (Nat.le_of_ble_eq_true rfl) (Nat.le_of_ble_eq_true rfl) (Nat.le_of_ble_eq_true rfl) (Nat.le_of_ble_eq_true rfl) b0 b1 d_Layout_unite_12 ?_
  refine xi_top (fun v3_1 ev3_1 => ?_)
  have h := h v3_1 ev3_1
  refine lv_istore_n (lv' := [(3, iv v3_1), (0, .ref (b + k0)), (1, iv x1), (2, iv x2)]) hC.1 hC.2.1 d_Layout_unite_15 rfl hl (by decide) rfl (fun ls hl => ?_)
  refine lv_aload_n hC.1 hC.2.1 d_Layout_unite_16 rfl (lv_at hl 1 rfl) ?_
  refine gf_Layout_21 hC hK hP hst hk0 d_Layout_unite_17 ?_
  refine lv_iload_n hC.1 hC.2.1 d_Layout_unite_20 rfl (lv_at hl 2 rfl) ?_
  obtain ⟨hi, h⟩ := h
  refine xg_ald hC hK hP (aL4 hk0) (by decide) hi d_Layout_unite_21 ?_
  refine lv_aload_n hC.1 hC.2.1 d_Layout_unite_22 rfl (lv_at hl 1 rfl) ?_
  refine gf_Layout_21 hC hK hP hst hk0 d_Layout_unite_23 ?_
  refine lv_iload_n hC.1 hC.2.1 d_Layout_unite_26 rfl (lv_at hl 3 rfl) ?_
  obtain ⟨hi, h⟩ := h
  refine xg_ald hC hK hP (aL4 hk0) (by decide) hi d_Layout_unite_27 ?_
  obtain ⟨b0, h⟩ := h
  obtain ⟨b1, h⟩ := h
  refine xi_max hC lm_Layout_45 hl.1 (Nat.le_of_ble_eq_true rfl) (Nat.le_of_ble_eq_true rfl) (Nat.le_of_ble_eq_true rfl) (Nat.le_of_ble_eq_true rfl) b0 b1 d_Layout_unite_28 ?_
  refine xi_top (fun v4_2 ev4_2 => ?_)
  have h := h v4_2 ev4_2
  refine lv_istore (lv' := [(4, iv v4_2), (3, iv v3_1), (0, .ref (b + k0)), (1, iv x1), (2, iv x2)]) hC.1 hC.2.1 d_Layout_unite_31 hl (by decide) rfl (fun ls hl => ?_)
  refine xi_const hC d_Layout_unite_33 ?_
  refine lv_istore (lv' := [(5, iv 0), (4, iv v4_2), (3, iv v3_1), (0, .ref (b + k0)), (1, iv x1), (2, iv x2)]) hC.1 hC.2.1 d_Layout_unite_34 hl (by decide) rfl (fun ls hl => ?_)
  obtain ⟨nn, h⟩ := h
  exact s_Layout_unite_36 hC hr hlocks hK hst hz hk0 nn _ _ _ _ _ _ _ h hP hS (lv_sub hl [3, 2, 1, 0] rfl)
