set_option maxHeartbeats 4000000 in
theorem c_X_sherd (l : Launch) (hfl : l.stackTraces = false) (D : va_G) (g : Nat → ClassId) (b sz : Nat) {M0 : Mem} {Post : Int → Mem → Prop} {PostX : Nat → Prop} (h : wp_X_sherd M0 Post PostX) : MetX l y_X_sherd (Cond.code y_X_sherd b_X_sherd 1 (some .int) :: gd) ({ frames := 6, cells := 1, slots := 6, locals := 90 }) (PcG D g b 174 (cellC b g) sz M0 [.ref (b + 0)]) (QXI D g b 174 (cellC b g) sz Post PostX) 1 6 (rA b 174 sz) := by
  refine xm_startX (by decide) rfl (Nat.le_of_ble_eq_true rfl) ?_
  intro p e s m below meth c ls H args hC hr hlocks hexc hK hP hst hz hS hH hl
  have hl : lv_has ls 1 [(0, .ref (b + 0))] := hl
  unfold wp_X_sherd at h
  refine lv_aload_n hC.1 hC.2.1 d_X_sherd_0 rfl (lv_at hl 0 rfl) ?_
  refine gf_X_40 hC hK hP hst d_X_sherd_1 ?_
  refine xi_bipush hC d_X_sherd_4 (by decide) ?_
  obtain ⟨b0, h⟩ := h
  refine xi_clt hC (tgt := 19) d_X_sherd_6 (by decide) b0 (xl rfl) (fun q => ?_) (fun q => ?_)
  · have h := h.1 q
    refine lv_aload_n hC.1 hC.2.1 d_X_sherd_19 rfl (lv_at hl 0 rfl) ?_
    refine lv_dup hC.1 hC.2.1 d_X_sherd_20 rfl ?_
    refine gf_X_40 hC hK hP hst d_X_sherd_21 ?_
    refine xi_const hC d_X_sherd_24 ?_
    refine xi_add hC d_X_sherd_25 ?_
    refine pf_X_40 hC hK hP hS hst d_X_sherd_26 (fun H locs hP hS => ?_)
    obtain ⟨M_1, eM_1⟩ : ∃ y : Mem, y = up M0 0 5 ((M0 0 5) + 1) := ⟨_, rfl⟩
    rw [← eM_1] at hP
    have h := h M_1 eM_1
    refine lv_aload_n hC.1 hC.2.1 d_X_sherd_29 rfl (lv_at hl 0 rfl) ?_
    refine gf_X_40 hC hK hP hst d_X_sherd_30 ?_
    refine xi_const hC d_X_sherd_33 ?_
    refine xi_sub hC d_X_sherd_34 ?_
    exact xr_iX hC hr hlocks hK hP hS h d_X_sherd_35 (Nat.le_of_ble_eq_true rfl) (Nat.le_of_ble_eq_true rfl)
  · have h := h.2 q
    exact xt_core hfl (fun a t hx => Or.inr ⟨a, _, rfl, h, hx⟩) hC hlocks hexc hH hst hl.1 lt_X_57_59_61 d_X_sherd_9 d_X_sherd_12 d_X_sherd_13 d_X_sherd_15 d_X_sherd_18 (Nat.le_of_ble_eq_true rfl) (Nat.le_of_ble_eq_true rfl) ⟨Nat.le_of_ble_eq_true rfl, Nat.le_of_ble_eq_true rfl⟩ (Nat.le_of_ble_eq_true rfl) (Nat.le_of_ble_eq_true rfl)
set_option maxHeartbeats 4000000 in
theorem c_X_edgeOf (l : Launch) (hfl : l.stackTraces = false) (D : va_G) (g : Nat → ClassId) (b sz : Nat) {x1 : Int} {M0 : Mem} {Post : Nat → Prop} {PostX : Nat → Prop} (h : wp_X_edgeOf x1 M0 Post PostX) : MetX l y_X_edgeOf (Cond.code y_X_edgeOf b_X_edgeOf 2 (some (.object "EdgeJoins$Edge")) :: gd) ({ frames := 6, cells := 1, slots := 6, locals := 90 }) (PcG D g b 174 (cellC b g) sz M0 [.ref (b + 0), iv x1]) (QXR b isE Post PostX) 1 6 nil_ := by
  refine xm_startX (by decide) rfl (Nat.le_of_ble_eq_true rfl) ?_
  intro p e s m below meth c ls H args hC hr hlocks hexc hK hP hst hz hS hH hl
  have hl : lv_has ls 2 [(0, .ref (b + 0)), (1, iv x1)] := hl
  unfold wp_X_edgeOf at h
  refine lv_aload_n hC.1 hC.2.1 d_X_edgeOf_0 rfl (lv_at hl 0 rfl) ?_
  refine lv_iload_n hC.1 hC.2.1 d_X_edgeOf_1 rfl (lv_at hl 1 rfl) ?_
  refine xk_VP (As := [iv x1]) (rest := []) hC hK hP hS hst hz hl.1 lk_X_181 rfl rfl rfl ⟨Nat.le_of_ble_eq_true rfl, Nat.le_of_ble_eq_true rfl⟩ (rc_X hK hP) (fun sz' => c_X_isSherd l D g b sz' h) d_X_edgeOf_2 rfl (Nat.le_of_ble_eq_true rfl) ⟨Nat.le_of_ble_eq_true rfl, Nat.le_of_ble_eq_true rfl⟩ (fun r_1 h => ?_)
  try dsimp only at h
  obtain ⟨b0, h⟩ := h
  refine xi_ine hC (tgt := 18) d_X_edgeOf_5 (by decide) b0 (fun q => ?_) (fun q => ?_)
  · have h := h.1 q
    refine lv_aload_n hC.1 hC.2.1 d_X_edgeOf_18 rfl (lv_at hl 0 rfl) ?_
    refine gf_X_11 hC hK hP hst d_X_edgeOf_19 ?_
    refine lv_iload_n hC.1 hC.2.1 d_X_edgeOf_22 rfl (lv_at hl 1 rfl) ?_
    obtain ⟨hi, h⟩ := h
    refine al_EdgeArr hC hK hP hi d_X_edgeOf_23 (fun hq_2 => ?_)
    exact xr_rpX hC hr hlocks hH hq_2 h d_X_edgeOf_24 (Nat.le_of_ble_eq_true rfl) (Nat.le_of_ble_eq_true rfl)
  · have h := h.2 q
    exact xt_core hfl (fun a t hx => Or.inr ⟨a, _, rfl, h, hx⟩) hC hlocks hexc hH hst hl.1 lt_X_86_185_90 d_X_edgeOf_8 d_X_edgeOf_11 d_X_edgeOf_12 d_X_edgeOf_14 d_X_edgeOf_17 (Nat.le_of_ble_eq_true rfl) (Nat.le_of_ble_eq_true rfl) ⟨Nat.le_of_ble_eq_true rfl, Nat.le_of_ble_eq_true rfl⟩ (Nat.le_of_ble_eq_true rfl) (Nat.le_of_ble_eq_true rfl)
set_option maxHeartbeats 4000000 in
theorem c_X_step (l : Launch) (hfl : l.stackTraces = false) (D : va_G) (g : Nat → ClassId) (b sz : Nat) {x1 x2 : Int} {M0 : Mem} {Post : Int → Mem → Prop} {PostX : Nat → Prop} (h : wp_X_step x1 x2 M0 Post PostX) : MetX l y_X_step (Cond.code y_X_step b_X_step 4 (some .int) :: gd) ({ frames := 7, cells := 2, slots := 12, locals := 111 }) (PcG D g b 174 (cellC b g) sz M0 [.ref (b + 0), iv x1, iv x2]) (QXI D g b 174 (cellC b g) sz Post PostX) 2 12 (rA b 174 sz) := by
  refine xm_startX (by decide) rfl (Nat.le_of_ble_eq_true rfl) ?_
  intro p e s m below meth c ls H args hC hr hlocks hexc hK hP hst hz hS hH hl
  have hl : lv_has ls 4 [(0, .ref (b + 0)), (1, iv x1), (2, iv x2)] := hl
  unfold wp_X_step at h
  refine lv_aload_n hC.1 hC.2.1 d_X_step_0 rfl (lv_at hl 0 rfl) ?_
  refine lv_iload_n hC.1 hC.2.1 d_X_step_1 rfl (lv_at hl 1 rfl) ?_
  refine xk_VrX (fun a x t hp hx => Or.inr ⟨a, x, rfl, hp, hx⟩) (As := [iv x1]) (rest := []) hC hK hP hS hst hz hl.1 lk_X_64 ln_X_64 rfl rfl rfl ⟨Nat.le_of_ble_eq_true rfl, Nat.le_of_ble_eq_true rfl⟩ (rc_X hK hP) (fun sz' => c_X_edgeOf l hfl D g b sz' h) d_X_step_2 rfl (Nat.le_of_ble_eq_true rfl) ⟨Nat.le_of_ble_eq_true rfl, Nat.le_of_ble_eq_true rfl⟩ ⟨Nat.le_of_ble_eq_true rfl, Nat.le_of_ble_eq_true rfl⟩ hlocks hexc hH (fun r_1 hq_r_1 h => ?_)
  try dsimp only at h
  refine lv_astore_n (lv' := [(3, .ref (b + r_1)), (0, .ref (b + 0)), (1, iv x1), (2, iv x2)]) hC.1 hC.2.1 d_X_step_5 rfl hl (by decide) rfl (fun ls hl => ?_)
  refine lv_aload_n hC.1 hC.2.1 d_X_step_6 rfl (lv_at hl 0 rfl) ?_
  refine gf_X_68 hC hK hP hst hq_r_1 d_X_step_7 ?_
  obtain ⟨b0, h⟩ := h
  refine xi_ine hC (tgt := 22) d_X_step_10 (by decide) b0 (fun q => ?_) (fun q => ?_)
  · have h := h.1 q
    exact xt_core hfl (fun a t hx => Or.inr ⟨a, _, rfl, h, hx⟩) hC hlocks hexc hH hst hl.1 lt_X_57_75_61 d_X_step_22 d_X_step_25 d_X_step_26 d_X_step_28 d_X_step_31 (Nat.le_of_ble_eq_true rfl) (Nat.le_of_ble_eq_true rfl) ⟨Nat.le_of_ble_eq_true rfl, Nat.le_of_ble_eq_true rfl⟩ (Nat.le_of_ble_eq_true rfl) (Nat.le_of_ble_eq_true rfl)
  · have h := h.2 q
    refine lv_aload_n hC.1 hC.2.1 d_X_step_13 rfl (lv_at hl 0 rfl) ?_
    refine gf_X_72 hC hK hP hst hq_r_1 d_X_step_14 ?_
    refine xi_bipush hC d_X_step_17 (by decide) ?_
    obtain ⟨b0, h⟩ := h
    refine xi_clt hC (tgt := 32) d_X_step_19 (by decide) b0 (xl rfl) (fun q => ?_) (fun q => ?_)
    · have h := h.1 q
      refine lv_iload_n hC.1 hC.2.1 d_X_step_32 rfl (lv_at hl 3 rfl) ?_
      obtain ⟨b0, h⟩ := h
      refine xi_ilt hC (tgt := 41) d_X_step_33 (by decide) b0 (fun q => ?_) (fun q => ?_)
      · have h := h.1 q
        exact xt_core hfl (fun a t hx => Or.inr ⟨a, _, rfl, h, hx⟩) hC hlocks hexc hH hst hl.1 lt_X_77_79_81 d_X_step_41 d_X_step_44 d_X_step_45 d_X_step_47 d_X_step_50 (Nat.le_of_ble_eq_true rfl) (Nat.le_of_ble_eq_true rfl) ⟨Nat.le_of_ble_eq_true rfl, Nat.le_of_ble_eq_true rfl⟩ (Nat.le_of_ble_eq_true rfl) (Nat.le_of_ble_eq_true rfl)
      · have h := h.2 q
        refine lv_iload_n hC.1 hC.2.1 d_X_step_36 rfl (lv_at hl 3 rfl) ?_
        refine xi_const hC d_X_step_37 ?_
        obtain ⟨b0, h⟩ := h
        refine xi_cle hC (tgt := 51) d_X_step_38 (by decide) b0 (xl rfl) (fun q => ?_) (fun q => ?_)
        · have h := h.1 q
          refine lv_aload_n hC.1 hC.2.1 d_X_step_51 rfl (lv_at hl 0 rfl) ?_
          refine lv_iload_n hC.1 hC.2.1 d_X_step_52 rfl (lv_at hl 3 rfl) ?_
          refine xk_Vv (As := [iv x2]) (rest := []) hC hK hP hS hst hz hl.1 lk_X_82 rfl rfl rfl ⟨Nat.le_of_ble_eq_true rfl, Nat.le_of_ble_eq_true rfl⟩ (rc_Edge hK hP hq_r_1) (fun sz' => c_Edge_append l D g b sz' hq_r_1 h) d_X_step_53 rfl (Nat.le_of_ble_eq_true rfl) ⟨Nat.le_of_ble_eq_true rfl, Nat.le_of_ble_eq_true rfl⟩ (fun M_3 H locs h hP hS => ?_)
          try dsimp only at h
          refine lv_aload_n hC.1 hC.2.1 d_X_step_56 rfl (lv_at hl 0 rfl) ?_
          refine gf_X_72 hC hK hP hst hq_r_1 d_X_step_57 ?_
          exact xr_iX hC hr hlocks hK hP hS h d_X_step_60 (Nat.le_of_ble_eq_true rfl) (Nat.le_of_ble_eq_true rfl)
        · have h := h.2 q
          exact xt_core hfl (fun a t hx => Or.inr ⟨a, _, rfl, h, hx⟩) hC hlocks hexc hH hst hl.1 lt_X_77_79_81 d_X_step_41 d_X_step_44 d_X_step_45 d_X_step_47 d_X_step_50 (Nat.le_of_ble_eq_true rfl) (Nat.le_of_ble_eq_true rfl) ⟨Nat.le_of_ble_eq_true rfl, Nat.le_of_ble_eq_true rfl⟩ (Nat.le_of_ble_eq_true rfl) (Nat.le_of_ble_eq_true rfl)
    · have h := h.2 q
      exact xt_core hfl (fun a t hx => Or.inr ⟨a, _, rfl, h, hx⟩) hC hlocks hexc hH hst hl.1 lt_X_57_75_61 d_X_step_22 d_X_step_25 d_X_step_26 d_X_step_28 d_X_step_31 (Nat.le_of_ble_eq_true rfl) (Nat.le_of_ble_eq_true rfl) ⟨Nat.le_of_ble_eq_true rfl, Nat.le_of_ble_eq_true rfl⟩ (Nat.le_of_ble_eq_true rfl) (Nat.le_of_ble_eq_true rfl)
set_option maxHeartbeats 4000000 in
theorem c_X_height (l : Launch) (hfl : l.stackTraces = false) (D : va_G) (g : Nat → ClassId) (b sz : Nat) {x1 x2 x3 : Int} {M0 : Mem} {Post : Int → Mem → Prop} {PostX : Nat → Prop} (h : wp_X_height x1 x2 x3 M0 Post PostX) : MetX l y_X_height (Cond.code y_X_height b_X_height 6 (some .int) :: gd) ({ frames := 7, cells := 2, slots := 12, locals := 111 }) (PcG D g b 174 (cellC b g) sz M0 [.ref (b + 0), iv x1, iv x2, iv x3]) (QXI D g b 174 (cellC b g) sz Post PostX) 2 12 (rA b 174 sz) := by
  refine xm_startX (by decide) rfl (Nat.le_of_ble_eq_true rfl) ?_
  intro p e s m below meth c ls H args hC hr hlocks hexc hK hP hst hz hS hH hl
  have hl : lv_has ls 6 [(0, .ref (b + 0)), (1, iv x1), (2, iv x2), (3, iv x3)] := hl
  unfold wp_X_height at h
  refine lv_aload_n hC.1 hC.2.1 d_X_height_0 rfl (lv_at hl 0 rfl) ?_
  refine lv_iload_n hC.1 hC.2.1 d_X_height_1 rfl (lv_at hl 1 rfl) ?_
  refine xk_VrX (fun a x t hp hx => Or.inr ⟨a, x, rfl, hp, hx⟩) (As := [iv x1]) (rest := []) hC hK hP hS hst hz hl.1 lk_X_64 ln_X_64 rfl rfl rfl ⟨Nat.le_of_ble_eq_true rfl, Nat.le_of_ble_eq_true rfl⟩ (rc_X hK hP) (fun sz' => c_X_edgeOf l hfl D g b sz' h) d_X_height_2 rfl (Nat.le_of_ble_eq_true rfl) ⟨Nat.le_of_ble_eq_true rfl, Nat.le_of_ble_eq_true rfl⟩ ⟨Nat.le_of_ble_eq_true rfl, Nat.le_of_ble_eq_true rfl⟩ hlocks hexc hH (fun r_1 hq_r_1 h => ?_)
  try dsimp only at h
  refine lv_astore (lv' := [(4, .ref (b + r_1)), (0, .ref (b + 0)), (1, iv x1), (2, iv x2), (3, iv x3)]) hC.1 hC.2.1 d_X_height_5 hl (by decide) rfl (fun ls hl => ?_)
  refine lv_iload_n hC.1 hC.2.1 d_X_height_7 rfl (lv_at hl 3 rfl) ?_
  obtain ⟨b0, h⟩ := h
  refine xi_ilt hC (tgt := 20) d_X_height_8 (by decide) b0 (fun q => ?_) (fun q => ?_)
  · have h := h.1 q
    exact xt_core hfl (fun a t hx => Or.inr ⟨a, _, rfl, h, hx⟩) hC hlocks hexc hH hst hl.1 lt_X_86_88_90 d_X_height_20 d_X_height_23 d_X_height_24 d_X_height_26 d_X_height_29 (Nat.le_of_ble_eq_true rfl) (Nat.le_of_ble_eq_true rfl) ⟨Nat.le_of_ble_eq_true rfl, Nat.le_of_ble_eq_true rfl⟩ (Nat.le_of_ble_eq_true rfl) (Nat.le_of_ble_eq_true rfl)
  · have h := h.2 q
    refine lv_iload_n hC.1 hC.2.1 d_X_height_11 rfl (lv_at hl 3 rfl) ?_
    refine lv_aload hC.1 hC.2.1 d_X_height_12 (lv_at hl 0 rfl) ?_
    refine gf_X_72 hC hK hP hst hq_r_1 d_X_height_14 ?_
    obtain ⟨b0, h⟩ := h
    obtain ⟨b1, h⟩ := h
    refine xi_clt hC (tgt := 30) d_X_height_17 (by decide) b0 b1 (fun q => ?_) (fun q => ?_)
    · have h := h.1 q
      refine lv_iload_n hC.1 hC.2.1 d_X_height_30 rfl (lv_at hl 4 rfl) ?_
      obtain ⟨b0, h⟩ := h
      refine xi_ilt hC (tgt := 40) d_X_height_31 (by decide) b0 (fun q => ?_) (fun q => ?_)
      · have h := h.1 q
        exact xt_core hfl (fun a t hx => Or.inr ⟨a, _, rfl, h, hx⟩) hC hlocks hexc hH hst hl.1 lt_X_77_91_81 d_X_height_40 d_X_height_43 d_X_height_44 d_X_height_46 d_X_height_49 (Nat.le_of_ble_eq_true rfl) (Nat.le_of_ble_eq_true rfl) ⟨Nat.le_of_ble_eq_true rfl, Nat.le_of_ble_eq_true rfl⟩ (Nat.le_of_ble_eq_true rfl) (Nat.le_of_ble_eq_true rfl)
      · have h := h.2 q
        refine lv_iload_n hC.1 hC.2.1 d_X_height_34 rfl (lv_at hl 4 rfl) ?_
        refine xi_bipush hC d_X_height_35 (by decide) ?_
        obtain ⟨b0, h⟩ := h
        refine xi_cle hC (tgt := 50) d_X_height_37 (by decide) b0 (xl rfl) (fun q => ?_) (fun q => ?_)
        · have h := h.1 q
          refine lv_aload hC.1 hC.2.1 d_X_height_50 (lv_at hl 0 rfl) ?_
          refine gf_X_93 hC hK hP hst hq_r_1 d_X_height_52 ?_
          refine lv_iload_n hC.1 hC.2.1 d_X_height_55 rfl (lv_at hl 3 rfl) ?_
          obtain ⟨hi, h⟩ := h
          refine xg_ald hC hK hP (aE2 hq_r_1) (by decide) hi d_X_height_56 ?_
          refine xi_top (fun v5_2 ev5_2 => ?_)
          have h := h v5_2 ev5_2
          refine lv_istore (lv' := [(5, iv v5_2), (4, .ref (b + r_1)), (0, .ref (b + 0)), (1, iv x1), (2, iv x2), (3, iv x3)]) hC.1 hC.2.1 d_X_height_57 hl (by decide) rfl (fun ls hl => ?_)
          refine lv_aload hC.1 hC.2.1 d_X_height_59 (lv_at hl 1 rfl) ?_
          refine gf_X_93 hC hK hP hst hq_r_1 d_X_height_61 ?_
          refine lv_iload_n hC.1 hC.2.1 d_X_height_64 rfl (lv_at hl 4 rfl) ?_
          refine lv_iload_n hC.1 hC.2.1 d_X_height_65 rfl (lv_at hl 5 rfl) ?_
          obtain ⟨hi, h⟩ := h
          refine xg_ast hC hK hP hS (aE2 hq_r_1) (by decide) hi d_X_height_66 (fun H locs hP hS => ?_)
          obtain ⟨M_3, eM_3⟩ : ∃ y : Mem, y = up M0 (r_1 + 2) x2.toNat x3 := ⟨_, rfl⟩
          rw [← eM_3] at hP
          have h := h M_3 eM_3
          refine lv_aload_n hC.1 hC.2.1 d_X_height_67 rfl (lv_at hl 2 rfl) ?_
          refine gf_X_29 hC hK hP hst d_X_height_68 ?_
          refine xk_Vv (As := []) (rest := []) hC hK hP hS hst hz hl.1 lk_X_97 rfl rfl rfl ⟨Nat.le_of_ble_eq_true rfl, Nat.le_of_ble_eq_true rfl⟩ (rc_Ranking hK hP) (fun sz' => c_Ranking_clear l D g b sz' h) d_X_height_71 rfl (Nat.le_of_ble_eq_true rfl) ⟨Nat.le_of_ble_eq_true rfl, Nat.le_of_ble_eq_true rfl⟩ (fun M_5 H locs h hP hS => ?_)
          try dsimp only at h
          refine lv_iload hC.1 hC.2.1 d_X_height_74 (lv_at hl 0 rfl) ?_
          exact xr_iX hC hr hlocks hK hP hS h d_X_height_76 (Nat.le_of_ble_eq_true rfl) (Nat.le_of_ble_eq_true rfl)
        · have h := h.2 q
          exact xt_core hfl (fun a t hx => Or.inr ⟨a, _, rfl, h, hx⟩) hC hlocks hexc hH hst hl.1 lt_X_77_91_81 d_X_height_40 d_X_height_43 d_X_height_44 d_X_height_46 d_X_height_49 (Nat.le_of_ble_eq_true rfl) (Nat.le_of_ble_eq_true rfl) ⟨Nat.le_of_ble_eq_true rfl, Nat.le_of_ble_eq_true rfl⟩ (Nat.le_of_ble_eq_true rfl) (Nat.le_of_ble_eq_true rfl)
    · have h := h.2 q
      exact xt_core hfl (fun a t hx => Or.inr ⟨a, _, rfl, h, hx⟩) hC hlocks hexc hH hst hl.1 lt_X_86_88_90 d_X_height_20 d_X_height_23 d_X_height_24 d_X_height_26 d_X_height_29 (Nat.le_of_ble_eq_true rfl) (Nat.le_of_ble_eq_true rfl) ⟨Nat.le_of_ble_eq_true rfl, Nat.le_of_ble_eq_true rfl⟩ (Nat.le_of_ble_eq_true rfl) (Nat.le_of_ble_eq_true rfl)
set_option maxHeartbeats 4000000 in
theorem c_X_close (l : Launch) (hfl : l.stackTraces = false) (D : va_G) (g : Nat → ClassId) (b sz : Nat) {x1 : Int} {M0 : Mem} {Post : Int → Mem → Prop} {PostX : Nat → Prop} (h : wp_X_close x1 M0 Post PostX) : MetX l y_X_close (Cond.code y_X_close b_X_close 3 (some .int) :: gd) ({ frames := 7, cells := 1, slots := 6, locals := 111 }) (PcG D g b 174 (cellC b g) sz M0 [.ref (b + 0), iv x1]) (QXI D g b 174 (cellC b g) sz Post PostX) 1 6 (rA b 174 sz) := by
  refine xm_startX (by decide) rfl (Nat.le_of_ble_eq_true rfl) ?_
  intro p e s m below meth c ls H args hC hr hlocks hexc hK hP hst hz hS hH hl
  have hl : lv_has ls 3 [(0, .ref (b + 0)), (1, iv x1)] := hl
  unfold wp_X_close at h
  refine lv_aload_n hC.1 hC.2.1 d_X_close_0 rfl (lv_at hl 0 rfl) ?_
  refine lv_iload_n hC.1 hC.2.1 d_X_close_1 rfl (lv_at hl 1 rfl) ?_
  refine xk_VrX (fun a x t hp hx => Or.inr ⟨a, x, rfl, hp, hx⟩) (As := [iv x1]) (rest := []) hC hK hP hS hst hz hl.1 lk_X_64 ln_X_64 rfl rfl rfl ⟨Nat.le_of_ble_eq_true rfl, Nat.le_of_ble_eq_true rfl⟩ (rc_X hK hP) (fun sz' => c_X_edgeOf l hfl D g b sz' h) d_X_close_2 rfl (Nat.le_of_ble_eq_true rfl) ⟨Nat.le_of_ble_eq_true rfl, Nat.le_of_ble_eq_true rfl⟩ ⟨Nat.le_of_ble_eq_true rfl, Nat.le_of_ble_eq_true rfl⟩ hlocks hexc hH (fun r_1 hq_r_1 h => ?_)
  try dsimp only at h
  refine lv_astore_n (lv' := [(2, .ref (b + r_1)), (0, .ref (b + 0)), (1, iv x1)]) hC.1 hC.2.1 d_X_close_5 rfl hl (by decide) rfl (fun ls hl => ?_)
  refine lv_aload_n hC.1 hC.2.1 d_X_close_6 rfl (lv_at hl 0 rfl) ?_
  refine gf_X_68 hC hK hP hst hq_r_1 d_X_close_7 ?_
  obtain ⟨b0, h⟩ := h
  refine xi_ine hC (tgt := 20) d_X_close_10 (by decide) b0 (fun q => ?_) (fun q => ?_)
  · have h := h.1 q
    refine xi_const hC d_X_close_20 ?_
    exact xr_iX hC hr hlocks hK hP hS h d_X_close_21 (Nat.le_of_ble_eq_true rfl) (Nat.le_of_ble_eq_true rfl)
  · have h := h.2 q
    refine lv_aload_n hC.1 hC.2.1 d_X_close_13 rfl (lv_at hl 0 rfl) ?_
    refine xk_VP (As := []) (rest := []) hC hK hP hS hst hz hl.1 lk_X_100 rfl rfl rfl ⟨Nat.le_of_ble_eq_true rfl, Nat.le_of_ble_eq_true rfl⟩ (rc_Edge hK hP hq_r_1) (fun sz' => c_Edge_canBeClosed l D g b sz' hq_r_1 h) d_X_close_14 rfl (Nat.le_of_ble_eq_true rfl) ⟨Nat.le_of_ble_eq_true rfl, Nat.le_of_ble_eq_true rfl⟩ (fun r_2 h => ?_)
    try dsimp only at h
    obtain ⟨b0, h⟩ := h
    refine xi_ine hC (tgt := 22) d_X_close_17 (by decide) b0 (fun q => ?_) (fun q => ?_)
    · have h := h.1 q
      refine lv_aload_n hC.1 hC.2.1 d_X_close_22 rfl (lv_at hl 0 rfl) ?_
      refine xi_const hC d_X_close_23 ?_
      refine pf_X_68 hC hK hP hS hst hq_r_1 (by decide) d_X_close_24 (fun H locs hP hS => ?_)
      obtain ⟨M_3, eM_3⟩ : ∃ y : Mem, y = up M0 r_1 5 1 := ⟨_, rfl⟩
      rw [← eM_3] at hP
      have h := h M_3 eM_3
      refine lv_aload_n hC.1 hC.2.1 d_X_close_27 rfl (lv_at hl 1 rfl) ?_
      refine lv_dup hC.1 hC.2.1 d_X_close_28 rfl ?_
      refine gf_X_44 hC hK hP hst d_X_close_29 ?_
      refine xi_const hC d_X_close_32 ?_
      refine xi_add hC d_X_close_33 ?_
      refine pf_X_44 hC hK hP hS hst d_X_close_34 (fun H locs hP hS => ?_)
      obtain ⟨M_4, eM_4⟩ : ∃ y : Mem, y = up M_3 0 6 ((M_3 0 6) + 1) := ⟨_, rfl⟩
      rw [← eM_4] at hP
      have h := h M_4 eM_4
      refine lv_aload_n hC.1 hC.2.1 d_X_close_37 rfl (lv_at hl 1 rfl) ?_
      refine gf_X_29 hC hK hP hst d_X_close_38 ?_
      refine xk_Vv (As := []) (rest := []) hC hK hP hS hst hz hl.1 lk_X_97 rfl rfl rfl ⟨Nat.le_of_ble_eq_true rfl, Nat.le_of_ble_eq_true rfl⟩ (rc_Ranking hK hP) (fun sz' => c_Ranking_clear l D g b sz' h) d_X_close_41 rfl (Nat.le_of_ble_eq_true rfl) ⟨Nat.le_of_ble_eq_true rfl, Nat.le_of_ble_eq_true rfl⟩ (fun M_6 H locs h hP hS => ?_)
      try dsimp only at h
      refine lv_aload_n hC.1 hC.2.1 d_X_close_44 rfl (lv_at hl 0 rfl) ?_
      refine xk_VP (As := []) (rest := []) hC hK hP hS hst hz hl.1 lk_X_104 rfl rfl rfl ⟨Nat.le_of_ble_eq_true rfl, Nat.le_of_ble_eq_true rfl⟩ (rc_Edge hK hP hq_r_1) (fun sz' => c_Edge_area l D g b sz' hq_r_1 h) d_X_close_45 rfl (Nat.le_of_ble_eq_true rfl) ⟨Nat.le_of_ble_eq_true rfl, Nat.le_of_ble_eq_true rfl⟩ (fun r_7 h => ?_)
      try dsimp only at h
      exact xr_iX hC hr hlocks hK hP hS h d_X_close_48 (Nat.le_of_ble_eq_true rfl) (Nat.le_of_ble_eq_true rfl)
    · have h := h.2 q
      refine xi_const hC d_X_close_20 ?_
      exact xr_iX hC hr hlocks hK hP hS h d_X_close_21 (Nat.le_of_ble_eq_true rfl) (Nat.le_of_ble_eq_true rfl)
set_option maxHeartbeats 4000000 in
theorem c_X_least (l : Launch) (hfl : l.stackTraces = false) (D : va_G) (g : Nat → ClassId) (b sz : Nat) {x1 : Int} {M0 : Mem} {Post : Int → Mem → Prop} {PostX : Nat → Prop} (h : wp_X_least x1 M0 Post PostX) : MetX l y_X_least (Cond.code y_X_least b_X_least 3 (some .int) :: gd) ({ frames := 6, cells := 1, slots := 6, locals := 90 }) (PcG D g b 174 (cellC b g) sz M0 [.ref (b + 0), iv x1]) (QXI D g b 174 (cellC b g) sz Post PostX) 1 6 (rA b 174 sz) := by
  refine xm_startX (by decide) rfl (Nat.le_of_ble_eq_true rfl) ?_
  intro p e s m below meth c ls H args hC hr hlocks hexc hK hP hst hz hS hH hl
  have hl : lv_has ls 3 [(0, .ref (b + 0)), (1, iv x1)] := hl
  unfold wp_X_least at h
  refine lv_iload_n hC.1 hC.2.1 d_X_least_0 rfl (lv_at hl 1 rfl) ?_
  refine xi_const hC d_X_least_1 ?_
  obtain ⟨b0, h⟩ := h
  refine xi_clt hC (tgt := 11) d_X_least_2 (by decide) b0 (xl rfl) (fun q => ?_) (fun q => ?_)
  · have h := h.1 q
    exact xt_core hfl (fun a t hx => Or.inr ⟨a, _, rfl, h, hx⟩) hC hlocks hexc hH hst hl.1 lt_X_77_108_81 d_X_least_11 d_X_least_14 d_X_least_15 d_X_least_17 d_X_least_20 (Nat.le_of_ble_eq_true rfl) (Nat.le_of_ble_eq_true rfl) ⟨Nat.le_of_ble_eq_true rfl, Nat.le_of_ble_eq_true rfl⟩ (Nat.le_of_ble_eq_true rfl) (Nat.le_of_ble_eq_true rfl)
  · have h := h.2 q
    refine lv_iload_n hC.1 hC.2.1 d_X_least_5 rfl (lv_at hl 1 rfl) ?_
    refine xi_bipush hC d_X_least_6 (by decide) ?_
    obtain ⟨b0, h⟩ := h
    refine xi_cle hC (tgt := 21) d_X_least_8 (by decide) b0 (xl rfl) (fun q => ?_) (fun q => ?_)
    · have h := h.1 q
      refine lv_aload_n hC.1 hC.2.1 d_X_least_21 rfl (lv_at hl 0 rfl) ?_
      refine gf_X_50 hC hK hP hst d_X_least_22 ?_
      refine xi_top (fun v2_1 ev2_1 => ?_)
      have h := h v2_1 ev2_1
      refine lv_istore_n (lv' := [(2, iv v2_1), (0, .ref (b + 0)), (1, iv x1)]) hC.1 hC.2.1 d_X_least_25 rfl hl (by decide) rfl (fun ls hl => ?_)
      refine lv_aload_n hC.1 hC.2.1 d_X_least_26 rfl (lv_at hl 1 rfl) ?_
      refine lv_iload_n hC.1 hC.2.1 d_X_least_27 rfl (lv_at hl 2 rfl) ?_
      refine pf_X_50 hC hK hP hS hst d_X_least_28 (fun H locs hP hS => ?_)
      obtain ⟨M_2, eM_2⟩ : ∃ y : Mem, y = up M0 0 8 x1 := ⟨_, rfl⟩
      rw [← eM_2] at hP
      have h := h M_2 eM_2
      refine lv_aload_n hC.1 hC.2.1 d_X_least_31 rfl (lv_at hl 1 rfl) ?_
      refine gf_X_29 hC hK hP hst d_X_least_32 ?_
      refine xk_Vv (As := []) (rest := []) hC hK hP hS hst hz hl.1 lk_X_97 rfl rfl rfl ⟨Nat.le_of_ble_eq_true rfl, Nat.le_of_ble_eq_true rfl⟩ (rc_Ranking hK hP) (fun sz' => c_Ranking_clear l D g b sz' h) d_X_least_35 rfl (Nat.le_of_ble_eq_true rfl) ⟨Nat.le_of_ble_eq_true rfl, Nat.le_of_ble_eq_true rfl⟩ (fun M_4 H locs h hP hS => ?_)
      try dsimp only at h
      refine lv_iload_n hC.1 hC.2.1 d_X_least_38 rfl (lv_at hl 0 rfl) ?_
      exact xr_iX hC hr hlocks hK hP hS h d_X_least_39 (Nat.le_of_ble_eq_true rfl) (Nat.le_of_ble_eq_true rfl)
    · have h := h.2 q
      exact xt_core hfl (fun a t hx => Or.inr ⟨a, _, rfl, h, hx⟩) hC hlocks hexc hH hst hl.1 lt_X_77_108_81 d_X_least_11 d_X_least_14 d_X_least_15 d_X_least_17 d_X_least_20 (Nat.le_of_ble_eq_true rfl) (Nat.le_of_ble_eq_true rfl) ⟨Nat.le_of_ble_eq_true rfl, Nat.le_of_ble_eq_true rfl⟩ (Nat.le_of_ble_eq_true rfl) (Nat.le_of_ble_eq_true rfl)
set_option maxHeartbeats 4000000 in
theorem c_X_bound (l : Launch) (hfl : l.stackTraces = false) (D : va_G) (g : Nat → ClassId) (b sz : Nat) {x1 : Int} {M0 : Mem} {Post : Int → Mem → Prop} {PostX : Nat → Prop} (h : wp_X_bound x1 M0 Post PostX) : MetX l y_X_bound (Cond.code y_X_bound b_X_bound 3 (some .int) :: gd) ({ frames := 6, cells := 1, slots := 6, locals := 90 }) (PcG D g b 174 (cellC b g) sz M0 [.ref (b + 0), iv x1]) (QXI D g b 174 (cellC b g) sz Post PostX) 1 6 (rA b 174 sz) := by
  refine xm_startX (by decide) rfl (Nat.le_of_ble_eq_true rfl) ?_
  intro p e s m below meth c ls H args hC hr hlocks hexc hK hP hst hz hS hH hl
  have hl : lv_has ls 3 [(0, .ref (b + 0)), (1, iv x1)] := hl
  unfold wp_X_bound at h
  refine lv_iload_n hC.1 hC.2.1 d_X_bound_0 rfl (lv_at hl 1 rfl) ?_
  obtain ⟨b0, h⟩ := h
  refine xi_ilt hC (tgt := 11) d_X_bound_1 (by decide) b0 (fun q => ?_) (fun q => ?_)
  · have h := h.1 q
    exact xt_core hfl (fun a t hx => Or.inr ⟨a, _, rfl, h, hx⟩) hC hlocks hexc hH hst hl.1 lt_X_77_110_81 d_X_bound_11 d_X_bound_14 d_X_bound_15 d_X_bound_17 d_X_bound_20 (Nat.le_of_ble_eq_true rfl) (Nat.le_of_ble_eq_true rfl) ⟨Nat.le_of_ble_eq_true rfl, Nat.le_of_ble_eq_true rfl⟩ (Nat.le_of_ble_eq_true rfl) (Nat.le_of_ble_eq_true rfl)
  · have h := h.2 q
    refine lv_iload_n hC.1 hC.2.1 d_X_bound_4 rfl (lv_at hl 1 rfl) ?_
    refine xi_sipush hC d_X_bound_5 (by decide) ?_
    obtain ⟨b0, h⟩ := h
    refine xi_cle hC (tgt := 21) d_X_bound_8 (by decide) b0 (xl rfl) (fun q => ?_) (fun q => ?_)
    · have h := h.1 q
      refine lv_aload_n hC.1 hC.2.1 d_X_bound_21 rfl (lv_at hl 0 rfl) ?_
      refine gf_X_53 hC hK hP hst d_X_bound_22 ?_
      refine xi_top (fun v2_1 ev2_1 => ?_)
      have h := h v2_1 ev2_1
      refine lv_istore_n (lv' := [(2, iv v2_1), (0, .ref (b + 0)), (1, iv x1)]) hC.1 hC.2.1 d_X_bound_25 rfl hl (by decide) rfl (fun ls hl => ?_)
      refine lv_aload_n hC.1 hC.2.1 d_X_bound_26 rfl (lv_at hl 1 rfl) ?_
      refine lv_iload_n hC.1 hC.2.1 d_X_bound_27 rfl (lv_at hl 2 rfl) ?_
      refine pf_X_53 hC hK hP hS hst d_X_bound_28 (fun H locs hP hS => ?_)
      obtain ⟨M_2, eM_2⟩ : ∃ y : Mem, y = up M0 0 9 x1 := ⟨_, rfl⟩
      rw [← eM_2] at hP
      have h := h M_2 eM_2
      refine lv_aload_n hC.1 hC.2.1 d_X_bound_31 rfl (lv_at hl 1 rfl) ?_
      refine gf_X_29 hC hK hP hst d_X_bound_32 ?_
      refine xk_Vv (As := []) (rest := []) hC hK hP hS hst hz hl.1 lk_X_97 rfl rfl rfl ⟨Nat.le_of_ble_eq_true rfl, Nat.le_of_ble_eq_true rfl⟩ (rc_Ranking hK hP) (fun sz' => c_Ranking_clear l D g b sz' h) d_X_bound_35 rfl (Nat.le_of_ble_eq_true rfl) ⟨Nat.le_of_ble_eq_true rfl, Nat.le_of_ble_eq_true rfl⟩ (fun M_4 H locs h hP hS => ?_)
      try dsimp only at h
      refine lv_iload_n hC.1 hC.2.1 d_X_bound_38 rfl (lv_at hl 0 rfl) ?_
      exact xr_iX hC hr hlocks hK hP hS h d_X_bound_39 (Nat.le_of_ble_eq_true rfl) (Nat.le_of_ble_eq_true rfl)
    · have h := h.2 q
      exact xt_core hfl (fun a t hx => Or.inr ⟨a, _, rfl, h, hx⟩) hC hlocks hexc hH hst hl.1 lt_X_77_110_81 d_X_bound_11 d_X_bound_14 d_X_bound_15 d_X_bound_17 d_X_bound_20 (Nat.le_of_ble_eq_true rfl) (Nat.le_of_ble_eq_true rfl) ⟨Nat.le_of_ble_eq_true rfl, Nat.le_of_ble_eq_true rfl⟩ (Nat.le_of_ble_eq_true rfl) (Nat.le_of_ble_eq_true rfl)
set_option maxHeartbeats 4000000 in
theorem c_X_toldPair (l : Launch) (hfl : l.stackTraces = false) (D : va_G) (g : Nat → ClassId) (b sz : Nat) {x1 : Int} {M0 : Mem} {Post : Nat → Prop} {PostX : Nat → Prop} (h : wp_X_toldPair x1 M0 Post PostX) : MetX l y_X_toldPair (Cond.code y_X_toldPair b_X_toldPair 2 (some (.object "EdgeJoins$Pair")) :: gd) ({ frames := 6, cells := 1, slots := 6, locals := 90 }) (PcG D g b 174 (cellC b g) sz M0 [.ref (b + 0), iv x1]) (QXR b isP Post PostX) 1 6 nil_ := by
  refine xm_startX (by decide) rfl (Nat.le_of_ble_eq_true rfl) ?_
  intro p e s m below meth c ls H args hC hr hlocks hexc hK hP hst hz hS hH hl
  have hl : lv_has ls 2 [(0, .ref (b + 0)), (1, iv x1)] := hl
  unfold wp_X_toldPair at h
  refine lv_iload_n hC.1 hC.2.1 d_X_toldPair_0 rfl (lv_at hl 1 rfl) ?_
  obtain ⟨b0, h⟩ := h
  refine xi_ilt hC (tgt := 15) d_X_toldPair_1 (by decide) b0 (fun q => ?_) (fun q => ?_)
  · have h := h.1 q
    exact xt_core hfl (fun a t hx => Or.inr ⟨a, _, rfl, h, hx⟩) hC hlocks hexc hH hst hl.1 lt_X_86_205_90 d_X_toldPair_15 d_X_toldPair_18 d_X_toldPair_19 d_X_toldPair_21 d_X_toldPair_24 (Nat.le_of_ble_eq_true rfl) (Nat.le_of_ble_eq_true rfl) ⟨Nat.le_of_ble_eq_true rfl, Nat.le_of_ble_eq_true rfl⟩ (Nat.le_of_ble_eq_true rfl) (Nat.le_of_ble_eq_true rfl)
  · have h := h.2 q
    refine lv_iload_n hC.1 hC.2.1 d_X_toldPair_4 rfl (lv_at hl 1 rfl) ?_
    refine lv_aload_n hC.1 hC.2.1 d_X_toldPair_5 rfl (lv_at hl 0 rfl) ?_
    refine gf_X_29 hC hK hP hst d_X_toldPair_6 ?_
    refine gf_X_202 hC hK hP hst d_X_toldPair_9 ?_
    obtain ⟨b0, h⟩ := h
    obtain ⟨b1, h⟩ := h
    refine xi_clt hC (tgt := 25) d_X_toldPair_12 (by decide) b0 b1 (fun q => ?_) (fun q => ?_)
    · have h := h.1 q
      refine lv_aload_n hC.1 hC.2.1 d_X_toldPair_25 rfl (lv_at hl 0 rfl) ?_
      refine gf_X_29 hC hK hP hst d_X_toldPair_26 ?_
      refine gf_X_207 hC hK hP hst d_X_toldPair_29 ?_
      refine lv_iload_n hC.1 hC.2.1 d_X_toldPair_32 rfl (lv_at hl 1 rfl) ?_
      obtain ⟨hi, h⟩ := h
      refine al_PairArr hC hK hP hi d_X_toldPair_33 (fun hq_1 => ?_)
      exact xr_rpX hC hr hlocks hH hq_1 h d_X_toldPair_34 (Nat.le_of_ble_eq_true rfl) (Nat.le_of_ble_eq_true rfl)
    · have h := h.2 q
      exact xt_core hfl (fun a t hx => Or.inr ⟨a, _, rfl, h, hx⟩) hC hlocks hexc hH hst hl.1 lt_X_86_205_90 d_X_toldPair_15 d_X_toldPair_18 d_X_toldPair_19 d_X_toldPair_21 d_X_toldPair_24 (Nat.le_of_ble_eq_true rfl) (Nat.le_of_ble_eq_true rfl) ⟨Nat.le_of_ble_eq_true rfl, Nat.le_of_ble_eq_true rfl⟩ (Nat.le_of_ble_eq_true rfl) (Nat.le_of_ble_eq_true rfl)
set_option maxHeartbeats 4000000 in
theorem c_X_pair (l : Launch) (hfl : l.stackTraces = false) (D : va_G) (g : Nat → ClassId) (b sz : Nat) {x1 x2 : Int} {M0 : Mem} {Post : Int → Prop} {PostX : Nat → Prop} (h : wp_X_pair x1 x2 M0 Post PostX) : MetX l y_X_pair (Cond.code y_X_pair b_X_pair 4 (some .int) :: gd) ({ frames := 7, cells := 2, slots := 12, locals := 111 }) (PcG D g b 174 (cellC b g) sz M0 [.ref (b + 0), iv x1, iv x2]) (QXP Post PostX) 2 12 nil_ := by
  refine xm_startX (by decide) rfl (Nat.le_of_ble_eq_true rfl) ?_
  intro p e s m below meth c ls H args hC hr hlocks hexc hK hP hst hz hS hH hl
  have hl : lv_has ls 4 [(0, .ref (b + 0)), (1, iv x1), (2, iv x2)] := hl
  unfold wp_X_pair at h
  refine lv_aload_n hC.1 hC.2.1 d_X_pair_0 rfl (lv_at hl 0 rfl) ?_
  refine lv_iload_n hC.1 hC.2.1 d_X_pair_1 rfl (lv_at hl 1 rfl) ?_
  refine xk_VrX (fun a x t hp hx => Or.inr ⟨a, x, rfl, hp, hx⟩) (As := [iv x1]) (rest := []) hC hK hP hS hst hz hl.1 lk_X_116 ln_X_116 rfl rfl rfl ⟨Nat.le_of_ble_eq_true rfl, Nat.le_of_ble_eq_true rfl⟩ (rc_X hK hP) (fun sz' => c_X_toldPair l hfl D g b sz' h) d_X_pair_2 rfl (Nat.le_of_ble_eq_true rfl) ⟨Nat.le_of_ble_eq_true rfl, Nat.le_of_ble_eq_true rfl⟩ ⟨Nat.le_of_ble_eq_true rfl, Nat.le_of_ble_eq_true rfl⟩ hlocks hexc hH (fun r_1 hq_r_1 h => ?_)
  try dsimp only at h
  refine lv_astore_n (lv' := [(3, .ref (b + r_1)), (0, .ref (b + 0)), (1, iv x1), (2, iv x2)]) hC.1 hC.2.1 d_X_pair_5 rfl hl (by decide) rfl (fun ls hl => ?_)
  refine lv_iload_n hC.1 hC.2.1 d_X_pair_6 rfl (lv_at hl 3 rfl) ?_
  obtain ⟨b0, h⟩ := h
  rcases (show x2 = 0 ∨ x2 = 1 ∨ x2 = 2 ∨ x2 = 3 ∨ x2 = 4 ∨ x2 = 5 ∨ (x2 < 0 ∨ 5 < x2) by omega) with q | q | q | q | q | q | q
  · have h := h.1 q
    refine lv_tableIn (off := 37) (tgt := 44) hC.1 hC.2.1 d_X_pair_7 (by rw [xi_T b0, q]; decide) (by rw [xi_T b0, q]; decide) (by rw [xi_T b0, q]; rfl) (by decide) ?_
    refine lv_aload_n hC.1 hC.2.1 d_X_pair_44 rfl (lv_at hl 0 rfl) ?_
    refine gf_X_120 hC hK hP hst hq_r_1 d_X_pair_45 ?_
    exact xr_ipX hC hr hlocks hH h d_X_pair_48 (Nat.le_of_ble_eq_true rfl) (Nat.le_of_ble_eq_true rfl)
  · have h := h.2.1 q
    refine lv_tableIn (off := 42) (tgt := 49) hC.1 hC.2.1 d_X_pair_7 (by rw [xi_T b0, q]; decide) (by rw [xi_T b0, q]; decide) (by rw [xi_T b0, q]; rfl) (by decide) ?_
    refine lv_aload_n hC.1 hC.2.1 d_X_pair_49 rfl (lv_at hl 0 rfl) ?_
    refine gf_X_125 hC hK hP hst hq_r_1 d_X_pair_50 ?_
    exact xr_ipX hC hr hlocks hH h d_X_pair_53 (Nat.le_of_ble_eq_true rfl) (Nat.le_of_ble_eq_true rfl)
  · have h := h.2.2.1 q
    refine lv_tableIn (off := 47) (tgt := 54) hC.1 hC.2.1 d_X_pair_7 (by rw [xi_T b0, q]; decide) (by rw [xi_T b0, q]; decide) (by rw [xi_T b0, q]; rfl) (by decide) ?_
    refine lv_aload_n hC.1 hC.2.1 d_X_pair_54 rfl (lv_at hl 0 rfl) ?_
    refine gf_X_128 hC hK hP hst hq_r_1 d_X_pair_55 ?_
    exact xr_ipX hC hr hlocks hH h d_X_pair_58 (Nat.le_of_ble_eq_true rfl) (Nat.le_of_ble_eq_true rfl)
  · have h := h.2.2.2.1 q
    refine lv_tableIn (off := 52) (tgt := 59) hC.1 hC.2.1 d_X_pair_7 (by rw [xi_T b0, q]; decide) (by rw [xi_T b0, q]; decide) (by rw [xi_T b0, q]; rfl) (by decide) ?_
    refine lv_aload_n hC.1 hC.2.1 d_X_pair_59 rfl (lv_at hl 0 rfl) ?_
    refine gf_X_131 hC hK hP hst hq_r_1 d_X_pair_60 ?_
    exact xr_ipX hC hr hlocks hH h d_X_pair_63 (Nat.le_of_ble_eq_true rfl) (Nat.le_of_ble_eq_true rfl)
  · have h := h.2.2.2.2.1 q
    refine lv_tableIn (off := 57) (tgt := 64) hC.1 hC.2.1 d_X_pair_7 (by rw [xi_T b0, q]; decide) (by rw [xi_T b0, q]; decide) (by rw [xi_T b0, q]; rfl) (by decide) ?_
    refine lv_aload_n hC.1 hC.2.1 d_X_pair_64 rfl (lv_at hl 0 rfl) ?_
    refine gf_X_134 hC hK hP hst hq_r_1 d_X_pair_65 ?_
    exact xr_ipX hC hr hlocks hH h d_X_pair_68 (Nat.le_of_ble_eq_true rfl) (Nat.le_of_ble_eq_true rfl)
  · have h := h.2.2.2.2.2.1 q
    refine lv_tableIn (off := 62) (tgt := 69) hC.1 hC.2.1 d_X_pair_7 (by rw [xi_T b0, q]; decide) (by rw [xi_T b0, q]; decide) (by rw [xi_T b0, q]; rfl) (by decide) ?_
    refine lv_aload_n hC.1 hC.2.1 d_X_pair_69 rfl (lv_at hl 0 rfl) ?_
    refine gf_X_137 hC hK hP hst hq_r_1 d_X_pair_70 ?_
    exact xr_ipX hC hr hlocks hH h d_X_pair_73 (Nat.le_of_ble_eq_true rfl) (Nat.le_of_ble_eq_true rfl)
  · have h := h.2.2.2.2.2.2 q
    refine lv_tableOut (tgt := 74) hC.1 hC.2.1 d_X_pair_7 (by rw [xi_T b0]; exact q) (by decide) ?_
    exact xt_core hfl (fun a t hx => Or.inr ⟨a, _, rfl, h, hx⟩) hC hlocks hexc hH hst hl.1 lt_X_86_140_90 d_X_pair_74 d_X_pair_77 d_X_pair_78 d_X_pair_80 d_X_pair_83 (Nat.le_of_ble_eq_true rfl) (Nat.le_of_ble_eq_true rfl) ⟨Nat.le_of_ble_eq_true rfl, Nat.le_of_ble_eq_true rfl⟩ (Nat.le_of_ble_eq_true rfl) (Nat.le_of_ble_eq_true rfl)
set_option maxHeartbeats 4000000 in
theorem c_X_join (l : Launch) (hfl : l.stackTraces = false) (D : va_G) (g : Nat → ClassId) (b sz : Nat) {x1 : Int} {M0 : Mem} {Post : Int → Mem → Prop} {PostX : Nat → Prop} (h : wp_X_join x1 M0 Post PostX) : MetX l y_X_join (Cond.code y_X_join b_X_join 9 (some .int) :: gd) ({ frames := 7, cells := 1, slots := 6, locals := 122 }) (PcG D g b 174 (cellC b g) sz M0 [.ref (b + 0), iv x1]) (QXI D g b 174 (cellC b g) sz Post PostX) 1 6 (rA b 174 sz) := by
  refine xm_startX (by decide) rfl (Nat.le_of_ble_eq_true rfl) ?_
  intro p e s m below meth c ls H args hC hr hlocks hexc hK hP hst hz hS hH hl
  have hl : lv_has ls 9 [(0, .ref (b + 0)), (1, iv x1)] := hl
  unfold wp_X_join at h
  refine lv_aload_n hC.1 hC.2.1 d_X_join_0 rfl (lv_at hl 0 rfl) ?_
  refine lv_iload_n hC.1 hC.2.1 d_X_join_1 rfl (lv_at hl 1 rfl) ?_
  refine xk_VrX (fun a x t hp hx => Or.inr ⟨a, x, rfl, hp, hx⟩) (As := [iv x1]) (rest := []) hC hK hP hS hst hz hl.1 lk_X_116 ln_X_116 rfl rfl rfl ⟨Nat.le_of_ble_eq_true rfl, Nat.le_of_ble_eq_true rfl⟩ (rc_X hK hP) (fun sz' => c_X_toldPair l hfl D g b sz' h) d_X_join_2 rfl (Nat.le_of_ble_eq_true rfl) ⟨Nat.le_of_ble_eq_true rfl, Nat.le_of_ble_eq_true rfl⟩ ⟨Nat.le_of_ble_eq_true rfl, Nat.le_of_ble_eq_true rfl⟩ hlocks hexc hH (fun r_1 hq_r_1 h => ?_)
  try dsimp only at h
  refine lv_astore_n (lv' := [(2, .ref (b + r_1)), (0, .ref (b + 0)), (1, iv x1)]) hC.1 hC.2.1 d_X_join_5 rfl hl (by decide) rfl (fun ls hl => ?_)
  refine lv_aload_n hC.1 hC.2.1 d_X_join_6 rfl (lv_at hl 1 rfl) ?_
  refine gf_X_11 hC hK hP hst d_X_join_7 ?_
  refine lv_aload_n hC.1 hC.2.1 d_X_join_10 rfl (lv_at hl 0 rfl) ?_
  refine gf_X_128 hC hK hP hst hq_r_1 d_X_join_11 ?_
  obtain ⟨hi, h⟩ := h
  refine al_EdgeArr hC hK hP hi d_X_join_14 (fun hq_2 => ?_)
  refine xi_topr (fun k3_3 ek3_3 => ?_)
  have h := h k3_3 ek3_3
  have hk3_3 : isE k3_3 := by rw [ek3_3]; exact hq_2
  refine lv_astore_n (lv' := [(3, .ref (b + k3_3)), (2, .ref (b + r_1)), (0, .ref (b + 0)), (1, iv x1)]) hC.1 hC.2.1 d_X_join_15 rfl hl (by decide) rfl (fun ls hl => ?_)
  refine lv_aload_n hC.1 hC.2.1 d_X_join_16 rfl (lv_at hl 2 rfl) ?_
  refine gf_X_18 hC hK hP hst d_X_join_17 ?_
  refine gf_X_142 hC hK hP hst isL_2 d_X_join_20 ?_
  refine lv_aload_n hC.1 hC.2.1 d_X_join_23 rfl (lv_at hl 1 rfl) ?_
  refine gf_X_120 hC hK hP hst hq_r_1 d_X_join_24 ?_
  obtain ⟨hi, h⟩ := h
  refine xg_ald hC hK hP (aL3 isL_2) (by decide) hi d_X_join_27 ?_
  refine lv_aload_n hC.1 hC.2.1 d_X_join_28 rfl (lv_at hl 1 rfl) ?_
  refine gf_X_145 hC hK hP hst hq_r_1 d_X_join_29 ?_
  refine xi_add hC d_X_join_32 ?_
  refine xi_const hC d_X_join_33 ?_
  refine xi_and3r hC d_X_join_34 ?_
  refine xi_top (fun v4_4 ev4_4 => ?_)
  have h := h v4_4 ev4_4
  refine lv_istore (lv' := [(4, iv v4_4), (3, .ref (b + k3_3)), (2, .ref (b + r_1)), (0, .ref (b + 0)), (1, iv x1)]) hC.1 hC.2.1 d_X_join_35 hl (by decide) rfl (fun ls hl => ?_)
  refine lv_aload_n hC.1 hC.2.1 d_X_join_37 rfl (lv_at hl 1 rfl) ?_
  refine gf_X_147 hC hK hP hst hk3_3 d_X_join_38 ?_
  refine lv_aload_n hC.1 hC.2.1 d_X_join_41 rfl (lv_at hl 2 rfl) ?_
  refine gf_X_131 hC hK hP hst hq_r_1 d_X_join_42 ?_
  refine xi_const hC d_X_join_45 ?_
  refine xi_add hC d_X_join_46 ?_
  obtain ⟨hi, h⟩ := h
  refine xg_ald hC hK hP (aE3 hk3_3) (by decide) hi d_X_join_47 ?_
  refine xi_top (fun v5_5 ev5_5 => ?_)
  have h := h v5_5 ev5_5
  refine lv_istore (lv' := [(5, iv v5_5), (4, iv v4_4), (3, .ref (b + k3_3)), (2, .ref (b + r_1)), (0, .ref (b + 0)), (1, iv x1)]) hC.1 hC.2.1 d_X_join_48 hl (by decide) rfl (fun ls hl => ?_)
  refine lv_aload_n hC.1 hC.2.1 d_X_join_50 rfl (lv_at hl 2 rfl) ?_
  refine gf_X_150 hC hK hP hst hk3_3 d_X_join_51 ?_
  refine lv_aload_n hC.1 hC.2.1 d_X_join_54 rfl (lv_at hl 3 rfl) ?_
  refine gf_X_131 hC hK hP hst hq_r_1 d_X_join_55 ?_
  refine xi_const hC d_X_join_58 ?_
  refine xi_add hC d_X_join_59 ?_
  obtain ⟨hi, h⟩ := h
  refine xg_ald hC hK hP (aE4 hk3_3) (by decide) hi d_X_join_60 ?_
  refine xi_top (fun v6_6 ev6_6 => ?_)
  have h := h v6_6 ev6_6
  refine lv_istore (lv' := [(6, iv v6_6), (5, iv v5_5), (4, iv v4_4), (3, .ref (b + k3_3)), (2, .ref (b + r_1)), (0, .ref (b + 0)), (1, iv x1)]) hC.1 hC.2.1 d_X_join_61 hl (by decide) rfl (fun ls hl => ?_)
  refine lv_aload_n hC.1 hC.2.1 d_X_join_63 rfl (lv_at hl 5 rfl) ?_
  refine gf_X_18 hC hK hP hst d_X_join_64 ?_
  refine lv_aload_n hC.1 hC.2.1 d_X_join_67 rfl (lv_at hl 5 rfl) ?_
  refine gf_X_11 hC hK hP hst d_X_join_68 ?_
  refine lv_aload_n hC.1 hC.2.1 d_X_join_71 rfl (lv_at hl 4 rfl) ?_
  refine gf_X_120 hC hK hP hst hq_r_1 d_X_join_72 ?_
  obtain ⟨hi, h⟩ := h
  refine al_EdgeArr hC hK hP hi d_X_join_75 (fun hq_7 => ?_)
  refine lv_aload_n hC.1 hC.2.1 d_X_join_76 rfl (lv_at hl 4 rfl) ?_
  refine gf_X_120 hC hK hP hst hq_r_1 d_X_join_77 ?_
  refine lv_aload_n hC.1 hC.2.1 d_X_join_80 rfl (lv_at hl 4 rfl) ?_
  refine gf_X_125 hC hK hP hst hq_r_1 d_X_join_81 ?_
  refine xk_VP (As := [.ref (b + (114 + 10 * (M0 r_1 0).toNat)), iv (M0 r_1 0), iv (M0 r_1 1)]) (rest := []) hC hK hP hS hst hz hl.1 lk_X_153 rfl rfl rfl ⟨Nat.le_of_ble_eq_true rfl, Nat.le_of_ble_eq_true rfl⟩ (rc_Layout hK hP isL_2) (fun sz' => c_Layout_placedX l D g b sz' isL_2 hq_7 h) d_X_join_84 rfl (Nat.le_of_ble_eq_true rfl) ⟨Nat.le_of_ble_eq_true rfl, Nat.le_of_ble_eq_true rfl⟩ (fun r_8 h => ?_)
  try dsimp only at h
  refine lv_iload hC.1 hC.2.1 d_X_join_87 (lv_at hl 1 rfl) ?_
  refine lv_iload hC.1 hC.2.1 d_X_join_89 (lv_at hl 0 rfl) ?_
  refine lv_iload hC.1 hC.2.1 d_X_join_91 (lv_at hl 2 rfl) ?_
  refine xk_SP (As := [iv v5_5, iv v6_6, iv v4_4]) (rest := [iv r_8]) hC hK hP hS hst hz hl.1 lk_X_157 rfl rfl rfl ⟨Nat.le_of_ble_eq_true rfl, Nat.le_of_ble_eq_true rfl⟩ (fun sz' => c_X_turnedX l D g b sz' h) d_X_join_93 rfl (Nat.le_of_ble_eq_true rfl) ⟨Nat.le_of_ble_eq_true rfl, Nat.le_of_ble_eq_true rfl⟩ (fun r_9 h => ?_)
  try dsimp only at h
  refine xi_sub hC d_X_join_96 ?_
  refine xi_top (fun v7_10 ev7_10 => ?_)
  have h := h v7_10 ev7_10
  refine lv_istore (lv' := [(7, iv v7_10), (6, iv v6_6), (5, iv v5_5), (4, iv v4_4), (3, .ref (b + k3_3)), (2, .ref (b + r_1)), (0, .ref (b + 0)), (1, iv x1)]) hC.1 hC.2.1 d_X_join_97 hl (by decide) rfl (fun ls hl => ?_)
  refine lv_aload_n hC.1 hC.2.1 d_X_join_99 rfl (lv_at hl 6 rfl) ?_
  refine gf_X_18 hC hK hP hst d_X_join_100 ?_
  refine lv_aload_n hC.1 hC.2.1 d_X_join_103 rfl (lv_at hl 6 rfl) ?_
  refine gf_X_11 hC hK hP hst d_X_join_104 ?_
  refine lv_aload_n hC.1 hC.2.1 d_X_join_107 rfl (lv_at hl 5 rfl) ?_
  refine gf_X_120 hC hK hP hst hq_r_1 d_X_join_108 ?_
  obtain ⟨hi, h⟩ := h
  refine al_EdgeArr hC hK hP hi d_X_join_111 (fun hq_11 => ?_)
  refine lv_aload_n hC.1 hC.2.1 d_X_join_112 rfl (lv_at hl 5 rfl) ?_
  refine gf_X_120 hC hK hP hst hq_r_1 d_X_join_113 ?_
  refine lv_aload_n hC.1 hC.2.1 d_X_join_116 rfl (lv_at hl 5 rfl) ?_
  refine gf_X_125 hC hK hP hst hq_r_1 d_X_join_117 ?_
  refine xk_VP (As := [.ref (b + (114 + 10 * (M0 r_1 0).toNat)), iv (M0 r_1 0), iv (M0 r_1 1)]) (rest := []) hC hK hP hS hst hz hl.1 lk_X_160 rfl rfl rfl ⟨Nat.le_of_ble_eq_true rfl, Nat.le_of_ble_eq_true rfl⟩ (rc_Layout hK hP isL_2) (fun sz' => c_Layout_placedY l D g b sz' isL_2 hq_11 h) d_X_join_120 rfl (Nat.le_of_ble_eq_true rfl) ⟨Nat.le_of_ble_eq_true rfl, Nat.le_of_ble_eq_true rfl⟩ (fun r_12 h => ?_)
  try dsimp only at h
  refine lv_iload hC.1 hC.2.1 d_X_join_123 (lv_at hl 2 rfl) ?_
  refine lv_iload hC.1 hC.2.1 d_X_join_125 (lv_at hl 1 rfl) ?_
  refine lv_iload hC.1 hC.2.1 d_X_join_127 (lv_at hl 3 rfl) ?_
  refine xk_SP (As := [iv v5_5, iv v6_6, iv v4_4]) (rest := [iv r_12]) hC hK hP hS hst hz hl.1 lk_X_163 rfl rfl rfl ⟨Nat.le_of_ble_eq_true rfl, Nat.le_of_ble_eq_true rfl⟩ (fun sz' => c_X_turnedY l D g b sz' h) d_X_join_129 rfl (Nat.le_of_ble_eq_true rfl) ⟨Nat.le_of_ble_eq_true rfl, Nat.le_of_ble_eq_true rfl⟩ (fun r_13 h => ?_)
  try dsimp only at h
  refine xi_sub hC d_X_join_132 ?_
  refine xi_top (fun v8_14 ev8_14 => ?_)
  have h := h v8_14 ev8_14
  refine lv_istore (lv' := [(8, iv v8_14), (7, iv v7_10), (6, iv v6_6), (5, iv v5_5), (4, iv v4_4), (3, .ref (b + k3_3)), (2, .ref (b + r_1)), (0, .ref (b + 0)), (1, iv x1)]) hC.1 hC.2.1 d_X_join_133 hl (by decide) rfl (fun ls hl => ?_)
  refine lv_aload_n hC.1 hC.2.1 d_X_join_135 rfl (lv_at hl 7 rfl) ?_
  refine gf_X_18 hC hK hP hst d_X_join_136 ?_
  refine gf_X_166 hC hK hP hst isL_2 d_X_join_139 ?_
  refine lv_aload_n hC.1 hC.2.1 d_X_join_142 rfl (lv_at hl 6 rfl) ?_
  refine gf_X_120 hC hK hP hst hq_r_1 d_X_join_143 ?_
  obtain ⟨hi, h⟩ := h
  refine xg_ald hC hK hP (aL4 isL_2) (by decide) hi d_X_join_146 ?_
  refine lv_aload_n hC.1 hC.2.1 d_X_join_147 rfl (lv_at hl 7 rfl) ?_
  refine gf_X_18 hC hK hP hst d_X_join_148 ?_
  refine gf_X_166 hC hK hP hst isL_2 d_X_join_151 ?_
  refine lv_aload_n hC.1 hC.2.1 d_X_join_154 rfl (lv_at hl 6 rfl) ?_
  refine gf_X_128 hC hK hP hst hq_r_1 d_X_join_155 ?_
  obtain ⟨hi, h⟩ := h
  refine xg_ald hC hK hP (aL4 isL_2) (by decide) hi d_X_join_158 ?_
  obtain ⟨b0, h⟩ := h
  obtain ⟨b1, h⟩ := h
  refine xi_cne hC (tgt := 188) d_X_join_159 (by decide) b0 b1 (fun q => ?_) (fun q => ?_)
  · have h := h.1 q
    refine lv_aload_n hC.1 hC.2.1 d_X_join_188 rfl (lv_at hl 7 rfl) ?_
    refine lv_aload_n hC.1 hC.2.1 d_X_join_189 rfl (lv_at hl 6 rfl) ?_
    refine lv_iload hC.1 hC.2.1 d_X_join_190 (lv_at hl 1 rfl) ?_
    refine lv_iload hC.1 hC.2.1 d_X_join_192 (lv_at hl 0 rfl) ?_
    refine lv_iload hC.1 hC.2.1 d_X_join_194 (lv_at hl 4 rfl) ?_
    refine xk_Vi (As := [.ref (b + r_1), iv v7_10, iv v8_14, iv v4_4]) (rest := []) hC hK hP hS hst hz hl.1 lk_X_173 rfl rfl rfl ⟨Nat.le_of_ble_eq_true rfl, Nat.le_of_ble_eq_true rfl⟩ (rc_X hK hP) (fun sz' => c_X_tryToJoin l D g b sz' hq_r_1 h) d_X_join_196 rfl (Nat.le_of_ble_eq_true rfl) ⟨Nat.le_of_ble_eq_true rfl, Nat.le_of_ble_eq_true rfl⟩ (fun r_15 M_16 H locs h hP hS => ?_)
    try dsimp only at h
    exact xr_iX hC hr hlocks hK hP hS h d_X_join_199 (Nat.le_of_ble_eq_true rfl) (Nat.le_of_ble_eq_true rfl)
  · have h := h.2 q
    refine lv_aload_n hC.1 hC.2.1 d_X_join_162 rfl (lv_at hl 7 rfl) ?_
    refine gf_X_18 hC hK hP hst d_X_join_163 ?_
    refine lv_aload_n hC.1 hC.2.1 d_X_join_166 rfl (lv_at hl 6 rfl) ?_
    refine gf_X_128 hC hK hP hst hq_r_1 d_X_join_167 ?_
    refine lv_iload hC.1 hC.2.1 d_X_join_170 (lv_at hl 1 rfl) ?_
    refine lv_iload hC.1 hC.2.1 d_X_join_172 (lv_at hl 0 rfl) ?_
    refine lv_iload hC.1 hC.2.1 d_X_join_174 (lv_at hl 4 rfl) ?_
    refine xk_VP (As := [iv (M0 r_1 2), iv v7_10, iv v8_14, iv v4_4]) (rest := []) hC hK hP hS hst hz hl.1 lk_X_169 rfl rfl rfl ⟨Nat.le_of_ble_eq_true rfl, Nat.le_of_ble_eq_true rfl⟩ (rc_Layout hK hP isL_2) (fun sz' => c_Layout_lies l D g b sz' isL_2 h) d_X_join_176 rfl (Nat.le_of_ble_eq_true rfl) ⟨Nat.le_of_ble_eq_true rfl, Nat.le_of_ble_eq_true rfl⟩ (fun r_17 h => ?_)
    try dsimp only at h
    obtain ⟨b0, h⟩ := h
    refine xi_ieq hC (tgt := 186) d_X_join_179 (by decide) b0 (fun q => ?_) (fun q => ?_)
    · have h := h.1 q
      refine xi_const hC d_X_join_186 ?_
      exact xr_iX hC hr hlocks hK hP hS h d_X_join_187 (Nat.le_of_ble_eq_true rfl) (Nat.le_of_ble_eq_true rfl)
    · have h := h.2 q
      refine xi_const hC d_X_join_182 ?_
      refine lv_goto (tgt := 187) hC.1 hC.2.1 d_X_join_183 (by decide) ?_
      exact xr_iX hC hr hlocks hK hP hS h d_X_join_187 (Nat.le_of_ble_eq_true rfl) (Nat.le_of_ble_eq_true rfl)
