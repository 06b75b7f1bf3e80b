set_option maxHeartbeats 4000000 in
theorem s_Model_cellOf_33 {p : Program} {l : Launch} {e : Env} {s : State} {m : MethodId} {args : Array Value} {below : List Frame} {meth : Method} {c : Code} {D : va_G} {g : Nat → ClassId} {b sz : Nat} (hC : Cx p m c b_Model_cellOf 6 s args "EdgeJoinsModel") (hr : meth.sig.returnType = none) (hlocks : meth.locks = false) (hK : va_K D classes (tyG g) s) (hst : sC (rA b 14 sz) s s.heap) (hz : sz ≤ s.heap.size) {k1 : Nat} (hk1 : isA 14 (cellN b g) g 24 k1) {Post : Mem → Prop} : ∀ (n : Nat) (x2 x4 : Int) (M0 : Mem) (H : Heap) (locs : List Loc) (ls : Array Slot), wp_Model_cellOf_33 k1 Post n x2 x4 M0 → va_P D classes (wsG b 14 (cellN b g) M0) H → va_S (rA b 14 sz) s.heap H locs → lv_has ls 6 [(0, .ref (b + 0)), (1, .ref (b + k1)), (2, iv x2), (4, iv x4)] → W p l e ({ frames := 0, cells := 0, slots := 0, locals := 0 }) s m args below meth c H locs 0 0 (MQ below (QV D g b 14 (cellN b g) sz Post) args s 0 0 (rA b 14 sz)) (F0 m 33 ls []) := by
  intro n
  induction n with
  | zero => intro x2 x4 M0 H locs ls h; exact h.elim
  | succ n ih =>
  intro x2 x4 M0 H locs ls h hP hS hl
  simp only [wp_Model_cellOf_33] at h
  refine lv_iload hC.1 hC.2.1 d_Model_cellOf_33 (lv_at hl 3 rfl) ?_
  refine lv_aload_n hC.1 hC.2.1 d_Model_cellOf_35 rfl (lv_at hl 1 rfl) ?_
  refine xi_const hC d_Model_cellOf_36 ?_
  refine lv_iload_n hC.1 hC.2.1 d_Model_cellOf_37 rfl (lv_at hl 2 rfl) ?_
  refine xi_mul hC d_Model_cellOf_38 ?_
  refine xi_const hC d_Model_cellOf_39 ?_
  refine xi_add hC d_Model_cellOf_40 ?_
  obtain ⟨hi, h⟩ := h
  refine xg_ald hC hK hP hk1 (by decide) hi d_Model_cellOf_41 ?_
  obtain ⟨b0, h⟩ := h
  obtain ⟨b1, h⟩ := h
  refine xi_cge hC (tgt := 74) d_Model_cellOf_42 (by decide) b0 b1 (fun q => ?_) (fun q => ?_)
  · have h := h.1 q
    refine lv_aload_n hC.1 hC.2.1 d_Model_cellOf_74 rfl (lv_at hl 0 rfl) ?_
    refine lv_dup hC.1 hC.2.1 d_Model_cellOf_75 rfl ?_
    refine gf_Model_79 hC hK hP hst d_Model_cellOf_76 ?_
    refine lv_aload_n hC.1 hC.2.1 d_Model_cellOf_79 rfl (lv_at hl 1 rfl) ?_
    refine xi_const hC d_Model_cellOf_80 ?_
    refine lv_iload_n hC.1 hC.2.1 d_Model_cellOf_81 rfl (lv_at hl 2 rfl) ?_
    refine xi_mul hC d_Model_cellOf_82 ?_
    obtain ⟨hi, h⟩ := h
    refine xg_ald hC hK hP hk1 (by decide) hi d_Model_cellOf_83 ?_
    refine xi_add hC d_Model_cellOf_84 ?_
    refine pf_Model_79 hC hK hP hS hst d_Model_cellOf_85 (fun H locs hP hS => ?_)
    obtain ⟨M_1, eM_1⟩ : ∃ y : Mem, y = up M0 0 19 ((M0 0 19) + (M0 k1 (4 * x2).toNat)) := ⟨_, rfl⟩
    rw [← eM_1] at hP
    have h := h M_1 eM_1
    refine lv_aload_n hC.1 hC.2.1 d_Model_cellOf_88 rfl (lv_at hl 0 rfl) ?_
    refine lv_dup hC.1 hC.2.1 d_Model_cellOf_89 rfl ?_
    refine gf_Model_82 hC hK hP hst d_Model_cellOf_90 ?_
    refine lv_aload_n hC.1 hC.2.1 d_Model_cellOf_93 rfl (lv_at hl 1 rfl) ?_
    refine xi_const hC d_Model_cellOf_94 ?_
    refine lv_iload_n hC.1 hC.2.1 d_Model_cellOf_95 rfl (lv_at hl 2 rfl) ?_
    refine xi_mul hC d_Model_cellOf_96 ?_
    refine xi_const hC d_Model_cellOf_97 ?_
    refine xi_add hC d_Model_cellOf_98 ?_
    obtain ⟨hi, h⟩ := h
    refine xg_ald hC hK hP hk1 (by decide) hi d_Model_cellOf_99 ?_
    refine xi_add hC d_Model_cellOf_100 ?_
    refine pf_Model_82 hC hK hP hS hst d_Model_cellOf_101 (fun H locs hP hS => ?_)
    obtain ⟨M_2, eM_2⟩ : ∃ y : Mem, y = up M_1 0 20 ((M_1 0 20) + (M_1 k1 ((4 * x2) + 1).toNat)) := ⟨_, rfl⟩
    rw [← eM_2] at hP
    have h := h M_2 eM_2
    exact xr_v hC hr hlocks hK hP hS h d_Model_cellOf_104
  · have h := h.2 q
    refine lv_aload_n hC.1 hC.2.1 d_Model_cellOf_45 rfl (lv_at hl 0 rfl) ?_
    refine gf_Model_79 hC hK hP hst d_Model_cellOf_46 ?_
    refine xi_top (fun v5_3 ev5_3 => ?_)
    have h := h v5_3 ev5_3
    refine lv_istore (lv' := [(5, iv v5_3), (0, .ref (b + 0)), (1, .ref (b + k1)), (2, iv x2), (4, iv x4)]) hC.1 hC.2.1 d_Model_cellOf_49 hl (by decide) rfl (fun ls hl => ?_)
    refine lv_aload_n hC.1 hC.2.1 d_Model_cellOf_51 rfl (lv_at hl 1 rfl) ?_
    refine lv_aload_n hC.1 hC.2.1 d_Model_cellOf_52 rfl (lv_at hl 1 rfl) ?_
    refine gf_Model_82 hC hK hP hst d_Model_cellOf_53 ?_
    refine xi_neg hC d_Model_cellOf_56 ?_
    refine xi_const hC d_Model_cellOf_57 ?_
    refine xi_sub hC d_Model_cellOf_58 ?_
    refine pf_Model_79 hC hK hP hS hst d_Model_cellOf_59 (fun H locs hP hS => ?_)
    obtain ⟨M_4, eM_4⟩ : ∃ y : Mem, y = up M0 0 19 ((-(M0 0 20)) - 1) := ⟨_, rfl⟩
    rw [← eM_4] at hP
    have h := h M_4 eM_4
    refine lv_aload_n hC.1 hC.2.1 d_Model_cellOf_62 rfl (lv_at hl 1 rfl) ?_
    refine lv_iload hC.1 hC.2.1 d_Model_cellOf_63 (lv_at hl 0 rfl) ?_
    refine pf_Model_82 hC hK hP hS hst d_Model_cellOf_65 (fun H locs hP hS => ?_)
    obtain ⟨M_5, eM_5⟩ : ∃ y : Mem, y = up M_4 0 20 v5_3 := ⟨_, rfl⟩
    rw [← eM_5] at hP
    have h := h M_5 eM_5
    obtain ⟨v4_6, ev4_6⟩ : ∃ y : Int, y = x4 + 1 := ⟨_, rfl⟩
    have h := h v4_6 ev4_6
    refine xi_iinc (v := v4_6) (lv' := [(4, iv v4_6), (5, iv v5_3), (0, .ref (b + 0)), (1, .ref (b + k1)), (2, iv x2)]) hC d_Model_cellOf_68 hl (k := 4) rfl ev4_6 (by decide) rfl (fun ls hl => ?_)
    refine lv_goto (tgt := 33) hC.1 hC.2.1 d_Model_cellOf_71 (by decide) ?_
    exact ih _ _ _ _ _ _ h hP hS (lv_sub hl [2, 3, 4, 0] rfl)
set_option maxHeartbeats 4000000 in
theorem c_Model_cellOf (l : Launch) (D : va_G) (g : Nat → ClassId) (b sz : Nat) {k1 : Nat} (hk1 : isA 14 (cellN b g) g 24 k1) {x2 x3 : Int} {M0 : Mem} {Post : Mem → Prop} (h : wp_Model_cellOf k1 x2 x3 M0 Post) : Met l y_Model_cellOf (Cond.code y_Model_cellOf b_Model_cellOf 6 (none) :: gd) ({ frames := 0, cells := 0, slots := 0, locals := 0 }) (PcG D g b 14 (cellN b g) sz M0 [.ref (b + 0), .ref (b + k1), iv x2, iv x3]) (QV D g b 14 (cellN b g) sz Post) 0 0 (rA b 14 sz) := by
  refine xm_start (by decide) rfl (Nat.le_of_ble_eq_true rfl) ?_
  intro p e s m below meth c ls H args hC hr hlocks hK hP hst hz hS hH hl
  have hl : lv_has ls 6 [(0, .ref (b + 0)), (1, .ref (b + k1)), (2, iv x2), (3, iv x3)] := hl
  unfold wp_Model_cellOf at h
  refine lv_aload_n hC.1 hC.2.1 d_Model_cellOf_0 rfl (lv_at hl 0 rfl) ?_
  refine lv_aload_n hC.1 hC.2.1 d_Model_cellOf_1 rfl (lv_at hl 0 rfl) ?_
  refine gf_Model_26 hC hK hP hst d_Model_cellOf_2 ?_
  refine xi_bipush hC d_Model_cellOf_5 (by decide) ?_
  refine lv_iload_n hC.1 hC.2.1 d_Model_cellOf_7 rfl (lv_at hl 2 rfl) ?_
  refine xi_mul hC d_Model_cellOf_8 ?_
  refine lv_iload_n hC.1 hC.2.1 d_Model_cellOf_9 rfl (lv_at hl 3 rfl) ?_
  refine xi_add hC d_Model_cellOf_10 ?_
  obtain ⟨hi, h⟩ := h
  refine xg_ald hC hK hP aN_cellX (by decide) hi d_Model_cellOf_11 ?_
  refine pf_Model_79 hC hK hP hS hst d_Model_cellOf_12 (fun H locs hP hS => ?_)
  obtain ⟨M_1, eM_1⟩ : ∃ y : Mem, y = up M0 0 19 (M0 6 ((49 * x2) + x3).toNat) := ⟨_, rfl⟩
  rw [← eM_1] at hP
  have h := h M_1 eM_1
  refine lv_aload_n hC.1 hC.2.1 d_Model_cellOf_15 rfl (lv_at hl 0 rfl) ?_
  refine lv_aload_n hC.1 hC.2.1 d_Model_cellOf_16 rfl (lv_at hl 0 rfl) ?_
  refine gf_Model_29 hC hK hP hst d_Model_cellOf_17 ?_
  refine xi_bipush hC d_Model_cellOf_20 (by decide) ?_
  refine lv_iload_n hC.1 hC.2.1 d_Model_cellOf_22 rfl (lv_at hl 2 rfl) ?_
  refine xi_mul hC d_Model_cellOf_23 ?_
  refine lv_iload_n hC.1 hC.2.1 d_Model_cellOf_24 rfl (lv_at hl 3 rfl) ?_
  refine xi_add hC d_Model_cellOf_25 ?_
  obtain ⟨hi, h⟩ := h
  refine xg_ald hC hK hP aN_cellY (by decide) hi d_Model_cellOf_26 ?_
  refine pf_Model_82 hC hK hP hS hst d_Model_cellOf_27 (fun H locs hP hS => ?_)
  obtain ⟨M_2, eM_2⟩ : ∃ y : Mem, y = up M_1 0 20 (M_1 7 ((49 * x2) + x3).toNat) := ⟨_, rfl⟩
  rw [← eM_2] at hP
  have h := h M_2 eM_2
  refine xi_const hC d_Model_cellOf_30 ?_
  refine lv_istore (lv' := [(4, iv 0), (0, .ref (b + 0)), (1, .ref (b + k1)), (2, iv x2), (3, iv x3)]) hC.1 hC.2.1 d_Model_cellOf_31 hl (by decide) rfl (fun ls hl => ?_)
  obtain ⟨nn, h⟩ := h
  exact s_Model_cellOf_33 hC hr hlocks hK hst hz hk1 nn _ _ _ _ _ _ h hP hS (lv_sub hl [1, 2, 3, 0] rfl)
set_option maxHeartbeats 4000000 in
theorem s_Model_overlap_6 {p : Program} {l : Launch} {e : Env} {s : State} {m : MethodId} {args : Array Value} {below : List Frame} {meth : Method} {c : Code} {D : va_G} {g : Nat → ClassId} {b sz : Nat} (hC : Cx p m c b_Model_overlap 8 s args "EdgeJoinsModel") (hr : meth.sig.returnType = some .boolean) (hlocks : meth.locks = false) (hK : va_K D classes (tyG g) s) (hst : sC (rA b 14 sz) s s.heap) (hz : sz ≤ s.heap.size) {k1 : Nat} (hk1 : isA 14 (cellN b g) g 24 k1) {Post : Int → Mem → Prop} : ∀ (n : Nat) (x2 x3 x4 x5 : Int) (M0 : Mem) (H : Heap) (locs : List Loc) (ls : Array Slot), wp_Model_overlap_6 k1 Post n x2 x3 x4 x5 M0 → va_P D classes (wsG b 14 (cellN b g) M0) H → va_S (rA b 14 sz) s.heap H locs → lv_has ls 8 [(0, .ref (b + 0)), (1, .ref (b + k1)), (2, iv x2), (3, iv x3), (4, iv x4), (5, iv x5)] → W p l e ({ frames := 1, cells := 0, slots := 0, locals := 25 }) s m args below meth c H locs 0 0 (MQ below (QI D g b 14 (cellN b g) sz Post) args s 0 0 (rA b 14 sz)) (F0 m 6 ls []) := by
  intro n
  induction n with
  | zero => intro x2 x3 x4 x5 M0 H locs ls h; exact h.elim
  | succ n ih =>
  intro x2 x3 x4 x5 M0 H locs ls h hP hS hl
  simp only [wp_Model_overlap_6] at h
  refine lv_iload hC.1 hC.2.1 d_Model_overlap_6 (lv_at hl 5 rfl) ?_
  refine lv_aload_n hC.1 hC.2.1 d_Model_overlap_8 rfl (lv_at hl 0 rfl) ?_
  refine gf_Model_23 hC hK hP hst d_Model_overlap_9 ?_
  refine lv_iload_n hC.1 hC.2.1 d_Model_overlap_12 rfl (lv_at hl 2 rfl) ?_
  obtain ⟨hi, h⟩ := h
  refine xg_ald hC hK hP aN_cells (by decide) hi d_Model_overlap_13 ?_
  refine lv_aload_n hC.1 hC.2.1 d_Model_overlap_14 rfl (lv_at hl 0 rfl) ?_
  refine gf_Model_23 hC hK hP hst d_Model_overlap_15 ?_
  refine lv_iload_n hC.1 hC.2.1 d_Model_overlap_18 rfl (lv_at hl 3 rfl) ?_
  obtain ⟨hi, h⟩ := h
  refine xg_ald hC hK hP aN_cells (by decide) hi d_Model_overlap_19 ?_
  refine xi_mul hC d_Model_overlap_20 ?_
  obtain ⟨b0, h⟩ := h
  obtain ⟨b1, h⟩ := h
  refine xi_cge hC (tgt := 102) d_Model_overlap_21 (by decide) b0 b1 (fun q => ?_) (fun q => ?_)
  · have h := h.1 q
    refine lv_iload hC.1 hC.2.1 d_Model_overlap_102 (lv_at hl 4 rfl) ?_
    exact xr_z hC hr hlocks hK hP hS h.1 h.2 d_Model_overlap_104
  · have h := h.2 q
    refine lv_aload_n hC.1 hC.2.1 d_Model_overlap_24 rfl (lv_at hl 0 rfl) ?_
    refine lv_aload_n hC.1 hC.2.1 d_Model_overlap_25 rfl (lv_at hl 1 rfl) ?_
    refine lv_iload_n hC.1 hC.2.1 d_Model_overlap_26 rfl (lv_at hl 2 rfl) ?_
    refine lv_iload hC.1 hC.2.1 d_Model_overlap_27 (lv_at hl 5 rfl) ?_
    refine lv_aload_n hC.1 hC.2.1 d_Model_overlap_29 rfl (lv_at hl 0 rfl) ?_
    refine gf_Model_23 hC hK hP hst d_Model_overlap_30 ?_
    refine lv_iload_n hC.1 hC.2.1 d_Model_overlap_33 rfl (lv_at hl 3 rfl) ?_
    obtain ⟨hi, h⟩ := h
    refine xg_ald hC hK hP aN_cells (by decide) hi d_Model_overlap_34 ?_
    obtain ⟨hd, h⟩ := h
    refine xi_div hC d_Model_overlap_35 hd ?_
    refine xk_Vv (As := [.ref (b + k1), iv x2, iv (x5 / (M0 5 x3.toNat))]) (rest := []) hC hK hP hS hst hz hl.1 lk_Model_139 rfl rfl rfl ⟨Nat.le_of_ble_eq_true rfl, Nat.le_of_ble_eq_true rfl⟩ (rc_Model hK hP) (fun sz' => c_Model_cellOf l D g b sz' hk1 h) d_Model_overlap_36 rfl (Nat.le_of_ble_eq_true rfl) ⟨Nat.le_of_ble_eq_true rfl, Nat.le_of_ble_eq_true rfl⟩ (fun M_2 H locs h hP hS => ?_)
    try dsimp only at h
    refine lv_aload_n hC.1 hC.2.1 d_Model_overlap_39 rfl (lv_at hl 0 rfl) ?_
    refine gf_Model_79 hC hK hP hst d_Model_overlap_40 ?_
    refine xi_top (fun v6_3 ev6_3 => ?_)
    have h := h v6_3 ev6_3
    refine lv_istore (lv' := [(6, iv v6_3), (0, .ref (b + 0)), (1, .ref (b + k1)), (2, iv x2), (3, iv x3), (4, iv x4), (5, iv x5)]) hC.1 hC.2.1 d_Model_overlap_43 hl (by decide) rfl (fun ls hl => ?_)
    refine lv_aload_n hC.1 hC.2.1 d_Model_overlap_45 rfl (lv_at hl 1 rfl) ?_
    refine gf_Model_82 hC hK hP hst d_Model_overlap_46 ?_
    refine xi_top (fun v7_4 ev7_4 => ?_)
    have h := h v7_4 ev7_4
    refine lv_istore (lv' := [(7, iv v7_4), (6, iv v6_3), (0, .ref (b + 0)), (1, .ref (b + k1)), (2, iv x2), (3, iv x3), (4, iv x4), (5, iv x5)]) hC.1 hC.2.1 d_Model_overlap_49 hl (by decide) rfl (fun ls hl => ?_)
    refine lv_aload_n hC.1 hC.2.1 d_Model_overlap_51 rfl (lv_at hl 2 rfl) ?_
    refine lv_aload_n hC.1 hC.2.1 d_Model_overlap_52 rfl (lv_at hl 3 rfl) ?_
    refine lv_iload_n hC.1 hC.2.1 d_Model_overlap_53 rfl (lv_at hl 5 rfl) ?_
    refine lv_iload hC.1 hC.2.1 d_Model_overlap_54 (lv_at hl 7 rfl) ?_
    refine lv_aload_n hC.1 hC.2.1 d_Model_overlap_56 rfl (lv_at hl 2 rfl) ?_
    refine gf_Model_23 hC hK hP hst d_Model_overlap_57 ?_
    refine lv_iload_n hC.1 hC.2.1 d_Model_overlap_60 rfl (lv_at hl 5 rfl) ?_
    obtain ⟨hi, h⟩ := h
    refine xg_ald hC hK hP aN_cells (by decide) hi d_Model_overlap_61 ?_
    obtain ⟨hd, h⟩ := h
    refine xi_rem hC d_Model_overlap_62 hd ?_
    refine xk_Vv (As := [.ref (b + k1), iv x3, iv (x5 % (M_2 5 x3.toNat))]) (rest := []) hC hK hP hS hst hz hl.1 lk_Model_139 rfl rfl rfl ⟨Nat.le_of_ble_eq_true rfl, Nat.le_of_ble_eq_true rfl⟩ (rc_Model hK hP) (fun sz' => c_Model_cellOf l D g b sz' hk1 h) d_Model_overlap_63 rfl (Nat.le_of_ble_eq_true rfl) ⟨Nat.le_of_ble_eq_true rfl, Nat.le_of_ble_eq_true rfl⟩ (fun M_6 H locs h hP hS => ?_)
    try dsimp only at h
    refine lv_iload hC.1 hC.2.1 d_Model_overlap_66 (lv_at hl 6 rfl) ?_
    obtain ⟨b0, h⟩ := h
    refine xi_ine hC (tgt := 89) d_Model_overlap_68 (by decide) b0 (fun q => ?_) (fun q => ?_)
    · have h := h.1 q
      refine xi_const hC d_Model_overlap_89 ?_
      refine lv_goto (tgt := 94) hC.1 hC.2.1 d_Model_overlap_90 (by decide) ?_
      refine lv_istore (lv' := [(4, iv 1), (7, iv v7_4), (6, iv v6_3), (0, .ref (b + 0)), (1, .ref (b + k1)), (2, iv x2), (3, iv x3), (5, iv x5)]) hC.1 hC.2.1 d_Model_overlap_94 hl (by decide) rfl (fun ls hl => ?_)
      obtain ⟨v5_7, ev5_7⟩ : ∃ y : Int, y = x5 + 1 := ⟨_, rfl⟩
      have h := h v5_7 ev5_7
      refine xi_iinc (v := v5_7) (lv' := [(5, iv v5_7), (4, iv 1), (7, iv v7_4), (6, iv v6_3), (0, .ref (b + 0)), (1, .ref (b + k1)), (2, iv x2), (3, iv x3)]) hC d_Model_overlap_96 hl (k := 7) rfl ev5_7 (by decide) rfl (fun ls hl => ?_)
      refine lv_goto (tgt := 6) hC.1 hC.2.1 d_Model_overlap_99 (by decide) ?_
      exact ih _ _ _ _ _ _ _ _ h hP hS (lv_sub hl [4, 5, 6, 7, 1, 0] rfl)
    · have h := h.2 q
      refine lv_aload_n hC.1 hC.2.1 d_Model_overlap_71 rfl (lv_at hl 2 rfl) ?_
      refine gf_Model_79 hC hK hP hst d_Model_overlap_72 ?_
      refine lv_iload hC.1 hC.2.1 d_Model_overlap_75 (lv_at hl 1 rfl) ?_
      obtain ⟨b0, h⟩ := h
      obtain ⟨b1, h⟩ := h
      refine xi_cne hC (tgt := 93) d_Model_overlap_77 (by decide) b0 b1 (fun q => ?_) (fun q => ?_)
      · have h := h.1 q
        refine xi_const hC d_Model_overlap_93 ?_
        refine lv_istore (lv' := [(4, iv 0), (7, iv v7_4), (6, iv v6_3), (0, .ref (b + 0)), (1, .ref (b + k1)), (2, iv x2), (3, iv x3), (5, iv x5)]) hC.1 hC.2.1 d_Model_overlap_94 hl (by decide) rfl (fun ls hl => ?_)
        obtain ⟨v5_8, ev5_8⟩ : ∃ y : Int, y = x5 + 1 := ⟨_, rfl⟩
        have h := h v5_8 ev5_8
        refine xi_iinc (v := v5_8) (lv' := [(5, iv v5_8), (4, iv 0), (7, iv v7_4), (6, iv v6_3), (0, .ref (b + 0)), (1, .ref (b + k1)), (2, iv x2), (3, iv x3)]) hC d_Model_overlap_96 hl (k := 7) rfl ev5_8 (by decide) rfl (fun ls hl => ?_)
        refine lv_goto (tgt := 6) hC.1 hC.2.1 d_Model_overlap_99 (by decide) ?_
        exact ih _ _ _ _ _ _ _ _ h hP hS (lv_sub hl [4, 5, 6, 7, 1, 0] rfl)
      · have h := h.2 q
        refine lv_aload_n hC.1 hC.2.1 d_Model_overlap_80 rfl (lv_at hl 2 rfl) ?_
        refine gf_Model_82 hC hK hP hst d_Model_overlap_81 ?_
        refine lv_iload hC.1 hC.2.1 d_Model_overlap_84 (lv_at hl 0 rfl) ?_
        obtain ⟨b0, h⟩ := h
        obtain ⟨b1, h⟩ := h
        refine xi_cne hC (tgt := 93) d_Model_overlap_86 (by decide) b0 b1 (fun q => ?_) (fun q => ?_)
        · have h := h.1 q
          refine xi_const hC d_Model_overlap_93 ?_
          refine lv_istore (lv' := [(4, iv 0), (7, iv v7_4), (6, iv v6_3), (0, .ref (b + 0)), (1, .ref (b + k1)), (2, iv x2), (3, iv x3), (5, iv x5)]) hC.1 hC.2.1 d_Model_overlap_94 hl (by decide) rfl (fun ls hl => ?_)
          obtain ⟨v5_9, ev5_9⟩ : ∃ y : Int, y = x5 + 1 := ⟨_, rfl⟩
          have h := h v5_9 ev5_9
          refine xi_iinc (v := v5_9) (lv' := [(5, iv v5_9), (4, iv 0), (7, iv v7_4), (6, iv v6_3), (0, .ref (b + 0)), (1, .ref (b + k1)), (2, iv x2), (3, iv x3)]) hC d_Model_overlap_96 hl (k := 7) rfl ev5_9 (by decide) rfl (fun ls hl => ?_)
          refine lv_goto (tgt := 6) hC.1 hC.2.1 d_Model_overlap_99 (by decide) ?_
          exact ih _ _ _ _ _ _ _ _ h hP hS (lv_sub hl [4, 5, 6, 7, 1, 0] rfl)
        · have h := h.2 q
          refine xi_const hC d_Model_overlap_89 ?_
          refine lv_goto (tgt := 94) hC.1 hC.2.1 d_Model_overlap_90 (by decide) ?_
          refine lv_istore (lv' := [(4, iv 1), (7, iv v7_4), (6, iv v6_3), (0, .ref (b + 0)), (1, .ref (b + k1)), (2, iv x2), (3, iv x3), (5, iv x5)]) hC.1 hC.2.1 d_Model_overlap_94 hl (by decide) rfl (fun ls hl => ?_)
          obtain ⟨v5_10, ev5_10⟩ : ∃ y : Int, y = x5 + 1 := ⟨_, rfl⟩
          have h := h v5_10 ev5_10
          refine xi_iinc (v := v5_10) (lv' := [(5, iv v5_10), (4, iv 1), (7, iv v7_4), (6, iv v6_3), (0, .ref (b + 0)), (1, .ref (b + k1)), (2, iv x2), (3, iv x3)]) hC d_Model_overlap_96 hl (k := 7) rfl ev5_10 (by decide) rfl (fun ls hl => ?_)
          refine lv_goto (tgt := 6) hC.1 hC.2.1 d_Model_overlap_99 (by decide) ?_
          exact ih _ _ _ _ _ _ _ _ h hP hS (lv_sub hl [4, 5, 6, 7, 1, 0] rfl)
set_option maxHeartbeats 4000000 in
theorem c_Model_overlap (l : Launch) (D : va_G) (g : Nat → ClassId) (b sz : Nat) {k1 : Nat} (hk1 : isA 14 (cellN b g) g 24 k1) {x2 x3 : Int} {M0 : Mem} {Post : Int → Mem → Prop} (h : wp_Model_overlap k1 x2 x3 M0 Post) : Met l y_Model_overlap (Cond.code y_Model_overlap b_Model_overlap 8 (some .boolean) :: gd) ({ frames := 1, cells := 0, slots := 0, locals := 25 }) (PcG D g b 14 (cellN b g) sz M0 [.ref (b + 0), .ref (b + k1), iv x2, iv x3]) (QI D g b 14 (cellN b g) sz Post) 0 0 (rA b 14 sz) := by
  refine xm_start (by decide) rfl (Nat.le_of_ble_eq_true rfl) ?_
  intro p e s m below meth c ls H args hC hr hlocks hK hP hst hz hS hH hl
  have hl : lv_has ls 8 [(0, .ref (b + 0)), (1, .ref (b + k1)), (2, iv x2), (3, iv x3)] := hl
  unfold wp_Model_overlap at h
  refine xi_const hC d_Model_overlap_0 ?_
  refine lv_istore (lv' := [(4, iv 0), (0, .ref (b + 0)), (1, .ref (b + k1)), (2, iv x2), (3, iv x3)]) hC.1 hC.2.1 d_Model_overlap_1 hl (by decide) rfl (fun ls hl => ?_)
  refine xi_const hC d_Model_overlap_3 ?_
  refine lv_istore (lv' := [(5, iv 0), (4, iv 0), (0, .ref (b + 0)), (1, .ref (b + k1)), (2, iv x2), (3, iv x3)]) hC.1 hC.2.1 d_Model_overlap_4 hl (by decide) rfl (fun ls hl => ?_)
  obtain ⟨nn, h⟩ := h
  exact s_Model_overlap_6 hC hr hlocks hK hst hz hk1 nn _ _ _ _ _ _ _ _ h hP hS (lv_sub hl [2, 3, 4, 5, 1, 0] rfl)
set_option maxHeartbeats 4000000 in
theorem c_Model_aim (l : Launch) (D : va_G) (g : Nat → ClassId) (b sz : Nat) {x1 : Int} {M0 : Mem} {Post : Mem → Prop} (h : wp_Model_aim x1 M0 Post) : Met l y_Model_aim (Cond.code y_Model_aim b_Model_aim 9 (none) :: gd) ({ frames := 2, cells := 0, slots := 0, locals := 46 }) (PcG D g b 14 (cellN b g) sz M0 [.ref (b + 0), iv x1]) (QV D g b 14 (cellN b g) sz Post) 0 0 (rA b 14 sz) := by
  refine xm_start (by decide) rfl (Nat.le_of_ble_eq_true rfl) ?_
  intro p e s m below meth c ls H args hC hr hlocks hK hP hst hz hS hH hl
  have hl : lv_has ls 9 [(0, .ref (b + 0)), (1, iv x1)] := hl
  unfold wp_Model_aim at h
  refine lv_aload_n hC.1 hC.2.1 d_Model_aim_0 rfl (lv_at hl 0 rfl) ?_
  refine gf_Model_39 hC hK hP hst d_Model_aim_1 ?_
  refine lv_iload_n hC.1 hC.2.1 d_Model_aim_4 rfl (lv_at hl 1 rfl) ?_
  obtain ⟨hi, h⟩ := h
  refine xg_ald hC hK hP aN_list (by decide) hi d_Model_aim_5 ?_
  refine xi_top (fun v2_1 ev2_1 => ?_)
  have h := h v2_1 ev2_1
  refine lv_istore_n (lv' := [(2, iv v2_1), (0, .ref (b + 0)), (1, iv x1)]) hC.1 hC.2.1 d_Model_aim_6 rfl hl (by decide) rfl (fun ls hl => ?_)
  refine lv_aload_n hC.1 hC.2.1 d_Model_aim_7 rfl (lv_at hl 1 rfl) ?_
  refine gf_Model_39 hC hK hP hst d_Model_aim_8 ?_
  refine lv_iload_n hC.1 hC.2.1 d_Model_aim_11 rfl (lv_at hl 2 rfl) ?_
  refine xi_const hC d_Model_aim_12 ?_
  refine xi_add hC d_Model_aim_13 ?_
  obtain ⟨hi, h⟩ := h
  refine xg_ald hC hK hP aN_list (by decide) hi d_Model_aim_14 ?_
  refine xi_top (fun v3_2 ev3_2 => ?_)
  have h := h v3_2 ev3_2
  refine lv_istore_n (lv' := [(3, iv v3_2), (2, iv v2_1), (0, .ref (b + 0)), (1, iv x1)]) hC.1 hC.2.1 d_Model_aim_15 rfl hl (by decide) rfl (fun ls hl => ?_)
  refine lv_aload_n hC.1 hC.2.1 d_Model_aim_16 rfl (lv_at hl 2 rfl) ?_
  refine gf_Model_39 hC hK hP hst d_Model_aim_17 ?_
  refine lv_iload_n hC.1 hC.2.1 d_Model_aim_20 rfl (lv_at hl 3 rfl) ?_
  refine xi_const hC d_Model_aim_21 ?_
  refine xi_add hC d_Model_aim_22 ?_
  obtain ⟨hi, h⟩ := h
  refine xg_ald hC hK hP aN_list (by decide) hi d_Model_aim_23 ?_
  refine xi_top (fun v4_3 ev4_3 => ?_)
  have h := h v4_3 ev4_3
  refine lv_istore (lv' := [(4, iv v4_3), (3, iv v3_2), (2, iv v2_1), (0, .ref (b + 0)), (1, iv x1)]) hC.1 hC.2.1 d_Model_aim_24 hl (by decide) rfl (fun ls hl => ?_)
  refine lv_aload_n hC.1 hC.2.1 d_Model_aim_26 rfl (lv_at hl 3 rfl) ?_
  refine gf_Model_39 hC hK hP hst d_Model_aim_27 ?_
  refine lv_iload_n hC.1 hC.2.1 d_Model_aim_30 rfl (lv_at hl 4 rfl) ?_
  refine xi_const hC d_Model_aim_31 ?_
  refine xi_add hC d_Model_aim_32 ?_
  obtain ⟨hi, h⟩ := h
  refine xg_ald hC hK hP aN_list (by decide) hi d_Model_aim_33 ?_
  refine xi_top (fun v5_4 ev5_4 => ?_)
  have h := h v5_4 ev5_4
  refine lv_istore (lv' := [(5, iv v5_4), (4, iv v4_3), (3, iv v3_2), (2, iv v2_1), (0, .ref (b + 0)), (1, iv x1)]) hC.1 hC.2.1 d_Model_aim_34 hl (by decide) rfl (fun ls hl => ?_)
  refine lv_aload_n hC.1 hC.2.1 d_Model_aim_36 rfl (lv_at hl 4 rfl) ?_
  refine gf_Model_45 hC hK hP hst d_Model_aim_37 ?_
  refine xi_const hC d_Model_aim_40 ?_
  refine lv_iload_n hC.1 hC.2.1 d_Model_aim_41 rfl (lv_at hl 3 rfl) ?_
  refine xi_mul hC d_Model_aim_42 ?_
  refine xi_const hC d_Model_aim_43 ?_
  refine xi_add hC d_Model_aim_44 ?_
  obtain ⟨hi, h⟩ := h
  refine xg_ald hC hK hP aN_places (by decide) hi d_Model_aim_45 ?_
  refine lv_aload_n hC.1 hC.2.1 d_Model_aim_46 rfl (lv_at hl 4 rfl) ?_
  refine lv_iload_n hC.1 hC.2.1 d_Model_aim_47 rfl (lv_at hl 3 rfl) ?_
  refine lv_iload_n hC.1 hC.2.1 d_Model_aim_48 rfl (lv_at hl 2 rfl) ?_
  refine lv_iload hC.1 hC.2.1 d_Model_aim_49 (lv_at hl 1 rfl) ?_
  refine lv_iload hC.1 hC.2.1 d_Model_aim_51 (lv_at hl 0 rfl) ?_
  refine xk_VP (As := [iv v2_1, iv v3_2, iv v4_3, iv v5_4]) (rest := [iv (M0 10 ((4 * v2_1) + 2).toNat)]) hC hK hP hS hst hz hl.1 lk_Model_109 rfl rfl rfl ⟨Nat.le_of_ble_eq_true rfl, Nat.le_of_ble_eq_true rfl⟩ (rc_Model hK hP) (fun sz' => c_Model_turnsOf l D g b sz' h) d_Model_aim_53 rfl (Nat.le_of_ble_eq_true rfl) ⟨Nat.le_of_ble_eq_true rfl, Nat.le_of_ble_eq_true rfl⟩ (fun r_5 h => ?_)
  try dsimp only at h
  refine xi_add hC d_Model_aim_56 ?_
  refine xi_const hC d_Model_aim_57 ?_
  refine xi_and3r hC d_Model_aim_58 ?_
  refine xi_top (fun v6_6 ev6_6 => ?_)
  have h := h v6_6 ev6_6
  refine lv_istore (lv' := [(6, iv v6_6), (5, iv v5_4), (4, iv v4_3), (3, iv v3_2), (2, iv v2_1), (0, .ref (b + 0)), (1, iv x1)]) hC.1 hC.2.1 d_Model_aim_59 hl (by decide) rfl (fun ls hl => ?_)
  refine lv_aload_n hC.1 hC.2.1 d_Model_aim_61 rfl (lv_at hl 5 rfl) ?_
  refine lv_iload_n hC.1 hC.2.1 d_Model_aim_62 rfl (lv_at hl 4 rfl) ?_
  refine lv_iload_n hC.1 hC.2.1 d_Model_aim_63 rfl (lv_at hl 3 rfl) ?_
  refine xk_Vv (As := [iv v2_1, iv v3_2]) (rest := []) hC hK hP hS hst hz hl.1 lk_Model_92 rfl rfl rfl ⟨Nat.le_of_ble_eq_true rfl, Nat.le_of_ble_eq_true rfl⟩ (rc_Model hK hP) (fun sz' => c_Model_corner l D g b sz' h) d_Model_aim_64 rfl (Nat.le_of_ble_eq_true rfl) ⟨Nat.le_of_ble_eq_true rfl, Nat.le_of_ble_eq_true rfl⟩ (fun M_8 H locs h hP hS => ?_)
  try dsimp only at h
  refine lv_aload_n hC.1 hC.2.1 d_Model_aim_67 rfl (lv_at hl 5 rfl) ?_
  refine lv_aload_n hC.1 hC.2.1 d_Model_aim_68 rfl (lv_at hl 5 rfl) ?_
  refine gf_Model_45 hC hK hP hst d_Model_aim_69 ?_
  refine xi_const hC d_Model_aim_72 ?_
  refine lv_iload_n hC.1 hC.2.1 d_Model_aim_73 rfl (lv_at hl 4 rfl) ?_
  refine xi_mul hC d_Model_aim_74 ?_
  refine xi_const hC d_Model_aim_75 ?_
  refine xi_add hC d_Model_aim_76 ?_
  obtain ⟨hi, h⟩ := h
  refine xg_ald hC hK hP aN_places (by decide) hi d_Model_aim_77 ?_
  refine xk_Vv (As := [iv (M_8 10 ((4 * v2_1) + 2).toNat)]) (rest := []) hC hK hP hS hst hz hl.1 lk_Model_143 rfl rfl rfl ⟨Nat.le_of_ble_eq_true rfl, Nat.le_of_ble_eq_true rfl⟩ (rc_Model hK hP) (fun sz' => c_Model_turn l D g b sz' h) d_Model_aim_78 rfl (Nat.le_of_ble_eq_true rfl) ⟨Nat.le_of_ble_eq_true rfl, Nat.le_of_ble_eq_true rfl⟩ (fun M_10 H locs h hP hS => ?_)
  try dsimp only at h
  refine lv_aload_n hC.1 hC.2.1 d_Model_aim_81 rfl (lv_at hl 5 rfl) ?_
  refine gf_Model_79 hC hK hP hst d_Model_aim_82 ?_
  refine lv_aload_n hC.1 hC.2.1 d_Model_aim_85 rfl (lv_at hl 5 rfl) ?_
  refine gf_Model_45 hC hK hP hst d_Model_aim_86 ?_
  refine xi_const hC d_Model_aim_89 ?_
  refine lv_iload_n hC.1 hC.2.1 d_Model_aim_90 rfl (lv_at hl 4 rfl) ?_
  refine xi_mul hC d_Model_aim_91 ?_
  obtain ⟨hi, h⟩ := h
  refine xg_ald hC hK hP aN_places (by decide) hi d_Model_aim_92 ?_
  refine xi_add hC d_Model_aim_93 ?_
  refine xi_top (fun v7_11 ev7_11 => ?_)
  have h := h v7_11 ev7_11
  refine lv_istore (lv' := [(7, iv v7_11), (6, iv v6_6), (5, iv v5_4), (4, iv v4_3), (3, iv v3_2), (2, iv v2_1), (0, .ref (b + 0)), (1, iv x1)]) hC.1 hC.2.1 d_Model_aim_94 hl (by decide) rfl (fun ls hl => ?_)
  refine lv_aload_n hC.1 hC.2.1 d_Model_aim_96 rfl (lv_at hl 6 rfl) ?_
  refine gf_Model_82 hC hK hP hst d_Model_aim_97 ?_
  refine lv_aload_n hC.1 hC.2.1 d_Model_aim_100 rfl (lv_at hl 6 rfl) ?_
  refine gf_Model_45 hC hK hP hst d_Model_aim_101 ?_
  refine xi_const hC d_Model_aim_104 ?_
  refine lv_iload_n hC.1 hC.2.1 d_Model_aim_105 rfl (lv_at hl 5 rfl) ?_
  refine xi_mul hC d_Model_aim_106 ?_
  refine xi_const hC d_Model_aim_107 ?_
  refine xi_add hC d_Model_aim_108 ?_
  obtain ⟨hi, h⟩ := h
  refine xg_ald hC hK hP aN_places (by decide) hi d_Model_aim_109 ?_
  refine xi_add hC d_Model_aim_110 ?_
  refine xi_top (fun v8_12 ev8_12 => ?_)
  have h := h v8_12 ev8_12
  refine lv_istore (lv' := [(8, iv v8_12), (7, iv v7_11), (6, iv v6_6), (5, iv v5_4), (4, iv v4_3), (3, iv v3_2), (2, iv v2_1), (0, .ref (b + 0)), (1, iv x1)]) hC.1 hC.2.1 d_Model_aim_111 hl (by decide) rfl (fun ls hl => ?_)
  refine lv_aload_n hC.1 hC.2.1 d_Model_aim_113 rfl (lv_at hl 7 rfl) ?_
  refine lv_iload hC.1 hC.2.1 d_Model_aim_114 (lv_at hl 4 rfl) ?_
  refine lv_iload hC.1 hC.2.1 d_Model_aim_116 (lv_at hl 3 rfl) ?_
  refine xi_const hC d_Model_aim_118 ?_
  refine xi_add hC d_Model_aim_119 ?_
  refine xk_Vv (As := [iv v4_3, iv (v5_4 + 1)]) (rest := []) hC hK hP hS hst hz hl.1 lk_Model_92 rfl rfl rfl ⟨Nat.le_of_ble_eq_true rfl, Nat.le_of_ble_eq_true rfl⟩ (rc_Model hK hP) (fun sz' => c_Model_corner l D g b sz' h) d_Model_aim_120 rfl (Nat.le_of_ble_eq_true rfl) ⟨Nat.le_of_ble_eq_true rfl, Nat.le_of_ble_eq_true rfl⟩ (fun M_14 H locs h hP hS => ?_)
  try dsimp only at h
  refine lv_aload_n hC.1 hC.2.1 d_Model_aim_123 rfl (lv_at hl 7 rfl) ?_
  refine lv_iload hC.1 hC.2.1 d_Model_aim_124 (lv_at hl 2 rfl) ?_
  refine xk_Vv (As := [iv v6_6]) (rest := []) hC hK hP hS hst hz hl.1 lk_Model_143 rfl rfl rfl ⟨Nat.le_of_ble_eq_true rfl, Nat.le_of_ble_eq_true rfl⟩ (rc_Model hK hP) (fun sz' => c_Model_turn l D g b sz' h) d_Model_aim_126 rfl (Nat.le_of_ble_eq_true rfl) ⟨Nat.le_of_ble_eq_true rfl, Nat.le_of_ble_eq_true rfl⟩ (fun M_16 H locs h hP hS => ?_)
  try dsimp only at h
  refine lv_aload_n hC.1 hC.2.1 d_Model_aim_129 rfl (lv_at hl 7 rfl) ?_
  refine gf_Model_51 hC hK hP hst d_Model_aim_130 ?_
  refine xi_const hC d_Model_aim_133 ?_
  refine lv_iload hC.1 hC.2.1 d_Model_aim_134 (lv_at hl 4 rfl) ?_
  refine xi_mul hC d_Model_aim_136 ?_
  refine lv_iload hC.1 hC.2.1 d_Model_aim_137 (lv_at hl 1 rfl) ?_
  refine lv_aload_n hC.1 hC.2.1 d_Model_aim_139 rfl (lv_at hl 7 rfl) ?_
  refine gf_Model_79 hC hK hP hst d_Model_aim_140 ?_
  refine xi_sub hC d_Model_aim_143 ?_
  obtain ⟨hi, h⟩ := h
  refine xg_ast hC hK hP hS aN_tried (by decide) hi d_Model_aim_144 (fun H locs hP hS => ?_)
  obtain ⟨M_17, eM_17⟩ : ∃ y : Mem, y = up M_16 12 (4 * v4_3).toNat (v7_11 - (M_16 0 19)) := ⟨_, rfl⟩
  rw [← eM_17] at hP
  have h := h M_17 eM_17
  refine lv_aload_n hC.1 hC.2.1 d_Model_aim_145 rfl (lv_at hl 7 rfl) ?_
  refine gf_Model_51 hC hK hP hst d_Model_aim_146 ?_
  refine xi_const hC d_Model_aim_149 ?_
  refine lv_iload hC.1 hC.2.1 d_Model_aim_150 (lv_at hl 4 rfl) ?_
  refine xi_mul hC d_Model_aim_152 ?_
  refine xi_const hC d_Model_aim_153 ?_
  refine xi_add hC d_Model_aim_154 ?_
  refine lv_iload hC.1 hC.2.1 d_Model_aim_155 (lv_at hl 0 rfl) ?_
  refine lv_aload_n hC.1 hC.2.1 d_Model_aim_157 rfl (lv_at hl 7 rfl) ?_
  refine gf_Model_82 hC hK hP hst d_Model_aim_158 ?_
  refine xi_sub hC d_Model_aim_161 ?_
  obtain ⟨hi, h⟩ := h
  refine xg_ast hC hK hP hS aN_tried (by decide) hi d_Model_aim_162 (fun H locs hP hS => ?_)
  obtain ⟨M_18, eM_18⟩ : ∃ y : Mem, y = up M_17 12 ((4 * v4_3) + 1).toNat (v8_12 - (M_17 0 20)) := ⟨_, rfl⟩
  rw [← eM_18] at hP
  have h := h M_18 eM_18
  refine lv_aload_n hC.1 hC.2.1 d_Model_aim_163 rfl (lv_at hl 7 rfl) ?_
  refine gf_Model_51 hC hK hP hst d_Model_aim_164 ?_
  refine xi_const hC d_Model_aim_167 ?_
  refine lv_iload hC.1 hC.2.1 d_Model_aim_168 (lv_at hl 4 rfl) ?_
  refine xi_mul hC d_Model_aim_170 ?_
  refine xi_const hC d_Model_aim_171 ?_
  refine xi_add hC d_Model_aim_172 ?_
  refine lv_iload hC.1 hC.2.1 d_Model_aim_173 (lv_at hl 2 rfl) ?_
  obtain ⟨hi, h⟩ := h
  refine xg_ast hC hK hP hS aN_tried (by decide) hi d_Model_aim_175 (fun H locs hP hS => ?_)
  obtain ⟨M_19, eM_19⟩ : ∃ y : Mem, y = up M_18 12 ((4 * v4_3) + 2).toNat v6_6 := ⟨_, rfl⟩
  rw [← eM_19] at hP
  have h := h M_19 eM_19
  exact xr_v hC hr hlocks hK hP hS h d_Model_aim_176
