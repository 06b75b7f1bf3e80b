set_option maxHeartbeats 4000000 in
theorem s_Model_holes_79 {p : Program} {l : Launch} {e : Env} {s : State} {m : MethodId} {args : Array Value} {below : List Frame} {meth : Method} {c : Code} {D : va_G} {g : Nat → ClassId} {b sz : Nat} (hC : Cx p m c b_Model_holes 4 s args "EdgeJoinsModel") (hr : meth.sig.returnType = some .int) (hlocks : meth.locks = false) (hK : va_K D classes (tyG g) s) (hst : sC (rA b 14 sz) s s.heap) (hz : sz ≤ s.heap.size) {Post : Int → Mem → Prop} : ∀ (n : Nat) (x2 x3 : Int) (M0 : Mem) (H : Heap) (locs : List Loc) (ls : Array Slot), wp_Model_holes_79 Post n x2 x3 M0 → va_P D classes (wsG b 14 (cellN b g) M0) H → va_S (rA b 14 sz) s.heap H locs → lv_has ls 4 [(0, .ref (b + 0)), (2, iv x2), (3, iv x3)] → W p l e ({ frames := 2, cells := 0, slots := 0, locals := 49 }) s m args below meth c H locs 0 0 (MQ below (QI D g b 14 (cellN b g) sz Post) args s 0 0 (rA b 14 sz)) (F0 m 79 ls []) := by
  intro n
  induction n with
  | zero => intro x2 x3 M0 H locs ls h; exact h.elim
  | succ n ih =>
  intro x2 x3 M0 H locs ls h hP hS hl
  simp only [wp_Model_holes_79] at h
  refine lv_iload_n hC.1 hC.2.1 d_Model_holes_79 rfl (lv_at hl 2 rfl) ?_
  refine xi_sipush hC d_Model_holes_80 (by decide) ?_
  obtain ⟨b0, h⟩ := h
  refine xi_cge hC (tgt := 109) d_Model_holes_83 (by decide) b0 (xl rfl) (fun q => ?_) (fun q => ?_)
  · have h := h.1 q
    refine lv_iload_n hC.1 hC.2.1 d_Model_holes_109 rfl (lv_at hl 1 rfl) ?_
    exact xr_i hC hr hlocks hK hP hS h d_Model_holes_110
  · have h := h.2 q
    refine lv_iload_n hC.1 hC.2.1 d_Model_holes_86 rfl (lv_at hl 1 rfl) ?_
    refine lv_aload_n hC.1 hC.2.1 d_Model_holes_87 rfl (lv_at hl 0 rfl) ?_
    refine gf_Model_54 hC hK hP hst d_Model_holes_88 ?_
    refine lv_iload_n hC.1 hC.2.1 d_Model_holes_91 rfl (lv_at hl 2 rfl) ?_
    obtain ⟨hi, h⟩ := h
    refine xg_ald hC hK hP aN_field (by decide) hi d_Model_holes_92 ?_
    obtain ⟨b0, h⟩ := h
    refine xi_ine hC (tgt := 100) d_Model_holes_93 (by decide) b0 (fun q => ?_) (fun q => ?_)
    · have h := h.1 q
      refine xi_const hC d_Model_holes_100 ?_
      refine xi_add hC d_Model_holes_101 ?_
      refine xi_top (fun v2_1 ev2_1 => ?_)
      have h := h v2_1 ev2_1
      refine lv_istore_n (lv' := [(2, iv v2_1), (0, .ref (b + 0)), (3, iv x3)]) hC.1 hC.2.1 d_Model_holes_102 rfl hl (by decide) rfl (fun ls hl => ?_)
      obtain ⟨v3_2, ev3_2⟩ : ∃ y : Int, y = x3 + 1 := ⟨_, rfl⟩
      have h := h v3_2 ev3_2
      refine xi_iinc (v := v3_2) (lv' := [(3, iv v3_2), (2, iv v2_1), (0, .ref (b + 0))]) hC d_Model_holes_103 hl (k := 2) rfl ev3_2 (by decide) rfl (fun ls hl => ?_)
      refine lv_goto (tgt := 79) hC.1 hC.2.1 d_Model_holes_106 (by decide) ?_
      exact ih _ _ _ _ _ _ h hP hS (lv_sub hl [2, 1, 0] rfl)
    · have h := h.2 q
      refine xi_const hC d_Model_holes_96 ?_
      refine lv_goto (tgt := 101) hC.1 hC.2.1 d_Model_holes_97 (by decide) ?_
      refine xi_add hC d_Model_holes_101 ?_
      refine xi_top (fun v2_3 ev2_3 => ?_)
      have h := h v2_3 ev2_3
      refine lv_istore_n (lv' := [(2, iv v2_3), (0, .ref (b + 0)), (3, iv x3)]) hC.1 hC.2.1 d_Model_holes_102 rfl hl (by decide) rfl (fun ls hl => ?_)
      obtain ⟨v3_4, ev3_4⟩ : ∃ y : Int, y = x3 + 1 := ⟨_, rfl⟩
      have h := h v3_4 ev3_4
      refine xi_iinc (v := v3_4) (lv' := [(3, iv v3_4), (2, iv v2_3), (0, .ref (b + 0))]) hC d_Model_holes_103 hl (k := 2) rfl ev3_4 (by decide) rfl (fun ls hl => ?_)
      refine lv_goto (tgt := 79) hC.1 hC.2.1 d_Model_holes_106 (by decide) ?_
      exact ih _ _ _ _ _ _ h hP hS (lv_sub hl [2, 1, 0] rfl)
set_option maxHeartbeats 4000000 in
theorem s_Model_holes_37 {p : Program} {l : Launch} {e : Env} {s : State} {m : MethodId} {args : Array Value} {below : List Frame} {meth : Method} {c : Code} {D : va_G} {g : Nat → ClassId} {b sz : Nat} (hC : Cx p m c b_Model_holes 4 s args "EdgeJoinsModel") (hr : meth.sig.returnType = some .int) (hlocks : meth.locks = false) (hK : va_K D classes (tyG g) s) (hst : sC (rA b 14 sz) s s.heap) (hz : sz ≤ s.heap.size) {Post : Int → Mem → Prop} : ∀ (n : Nat) (x1 x2 : Int) (M0 : Mem) (H : Heap) (locs : List Loc) (ls : Array Slot), wp_Model_holes_37 Post n x1 x2 M0 → va_P D classes (wsG b 14 (cellN b g) M0) H → va_S (rA b 14 sz) s.heap H locs → lv_has ls 4 [(0, .ref (b + 0)), (1, iv x1), (2, iv x2)] → W p l e ({ frames := 2, cells := 0, slots := 0, locals := 49 }) s m args below meth c H locs 0 0 (MQ below (QI D g b 14 (cellN b g) sz Post) args s 0 0 (rA b 14 sz)) (F0 m 37 ls []) := by
  intro n
  induction n with
  | zero => intro x1 x2 M0 H locs ls h; exact h.elim
  | succ n ih =>
  intro x1 x2 M0 H locs ls h hP hS hl
  simp only [wp_Model_holes_37] at h
  refine lv_iload_n hC.1 hC.2.1 d_Model_holes_37 rfl (lv_at hl 2 rfl) ?_
  refine xi_sipush hC d_Model_holes_38 (by decide) ?_
  obtain ⟨b0, h⟩ := h
  refine xi_cge hC (tgt := 57) d_Model_holes_41 (by decide) b0 (xl rfl) (fun q => ?_) (fun q => ?_)
  · have h := h.1 q
    refine lv_aload_n hC.1 hC.2.1 d_Model_holes_57 rfl (lv_at hl 0 rfl) ?_
    refine lv_aload_n hC.1 hC.2.1 d_Model_holes_58 rfl (lv_at hl 0 rfl) ?_
    refine gf_Model_45 hC hK hP hst d_Model_holes_59 ?_
    refine xi_const hC d_Model_holes_62 ?_
    refine lv_iload_n hC.1 hC.2.1 d_Model_holes_63 rfl (lv_at hl 1 rfl) ?_
    refine xi_mul hC d_Model_holes_64 ?_
    refine xi_const hC d_Model_holes_65 ?_
    refine xi_add hC d_Model_holes_66 ?_
    obtain ⟨hi, h⟩ := h
    refine xg_ald hC hK hP aN_places (by decide) hi d_Model_holes_67 ?_
    refine xk_Vv (As := [iv (M0 10 ((4 * x1) + 3).toNat)]) (rest := []) hC hK hP hS hst hz hl.1 lk_Model_172 rfl rfl rfl ⟨Nat.le_of_ble_eq_true rfl, Nat.le_of_ble_eq_true rfl⟩ (rc_Model hK hP) (fun sz' => c_Model_lay l D g b sz' h) d_Model_holes_68 rfl (Nat.le_of_ble_eq_true rfl) ⟨Nat.le_of_ble_eq_true rfl, Nat.le_of_ble_eq_true rfl⟩ (fun M_2 H locs h hP hS => ?_)
    try dsimp only at h
    refine lv_aload_n hC.1 hC.2.1 d_Model_holes_71 rfl (lv_at hl 0 rfl) ?_
    refine xk_Vv (As := []) (rest := []) hC hK hP hS hst hz hl.1 lk_Model_175 rfl rfl rfl ⟨Nat.le_of_ble_eq_true rfl, Nat.le_of_ble_eq_true rfl⟩ (rc_Model hK hP) (fun sz' => c_Model_flood l D g b sz' h) d_Model_holes_72 rfl (Nat.le_of_ble_eq_true rfl) ⟨Nat.le_of_ble_eq_true rfl, Nat.le_of_ble_eq_true rfl⟩ (fun M_4 H locs h hP hS => ?_)
    try dsimp only at h
    refine xi_const hC d_Model_holes_75 ?_
    refine lv_istore_n (lv' := [(2, iv 0), (0, .ref (b + 0)), (1, iv x1)]) hC.1 hC.2.1 d_Model_holes_76 rfl hl (by decide) rfl (fun ls hl => ?_)
    refine xi_const hC d_Model_holes_77 ?_
    refine lv_istore_n (lv' := [(3, iv 0), (2, iv 0), (0, .ref (b + 0)), (1, iv x1)]) hC.1 hC.2.1 d_Model_holes_78 rfl hl (by decide) rfl (fun ls hl => ?_)
    obtain ⟨nn, h⟩ := h
    exact s_Model_holes_79 hC hr hlocks hK hst hz nn _ _ _ _ _ _ h hP hS (lv_sub hl [2, 1, 0] rfl)
  · have h := h.2 q
    refine lv_aload_n hC.1 hC.2.1 d_Model_holes_44 rfl (lv_at hl 0 rfl) ?_
    refine gf_Model_54 hC hK hP hst d_Model_holes_45 ?_
    refine lv_iload_n hC.1 hC.2.1 d_Model_holes_48 rfl (lv_at hl 2 rfl) ?_
    refine xi_const hC d_Model_holes_49 ?_
    obtain ⟨hi, h⟩ := h
    refine xg_ast hC hK hP hS aN_field (by decide) hi d_Model_holes_50 (fun H locs hP hS => ?_)
    obtain ⟨M_5, eM_5⟩ : ∃ y : Mem, y = up M0 13 x2.toNat 0 := ⟨_, rfl⟩
    rw [← eM_5] at hP
    have h := h M_5 eM_5
    obtain ⟨v2_6, ev2_6⟩ : ∃ y : Int, y = x2 + 1 := ⟨_, rfl⟩
    have h := h v2_6 ev2_6
    refine xi_iinc (v := v2_6) (lv' := [(2, iv v2_6), (0, .ref (b + 0)), (1, iv x1)]) hC d_Model_holes_51 hl (k := 2) rfl ev2_6 (by decide) rfl (fun ls hl => ?_)
    refine lv_goto (tgt := 37) hC.1 hC.2.1 d_Model_holes_54 (by decide) ?_
    exact ih _ _ _ _ _ _ h hP hS (lv_sub hl [1, 2, 0] rfl)
set_option maxHeartbeats 4000000 in
theorem s_Model_holes_14 {p : Program} {l : Launch} {e : Env} {s : State} {m : MethodId} {args : Array Value} {below : List Frame} {meth : Method} {c : Code} {D : va_G} {g : Nat → ClassId} {b sz : Nat} (hC : Cx p m c b_Model_holes 4 s args "EdgeJoinsModel") (hr : meth.sig.returnType = some .int) (hlocks : meth.locks = false) (hK : va_K D classes (tyG g) s) (hst : sC (rA b 14 sz) s s.heap) (hz : sz ≤ s.heap.size) {Post : Int → Mem → Prop} : ∀ (x1 t1 : Int) (M0 : Mem) (H : Heap) (locs : List Loc) (ls : Array Slot), wp_Model_holes_14 x1 t1 M0 Post → va_P D classes (wsG b 14 (cellN b g) M0) H → va_S (rA b 14 sz) s.heap H locs → lv_has ls 4 [(0, .ref (b + 0)), (1, iv x1)] → W p l e ({ frames := 2, cells := 0, slots := 0, locals := 49 }) s m args below meth c H locs 0 0 (MQ below (QI D g b 14 (cellN b g) sz Post) args s 0 0 (rA b 14 sz)) (F0 m 14 ls [iv t1, .ref (b + 0)]) := by
  intro x1 t1 M0 H locs ls h hP hS hl
  unfold wp_Model_holes_14 at h
  refine xi_const hC d_Model_holes_14 ?_
  refine xi_const hC d_Model_holes_15 ?_
  refine xk_Vi (As := [iv t1, iv 0, iv 0]) (rest := []) hC hK hP hS hst hz hl.1 lk_Model_67 rfl rfl rfl ⟨Nat.le_of_ble_eq_true rfl, Nat.le_of_ble_eq_true rfl⟩ (rc_Model hK hP) (fun sz' => c_Model_throwing l D g b sz' h) d_Model_holes_16 rfl (Nat.le_of_ble_eq_true rfl) ⟨Nat.le_of_ble_eq_true rfl, Nat.le_of_ble_eq_true rfl⟩ (fun r_1 M_2 H locs h hP hS => ?_)
  try dsimp only at h
  obtain ⟨b0, h⟩ := h
  refine xi_ieq hC (tgt := 24) d_Model_holes_19 (by decide) b0 (fun q => ?_) (fun q => ?_)
  · have h := h.1 q
    refine lv_aload_n hC.1 hC.2.1 d_Model_holes_24 rfl (lv_at hl 0 rfl) ?_
    refine gf_Model_19 hC hK hP hst d_Model_holes_25 ?_
    refine lv_iload_n hC.1 hC.2.1 d_Model_holes_28 rfl (lv_at hl 1 rfl) ?_
    obtain ⟨hi, h⟩ := h
    refine xg_zald hC hK hP aN_closed (by decide) hi d_Model_holes_29 ?_
    obtain ⟨b0, h⟩ := h
    refine xi_ine hC (tgt := 35) d_Model_holes_30 (by decide) b0 (fun q => ?_) (fun q => ?_)
    · have h := h.1 q
      refine xi_const hC d_Model_holes_35 ?_
      refine lv_istore_n (lv' := [(2, iv 0), (0, .ref (b + 0)), (1, iv x1)]) hC.1 hC.2.1 d_Model_holes_36 rfl hl (by decide) rfl (fun ls hl => ?_)
      obtain ⟨nn, h⟩ := h
      exact s_Model_holes_37 hC hr hlocks hK hst hz nn _ _ _ _ _ _ h hP hS (lv_sub hl [1, 2, 0] rfl)
    · have h := h.2 q
      refine xi_const hC d_Model_holes_33 ?_
      exact xr_i hC hr hlocks hK hP hS h d_Model_holes_34
  · have h := h.2 q
    refine xi_const hC d_Model_holes_22 ?_
    exact xr_i hC hr hlocks hK hP hS h d_Model_holes_23
set_option maxHeartbeats 4000000 in
theorem c_Model_holes (l : Launch) (D : va_G) (g : Nat → ClassId) (b sz : Nat) {x1 : Int} {M0 : Mem} {Post : Int → Mem → Prop} (h : wp_Model_holes x1 M0 Post) : Met l y_Model_holes (Cond.code y_Model_holes b_Model_holes 4 (some .int) :: gd) ({ frames := 2, cells := 0, slots := 0, locals := 49 }) (PcG D g b 14 (cellN b g) sz M0 [.ref (b + 0), iv x1]) (QI D g b 14 (cellN b g) sz Post) 0 0 (rA b 14 sz) := by
  refine xm_start (by decide) rfl (Nat.le_of_ble_eq_true rfl) ?_
  intro p e s m below meth c ls H args hC hr hlocks hK hP hst hz hS hH hl
  have hl : lv_has ls 4 [(0, .ref (b + 0)), (1, iv x1)] := hl
  unfold wp_Model_holes at h
  refine lv_aload_n hC.1 hC.2.1 d_Model_holes_0 rfl (lv_at hl 0 rfl) ?_
  refine lv_aload_n hC.1 hC.2.1 d_Model_holes_1 rfl (lv_at hl 0 rfl) ?_
  refine lv_iload_n hC.1 hC.2.1 d_Model_holes_2 rfl (lv_at hl 1 rfl) ?_
  refine xk_VP (As := [iv x1]) (rest := [.ref (b + 0)]) hC hK hP hS hst hz hl.1 lk_Model_71 rfl rfl rfl ⟨Nat.le_of_ble_eq_true rfl, Nat.le_of_ble_eq_true rfl⟩ (rc_Model hK hP) (fun sz' => c_Model_isSherd l D g b sz' h) d_Model_holes_3 rfl (Nat.le_of_ble_eq_true rfl) ⟨Nat.le_of_ble_eq_true rfl, Nat.le_of_ble_eq_true rfl⟩ (fun r_1 h => ?_)
  try dsimp only at h
  obtain ⟨b0, h⟩ := h
  refine xi_ine hC (tgt := 13) d_Model_holes_6 (by decide) b0 (fun q => ?_) (fun q => ?_)
  · have h := h.1 q
    refine xi_const hC d_Model_holes_13 ?_
    exact s_Model_holes_14 hC hr hlocks hK hst hz _ _ _ _ _ _ h hP hS (lv_sub hl [0, 1] rfl)
  · have h := h.2 q
    refine xi_const hC d_Model_holes_9 ?_
    refine lv_goto (tgt := 14) hC.1 hC.2.1 d_Model_holes_10 (by decide) ?_
    exact s_Model_holes_14 hC hr hlocks hK hst hz _ _ _ _ _ _ h hP hS (lv_sub hl [0, 1] rfl)
set_option maxHeartbeats 4000000 in
theorem s_Model_count_29 {p : Program} {l : Launch} {e : Env} {s : State} {m : MethodId} {args : Array Value} {below : List Frame} {meth : Method} {c : Code} {D : va_G} {g : Nat → ClassId} {b sz : Nat} (hC : Cx p m c b_Model_count 4 s args "EdgeJoinsModel") (hr : meth.sig.returnType = some .int) (hlocks : meth.locks = false) (hK : va_K D classes (tyG g) s) (hst : sC (rA b 14 sz) s s.heap) (hz : sz ≤ s.heap.size) {Post : Int → Mem → Prop} : ∀ (n : Nat) (x1 x2 x3 : Int) (M0 : Mem) (H : Heap) (locs : List Loc) (ls : Array Slot), wp_Model_count_29 Post n x1 x2 x3 M0 → va_P D classes (wsG b 14 (cellN b g) M0) H → va_S (rA b 14 sz) s.heap H locs → lv_has ls 4 [(0, .ref (b + 0)), (1, iv x1), (2, iv x2), (3, iv x3)] → W p l e ({ frames := 1, cells := 0, slots := 0, locals := 23 }) s m args below meth c H locs 0 0 (MQ below (QI D g b 14 (cellN b g) sz Post) args s 0 0 (rA b 14 sz)) (F0 m 29 ls []) := by
  intro n
  induction n with
  | zero => intro x1 x2 x3 M0 H locs ls h; exact h.elim
  | succ n ih =>
  intro x1 x2 x3 M0 H locs ls h hP hS hl
  simp only [wp_Model_count_29] at h
  refine lv_iload_n hC.1 hC.2.1 d_Model_count_29 rfl (lv_at hl 3 rfl) ?_
  refine lv_aload_n hC.1 hC.2.1 d_Model_count_30 rfl (lv_at hl 0 rfl) ?_
  refine gf_Model_60 hC hK hP hst d_Model_count_31 ?_
  obtain ⟨b0, h⟩ := h
  obtain ⟨b1, h⟩ := h
  refine xi_cge hC (tgt := 60) d_Model_count_34 (by decide) b0 b1 (fun q => ?_) (fun q => ?_)
  · have h := h.1 q
    refine lv_iload_n hC.1 hC.2.1 d_Model_count_60 rfl (lv_at hl 1 rfl) ?_
    obtain ⟨b0, h⟩ := h
    refine xi_ine hC (tgt := 71) d_Model_count_61 (by decide) b0 (fun q => ?_) (fun q => ?_)
    · have h := h.1 q
      refine lv_iload_n hC.1 hC.2.1 d_Model_count_71 rfl (lv_at hl 1 rfl) ?_
      refine xi_const hC d_Model_count_72 ?_
      obtain ⟨b0, h⟩ := h
      refine xi_cne hC (tgt := 80) d_Model_count_73 (by decide) b0 (xl rfl) (fun q => ?_) (fun q => ?_)
      · have h := h.1 q
        refine lv_iload_n hC.1 hC.2.1 d_Model_count_80 rfl (lv_at hl 1 rfl) ?_
        refine xi_const hC d_Model_count_81 ?_
        obtain ⟨b0, h⟩ := h
        refine xi_cne hC (tgt := 103) d_Model_count_82 (by decide) b0 (xl rfl) (fun q => ?_) (fun q => ?_)
        · have h := h.1 q
          refine lv_aload_n hC.1 hC.2.1 d_Model_count_103 rfl (lv_at hl 0 rfl) ?_
          refine gf_Model_160 hC hK hP hst d_Model_count_104 ?_
          exact xr_i hC hr hlocks hK hP hS h d_Model_count_107
        · have h := h.2 q
          refine lv_aload_n hC.1 hC.2.1 d_Model_count_85 rfl (lv_at hl 0 rfl) ?_
          refine gf_Model_75 hC hK hP hst d_Model_count_86 ?_
          obtain ⟨b0, h⟩ := h
          refine xi_ieq hC (tgt := 99) d_Model_count_89 (by decide) b0 (fun q => ?_) (fun q => ?_)
          · have h := h.1 q
            refine xi_const hC d_Model_count_99 ?_
            refine lv_goto (tgt := 107) hC.1 hC.2.1 d_Model_count_100 (by decide) ?_
            exact xr_i hC hr hlocks hK hP hS h d_Model_count_107
          · have h := h.2 q
            refine lv_aload_n hC.1 hC.2.1 d_Model_count_92 rfl (lv_at hl 0 rfl) ?_
            refine gf_Model_120 hC hK hP hst d_Model_count_93 ?_
            refine lv_goto (tgt := 107) hC.1 hC.2.1 d_Model_count_96 (by decide) ?_
            exact xr_i hC hr hlocks hK hP hS h d_Model_count_107
      · have h := h.2 q
        refine lv_iload_n hC.1 hC.2.1 d_Model_count_76 rfl (lv_at hl 2 rfl) ?_
        refine lv_goto (tgt := 107) hC.1 hC.2.1 d_Model_count_77 (by decide) ?_
        exact xr_i hC hr hlocks hK hP hS h d_Model_count_107
    · have h := h.2 q
      refine lv_aload_n hC.1 hC.2.1 d_Model_count_64 rfl (lv_at hl 0 rfl) ?_
      refine gf_Model_60 hC hK hP hst d_Model_count_65 ?_
      refine lv_goto (tgt := 107) hC.1 hC.2.1 d_Model_count_68 (by decide) ?_
      exact xr_i hC hr hlocks hK hP hS h d_Model_count_107
  · have h := h.2 q
    refine lv_iload_n hC.1 hC.2.1 d_Model_count_37 rfl (lv_at hl 2 rfl) ?_
    refine lv_aload_n hC.1 hC.2.1 d_Model_count_38 rfl (lv_at hl 0 rfl) ?_
    refine gf_Model_19 hC hK hP hst d_Model_count_39 ?_
    refine lv_iload_n hC.1 hC.2.1 d_Model_count_42 rfl (lv_at hl 3 rfl) ?_
    obtain ⟨hi, h⟩ := h
    refine xg_zald hC hK hP aN_closed (by decide) hi d_Model_count_43 ?_
    obtain ⟨b0, h⟩ := h
    refine xi_ieq hC (tgt := 51) d_Model_count_44 (by decide) b0 (fun q => ?_) (fun q => ?_)
    · have h := h.1 q
      refine xi_const hC d_Model_count_51 ?_
      refine xi_add hC d_Model_count_52 ?_
      refine xi_top (fun v2_1 ev2_1 => ?_)
      have h := h v2_1 ev2_1
      refine lv_istore_n (lv' := [(2, iv v2_1), (0, .ref (b + 0)), (1, iv x1), (3, iv x3)]) hC.1 hC.2.1 d_Model_count_53 rfl hl (by decide) rfl (fun ls hl => ?_)
      obtain ⟨v3_2, ev3_2⟩ : ∃ y : Int, y = x3 + 1 := ⟨_, rfl⟩
      have h := h v3_2 ev3_2
      refine xi_iinc (v := v3_2) (lv' := [(3, iv v3_2), (2, iv v2_1), (0, .ref (b + 0)), (1, iv x1)]) hC d_Model_count_54 hl (k := 3) rfl ev3_2 (by decide) rfl (fun ls hl => ?_)
      refine lv_goto (tgt := 29) hC.1 hC.2.1 d_Model_count_57 (by decide) ?_
      exact ih _ _ _ _ _ _ _ h hP hS (lv_sub hl [2, 3, 1, 0] rfl)
    · have h := h.2 q
      refine xi_const hC d_Model_count_47 ?_
      refine lv_goto (tgt := 52) hC.1 hC.2.1 d_Model_count_48 (by decide) ?_
      refine xi_add hC d_Model_count_52 ?_
      refine xi_top (fun v2_3 ev2_3 => ?_)
      have h := h v2_3 ev2_3
      refine lv_istore_n (lv' := [(2, iv v2_3), (0, .ref (b + 0)), (1, iv x1), (3, iv x3)]) hC.1 hC.2.1 d_Model_count_53 rfl hl (by decide) rfl (fun ls hl => ?_)
      obtain ⟨v3_4, ev3_4⟩ : ∃ y : Int, y = x3 + 1 := ⟨_, rfl⟩
      have h := h v3_4 ev3_4
      refine xi_iinc (v := v3_4) (lv' := [(3, iv v3_4), (2, iv v2_3), (0, .ref (b + 0)), (1, iv x1)]) hC d_Model_count_54 hl (k := 3) rfl ev3_4 (by decide) rfl (fun ls hl => ?_)
      refine lv_goto (tgt := 29) hC.1 hC.2.1 d_Model_count_57 (by decide) ?_
      exact ih _ _ _ _ _ _ _ h hP hS (lv_sub hl [2, 3, 1, 0] rfl)
set_option maxHeartbeats 4000000 in
theorem s_Model_count_15 {p : Program} {l : Launch} {e : Env} {s : State} {m : MethodId} {args : Array Value} {below : List Frame} {meth : Method} {c : Code} {D : va_G} {g : Nat → ClassId} {b sz : Nat} (hC : Cx p m c b_Model_count 4 s args "EdgeJoinsModel") (hr : meth.sig.returnType = some .int) (hlocks : meth.locks = false) (hK : va_K D classes (tyG g) s) (hst : sC (rA b 14 sz) s s.heap) (hz : sz ≤ s.heap.size) {Post : Int → Mem → Prop} : ∀ (x1 t1 : Int) (M0 : Mem) (H : Heap) (locs : List Loc) (ls : Array Slot), wp_Model_count_15 x1 t1 M0 Post → va_P D classes (wsG b 14 (cellN b g) M0) H → va_S (rA b 14 sz) s.heap H locs → lv_has ls 4 [(0, .ref (b + 0)), (1, iv x1)] → W p l e ({ frames := 1, cells := 0, slots := 0, locals := 23 }) s m args below meth c H locs 0 0 (MQ below (QI D g b 14 (cellN b g) sz Post) args s 0 0 (rA b 14 sz)) (F0 m 15 ls [iv t1, .ref (b + 0)]) := by
  intro x1 t1 M0 H locs ls h hP hS hl
  unfold wp_Model_count_15 at h
  refine xi_const hC d_Model_count_15 ?_
  refine xi_const hC d_Model_count_16 ?_
  refine xk_Vi (As := [iv t1, iv 0, iv 0]) (rest := []) hC hK hP hS hst hz hl.1 lk_Model_67 rfl rfl rfl ⟨Nat.le_of_ble_eq_true rfl, Nat.le_of_ble_eq_true rfl⟩ (rc_Model hK hP) (fun sz' => c_Model_throwing l D g b sz' h) d_Model_count_17 rfl (Nat.le_of_ble_eq_true rfl) ⟨Nat.le_of_ble_eq_true rfl, Nat.le_of_ble_eq_true rfl⟩ (fun r_1 M_2 H locs h hP hS => ?_)
  try dsimp only at h
  obtain ⟨b0, h⟩ := h
  refine xi_ieq hC (tgt := 25) d_Model_count_20 (by decide) b0 (fun q => ?_) (fun q => ?_)
  · have h := h.1 q
    refine xi_const hC d_Model_count_25 ?_
    refine lv_istore_n (lv' := [(2, iv 0), (0, .ref (b + 0)), (1, iv x1)]) hC.1 hC.2.1 d_Model_count_26 rfl hl (by decide) rfl (fun ls hl => ?_)
    refine xi_const hC d_Model_count_27 ?_
    refine lv_istore_n (lv' := [(3, iv 0), (2, iv 0), (0, .ref (b + 0)), (1, iv x1)]) hC.1 hC.2.1 d_Model_count_28 rfl hl (by decide) rfl (fun ls hl => ?_)
    obtain ⟨nn, h⟩ := h
    exact s_Model_count_29 hC hr hlocks hK hst hz nn _ _ _ _ _ _ _ h hP hS (lv_sub hl [2, 3, 1, 0] rfl)
  · have h := h.2 q
    refine xi_const hC d_Model_count_23 ?_
    exact xr_i hC hr hlocks hK hP hS h d_Model_count_24
set_option maxHeartbeats 4000000 in
theorem c_Model_count (l : Launch) (D : va_G) (g : Nat → ClassId) (b sz : Nat) {x1 : Int} {M0 : Mem} {Post : Int → Mem → Prop} (h : wp_Model_count x1 M0 Post) : Met l y_Model_count (Cond.code y_Model_count b_Model_count 4 (some .int) :: gd) ({ frames := 1, cells := 0, slots := 0, locals := 23 }) (PcG D g b 14 (cellN b g) sz M0 [.ref (b + 0), iv x1]) (QI D g b 14 (cellN b g) sz Post) 0 0 (rA b 14 sz) := by
  refine xm_start (by decide) rfl (Nat.le_of_ble_eq_true rfl) ?_
  intro p e s m below meth c ls H args hC hr hlocks hK hP hst hz hS hH hl
  have hl : lv_has ls 4 [(0, .ref (b + 0)), (1, iv x1)] := hl
  unfold wp_Model_count at h
  refine lv_aload_n hC.1 hC.2.1 d_Model_count_0 rfl (lv_at hl 0 rfl) ?_
  refine lv_iload_n hC.1 hC.2.1 d_Model_count_1 rfl (lv_at hl 1 rfl) ?_
  refine xi_const hC d_Model_count_2 ?_
  refine xi_const hC d_Model_count_3 ?_
  refine xk_SP (As := [iv x1, iv 0, iv 3]) (rest := [.ref (b + 0)]) hC hK hP hS hst hz hl.1 lk_Model_63 rfl rfl rfl ⟨Nat.le_of_ble_eq_true rfl, Nat.le_of_ble_eq_true rfl⟩ (fun sz' => c_Model_in l D g b sz' h) d_Model_count_4 rfl (Nat.le_of_ble_eq_true rfl) ⟨Nat.le_of_ble_eq_true rfl, Nat.le_of_ble_eq_true rfl⟩ (fun r_1 h => ?_)
  try dsimp only at h
  obtain ⟨b0, h⟩ := h
  refine xi_ine hC (tgt := 14) d_Model_count_7 (by decide) b0 (fun q => ?_) (fun q => ?_)
  · have h := h.1 q
    refine xi_const hC d_Model_count_14 ?_
    exact s_Model_count_15 hC hr hlocks hK hst hz _ _ _ _ _ _ h hP hS (lv_sub hl [0, 1] rfl)
  · have h := h.2 q
    refine xi_const hC d_Model_count_10 ?_
    refine lv_goto (tgt := 15) hC.1 hC.2.1 d_Model_count_11 (by decide) ?_
    exact s_Model_count_15 hC hr hlocks hK hst hz _ _ _ _ _ _ h hP hS (lv_sub hl [0, 1] rfl)
