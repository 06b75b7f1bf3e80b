set_option maxHeartbeats 4000000 in
theorem s_Model_put_66 {p : Program} {l : Launch} {e : Env} {s : State} {m : MethodId} {args : Array Value} {below : List Frame} {meth : Method} {c : Code} {D : va_G} {g : Nat → ClassId} {b sz : Nat} (hC : Cx p m c b_Model_put 3 s args "EdgeJoinsModel") (hr : meth.sig.returnType = none) (hlocks : meth.locks = false) (hK : va_K D classes (tyG g) s) (hst : sC (rA b 14 sz) s s.heap) (hz : sz ≤ s.heap.size) {Post : Mem → Prop} : ∀ (n : Nat) (x1 x2 : Int) (M0 : Mem) (H : Heap) (locs : List Loc) (ls : Array Slot), wp_Model_put_66 Post n x1 x2 M0 → va_P D classes (wsG b 14 (cellN b g) M0) H → va_S (rA b 14 sz) s.heap H locs → lv_has ls 3 [(0, .ref (b + 0)), (1, iv x1), (2, iv x2)] → W p l e ({ frames := 1, cells := 0, slots := 0, locals := 25 }) s m args below meth c H locs 0 0 (MQ below (QV D g b 14 (cellN b g) sz Post) args s 0 0 (rA b 14 sz)) (F0 m 66 ls []) := by
  intro n
  induction n with
  | zero => intro x1 x2 M0 H locs ls h; exact h.elim
  | succ n ih =>
  intro x1 x2 M0 H locs ls h hP hS hl
  simp only [wp_Model_put_66] at h
  refine lv_iload_n hC.1 hC.2.1 d_Model_put_66 rfl (lv_at hl 2 rfl) ?_
  refine xi_bipush hC d_Model_put_67 (by decide) ?_
  obtain ⟨b0, h⟩ := h
  refine xi_cge hC (tgt := 95) d_Model_put_69 (by decide) b0 (xl rfl) (fun q => ?_) (fun q => ?_)
  · have h := h.1 q
    refine lv_aload_n hC.1 hC.2.1 d_Model_put_95 rfl (lv_at hl 0 rfl) ?_
    refine lv_dup hC.1 hC.2.1 d_Model_put_96 rfl ?_
    refine gf_Model_120 hC hK hP hst d_Model_put_97 ?_
    refine lv_aload_n hC.1 hC.2.1 d_Model_put_100 rfl (lv_at hl 0 rfl) ?_
    refine gf_Model_120 hC hK hP hst d_Model_put_101 ?_
    refine xi_bipush hC d_Model_put_104 (by decide) ?_
    obtain ⟨b0, h⟩ := h
    refine xi_cge hC (tgt := 113) d_Model_put_106 (by decide) b0 (xl rfl) (fun q => ?_) (fun q => ?_)
    · have h := h.1 q
      refine xi_const hC d_Model_put_113 ?_
      refine xi_add hC d_Model_put_114 ?_
      refine pf_Model_120 hC hK hP hS hst d_Model_put_115 (fun H locs hP hS => ?_)
      obtain ⟨M_1, eM_1⟩ : ∃ y : Mem, y = up M0 0 12 ((M0 0 12) + 0) := ⟨_, rfl⟩
      rw [← eM_1] at hP
      have h := h M_1 eM_1
      exact xr_v hC hr hlocks hK hP hS h d_Model_put_118
    · have h := h.2 q
      refine xi_const hC d_Model_put_109 ?_
      refine lv_goto (tgt := 114) hC.1 hC.2.1 d_Model_put_110 (by decide) ?_
      refine xi_add hC d_Model_put_114 ?_
      refine pf_Model_120 hC hK hP hS hst d_Model_put_115 (fun H locs hP hS => ?_)
      obtain ⟨M_2, eM_2⟩ : ∃ y : Mem, y = up M0 0 12 ((M0 0 12) + 1) := ⟨_, rfl⟩
      rw [← eM_2] at hP
      have h := h M_2 eM_2
      exact xr_v hC hr hlocks hK hP hS h d_Model_put_118
  · have h := h.2 q
    refine lv_aload_n hC.1 hC.2.1 d_Model_put_72 rfl (lv_at hl 0 rfl) ?_
    refine gf_Model_39 hC hK hP hst d_Model_put_73 ?_
    refine xi_bipush hC d_Model_put_76 (by decide) ?_
    refine lv_iload_n hC.1 hC.2.1 d_Model_put_78 rfl (lv_at hl 1 rfl) ?_
    refine xi_mul hC d_Model_put_79 ?_
    refine lv_iload_n hC.1 hC.2.1 d_Model_put_80 rfl (lv_at hl 2 rfl) ?_
    refine xi_add hC d_Model_put_81 ?_
    refine lv_aload_n hC.1 hC.2.1 d_Model_put_82 rfl (lv_at hl 0 rfl) ?_
    refine gf_Model_42 hC hK hP hst d_Model_put_83 ?_
    refine lv_iload_n hC.1 hC.2.1 d_Model_put_86 rfl (lv_at hl 2 rfl) ?_
    obtain ⟨hi, h⟩ := h
    refine xg_ald hC hK hP aN_found (by decide) hi d_Model_put_87 ?_
    obtain ⟨hi, h⟩ := h
    refine xg_ast hC hK hP hS aN_list (by decide) hi d_Model_put_88 (fun H locs hP hS => ?_)
    obtain ⟨M_3, eM_3⟩ : ∃ y : Mem, y = up M0 8 ((6 * x1) + x2).toNat (M0 9 x2.toNat) := ⟨_, rfl⟩
    rw [← eM_3] at hP
    have h := h M_3 eM_3
    obtain ⟨v2_4, ev2_4⟩ : ∃ y : Int, y = x2 + 1 := ⟨_, rfl⟩
    have h := h v2_4 ev2_4
    refine xi_iinc (v := v2_4) (lv' := [(2, iv v2_4), (0, .ref (b + 0)), (1, iv x1)]) hC d_Model_put_89 hl (k := 2) rfl ev2_4 (by decide) rfl (fun ls hl => ?_)
    refine lv_goto (tgt := 66) hC.1 hC.2.1 d_Model_put_92 (by decide) ?_
    exact ih _ _ _ _ _ _ h hP hS (lv_sub hl [1, 2, 0] rfl)
set_option maxHeartbeats 4000000 in
theorem s_Model_put_21 {p : Program} {l : Launch} {e : Env} {s : State} {m : MethodId} {args : Array Value} {below : List Frame} {meth : Method} {c : Code} {D : va_G} {g : Nat → ClassId} {b sz : Nat} (hC : Cx p m c b_Model_put 3 s args "EdgeJoinsModel") (hr : meth.sig.returnType = none) (hlocks : meth.locks = false) (hK : va_K D classes (tyG g) s) (hst : sC (rA b 14 sz) s s.heap) (hz : sz ≤ s.heap.size) {Post : Mem → Prop} {X5 : Int → Mem → Prop} (hX5 : ∀ (x1 : Int) (M0 : Mem) (H : Heap) (locs : List Loc) (ls : Array Slot), X5 x1 M0 → va_P D classes (wsG b 14 (cellN b g) M0) H → va_S (rA b 14 sz) s.heap H locs → lv_has ls 3 [(0, .ref (b + 0)), (1, iv x1)] → W p l e ({ frames := 1, cells := 0, slots := 0, locals := 25 }) s m args below meth c H locs 0 0 (MQ below (QV D g b 14 (cellN b g) sz Post) args s 0 0 (rA b 14 sz)) (F0 m 5 ls [])) : ∀ (n : Nat) (x1 x2 : Int) (M0 : Mem) (H : Heap) (locs : List Loc) (ls : Array Slot), wp_Model_put_21 X5 Post n x1 x2 M0 → va_P D classes (wsG b 14 (cellN b g) M0) H → va_S (rA b 14 sz) s.heap H locs → lv_has ls 3 [(0, .ref (b + 0)), (1, iv x1), (2, iv x2)] → W p l e ({ frames := 1, cells := 0, slots := 0, locals := 25 }) s m args below meth c H locs 0 0 (MQ below (QV D g b 14 (cellN b g) sz Post) args s 0 0 (rA b 14 sz)) (F0 m 21 ls []) := by
  intro n
  induction n with
  | zero => intro x1 x2 M0 H locs ls h; exact h.elim
  | succ n ih =>
  intro x1 x2 M0 H locs ls h hP hS hl
  simp only [wp_Model_put_21] at h
  refine lv_iload_n hC.1 hC.2.1 d_Model_put_21 rfl (lv_at hl 2 rfl) ?_
  refine xi_bipush hC d_Model_put_22 (by decide) ?_
  obtain ⟨b0, h⟩ := h
  refine xi_cge hC (tgt := 58) d_Model_put_24 (by decide) b0 (xl rfl) (fun q => ?_) (fun q => ?_)
  · have h := h.1 q
    obtain ⟨v1_1, ev1_1⟩ : ∃ y : Int, y = x1 + (-1) := ⟨_, rfl⟩
    have h := h v1_1 ev1_1
    refine xi_iinc (v := v1_1) (lv' := [(1, iv v1_1), (0, .ref (b + 0)), (2, iv x2)]) hC d_Model_put_58 hl (k := 1) rfl ev1_1 (by decide) rfl (fun ls hl => ?_)
    refine lv_goto (tgt := 5) hC.1 hC.2.1 d_Model_put_61 (by decide) ?_
    exact hX5 _ _ _ _ _ h hP hS (lv_sub hl [1, 0] rfl)
  · have h := h.2 q
    refine lv_aload_n hC.1 hC.2.1 d_Model_put_27 rfl (lv_at hl 0 rfl) ?_
    refine gf_Model_39 hC hK hP hst d_Model_put_28 ?_
    refine xi_bipush hC d_Model_put_31 (by decide) ?_
    refine lv_iload_n hC.1 hC.2.1 d_Model_put_33 rfl (lv_at hl 1 rfl) ?_
    refine xi_mul hC d_Model_put_34 ?_
    refine lv_iload_n hC.1 hC.2.1 d_Model_put_35 rfl (lv_at hl 2 rfl) ?_
    refine xi_add hC d_Model_put_36 ?_
    refine lv_aload_n hC.1 hC.2.1 d_Model_put_37 rfl (lv_at hl 0 rfl) ?_
    refine gf_Model_39 hC hK hP hst d_Model_put_38 ?_
    refine xi_bipush hC d_Model_put_41 (by decide) ?_
    refine lv_iload_n hC.1 hC.2.1 d_Model_put_43 rfl (lv_at hl 1 rfl) ?_
    refine xi_mul hC d_Model_put_44 ?_
    refine xi_bipush hC d_Model_put_45 (by decide) ?_
    refine xi_sub hC d_Model_put_47 ?_
    refine lv_iload_n hC.1 hC.2.1 d_Model_put_48 rfl (lv_at hl 2 rfl) ?_
    refine xi_add hC d_Model_put_49 ?_
    obtain ⟨hi, h⟩ := h
    refine xg_ald hC hK hP aN_list (by decide) hi d_Model_put_50 ?_
    obtain ⟨hi, h⟩ := h
    refine xg_ast hC hK hP hS aN_list (by decide) hi d_Model_put_51 (fun H locs hP hS => ?_)
    obtain ⟨M_2, eM_2⟩ : ∃ y : Mem, y = up M0 8 ((6 * x1) + x2).toNat (M0 8 (((6 * x1) - 6) + x2).toNat) := ⟨_, rfl⟩
    rw [← eM_2] at hP
    have h := h M_2 eM_2
    obtain ⟨v2_3, ev2_3⟩ : ∃ y : Int, y = x2 + 1 := ⟨_, rfl⟩
    have h := h v2_3 ev2_3
    refine xi_iinc (v := v2_3) (lv' := [(2, iv v2_3), (0, .ref (b + 0)), (1, iv x1)]) hC d_Model_put_52 hl (k := 2) rfl ev2_3 (by decide) rfl (fun ls hl => ?_)
    refine lv_goto (tgt := 21) hC.1 hC.2.1 d_Model_put_55 (by decide) ?_
    exact ih _ _ _ _ _ _ h hP hS (lv_sub hl [1, 2, 0] rfl)
set_option maxHeartbeats 4000000 in
theorem s_Model_put_5 {p : Program} {l : Launch} {e : Env} {s : State} {m : MethodId} {args : Array Value} {below : List Frame} {meth : Method} {c : Code} {D : va_G} {g : Nat → ClassId} {b sz : Nat} (hC : Cx p m c b_Model_put 3 s args "EdgeJoinsModel") (hr : meth.sig.returnType = none) (hlocks : meth.locks = false) (hK : va_K D classes (tyG g) s) (hst : sC (rA b 14 sz) s s.heap) (hz : sz ≤ s.heap.size) {Post : Mem → Prop} : ∀ (n : Nat) (x1 : Int) (M0 : Mem) (H : Heap) (locs : List Loc) (ls : Array Slot), wp_Model_put_5 Post n x1 M0 → va_P D classes (wsG b 14 (cellN b g) M0) H → va_S (rA b 14 sz) s.heap H locs → lv_has ls 3 [(0, .ref (b + 0)), (1, iv x1)] → W p l e ({ frames := 1, cells := 0, slots := 0, locals := 25 }) s m args below meth c H locs 0 0 (MQ below (QV D g b 14 (cellN b g) sz Post) args s 0 0 (rA b 14 sz)) (F0 m 5 ls []) := by
  intro n
  induction n with
  | zero => intro x1 M0 H locs ls h; exact h.elim
  | succ n ih =>
  intro x1 M0 H locs ls h hP hS hl
  simp only [wp_Model_put_5] at h
  refine lv_iload_n hC.1 hC.2.1 d_Model_put_5 rfl (lv_at hl 1 rfl) ?_
  obtain ⟨b0, h⟩ := h
  refine xi_ile hC (tgt := 64) d_Model_put_6 (by decide) b0 (fun q => ?_) (fun q => ?_)
  · have h := h.1 q
    refine xi_const hC d_Model_put_64 ?_
    refine lv_istore_n (lv' := [(2, iv 0), (0, .ref (b + 0)), (1, iv x1)]) hC.1 hC.2.1 d_Model_put_65 rfl hl (by decide) rfl (fun ls hl => ?_)
    obtain ⟨nn, h⟩ := h
    exact s_Model_put_66 hC hr hlocks hK hst hz nn _ _ _ _ _ _ h hP hS (lv_sub hl [1, 2, 0] rfl)
  · have h := h.2 q
    refine lv_aload_n hC.1 hC.2.1 d_Model_put_9 rfl (lv_at hl 0 rfl) ?_
    refine lv_iload_n hC.1 hC.2.1 d_Model_put_10 rfl (lv_at hl 1 rfl) ?_
    refine xi_const hC d_Model_put_11 ?_
    refine xi_sub hC d_Model_put_12 ?_
    refine xk_VP (As := [iv (x1 - 1)]) (rest := []) hC hK hP hS hst hz hl.1 lk_Model_123 rfl rfl rfl ⟨Nat.le_of_ble_eq_true rfl, Nat.le_of_ble_eq_true rfl⟩ (rc_Model hK hP) (fun sz' => c_Model_isAhead l D g b sz' h) d_Model_put_13 rfl (Nat.le_of_ble_eq_true rfl) ⟨Nat.le_of_ble_eq_true rfl, Nat.le_of_ble_eq_true rfl⟩ (fun r_1 h => ?_)
    try dsimp only at h
    obtain ⟨b0, h⟩ := h
    refine xi_ieq hC (tgt := 64) d_Model_put_16 (by decide) b0 (fun q => ?_) (fun q => ?_)
    · have h := h.1 q
      refine xi_const hC d_Model_put_64 ?_
      refine lv_istore_n (lv' := [(2, iv 0), (0, .ref (b + 0)), (1, iv x1)]) hC.1 hC.2.1 d_Model_put_65 rfl hl (by decide) rfl (fun ls hl => ?_)
      obtain ⟨nn, h⟩ := h
      exact s_Model_put_66 hC hr hlocks hK hst hz nn _ _ _ _ _ _ h hP hS (lv_sub hl [1, 2, 0] rfl)
    · have h := h.2 q
      refine xi_const hC d_Model_put_19 ?_
      refine lv_istore_n (lv' := [(2, iv 0), (0, .ref (b + 0)), (1, iv x1)]) hC.1 hC.2.1 d_Model_put_20 rfl hl (by decide) rfl (fun ls hl => ?_)
      obtain ⟨nn, h⟩ := h
      exact s_Model_put_21 hC hr hlocks hK hst hz ih nn _ _ _ _ _ _ h hP hS (lv_sub hl [1, 2, 0] rfl)
set_option maxHeartbeats 4000000 in
theorem c_Model_put (l : Launch) (D : va_G) (g : Nat → ClassId) (b sz : Nat) {M0 : Mem} {Post : Mem → Prop} (h : wp_Model_put M0 Post) : Met l y_Model_put (Cond.code y_Model_put b_Model_put 3 (none) :: gd) ({ frames := 1, cells := 0, slots := 0, locals := 25 }) (PcG D g b 14 (cellN b g) sz M0 [.ref (b + 0)]) (QV D g b 14 (cellN b g) sz Post) 0 0 (rA b 14 sz) := by
  refine xm_start (by decide) rfl (Nat.le_of_ble_eq_true rfl) ?_
  intro p e s m below meth c ls H args hC hr hlocks hK hP hst hz hS hH hl
  have hl : lv_has ls 3 [(0, .ref (b + 0))] := hl
  unfold wp_Model_put at h
  refine lv_aload_n hC.1 hC.2.1 d_Model_put_0 rfl (lv_at hl 0 rfl) ?_
  refine gf_Model_120 hC hK hP hst d_Model_put_1 ?_
  refine xi_top (fun v1_1 ev1_1 => ?_)
  have h := h v1_1 ev1_1
  refine lv_istore_n (lv' := [(1, iv v1_1), (0, .ref (b + 0))]) hC.1 hC.2.1 d_Model_put_4 rfl hl (by decide) rfl (fun ls hl => ?_)
  obtain ⟨nn, h⟩ := h
  exact s_Model_put_5 hC hr hlocks hK hst hz nn _ _ _ _ _ h hP hS (lv_sub hl [1, 0] rfl)
set_option maxHeartbeats 4000000 in
theorem s_Model_findAll_5 {p : Program} {l : Launch} {e : Env} {s : State} {m : MethodId} {args : Array Value} {below : List Frame} {meth : Method} {c : Code} {D : va_G} {g : Nat → ClassId} {b sz : Nat} (hC : Cx p m c b_Model_findAll 5 s args "EdgeJoinsModel") (hr : meth.sig.returnType = some .int) (hlocks : meth.locks = false) (hK : va_K D classes (tyG g) s) (hst : sC (rA b 14 sz) s s.heap) (hz : sz ≤ s.heap.size) {Post : Int → Mem → Prop} : ∀ (n : Nat) (x1 x2 x3 x4 : Int) (M0 : Mem) (H : Heap) (locs : List Loc) (ls : Array Slot), wp_Model_findAll_5 Post n x1 x2 x3 x4 M0 → va_P D classes (wsG b 14 (cellN b g) M0) H → va_S (rA b 14 sz) s.heap H locs → lv_has ls 5 [(0, .ref (b + 0)), (1, iv x1), (2, iv x2), (3, iv x3), (4, iv x4)] → W p l e ({ frames := 3, cells := 0, slots := 0, locals := 76 }) s m args below meth c H locs 0 0 (MQ below (QI D g b 14 (cellN b g) sz Post) args s 0 0 (rA b 14 sz)) (F0 m 5 ls []) := by
  intro n
  induction n with
  | zero => intro x1 x2 x3 x4 M0 H locs ls h; exact h.elim
  | succ n ih =>
  intro x1 x2 x3 x4 M0 H locs ls h hP hS hl
  simp only [wp_Model_findAll_5] at h
  refine lv_iload hC.1 hC.2.1 d_Model_findAll_5 (lv_at hl 4 rfl) ?_
  refine lv_aload_n hC.1 hC.2.1 d_Model_findAll_7 rfl (lv_at hl 0 rfl) ?_
  refine gf_Model_7 hC hK hP hst d_Model_findAll_8 ?_
  refine lv_iload_n hC.1 hC.2.1 d_Model_findAll_11 rfl (lv_at hl 1 rfl) ?_
  obtain ⟨hi, h⟩ := h
  refine xg_ald hC hK hP aN_sizes (by decide) hi d_Model_findAll_12 ?_
  refine lv_aload_n hC.1 hC.2.1 d_Model_findAll_13 rfl (lv_at hl 0 rfl) ?_
  refine gf_Model_7 hC hK hP hst d_Model_findAll_14 ?_
  refine lv_iload_n hC.1 hC.2.1 d_Model_findAll_17 rfl (lv_at hl 2 rfl) ?_
  obtain ⟨hi, h⟩ := h
  refine xg_ald hC hK hP aN_sizes (by decide) hi d_Model_findAll_18 ?_
  refine xi_mul hC d_Model_findAll_19 ?_
  obtain ⟨b0, h⟩ := h
  obtain ⟨b1, h⟩ := h
  refine xi_cge hC (tgt := 66) d_Model_findAll_20 (by decide) b0 b1 (fun q => ?_) (fun q => ?_)
  · have h := h.1 q
    refine lv_iload_n hC.1 hC.2.1 d_Model_findAll_66 rfl (lv_at hl 3 rfl) ?_
    exact xr_i hC hr hlocks hK hP hS h d_Model_findAll_67
  · have h := h.2 q
    refine lv_aload_n hC.1 hC.2.1 d_Model_findAll_23 rfl (lv_at hl 0 rfl) ?_
    refine lv_iload_n hC.1 hC.2.1 d_Model_findAll_24 rfl (lv_at hl 1 rfl) ?_
    refine lv_iload hC.1 hC.2.1 d_Model_findAll_25 (lv_at hl 4 rfl) ?_
    refine lv_aload_n hC.1 hC.2.1 d_Model_findAll_27 rfl (lv_at hl 0 rfl) ?_
    refine gf_Model_7 hC hK hP hst d_Model_findAll_28 ?_
    refine lv_iload_n hC.1 hC.2.1 d_Model_findAll_31 rfl (lv_at hl 2 rfl) ?_
    obtain ⟨hi, h⟩ := h
    refine xg_ald hC hK hP aN_sizes (by decide) hi d_Model_findAll_32 ?_
    obtain ⟨hd, h⟩ := h
    refine xi_div hC d_Model_findAll_33 hd ?_
    refine lv_iload_n hC.1 hC.2.1 d_Model_findAll_34 rfl (lv_at hl 2 rfl) ?_
    refine lv_iload hC.1 hC.2.1 d_Model_findAll_35 (lv_at hl 4 rfl) ?_
    refine lv_aload_n hC.1 hC.2.1 d_Model_findAll_37 rfl (lv_at hl 0 rfl) ?_
    refine gf_Model_7 hC hK hP hst d_Model_findAll_38 ?_
    refine lv_iload_n hC.1 hC.2.1 d_Model_findAll_41 rfl (lv_at hl 2 rfl) ?_
    obtain ⟨hi, h⟩ := h
    refine xg_ald hC hK hP aN_sizes (by decide) hi d_Model_findAll_42 ?_
    obtain ⟨hd, h⟩ := h
    refine xi_rem hC d_Model_findAll_43 hd ?_
    refine xk_Vi (As := [iv x1, iv (x4 / (M0 1 x2.toNat)), iv x2, iv (x4 % (M0 1 x2.toNat))]) (rest := []) hC hK hP hS hst hz hl.1 lk_Model_126 rfl rfl rfl ⟨Nat.le_of_ble_eq_true rfl, Nat.le_of_ble_eq_true rfl⟩ (rc_Model hK hP) (fun sz' => c_Model_finds l D g b sz' h) d_Model_findAll_44 rfl (Nat.le_of_ble_eq_true rfl) ⟨Nat.le_of_ble_eq_true rfl, Nat.le_of_ble_eq_true rfl⟩ (fun r_1 M_2 H locs h hP hS => ?_)
    try dsimp only at h
    obtain ⟨b0, h⟩ := h
    refine xi_ine hC (tgt := 53) d_Model_findAll_47 (by decide) b0 (fun q => ?_) (fun q => ?_)
    · have h := h.1 q
      obtain ⟨v3_3, ev3_3⟩ : ∃ y : Int, y = x3 + 1 := ⟨_, rfl⟩
      have h := h v3_3 ev3_3
      refine xi_iinc (v := v3_3) (lv' := [(3, iv v3_3), (0, .ref (b + 0)), (1, iv x1), (2, iv x2), (4, iv x4)]) hC d_Model_findAll_53 hl (k := 3) rfl ev3_3 (by decide) rfl (fun ls hl => ?_)
      refine lv_aload_n hC.1 hC.2.1 d_Model_findAll_56 rfl (lv_at hl 1 rfl) ?_
      refine xk_Vv (As := []) (rest := []) hC hK hP hS hst hz hl.1 lk_Model_130 rfl rfl rfl ⟨Nat.le_of_ble_eq_true rfl, Nat.le_of_ble_eq_true rfl⟩ (rc_Model hK hP) (fun sz' => c_Model_put l D g b sz' h) d_Model_findAll_57 rfl (Nat.le_of_ble_eq_true rfl) ⟨Nat.le_of_ble_eq_true rfl, Nat.le_of_ble_eq_true rfl⟩ (fun M_5 H locs h hP hS => ?_)
      try dsimp only at h
      obtain ⟨v4_6, ev4_6⟩ : ∃ y : Int, y = x4 + 1 := ⟨_, rfl⟩
      have h := h v4_6 ev4_6
      refine xi_iinc (v := v4_6) (lv' := [(4, iv v4_6), (3, iv v3_3), (0, .ref (b + 0)), (1, iv x1), (2, iv x2)]) hC d_Model_findAll_60 hl (k := 4) rfl ev4_6 (by decide) rfl (fun ls hl => ?_)
      refine lv_goto (tgt := 5) hC.1 hC.2.1 d_Model_findAll_63 (by decide) ?_
      exact ih _ _ _ _ _ _ _ _ h hP hS (lv_sub hl [2, 3, 4, 1, 0] rfl)
    · have h := h.2 q
      refine lv_goto (tgt := 60) hC.1 hC.2.1 d_Model_findAll_50 (by decide) ?_
      obtain ⟨v4_7, ev4_7⟩ : ∃ y : Int, y = x4 + 1 := ⟨_, rfl⟩
      have h := h v4_7 ev4_7
      refine xi_iinc (v := v4_7) (lv' := [(4, iv v4_7), (0, .ref (b + 0)), (1, iv x1), (2, iv x2), (3, iv x3)]) hC d_Model_findAll_60 hl (k := 4) rfl ev4_7 (by decide) rfl (fun ls hl => ?_)
      refine lv_goto (tgt := 5) hC.1 hC.2.1 d_Model_findAll_63 (by decide) ?_
      exact ih _ _ _ _ _ _ _ _ h hP hS (lv_sub hl [1, 2, 3, 4, 0] rfl)
set_option maxHeartbeats 4000000 in
theorem c_Model_findAll (l : Launch) (D : va_G) (g : Nat → ClassId) (b sz : Nat) {x1 x2 : Int} {M0 : Mem} {Post : Int → Mem → Prop} (h : wp_Model_findAll x1 x2 M0 Post) : Met l y_Model_findAll (Cond.code y_Model_findAll b_Model_findAll 5 (some .int) :: gd) ({ frames := 3, cells := 0, slots := 0, locals := 76 }) (PcG D g b 14 (cellN b g) sz M0 [.ref (b + 0), iv x1, iv x2]) (QI D g b 14 (cellN b g) sz Post) 0 0 (rA b 14 sz) := by
  refine xm_start (by decide) rfl (Nat.le_of_ble_eq_true rfl) ?_
  intro p e s m below meth c ls H args hC hr hlocks hK hP hst hz hS hH hl
  have hl : lv_has ls 5 [(0, .ref (b + 0)), (1, iv x1), (2, iv x2)] := hl
  unfold wp_Model_findAll at h
  refine xi_const hC d_Model_findAll_0 ?_
  refine lv_istore_n (lv' := [(3, iv 0), (0, .ref (b + 0)), (1, iv x1), (2, iv x2)]) hC.1 hC.2.1 d_Model_findAll_1 rfl hl (by decide) rfl (fun ls hl => ?_)
  refine xi_const hC d_Model_findAll_2 ?_
  refine lv_istore (lv' := [(4, iv 0), (3, iv 0), (0, .ref (b + 0)), (1, iv x1), (2, iv x2)]) hC.1 hC.2.1 d_Model_findAll_3 hl (by decide) rfl (fun ls hl => ?_)
  obtain ⟨nn, h⟩ := h
  exact s_Model_findAll_5 hC hr hlocks hK hst hz nn _ _ _ _ _ _ _ _ h hP hS (lv_sub hl [2, 3, 4, 1, 0] rfl)
set_option maxHeartbeats 4000000 in
theorem s_Model_run_31 {p : Program} {l : Launch} {e : Env} {s : State} {m : MethodId} {args : Array Value} {below : List Frame} {meth : Method} {c : Code} {D : va_G} {g : Nat → ClassId} {b sz : Nat} (hC : Cx p m c b_Model_run 4 s args "EdgeJoinsModel") (hr : meth.sig.returnType = some .int) (hlocks : meth.locks = false) (hK : va_K D classes (tyG g) s) (hst : sC (rA b 14 sz) s s.heap) (hz : sz ≤ s.heap.size) {Post : Int → Mem → Prop} {X19 : Int → Int → Mem → Prop} (hX19 : ∀ (x1 x2 : Int) (M0 : Mem) (H : Heap) (locs : List Loc) (ls : Array Slot), X19 x1 x2 M0 → va_P D classes (wsG b 14 (cellN b g) M0) H → va_S (rA b 14 sz) s.heap H locs → lv_has ls 4 [(0, .ref (b + 0)), (1, iv x1), (2, iv x2)] → W p l e ({ frames := 4, cells := 0, slots := 0, locals := 100 }) s m args below meth c H locs 0 0 (MQ below (QI D g b 14 (cellN b g) sz Post) args s 0 0 (rA b 14 sz)) (F0 m 19 ls [])) : ∀ (n : Nat) (x1 x2 x3 : Int) (M0 : Mem) (H : Heap) (locs : List Loc) (ls : Array Slot), wp_Model_run_31 X19 Post n x1 x2 x3 M0 → va_P D classes (wsG b 14 (cellN b g) M0) H → va_S (rA b 14 sz) s.heap H locs → lv_has ls 4 [(0, .ref (b + 0)), (1, iv x1), (2, iv x2), (3, iv x3)] → W p l e ({ frames := 4, cells := 0, slots := 0, locals := 100 }) s m args below meth c H locs 0 0 (MQ below (QI D g b 14 (cellN b g) sz Post) args s 0 0 (rA b 14 sz)) (F0 m 31 ls []) := by
  intro n
  induction n with
  | zero => intro x1 x2 x3 M0 H locs ls h; exact h.elim
  | succ n ih =>
  intro x1 x2 x3 M0 H locs ls h hP hS hl
  simp only [wp_Model_run_31] at h
  refine lv_iload_n hC.1 hC.2.1 d_Model_run_31 rfl (lv_at hl 3 rfl) ?_
  refine lv_aload_n hC.1 hC.2.1 d_Model_run_32 rfl (lv_at hl 0 rfl) ?_
  refine gf_Model_60 hC hK hP hst d_Model_run_33 ?_
  obtain ⟨b0, h⟩ := h
  obtain ⟨b1, h⟩ := h
  refine xi_cge hC (tgt := 76) d_Model_run_36 (by decide) b0 b1 (fun q => ?_) (fun q => ?_)
  · have h := h.1 q
    obtain ⟨v2_1, ev2_1⟩ : ∃ y : Int, y = x2 + 1 := ⟨_, rfl⟩
    have h := h v2_1 ev2_1
    refine xi_iinc (v := v2_1) (lv' := [(2, iv v2_1), (0, .ref (b + 0)), (1, iv x1), (3, iv x3)]) hC d_Model_run_76 hl (k := 2) rfl ev2_1 (by decide) rfl (fun ls hl => ?_)
    refine lv_goto (tgt := 19) hC.1 hC.2.1 d_Model_run_79 (by decide) ?_
    exact hX19 _ _ _ _ _ _ h hP hS (lv_sub hl [1, 2, 0] rfl)
  · have h := h.2 q
    refine lv_iload_n hC.1 hC.2.1 d_Model_run_39 rfl (lv_at hl 1 rfl) ?_
    refine lv_aload_n hC.1 hC.2.1 d_Model_run_40 rfl (lv_at hl 0 rfl) ?_
    refine gf_Model_19 hC hK hP hst d_Model_run_41 ?_
    refine lv_iload_n hC.1 hC.2.1 d_Model_run_44 rfl (lv_at hl 2 rfl) ?_
    obtain ⟨hi, h⟩ := h
    refine xg_zald hC hK hP aN_closed (by decide) hi d_Model_run_45 ?_
    obtain ⟨b0, h⟩ := h
    refine xi_ieq hC (tgt := 67) d_Model_run_46 (by decide) b0 (fun q => ?_) (fun q => ?_)
    · have h := h.1 q
      refine xi_const hC d_Model_run_67 ?_
      refine xi_add hC d_Model_run_68 ?_
      refine xi_top (fun v1_2 ev1_2 => ?_)
      have h := h v1_2 ev1_2
      refine lv_istore_n (lv' := [(1, iv v1_2), (0, .ref (b + 0)), (2, iv x2), (3, iv x3)]) hC.1 hC.2.1 d_Model_run_69 rfl hl (by decide) rfl (fun ls hl => ?_)
      obtain ⟨v3_3, ev3_3⟩ : ∃ y : Int, y = x3 + 1 := ⟨_, rfl⟩
      have h := h v3_3 ev3_3
      refine xi_iinc (v := v3_3) (lv' := [(3, iv v3_3), (1, iv v1_2), (0, .ref (b + 0)), (2, iv x2)]) hC d_Model_run_70 hl (k := 3) rfl ev3_3 (by decide) rfl (fun ls hl => ?_)
      refine lv_goto (tgt := 31) hC.1 hC.2.1 d_Model_run_73 (by decide) ?_
      exact ih _ _ _ _ _ _ _ h hP hS (lv_sub hl [2, 1, 3, 0] rfl)
    · have h := h.2 q
      refine lv_aload_n hC.1 hC.2.1 d_Model_run_49 rfl (lv_at hl 0 rfl) ?_
      refine gf_Model_19 hC hK hP hst d_Model_run_50 ?_
      refine lv_iload_n hC.1 hC.2.1 d_Model_run_53 rfl (lv_at hl 3 rfl) ?_
      obtain ⟨hi, h⟩ := h
      refine xg_zald hC hK hP aN_closed (by decide) hi d_Model_run_54 ?_
      obtain ⟨b0, h⟩ := h
      refine xi_ieq hC (tgt := 67) d_Model_run_55 (by decide) b0 (fun q => ?_) (fun q => ?_)
      · have h := h.1 q
        refine xi_const hC d_Model_run_67 ?_
        refine xi_add hC d_Model_run_68 ?_
        refine xi_top (fun v1_4 ev1_4 => ?_)
        have h := h v1_4 ev1_4
        refine lv_istore_n (lv' := [(1, iv v1_4), (0, .ref (b + 0)), (2, iv x2), (3, iv x3)]) hC.1 hC.2.1 d_Model_run_69 rfl hl (by decide) rfl (fun ls hl => ?_)
        obtain ⟨v3_5, ev3_5⟩ : ∃ y : Int, y = x3 + 1 := ⟨_, rfl⟩
        have h := h v3_5 ev3_5
        refine xi_iinc (v := v3_5) (lv' := [(3, iv v3_5), (1, iv v1_4), (0, .ref (b + 0)), (2, iv x2)]) hC d_Model_run_70 hl (k := 3) rfl ev3_5 (by decide) rfl (fun ls hl => ?_)
        refine lv_goto (tgt := 31) hC.1 hC.2.1 d_Model_run_73 (by decide) ?_
        exact ih _ _ _ _ _ _ _ h hP hS (lv_sub hl [2, 1, 3, 0] rfl)
      · have h := h.2 q
        refine lv_aload_n hC.1 hC.2.1 d_Model_run_58 rfl (lv_at hl 0 rfl) ?_
        refine lv_iload_n hC.1 hC.2.1 d_Model_run_59 rfl (lv_at hl 2 rfl) ?_
        refine lv_iload_n hC.1 hC.2.1 d_Model_run_60 rfl (lv_at hl 3 rfl) ?_
        refine xk_Vi (As := [iv x2, iv x3]) (rest := [iv x1]) hC hK hP hS hst hz hl.1 lk_Model_133 rfl rfl rfl ⟨Nat.le_of_ble_eq_true rfl, Nat.le_of_ble_eq_true rfl⟩ (rc_Model hK hP) (fun sz' => c_Model_findAll l D g b sz' h) d_Model_run_61 rfl (Nat.le_of_ble_eq_true rfl) ⟨Nat.le_of_ble_eq_true rfl, Nat.le_of_ble_eq_true rfl⟩ (fun r_6 M_7 H locs h hP hS => ?_)
        try dsimp only at h
        refine lv_goto (tgt := 68) hC.1 hC.2.1 d_Model_run_64 (by decide) ?_
        refine xi_add hC d_Model_run_68 ?_
        refine xi_top (fun v1_8 ev1_8 => ?_)
        have h := h v1_8 ev1_8
        refine lv_istore_n (lv' := [(1, iv v1_8), (0, .ref (b + 0)), (2, iv x2), (3, iv x3)]) hC.1 hC.2.1 d_Model_run_69 rfl hl (by decide) rfl (fun ls hl => ?_)
        obtain ⟨v3_9, ev3_9⟩ : ∃ y : Int, y = x3 + 1 := ⟨_, rfl⟩
        have h := h v3_9 ev3_9
        refine xi_iinc (v := v3_9) (lv' := [(3, iv v3_9), (1, iv v1_8), (0, .ref (b + 0)), (2, iv x2)]) hC d_Model_run_70 hl (k := 3) rfl ev3_9 (by decide) rfl (fun ls hl => ?_)
        refine lv_goto (tgt := 31) hC.1 hC.2.1 d_Model_run_73 (by decide) ?_
        exact ih _ _ _ _ _ _ _ h hP hS (lv_sub hl [2, 1, 3, 0] rfl)
set_option maxHeartbeats 4000000 in
theorem s_Model_run_19 {p : Program} {l : Launch} {e : Env} {s : State} {m : MethodId} {args : Array Value} {below : List Frame} {meth : Method} {c : Code} {D : va_G} {g : Nat → ClassId} {b sz : Nat} (hC : Cx p m c b_Model_run 4 s args "EdgeJoinsModel") (hr : meth.sig.returnType = some .int) (hlocks : meth.locks = false) (hK : va_K D classes (tyG g) s) (hst : sC (rA b 14 sz) s s.heap) (hz : sz ≤ s.heap.size) {Post : Int → Mem → Prop} : ∀ (n : Nat) (x1 x2 : Int) (M0 : Mem) (H : Heap) (locs : List Loc) (ls : Array Slot), wp_Model_run_19 Post n x1 x2 M0 → va_P D classes (wsG b 14 (cellN b g) M0) H → va_S (rA b 14 sz) s.heap H locs → lv_has ls 4 [(0, .ref (b + 0)), (1, iv x1), (2, iv x2)] → W p l e ({ frames := 4, cells := 0, slots := 0, locals := 100 }) s m args below meth c H locs 0 0 (MQ below (QI D g b 14 (cellN b g) sz Post) args s 0 0 (rA b 14 sz)) (F0 m 19 ls []) := by
  intro n
  induction n with
  | zero => intro x1 x2 M0 H locs ls h; exact h.elim
  | succ n ih =>
  intro x1 x2 M0 H locs ls h hP hS hl
  simp only [wp_Model_run_19] at h
  refine lv_iload_n hC.1 hC.2.1 d_Model_run_19 rfl (lv_at hl 2 rfl) ?_
  refine lv_aload_n hC.1 hC.2.1 d_Model_run_20 rfl (lv_at hl 0 rfl) ?_
  refine gf_Model_60 hC hK hP hst d_Model_run_21 ?_
  obtain ⟨b0, h⟩ := h
  obtain ⟨b1, h⟩ := h
  refine xi_cge hC (tgt := 82) d_Model_run_24 (by decide) b0 b1 (fun q => ?_) (fun q => ?_)
  · have h := h.1 q
    refine lv_iload_n hC.1 hC.2.1 d_Model_run_82 rfl (lv_at hl 1 rfl) ?_
    exact xr_i hC hr hlocks hK hP hS h d_Model_run_83
  · have h := h.2 q
    refine lv_iload_n hC.1 hC.2.1 d_Model_run_27 rfl (lv_at hl 2 rfl) ?_
    refine xi_const hC d_Model_run_28 ?_
    refine xi_add hC d_Model_run_29 ?_
    refine xi_top (fun v3_1 ev3_1 => ?_)
    have h := h v3_1 ev3_1
    refine lv_istore_n (lv' := [(3, iv v3_1), (0, .ref (b + 0)), (1, iv x1), (2, iv x2)]) hC.1 hC.2.1 d_Model_run_30 rfl hl (by decide) rfl (fun ls hl => ?_)
    obtain ⟨nn, h⟩ := h
    exact s_Model_run_31 hC hr hlocks hK hst hz ih nn _ _ _ _ _ _ _ h hP hS (lv_sub hl [1, 2, 3, 0] rfl)
set_option maxHeartbeats 4000000 in
theorem c_Model_run (l : Launch) (D : va_G) (g : Nat → ClassId) (b sz : Nat) {M0 : Mem} {Post : Int → Mem → Prop} (h : wp_Model_run M0 Post) : Met l y_Model_run (Cond.code y_Model_run b_Model_run 4 (some .int) :: gd) ({ frames := 4, cells := 0, slots := 0, locals := 100 }) (PcG D g b 14 (cellN b g) sz M0 [.ref (b + 0)]) (QI D g b 14 (cellN b g) sz Post) 0 0 (rA b 14 sz) := by
  refine xm_start (by decide) rfl (Nat.le_of_ble_eq_true rfl) ?_
  intro p e s m below meth c ls H args hC hr hlocks hK hP hst hz hS hH hl
  have hl : lv_has ls 4 [(0, .ref (b + 0))] := hl
  unfold wp_Model_run at h
  refine lv_aload_n hC.1 hC.2.1 d_Model_run_0 rfl (lv_at hl 0 rfl) ?_
  refine xi_const hC d_Model_run_1 ?_
  refine pf_Model_57 hC hK hP hS hst d_Model_run_2 (fun H locs hP hS => ?_)
  obtain ⟨M_1, eM_1⟩ : ∃ y : Mem, y = up M0 0 0 0 := ⟨_, rfl⟩
  rw [← eM_1] at hP
  have h := h M_1 eM_1
  refine lv_aload_n hC.1 hC.2.1 d_Model_run_5 rfl (lv_at hl 0 rfl) ?_
  refine xi_const hC d_Model_run_6 ?_
  refine pf_Model_120 hC hK hP hS hst d_Model_run_7 (fun H locs hP hS => ?_)
  obtain ⟨M_2, eM_2⟩ : ∃ y : Mem, y = up M_1 0 12 0 := ⟨_, rfl⟩
  rw [← eM_2] at hP
  have h := h M_2 eM_2
  refine lv_aload_n hC.1 hC.2.1 d_Model_run_10 rfl (lv_at hl 0 rfl) ?_
  refine xi_const hC d_Model_run_11 ?_
  refine pf_Model_75 hC hK hP hS hst (by decide) d_Model_run_12 (fun H locs hP hS => ?_)
  obtain ⟨M_3, eM_3⟩ : ∃ y : Mem, y = up M_2 0 11 1 := ⟨_, rfl⟩
  rw [← eM_3] at hP
  have h := h M_3 eM_3
  refine xi_const hC d_Model_run_15 ?_
  refine lv_istore_n (lv' := [(1, iv 0), (0, .ref (b + 0))]) hC.1 hC.2.1 d_Model_run_16 rfl hl (by decide) rfl (fun ls hl => ?_)
  refine xi_const hC d_Model_run_17 ?_
  refine lv_istore_n (lv' := [(2, iv 0), (1, iv 0), (0, .ref (b + 0))]) hC.1 hC.2.1 d_Model_run_18 rfl hl (by decide) rfl (fun ls hl => ?_)
  obtain ⟨nn, h⟩ := h
  exact s_Model_run_19 hC hr hlocks hK hst hz nn _ _ _ _ _ _ h hP hS (lv_sub hl [2, 1, 0] rfl)
set_option maxHeartbeats 4000000 in
theorem c_Model_isPair (l : Launch) (D : va_G) (g : Nat → ClassId) (b sz : Nat) {x1 : Int} {M0 : Mem} {Post : Int → Prop} (h : wp_Model_isPair x1 M0 Post) : Met l y_Model_isPair (Cond.code y_Model_isPair b_Model_isPair 2 (some .boolean) :: gd) ({ frames := 1, cells := 0, slots := 0, locals := 22 }) (PcG D g b 14 (cellN b g) sz M0 [.ref (b + 0), iv x1]) (QP Post) 0 0 nil_ := by
  refine xm_start (by decide) rfl (Nat.le_of_ble_eq_true rfl) ?_
  intro p e s m below meth c ls H args hC hr hlocks hK hP hst hz hS hH hl
  have hl : lv_has ls 2 [(0, .ref (b + 0)), (1, iv x1)] := hl
  unfold wp_Model_isPair at h
  refine lv_aload_n hC.1 hC.2.1 d_Model_isPair_0 rfl (lv_at hl 0 rfl) ?_
  refine gf_Model_75 hC hK hP hst d_Model_isPair_1 ?_
  obtain ⟨b0, h⟩ := h
  refine xi_ieq hC (tgt := 25) d_Model_isPair_4 (by decide) b0 (fun q => ?_) (fun q => ?_)
  · have h := h.1 q
    refine xi_const hC d_Model_isPair_25 ?_
    exact xr_zp hC hr hlocks hH (by decide) h d_Model_isPair_26
  · have h := h.2 q
    refine lv_iload_n hC.1 hC.2.1 d_Model_isPair_7 rfl (lv_at hl 1 rfl) ?_
    refine xi_const hC d_Model_isPair_8 ?_
    refine lv_aload_n hC.1 hC.2.1 d_Model_isPair_9 rfl (lv_at hl 0 rfl) ?_
    refine gf_Model_120 hC hK hP hst d_Model_isPair_10 ?_
    refine xi_const hC d_Model_isPair_13 ?_
    refine xi_sub hC d_Model_isPair_14 ?_
    refine xk_SP (As := [iv x1, iv 0, iv ((M0 0 12) - 1)]) (rest := []) hC hK hP hS hst hz hl.1 lk_Model_63 rfl rfl rfl ⟨Nat.le_of_ble_eq_true rfl, Nat.le_of_ble_eq_true rfl⟩ (fun sz' => c_Model_in l D g b sz' h) d_Model_isPair_15 rfl (Nat.le_of_ble_eq_true rfl) ⟨Nat.le_of_ble_eq_true rfl, Nat.le_of_ble_eq_true rfl⟩ (fun r_1 h => ?_)
    try dsimp only at h
    obtain ⟨b0, h⟩ := h
    refine xi_ieq hC (tgt := 25) d_Model_isPair_18 (by decide) b0 (fun q => ?_) (fun q => ?_)
    · have h := h.1 q
      refine xi_const hC d_Model_isPair_25 ?_
      exact xr_zp hC hr hlocks hH (by decide) h d_Model_isPair_26
    · have h := h.2 q
      refine xi_const hC d_Model_isPair_21 ?_
      refine lv_goto (tgt := 26) hC.1 hC.2.1 d_Model_isPair_22 (by decide) ?_
      exact xr_zp hC hr hlocks hH (by decide) h d_Model_isPair_26
set_option maxHeartbeats 4000000 in
theorem s_Model_pair_23 {p : Program} {l : Launch} {e : Env} {s : State} {m : MethodId} {args : Array Value} {below : List Frame} {meth : Method} {c : Code} {D : va_G} {g : Nat → ClassId} {b sz : Nat} (hC : Cx p m c b_Model_pair 3 s args "EdgeJoinsModel") (hr : meth.sig.returnType = some .int) (hlocks : meth.locks = false) (hK : va_K D classes (tyG g) s) (hst : sC (rA b 14 sz) s s.heap) (hz : sz ≤ s.heap.size) {Post : Int → Mem → Prop} : ∀ (x1 x2 t1 : Int) (M0 : Mem) (H : Heap) (locs : List Loc) (ls : Array Slot), wp_Model_pair_23 x1 x2 t1 M0 Post → va_P D classes (wsG b 14 (cellN b g) M0) H → va_S (rA b 14 sz) s.heap H locs → lv_has ls 3 [(0, .ref (b + 0)), (1, iv x1), (2, iv x2)] → W p l e ({ frames := 2, cells := 0, slots := 0, locals := 43 }) s m args below meth c H locs 0 0 (MQ below (QI D g b 14 (cellN b g) sz Post) args s 0 0 (rA b 14 sz)) (F0 m 23 ls [iv t1, .ref (b + 0)]) := by
  intro x1 x2 t1 M0 H locs ls h hP hS hl
  unfold wp_Model_pair_23 at h
  refine xi_const hC d_Model_pair_23 ?_
  refine xi_const hC d_Model_pair_24 ?_
  refine xk_Vi (As := [iv t1, iv 0, iv 0]) (rest := []) hC hK hP hS hst hz hl.1 lk_Model_67 rfl rfl rfl ⟨Nat.le_of_ble_eq_true rfl, Nat.le_of_ble_eq_true rfl⟩ (rc_Model hK hP) (fun sz' => c_Model_throwing l D g b sz' h) d_Model_pair_25 rfl (Nat.le_of_ble_eq_true rfl) ⟨Nat.le_of_ble_eq_true rfl, Nat.le_of_ble_eq_true rfl⟩ (fun r_1 M_2 H locs h hP hS => ?_)
  try dsimp only at h
  obtain ⟨b0, h⟩ := h
  refine xi_ieq hC (tgt := 33) d_Model_pair_28 (by decide) b0 (fun q => ?_) (fun q => ?_)
  · have h := h.1 q
    refine lv_aload_n hC.1 hC.2.1 d_Model_pair_33 rfl (lv_at hl 0 rfl) ?_
    refine gf_Model_39 hC hK hP hst d_Model_pair_34 ?_
    refine xi_bipush hC d_Model_pair_37 (by decide) ?_
    refine lv_iload_n hC.1 hC.2.1 d_Model_pair_39 rfl (lv_at hl 1 rfl) ?_
    refine xi_mul hC d_Model_pair_40 ?_
    refine lv_iload_n hC.1 hC.2.1 d_Model_pair_41 rfl (lv_at hl 2 rfl) ?_
    refine xi_add hC d_Model_pair_42 ?_
    obtain ⟨hi, h⟩ := h
    refine xg_ald hC hK hP aN_list (by decide) hi d_Model_pair_43 ?_
    exact xr_i hC hr hlocks hK hP hS h d_Model_pair_44
  · have h := h.2 q
    refine xi_const hC d_Model_pair_31 ?_
    exact xr_i hC hr hlocks hK hP hS h d_Model_pair_32
set_option maxHeartbeats 4000000 in
theorem s_Model_pair_18 {p : Program} {l : Launch} {e : Env} {s : State} {m : MethodId} {args : Array Value} {below : List Frame} {meth : Method} {c : Code} {D : va_G} {g : Nat → ClassId} {b sz : Nat} (hC : Cx p m c b_Model_pair 3 s args "EdgeJoinsModel") (hr : meth.sig.returnType = some .int) (hlocks : meth.locks = false) (hK : va_K D classes (tyG g) s) (hst : sC (rA b 14 sz) s s.heap) (hz : sz ≤ s.heap.size) {Post : Int → Mem → Prop} : ∀ (x1 x2 : Int) (M0 : Mem) (H : Heap) (locs : List Loc) (ls : Array Slot), wp_Model_pair_18 x1 x2 M0 Post → va_P D classes (wsG b 14 (cellN b g) M0) H → va_S (rA b 14 sz) s.heap H locs → lv_has ls 3 [(0, .ref (b + 0)), (1, iv x1), (2, iv x2)] → W p l e ({ frames := 2, cells := 0, slots := 0, locals := 43 }) s m args below meth c H locs 0 0 (MQ below (QI D g b 14 (cellN b g) sz Post) args s 0 0 (rA b 14 sz)) (F0 m 18 ls [.ref (b + 0)]) := by
  intro x1 x2 M0 H locs ls h hP hS hl
  unfold wp_Model_pair_18 at h
  refine xi_const hC d_Model_pair_18 ?_
  refine lv_goto (tgt := 23) hC.1 hC.2.1 d_Model_pair_19 (by decide) ?_
  exact s_Model_pair_23 hC hr hlocks hK hst hz _ _ _ _ _ _ _ h hP hS (lv_sub hl [0, 1, 2] rfl)
set_option maxHeartbeats 4000000 in
theorem c_Model_pair (l : Launch) (D : va_G) (g : Nat → ClassId) (b sz : Nat) {x1 x2 : Int} {M0 : Mem} {Post : Int → Mem → Prop} (h : wp_Model_pair x1 x2 M0 Post) : Met l y_Model_pair (Cond.code y_Model_pair b_Model_pair 3 (some .int) :: gd) ({ frames := 2, cells := 0, slots := 0, locals := 43 }) (PcG D g b 14 (cellN b g) sz M0 [.ref (b + 0), iv x1, iv x2]) (QI D g b 14 (cellN b g) sz Post) 0 0 (rA b 14 sz) := by
  refine xm_start (by decide) rfl (Nat.le_of_ble_eq_true rfl) ?_
  intro p e s m below meth c ls H args hC hr hlocks hK hP hst hz hS hH hl
  have hl : lv_has ls 3 [(0, .ref (b + 0)), (1, iv x1), (2, iv x2)] := hl
  unfold wp_Model_pair at h
  refine lv_aload_n hC.1 hC.2.1 d_Model_pair_0 rfl (lv_at hl 0 rfl) ?_
  refine lv_aload_n hC.1 hC.2.1 d_Model_pair_1 rfl (lv_at hl 0 rfl) ?_
  refine lv_iload_n hC.1 hC.2.1 d_Model_pair_2 rfl (lv_at hl 1 rfl) ?_
  refine xk_VP (As := [iv x1]) (rest := [.ref (b + 0)]) hC hK hP hS hst hz hl.1 lk_Model_136 rfl rfl rfl ⟨Nat.le_of_ble_eq_true rfl, Nat.le_of_ble_eq_true rfl⟩ (rc_Model hK hP) (fun sz' => c_Model_isPair l D g b sz' h) d_Model_pair_3 rfl (Nat.le_of_ble_eq_true rfl) ⟨Nat.le_of_ble_eq_true rfl, Nat.le_of_ble_eq_true rfl⟩ (fun r_1 h => ?_)
  try dsimp only at h
  obtain ⟨b0, h⟩ := h
  refine xi_ieq hC (tgt := 18) d_Model_pair_6 (by decide) b0 (fun q => ?_) (fun q => ?_)
  · have h := h.1 q
    exact s_Model_pair_18 hC hr hlocks hK hst hz _ _ _ _ _ _ h hP hS (lv_sub hl [0, 1, 2] rfl)
  · have h := h.2 q
    refine lv_iload_n hC.1 hC.2.1 d_Model_pair_9 rfl (lv_at hl 2 rfl) ?_
    refine xi_const hC d_Model_pair_10 ?_
    refine xi_const hC d_Model_pair_11 ?_
    refine xk_SP (As := [iv x2, iv 0, iv 5]) (rest := [.ref (b + 0)]) hC hK hP hS hst hz hl.1 lk_Model_63 rfl rfl rfl ⟨Nat.le_of_ble_eq_true rfl, Nat.le_of_ble_eq_true rfl⟩ (fun sz' => c_Model_in l D g b sz' h) d_Model_pair_12 rfl (Nat.le_of_ble_eq_true rfl) ⟨Nat.le_of_ble_eq_true rfl, Nat.le_of_ble_eq_true rfl⟩ (fun r_2 h => ?_)
    try dsimp only at h
    obtain ⟨b0, h⟩ := h
    refine xi_ine hC (tgt := 22) d_Model_pair_15 (by decide) b0 (fun q => ?_) (fun q => ?_)
    · have h := h.1 q
      refine xi_const hC d_Model_pair_22 ?_
      exact s_Model_pair_23 hC hr hlocks hK hst hz _ _ _ _ _ _ _ h hP hS (lv_sub hl [0, 1, 2] rfl)
    · have h := h.2 q
      exact s_Model_pair_18 hC hr hlocks hK hst hz _ _ _ _ _ _ h hP hS (lv_sub hl [0, 1, 2] rfl)
set_option maxHeartbeats 4000000 in
theorem s_Model_turn_2 {p : Program} {l : Launch} {e : Env} {s : State} {m : MethodId} {args : Array Value} {below : List Frame} {meth : Method} {c : Code} {D : va_G} {g : Nat → ClassId} {b sz : Nat} (hC : Cx p m c b_Model_turn 4 s args "EdgeJoinsModel") (hr : meth.sig.returnType = none) (hlocks : meth.locks = false) (hK : va_K D classes (tyG g) s) (hst : sC (rA b 14 sz) s s.heap) (hz : sz ≤ s.heap.size) {Post : Mem → Prop} : ∀ (n : Nat) (x1 x2 : Int) (M0 : Mem) (H : Heap) (locs : List Loc) (ls : Array Slot), wp_Model_turn_2 Post n x1 x2 M0 → va_P D classes (wsG b 14 (cellN b g) M0) H → va_S (rA b 14 sz) s.heap H locs → lv_has ls 4 [(0, .ref (b + 0)), (1, iv x1), (2, iv x2)] → W p l e ({ frames := 0, cells := 0, slots := 0, locals := 0 }) s m args below meth c H locs 0 0 (MQ below (QV D g b 14 (cellN b g) sz Post) args s 0 0 (rA b 14 sz)) (F0 m 2 ls []) := by
  intro n
  induction n with
  | zero => intro x1 x2 M0 H locs ls h; exact h.elim
  | succ n ih =>
  intro x1 x2 M0 H locs ls h hP hS hl
  simp only [wp_Model_turn_2] at h
  refine lv_iload_n hC.1 hC.2.1 d_Model_turn_2 rfl (lv_at hl 2 rfl) ?_
  refine lv_iload_n hC.1 hC.2.1 d_Model_turn_3 rfl (lv_at hl 1 rfl) ?_
  obtain ⟨b0, h⟩ := h
  obtain ⟨b1, h⟩ := h
  refine xi_cge hC (tgt := 32) d_Model_turn_4 (by decide) b0 b1 (fun q => ?_) (fun q => ?_)
  · have h := h.1 q
    exact xr_v hC hr hlocks hK hP hS h d_Model_turn_32
  · have h := h.2 q
    refine lv_aload_n hC.1 hC.2.1 d_Model_turn_7 rfl (lv_at hl 0 rfl) ?_
    refine gf_Model_79 hC hK hP hst d_Model_turn_8 ?_
    refine xi_top (fun v3_1 ev3_1 => ?_)
    have h := h v3_1 ev3_1
    refine lv_istore_n (lv' := [(3, iv v3_1), (0, .ref (b + 0)), (1, iv x1), (2, iv x2)]) hC.1 hC.2.1 d_Model_turn_11 rfl hl (by decide) rfl (fun ls hl => ?_)
    refine lv_aload_n hC.1 hC.2.1 d_Model_turn_12 rfl (lv_at hl 1 rfl) ?_
    refine lv_aload_n hC.1 hC.2.1 d_Model_turn_13 rfl (lv_at hl 1 rfl) ?_
    refine gf_Model_82 hC hK hP hst d_Model_turn_14 ?_
    refine xi_neg hC d_Model_turn_17 ?_
    refine pf_Model_79 hC hK hP hS hst d_Model_turn_18 (fun H locs hP hS => ?_)
    obtain ⟨M_2, eM_2⟩ : ∃ y : Mem, y = up M0 0 19 (-(M0 0 20)) := ⟨_, rfl⟩
    rw [← eM_2] at hP
    have h := h M_2 eM_2
    refine lv_aload_n hC.1 hC.2.1 d_Model_turn_21 rfl (lv_at hl 1 rfl) ?_
    refine lv_iload_n hC.1 hC.2.1 d_Model_turn_22 rfl (lv_at hl 0 rfl) ?_
    refine pf_Model_82 hC hK hP hS hst d_Model_turn_23 (fun H locs hP hS => ?_)
    obtain ⟨M_3, eM_3⟩ : ∃ y : Mem, y = up M_2 0 20 v3_1 := ⟨_, rfl⟩
    rw [← eM_3] at hP
    have h := h M_3 eM_3
    obtain ⟨v2_4, ev2_4⟩ : ∃ y : Int, y = x2 + 1 := ⟨_, rfl⟩
    have h := h v2_4 ev2_4
    refine xi_iinc (v := v2_4) (lv' := [(2, iv v2_4), (3, iv v3_1), (0, .ref (b + 0)), (1, iv x1)]) hC d_Model_turn_26 hl (k := 3) rfl ev2_4 (by decide) rfl (fun ls hl => ?_)
    refine lv_goto (tgt := 2) hC.1 hC.2.1 d_Model_turn_29 (by decide) ?_
    exact ih _ _ _ _ _ _ h hP hS (lv_sub hl [2, 3, 0] rfl)
set_option maxHeartbeats 4000000 in
theorem c_Model_turn (l : Launch) (D : va_G) (g : Nat → ClassId) (b sz : Nat) {x1 : Int} {M0 : Mem} {Post : Mem → Prop} (h : wp_Model_turn x1 M0 Post) : Met l y_Model_turn (Cond.code y_Model_turn b_Model_turn 4 (none) :: gd) ({ frames := 0, cells := 0, slots := 0, locals := 0 }) (PcG D g b 14 (cellN b g) sz M0 [.ref (b + 0), iv x1]) (QV D g b 14 (cellN b g) sz Post) 0 0 (rA b 14 sz) := by
  refine xm_start (by decide) rfl (Nat.le_of_ble_eq_true rfl) ?_
  intro p e s m below meth c ls H args hC hr hlocks hK hP hst hz hS hH hl
  have hl : lv_has ls 4 [(0, .ref (b + 0)), (1, iv x1)] := hl
  unfold wp_Model_turn at h
  refine xi_const hC d_Model_turn_0 ?_
  refine lv_istore_n (lv' := [(2, iv 0), (0, .ref (b + 0)), (1, iv x1)]) hC.1 hC.2.1 d_Model_turn_1 rfl hl (by decide) rfl (fun ls hl => ?_)
  obtain ⟨nn, h⟩ := h
  exact s_Model_turn_2 hC hr hlocks hK hst hz nn _ _ _ _ _ _ h hP hS (lv_sub hl [1, 2, 0] rfl)
