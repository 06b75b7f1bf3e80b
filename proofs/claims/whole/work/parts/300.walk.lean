set_option maxHeartbeats 4000000 in
theorem c_X_isSherd (l : Launch) (D : va_G) (g : Nat → ClassId) (b sz : Nat) {x1 : Int} {M0 : Mem} {Post : Int → Prop} (h : wp_X_isSherd x1 M0 Post) : Met l y_X_isSherd (Cond.code y_X_isSherd b_X_isSherd 2 (some .boolean) :: gd) ({ frames := 0, cells := 0, slots := 0, locals := 0 }) (PcG D g b 174 (cellC b g) sz M0 [.ref (b + 0), iv x1]) (QP Post) 0 0 nil_ := by
  refine xm_start (by decide) rfl (Nat.le_of_ble_eq_true rfl) ?_
  intro p e s m below meth c ls H args hC hr hlocks hK hP hst hz hS hH hl
  have hl : lv_has ls 2 [(0, .ref (b + 0)), (1, iv x1)] := hl
  unfold wp_X_isSherd at h
  refine lv_iload_n hC.1 hC.2.1 d_X_isSherd_0 rfl (lv_at hl 1 rfl) ?_
  obtain ⟨b0, h⟩ := h
  refine xi_ilt hC (tgt := 16) d_X_isSherd_1 (by decide) b0 (fun q => ?_) (fun q => ?_)
  · have h := h.1 q
    refine xi_const hC d_X_isSherd_16 ?_
    exact xr_zp hC hr hlocks hH (by decide) h d_X_isSherd_17
  · have h := h.2 q
    refine lv_iload_n hC.1 hC.2.1 d_X_isSherd_4 rfl (lv_at hl 1 rfl) ?_
    refine lv_aload_n hC.1 hC.2.1 d_X_isSherd_5 rfl (lv_at hl 0 rfl) ?_
    refine gf_X_40 hC hK hP hst d_X_isSherd_6 ?_
    obtain ⟨b0, h⟩ := h
    obtain ⟨b1, h⟩ := h
    refine xi_cge hC (tgt := 16) d_X_isSherd_9 (by decide) b0 b1 (fun q => ?_) (fun q => ?_)
    · have h := h.1 q
      refine xi_const hC d_X_isSherd_16 ?_
      exact xr_zp hC hr hlocks hH (by decide) h d_X_isSherd_17
    · have h := h.2 q
      refine xi_const hC d_X_isSherd_12 ?_
      refine lv_goto (tgt := 17) hC.1 hC.2.1 d_X_isSherd_13 (by decide) ?_
      exact xr_zp hC hr hlocks hH (by decide) h d_X_isSherd_17
set_option maxHeartbeats 4000000 in
theorem c_Edge_append (l : Launch) (D : va_G) (g : Nat → ClassId) (b sz : Nat) {k0 : Nat} (hk0 : isE k0) {x1 : Int} {M0 : Mem} {Post : Mem → Prop} (h : wp_Edge_append k0 x1 M0 Post) : Met l y_Edge_append (Cond.code y_Edge_append b_Edge_append 2 (none) :: gd) ({ frames := 0, cells := 0, slots := 0, locals := 0 }) (PcG D g b 174 (cellC b g) sz M0 [.ref (b + k0), iv x1]) (QV D g b 174 (cellC b g) sz Post) 0 0 (rA b 174 sz) := by
  refine xm_start (by decide) rfl (Nat.le_of_ble_eq_true rfl) ?_
  intro p e s m below meth c ls H args hC hr hlocks hK hP hst hz hS hH hl
  have hl : lv_has ls 2 [(0, .ref (b + k0)), (1, iv x1)] := hl
  unfold wp_Edge_append at h
  refine lv_aload_n hC.1 hC.2.1 d_Edge_append_0 rfl (lv_at hl 0 rfl) ?_
  refine gf_Edge_24 hC hK hP hst hk0 d_Edge_append_1 ?_
  refine xi_bipush hC d_Edge_append_4 (by decide) ?_
  obtain ⟨b0, h⟩ := h
  refine xi_clt hC (tgt := 10) d_Edge_append_6 (by decide) b0 (xl rfl) (fun q => ?_) (fun q => ?_)
  · have h := h.1 q
    refine lv_aload_n hC.1 hC.2.1 d_Edge_append_10 rfl (lv_at hl 0 rfl) ?_
    refine gf_Edge_9 hC hK hP hst hk0 d_Edge_append_11 ?_
    refine lv_aload_n hC.1 hC.2.1 d_Edge_append_14 rfl (lv_at hl 0 rfl) ?_
    refine gf_Edge_24 hC hK hP hst hk0 d_Edge_append_15 ?_
    refine lv_iload_n hC.1 hC.2.1 d_Edge_append_18 rfl (lv_at hl 1 rfl) ?_
    obtain ⟨hi, h⟩ := h
    refine xg_ast hC hK hP hS (aE1 hk0) (by decide) hi d_Edge_append_19 (fun H locs hP hS => ?_)
    obtain ⟨M_1, eM_1⟩ : ∃ y : Mem, y = up M0 (k0 + 1) (M0 k0 4).toNat x1 := ⟨_, rfl⟩
    rw [← eM_1] at hP
    have h := h M_1 eM_1
    refine lv_aload_n hC.1 hC.2.1 d_Edge_append_20 rfl (lv_at hl 0 rfl) ?_
    refine gf_Edge_18 hC hK hP hst hk0 d_Edge_append_21 ?_
    refine lv_aload_n hC.1 hC.2.1 d_Edge_append_24 rfl (lv_at hl 0 rfl) ?_
    refine gf_Edge_24 hC hK hP hst hk0 d_Edge_append_25 ?_
    refine xi_const hC d_Edge_append_28 ?_
    refine xi_add hC d_Edge_append_29 ?_
    refine lv_aload_n hC.1 hC.2.1 d_Edge_append_30 rfl (lv_at hl 0 rfl) ?_
    refine gf_Edge_18 hC hK hP hst hk0 d_Edge_append_31 ?_
    refine lv_aload_n hC.1 hC.2.1 d_Edge_append_34 rfl (lv_at hl 0 rfl) ?_
    refine gf_Edge_24 hC hK hP hst hk0 d_Edge_append_35 ?_
    obtain ⟨hi, h⟩ := h
    refine xg_ald hC hK hP (aE3 hk0) (by decide) hi d_Edge_append_38 ?_
    refine gs_Edge_32 hC hst hS d_Edge_append_39 (fun t_2 ht_2 => ?_)
    refine lv_iload_n hC.1 hC.2.1 d_Edge_append_42 rfl (lv_at hl 1 rfl) ?_
    refine xi_const hC d_Edge_append_43 ?_
    refine xi_and3r hC d_Edge_append_44 ?_
    obtain ⟨hi, h⟩ := h
    refine xg_tald hC hS ht_2 hi d_Edge_append_45 ?_
    refine xi_add hC d_Edge_append_46 ?_
    obtain ⟨hi, h⟩ := h
    refine xg_ast hC hK hP hS (aE3 hk0) (by decide) hi d_Edge_append_47 (fun H locs hP hS => ?_)
    obtain ⟨M_3, eM_3⟩ : ∃ y : Mem, y = up M_1 (k0 + 3) ((M_1 k0 4) + 1).toNat ((M_1 (k0 + 3) (M_1 k0 4).toNat) + (stX (x1 % 4))) := ⟨_, rfl⟩
    rw [← eM_3] at hP
    have h := h M_3 eM_3
    refine lv_aload_n hC.1 hC.2.1 d_Edge_append_48 rfl (lv_at hl 0 rfl) ?_
    refine gf_Edge_21 hC hK hP hst hk0 d_Edge_append_49 ?_
    refine lv_aload_n hC.1 hC.2.1 d_Edge_append_52 rfl (lv_at hl 0 rfl) ?_
    refine gf_Edge_24 hC hK hP hst hk0 d_Edge_append_53 ?_
    refine xi_const hC d_Edge_append_56 ?_
    refine xi_add hC d_Edge_append_57 ?_
    refine lv_aload_n hC.1 hC.2.1 d_Edge_append_58 rfl (lv_at hl 0 rfl) ?_
    refine gf_Edge_21 hC hK hP hst hk0 d_Edge_append_59 ?_
    refine lv_aload_n hC.1 hC.2.1 d_Edge_append_62 rfl (lv_at hl 0 rfl) ?_
    refine gf_Edge_24 hC hK hP hst hk0 d_Edge_append_63 ?_
    obtain ⟨hi, h⟩ := h
    refine xg_ald hC hK hP (aE4 hk0) (by decide) hi d_Edge_append_66 ?_
    refine gs_Edge_35 hC hst hS d_Edge_append_67 (fun t_4 ht_4 => ?_)
    refine lv_iload_n hC.1 hC.2.1 d_Edge_append_70 rfl (lv_at hl 1 rfl) ?_
    refine xi_const hC d_Edge_append_71 ?_
    refine xi_and3r hC d_Edge_append_72 ?_
    obtain ⟨hi, h⟩ := h
    refine xg_tald hC hS ht_4 hi d_Edge_append_73 ?_
    refine xi_add hC d_Edge_append_74 ?_
    obtain ⟨hi, h⟩ := h
    refine xg_ast hC hK hP hS (aE4 hk0) (by decide) hi d_Edge_append_75 (fun H locs hP hS => ?_)
    obtain ⟨M_5, eM_5⟩ : ∃ y : Mem, y = up M_3 (k0 + 4) ((M_3 k0 4) + 1).toNat ((M_3 (k0 + 4) (M_3 k0 4).toNat) + (stY (x1 % 4))) := ⟨_, rfl⟩
    rw [← eM_5] at hP
    have h := h M_5 eM_5
    refine lv_aload_n hC.1 hC.2.1 d_Edge_append_76 rfl (lv_at hl 0 rfl) ?_
    refine lv_dup hC.1 hC.2.1 d_Edge_append_77 rfl ?_
    refine gf_Edge_24 hC hK hP hst hk0 d_Edge_append_78 ?_
    refine xi_const hC d_Edge_append_81 ?_
    refine xi_add hC d_Edge_append_82 ?_
    refine pf_Edge_24 hC hK hP hS hst hk0 d_Edge_append_83 (fun H locs hP hS => ?_)
    obtain ⟨M_6, eM_6⟩ : ∃ y : Mem, y = up M_5 k0 4 ((M_5 k0 4) + 1) := ⟨_, rfl⟩
    rw [← eM_6] at hP
    have h := h M_6 eM_6
    exact xr_v hC hr hlocks hK hP hS h d_Edge_append_86
  · have h := h.2 q
    exact xr_v hC hr hlocks hK hP hS h d_Edge_append_9
set_option maxHeartbeats 4000000 in
theorem c_Ranking_clear (l : Launch) (D : va_G) (g : Nat → ClassId) (b sz : Nat) {M0 : Mem} {Post : Mem → Prop} (h : wp_Ranking_clear M0 Post) : Met l y_Ranking_clear (Cond.code y_Ranking_clear b_Ranking_clear 1 (none) :: gd) ({ frames := 0, cells := 0, slots := 0, locals := 0 }) (PcG D g b 174 (cellC b g) sz M0 [.ref (b + 8)]) (QV D g b 174 (cellC b g) sz Post) 0 0 (rA b 174 sz) := by
  refine xm_start (by decide) rfl (Nat.le_of_ble_eq_true rfl) ?_
  intro p e s m below meth c ls H args hC hr hlocks hK hP hst hz hS hH hl
  have hl : lv_has ls 1 [(0, .ref (b + 8))] := hl
  unfold wp_Ranking_clear at h
  refine lv_aload_n hC.1 hC.2.1 d_Ranking_clear_0 rfl (lv_at hl 0 rfl) ?_
  refine xi_const hC d_Ranking_clear_1 ?_
  refine pf_Ranking_17 hC hK hP hS hst d_Ranking_clear_2 (fun H locs hP hS => ?_)
  obtain ⟨M_1, eM_1⟩ : ∃ y : Mem, y = up M0 8 1 0 := ⟨_, rfl⟩
  rw [← eM_1] at hP
  have h := h M_1 eM_1
  exact xr_v hC hr hlocks hK hP hS h d_Ranking_clear_5
set_option maxHeartbeats 4000000 in
theorem s_Edge_comesToACornerTwice_14 {p : Program} {l : Launch} {e : Env} {s : State} {m : MethodId} {args : Array Value} {below : List Frame} {meth : Method} {c : Code} {D : va_G} {g : Nat → ClassId} {b sz : Nat} (hC : Cx p m c b_Edge_comesToACornerTwice 3 s args "EdgeJoins$Edge") (hr : meth.sig.returnType = some .boolean) (hlocks : meth.locks = false) (hK : va_K D classes (tyG g) s) (hst : sC (rA b 174 sz) s s.heap) (hz : sz ≤ s.heap.size) {M0 : Mem} {H : Heap} (hP : va_P D classes (wsG b 174 (cellC b g) M0) H) (hS : va_S (rA b 174 sz) s.heap H []) (hH : H = s.heap) {k0 : Nat} (hk0 : isE k0) {Post : Int → Prop} {X2 : Int → Prop} (hX2 : ∀ (x1 : Int) (ls : Array Slot), X2 x1 → lv_has ls 3 [(0, .ref (b + k0)), (1, iv x1)] → W p l e ({ frames := 0, cells := 0, slots := 0, locals := 0 }) s m args below meth c H [] 0 0 (MQ below (QP Post) args s 0 0 nil_) (F0 m 2 ls [])) : ∀ (n : Nat) (x1 x2 : Int) (ls : Array Slot), wp_Edge_comesToACornerTwice_14 X2 k0 M0 Post n x1 x2 → lv_has ls 3 [(0, .ref (b + k0)), (1, iv x1), (2, iv x2)] → W p l e ({ frames := 0, cells := 0, slots := 0, locals := 0 }) s m args below meth c H [] 0 0 (MQ below (QP Post) args s 0 0 nil_) (F0 m 14 ls []) := by
  intro n
  induction n with
  | zero => intro x1 x2 ls h; exact h.elim
  | succ n ih =>
  intro x1 x2 ls h hl
  simp only [wp_Edge_comesToACornerTwice_14] at h
  refine lv_iload_n hC.1 hC.2.1 d_Edge_comesToACornerTwice_14 rfl (lv_at hl 2 rfl) ?_
  refine lv_aload_n hC.1 hC.2.1 d_Edge_comesToACornerTwice_15 rfl (lv_at hl 0 rfl) ?_
  refine gf_Edge_24 hC hK hP hst hk0 d_Edge_comesToACornerTwice_16 ?_
  obtain ⟨b0, h⟩ := h
  obtain ⟨b1, h⟩ := h
  refine xi_cge hC (tgt := 60) d_Edge_comesToACornerTwice_19 (by decide) b0 b1 (fun q => ?_) (fun q => ?_)
  · have h := h.1 q
    obtain ⟨v1_1, ev1_1⟩ : ∃ y : Int, y = x1 + 1 := ⟨_, rfl⟩
    have h := h v1_1 ev1_1
    refine xi_iinc (v := v1_1) (lv' := [(1, iv v1_1), (0, .ref (b + k0)), (2, iv x2)]) hC d_Edge_comesToACornerTwice_60 hl (k := 1) rfl ev1_1 (by decide) rfl (fun ls hl => ?_)
    refine lv_goto (tgt := 2) hC.1 hC.2.1 d_Edge_comesToACornerTwice_63 (by decide) ?_
    exact hX2 _ _ h (lv_sub hl [1, 0] rfl)
  · have h := h.2 q
    refine lv_aload_n hC.1 hC.2.1 d_Edge_comesToACornerTwice_22 rfl (lv_at hl 0 rfl) ?_
    refine gf_Edge_18 hC hK hP hst hk0 d_Edge_comesToACornerTwice_23 ?_
    refine lv_iload_n hC.1 hC.2.1 d_Edge_comesToACornerTwice_26 rfl (lv_at hl 1 rfl) ?_
    obtain ⟨hi, h⟩ := h
    refine xg_ald hC hK hP (aE3 hk0) (by decide) hi d_Edge_comesToACornerTwice_27 ?_
    refine lv_aload_n hC.1 hC.2.1 d_Edge_comesToACornerTwice_28 rfl (lv_at hl 0 rfl) ?_
    refine gf_Edge_18 hC hK hP hst hk0 d_Edge_comesToACornerTwice_29 ?_
    refine lv_iload_n hC.1 hC.2.1 d_Edge_comesToACornerTwice_32 rfl (lv_at hl 2 rfl) ?_
    obtain ⟨hi, h⟩ := h
    refine xg_ald hC hK hP (aE3 hk0) (by decide) hi d_Edge_comesToACornerTwice_33 ?_
    obtain ⟨b0, h⟩ := h
    obtain ⟨b1, h⟩ := h
    refine xi_cne hC (tgt := 54) d_Edge_comesToACornerTwice_34 (by decide) b0 b1 (fun q => ?_) (fun q => ?_)
    · have h := h.1 q
      obtain ⟨v2_2, ev2_2⟩ : ∃ y : Int, y = x2 + 1 := ⟨_, rfl⟩
      have h := h v2_2 ev2_2
      refine xi_iinc (v := v2_2) (lv' := [(2, iv v2_2), (0, .ref (b + k0)), (1, iv x1)]) hC d_Edge_comesToACornerTwice_54 hl (k := 2) rfl ev2_2 (by decide) rfl (fun ls hl => ?_)
      refine lv_goto (tgt := 14) hC.1 hC.2.1 d_Edge_comesToACornerTwice_57 (by decide) ?_
      exact ih _ _ _ h (lv_sub hl [1, 2, 0] rfl)
    · have h := h.2 q
      refine lv_aload_n hC.1 hC.2.1 d_Edge_comesToACornerTwice_37 rfl (lv_at hl 0 rfl) ?_
      refine gf_Edge_21 hC hK hP hst hk0 d_Edge_comesToACornerTwice_38 ?_
      refine lv_iload_n hC.1 hC.2.1 d_Edge_comesToACornerTwice_41 rfl (lv_at hl 1 rfl) ?_
      obtain ⟨hi, h⟩ := h
      refine xg_ald hC hK hP (aE4 hk0) (by decide) hi d_Edge_comesToACornerTwice_42 ?_
      refine lv_aload_n hC.1 hC.2.1 d_Edge_comesToACornerTwice_43 rfl (lv_at hl 0 rfl) ?_
      refine gf_Edge_21 hC hK hP hst hk0 d_Edge_comesToACornerTwice_44 ?_
      refine lv_iload_n hC.1 hC.2.1 d_Edge_comesToACornerTwice_47 rfl (lv_at hl 2 rfl) ?_
      obtain ⟨hi, h⟩ := h
      refine xg_ald hC hK hP (aE4 hk0) (by decide) hi d_Edge_comesToACornerTwice_48 ?_
      obtain ⟨b0, h⟩ := h
      obtain ⟨b1, h⟩ := h
      refine xi_cne hC (tgt := 54) d_Edge_comesToACornerTwice_49 (by decide) b0 b1 (fun q => ?_) (fun q => ?_)
      · have h := h.1 q
        obtain ⟨v2_3, ev2_3⟩ : ∃ y : Int, y = x2 + 1 := ⟨_, rfl⟩
        have h := h v2_3 ev2_3
        refine xi_iinc (v := v2_3) (lv' := [(2, iv v2_3), (0, .ref (b + k0)), (1, iv x1)]) hC d_Edge_comesToACornerTwice_54 hl (k := 2) rfl ev2_3 (by decide) rfl (fun ls hl => ?_)
        refine lv_goto (tgt := 14) hC.1 hC.2.1 d_Edge_comesToACornerTwice_57 (by decide) ?_
        exact ih _ _ _ h (lv_sub hl [1, 2, 0] rfl)
      · have h := h.2 q
        refine xi_const hC d_Edge_comesToACornerTwice_52 ?_
        exact xr_zp hC hr hlocks hH (by decide) h d_Edge_comesToACornerTwice_53
set_option maxHeartbeats 4000000 in
theorem s_Edge_comesToACornerTwice_2 {p : Program} {l : Launch} {e : Env} {s : State} {m : MethodId} {args : Array Value} {below : List Frame} {meth : Method} {c : Code} {D : va_G} {g : Nat → ClassId} {b sz : Nat} (hC : Cx p m c b_Edge_comesToACornerTwice 3 s args "EdgeJoins$Edge") (hr : meth.sig.returnType = some .boolean) (hlocks : meth.locks = false) (hK : va_K D classes (tyG g) s) (hst : sC (rA b 174 sz) s s.heap) (hz : sz ≤ s.heap.size) {M0 : Mem} {H : Heap} (hP : va_P D classes (wsG b 174 (cellC b g) M0) H) (hS : va_S (rA b 174 sz) s.heap H []) (hH : H = s.heap) {k0 : Nat} (hk0 : isE k0) {Post : Int → Prop} : ∀ (n : Nat) (x1 : Int) (ls : Array Slot), wp_Edge_comesToACornerTwice_2 k0 M0 Post n x1 → lv_has ls 3 [(0, .ref (b + k0)), (1, iv x1)] → W p l e ({ frames := 0, cells := 0, slots := 0, locals := 0 }) s m args below meth c H [] 0 0 (MQ below (QP Post) args s 0 0 nil_) (F0 m 2 ls []) := by
  intro n
  induction n with
  | zero => intro x1 ls h; exact h.elim
  | succ n ih =>
  intro x1 ls h hl
  simp only [wp_Edge_comesToACornerTwice_2] at h
  refine lv_iload_n hC.1 hC.2.1 d_Edge_comesToACornerTwice_2 rfl (lv_at hl 1 rfl) ?_
  refine lv_aload_n hC.1 hC.2.1 d_Edge_comesToACornerTwice_3 rfl (lv_at hl 0 rfl) ?_
  refine gf_Edge_24 hC hK hP hst hk0 d_Edge_comesToACornerTwice_4 ?_
  obtain ⟨b0, h⟩ := h
  obtain ⟨b1, h⟩ := h
  refine xi_cge hC (tgt := 66) d_Edge_comesToACornerTwice_7 (by decide) b0 b1 (fun q => ?_) (fun q => ?_)
  · have h := h.1 q
    refine xi_const hC d_Edge_comesToACornerTwice_66 ?_
    exact xr_zp hC hr hlocks hH (by decide) h d_Edge_comesToACornerTwice_67
  · have h := h.2 q
    refine lv_iload_n hC.1 hC.2.1 d_Edge_comesToACornerTwice_10 rfl (lv_at hl 1 rfl) ?_
    refine xi_const hC d_Edge_comesToACornerTwice_11 ?_
    refine xi_add hC d_Edge_comesToACornerTwice_12 ?_
    refine xi_top (fun v2_1 ev2_1 => ?_)
    have h := h v2_1 ev2_1
    refine lv_istore_n (lv' := [(2, iv v2_1), (0, .ref (b + k0)), (1, iv x1)]) hC.1 hC.2.1 d_Edge_comesToACornerTwice_13 rfl hl (by decide) rfl (fun ls hl => ?_)
    obtain ⟨nn, h⟩ := h
    exact s_Edge_comesToACornerTwice_14 hC hr hlocks hK hst hz hP hS hH hk0 ih nn _ _ _ h (lv_sub hl [1, 2, 0] rfl)
set_option maxHeartbeats 4000000 in
theorem c_Edge_comesToACornerTwice (l : Launch) (D : va_G) (g : Nat → ClassId) (b sz : Nat) {k0 : Nat} (hk0 : isE k0) {M0 : Mem} {Post : Int → Prop} (h : wp_Edge_comesToACornerTwice k0 M0 Post) : Met l y_Edge_comesToACornerTwice (Cond.code y_Edge_comesToACornerTwice b_Edge_comesToACornerTwice 3 (some .boolean) :: gd) ({ frames := 0, cells := 0, slots := 0, locals := 0 }) (PcG D g b 174 (cellC b g) sz M0 [.ref (b + k0)]) (QP Post) 0 0 nil_ := by
  refine xm_start (by decide) rfl (Nat.le_of_ble_eq_true rfl) ?_
  intro p e s m below meth c ls H args hC hr hlocks hK hP hst hz hS hH hl
  have hl : lv_has ls 3 [(0, .ref (b + k0))] := hl
  unfold wp_Edge_comesToACornerTwice at h
  refine xi_const hC d_Edge_comesToACornerTwice_0 ?_
  refine lv_istore_n (lv' := [(1, iv 0), (0, .ref (b + k0))]) hC.1 hC.2.1 d_Edge_comesToACornerTwice_1 rfl hl (by decide) rfl (fun ls hl => ?_)
  obtain ⟨nn, h⟩ := h
  exact s_Edge_comesToACornerTwice_2 hC hr hlocks hK hst hz hP hS hH hk0 nn _ _ h (lv_sub hl [1, 0] rfl)
set_option maxHeartbeats 4000000 in
theorem s_Edge_area_4 {p : Program} {l : Launch} {e : Env} {s : State} {m : MethodId} {args : Array Value} {below : List Frame} {meth : Method} {c : Code} {D : va_G} {g : Nat → ClassId} {b sz : Nat} (hC : Cx p m c b_Edge_area 3 s args "EdgeJoins$Edge") (hr : meth.sig.returnType = some .int) (hlocks : meth.locks = false) (hK : va_K D classes (tyG g) s) (hst : sC (rA b 174 sz) s s.heap) (hz : sz ≤ s.heap.size) {M0 : Mem} {H : Heap} (hP : va_P D classes (wsG b 174 (cellC b g) M0) H) (hS : va_S (rA b 174 sz) s.heap H []) (hH : H = s.heap) {k0 : Nat} (hk0 : isE k0) {Post : Int → Prop} : ∀ (n : Nat) (x1 x2 : Int) (ls : Array Slot), wp_Edge_area_4 k0 M0 Post n x1 x2 → lv_has ls 3 [(0, .ref (b + k0)), (1, iv x1), (2, iv x2)] → W p l e ({ frames := 0, cells := 0, slots := 0, locals := 0 }) s m args below meth c H [] 0 0 (MQ below (QP Post) args s 0 0 nil_) (F0 m 4 ls []) := by
  intro n
  induction n with
  | zero => intro x1 x2 ls h; exact h.elim
  | succ n ih =>
  intro x1 x2 ls h hl
  simp only [wp_Edge_area_4] at h
  refine lv_iload_n hC.1 hC.2.1 d_Edge_area_4 rfl (lv_at hl 2 rfl) ?_
  refine lv_aload_n hC.1 hC.2.1 d_Edge_area_5 rfl (lv_at hl 0 rfl) ?_
  refine gf_Edge_24 hC hK hP hst hk0 d_Edge_area_6 ?_
  obtain ⟨b0, h⟩ := h
  obtain ⟨b1, h⟩ := h
  refine xi_cge hC (tgt := 40) d_Edge_area_9 (by decide) b0 b1 (fun q => ?_) (fun q => ?_)
  · have h := h.1 q
    refine lv_iload_n hC.1 hC.2.1 d_Edge_area_40 rfl (lv_at hl 1 rfl) ?_
    exact xr_ip hC hr hlocks hH h d_Edge_area_41
  · have h := h.2 q
    refine lv_iload_n hC.1 hC.2.1 d_Edge_area_12 rfl (lv_at hl 1 rfl) ?_
    refine lv_aload_n hC.1 hC.2.1 d_Edge_area_13 rfl (lv_at hl 0 rfl) ?_
    refine gf_Edge_18 hC hK hP hst hk0 d_Edge_area_14 ?_
    refine lv_iload_n hC.1 hC.2.1 d_Edge_area_17 rfl (lv_at hl 2 rfl) ?_
    obtain ⟨hi, h⟩ := h
    refine xg_ald hC hK hP (aE3 hk0) (by decide) hi d_Edge_area_18 ?_
    refine gs_Edge_35 hC hst hS d_Edge_area_19 (fun t_1 ht_1 => ?_)
    refine lv_aload_n hC.1 hC.2.1 d_Edge_area_22 rfl (lv_at hl 0 rfl) ?_
    refine gf_Edge_9 hC hK hP hst hk0 d_Edge_area_23 ?_
    refine lv_iload_n hC.1 hC.2.1 d_Edge_area_26 rfl (lv_at hl 2 rfl) ?_
    obtain ⟨hi, h⟩ := h
    refine xg_ald hC hK hP (aE1 hk0) (by decide) hi d_Edge_area_27 ?_
    refine xi_const hC d_Edge_area_28 ?_
    refine xi_and3r hC d_Edge_area_29 ?_
    obtain ⟨hi, h⟩ := h
    refine xg_tald hC hS ht_1 hi d_Edge_area_30 ?_
    refine xi_mul hC d_Edge_area_31 ?_
    refine xi_add hC d_Edge_area_32 ?_
    refine xi_top (fun v1_2 ev1_2 => ?_)
    have h := h v1_2 ev1_2
    refine lv_istore_n (lv' := [(1, iv v1_2), (0, .ref (b + k0)), (2, iv x2)]) hC.1 hC.2.1 d_Edge_area_33 rfl hl (by decide) rfl (fun ls hl => ?_)
    obtain ⟨v2_3, ev2_3⟩ : ∃ y : Int, y = x2 + 1 := ⟨_, rfl⟩
    have h := h v2_3 ev2_3
    refine xi_iinc (v := v2_3) (lv' := [(2, iv v2_3), (1, iv v1_2), (0, .ref (b + k0))]) hC d_Edge_area_34 hl (k := 2) rfl ev2_3 (by decide) rfl (fun ls hl => ?_)
    refine lv_goto (tgt := 4) hC.1 hC.2.1 d_Edge_area_37 (by decide) ?_
    exact ih _ _ _ h (lv_sub hl [2, 1, 0] rfl)
set_option maxHeartbeats 4000000 in
theorem c_Edge_area (l : Launch) (D : va_G) (g : Nat → ClassId) (b sz : Nat) {k0 : Nat} (hk0 : isE k0) {M0 : Mem} {Post : Int → Prop} (h : wp_Edge_area k0 M0 Post) : Met l y_Edge_area (Cond.code y_Edge_area b_Edge_area 3 (some .int) :: gd) ({ frames := 0, cells := 0, slots := 0, locals := 0 }) (PcG D g b 174 (cellC b g) sz M0 [.ref (b + k0)]) (QP Post) 0 0 nil_ := by
  refine xm_start (by decide) rfl (Nat.le_of_ble_eq_true rfl) ?_
  intro p e s m below meth c ls H args hC hr hlocks hK hP hst hz hS hH hl
  have hl : lv_has ls 3 [(0, .ref (b + k0))] := hl
  unfold wp_Edge_area at h
  refine xi_const hC d_Edge_area_0 ?_
  refine lv_istore_n (lv' := [(1, iv 0), (0, .ref (b + k0))]) hC.1 hC.2.1 d_Edge_area_1 rfl hl (by decide) rfl (fun ls hl => ?_)
  refine xi_const hC d_Edge_area_2 ?_
  refine lv_istore_n (lv' := [(2, iv 0), (1, iv 0), (0, .ref (b + k0))]) hC.1 hC.2.1 d_Edge_area_3 rfl hl (by decide) rfl (fun ls hl => ?_)
  obtain ⟨nn, h⟩ := h
  exact s_Edge_area_4 hC hr hlocks hK hst hz hP hS hH hk0 nn _ _ _ h (lv_sub hl [2, 1, 0] rfl)
set_option maxHeartbeats 4000000 in
theorem c_Edge_canBeClosed (l : Launch) (D : va_G) (g : Nat → ClassId) (b sz : Nat) {k0 : Nat} (hk0 : isE k0) {M0 : Mem} {Post : Int → Prop} (h : wp_Edge_canBeClosed k0 M0 Post) : Met l y_Edge_canBeClosed (Cond.code y_Edge_canBeClosed b_Edge_canBeClosed 1 (some .boolean) :: gd) ({ frames := 1, cells := 0, slots := 0, locals := 22 }) (PcG D g b 174 (cellC b g) sz M0 [.ref (b + k0)]) (QP Post) 0 0 nil_ := by
  refine xm_start (by decide) rfl (Nat.le_of_ble_eq_true rfl) ?_
  intro p e s m below meth c ls H args hC hr hlocks hK hP hst hz hS hH hl
  have hl : lv_has ls 1 [(0, .ref (b + k0))] := hl
  unfold wp_Edge_canBeClosed at h
  refine lv_aload_n hC.1 hC.2.1 d_Edge_canBeClosed_0 rfl (lv_at hl 0 rfl) ?_
  refine gf_Edge_24 hC hK hP hst hk0 d_Edge_canBeClosed_1 ?_
  refine xi_const hC d_Edge_canBeClosed_4 ?_
  obtain ⟨b0, h⟩ := h
  refine xi_clt hC (tgt := 50) d_Edge_canBeClosed_5 (by decide) b0 (xl rfl) (fun q => ?_) (fun q => ?_)
  · have h := h.1 q
    refine xi_const hC d_Edge_canBeClosed_50 ?_
    exact xr_zp hC hr hlocks hH (by decide) h d_Edge_canBeClosed_51
  · have h := h.2 q
    refine lv_aload_n hC.1 hC.2.1 d_Edge_canBeClosed_8 rfl (lv_at hl 0 rfl) ?_
    refine gf_Edge_18 hC hK hP hst hk0 d_Edge_canBeClosed_9 ?_
    refine lv_aload_n hC.1 hC.2.1 d_Edge_canBeClosed_12 rfl (lv_at hl 0 rfl) ?_
    refine gf_Edge_24 hC hK hP hst hk0 d_Edge_canBeClosed_13 ?_
    obtain ⟨hi, h⟩ := h
    refine xg_ald hC hK hP (aE3 hk0) (by decide) hi d_Edge_canBeClosed_16 ?_
    obtain ⟨b0, h⟩ := h
    refine xi_ine hC (tgt := 50) d_Edge_canBeClosed_17 (by decide) b0 (fun q => ?_) (fun q => ?_)
    · have h := h.1 q
      refine xi_const hC d_Edge_canBeClosed_50 ?_
      exact xr_zp hC hr hlocks hH (by decide) h d_Edge_canBeClosed_51
    · have h := h.2 q
      refine lv_aload_n hC.1 hC.2.1 d_Edge_canBeClosed_20 rfl (lv_at hl 0 rfl) ?_
      refine gf_Edge_21 hC hK hP hst hk0 d_Edge_canBeClosed_21 ?_
      refine lv_aload_n hC.1 hC.2.1 d_Edge_canBeClosed_24 rfl (lv_at hl 0 rfl) ?_
      refine gf_Edge_24 hC hK hP hst hk0 d_Edge_canBeClosed_25 ?_
      obtain ⟨hi, h⟩ := h
      refine xg_ald hC hK hP (aE4 hk0) (by decide) hi d_Edge_canBeClosed_28 ?_
      obtain ⟨b0, h⟩ := h
      refine xi_ine hC (tgt := 50) d_Edge_canBeClosed_29 (by decide) b0 (fun q => ?_) (fun q => ?_)
      · have h := h.1 q
        refine xi_const hC d_Edge_canBeClosed_50 ?_
        exact xr_zp hC hr hlocks hH (by decide) h d_Edge_canBeClosed_51
      · have h := h.2 q
        refine lv_aload_n hC.1 hC.2.1 d_Edge_canBeClosed_32 rfl (lv_at hl 0 rfl) ?_
        refine xk_VP (As := []) (rest := []) hC hK hP hS hst hz hl.1 lk_Edge_38 rfl rfl rfl ⟨Nat.le_of_ble_eq_true rfl, Nat.le_of_ble_eq_true rfl⟩ (rc_Edge hK hP hk0) (fun sz' => c_Edge_comesToACornerTwice l D g b sz' hk0 h) d_Edge_canBeClosed_33 rfl (Nat.le_of_ble_eq_true rfl) ⟨Nat.le_of_ble_eq_true rfl, Nat.le_of_ble_eq_true rfl⟩ (fun r_1 h => ?_)
        try dsimp only at h
        obtain ⟨b0, h⟩ := h
        refine xi_ine hC (tgt := 50) d_Edge_canBeClosed_36 (by decide) b0 (fun q => ?_) (fun q => ?_)
        · have h := h.1 q
          refine xi_const hC d_Edge_canBeClosed_50 ?_
          exact xr_zp hC hr hlocks hH (by decide) h d_Edge_canBeClosed_51
        · have h := h.2 q
          refine lv_aload_n hC.1 hC.2.1 d_Edge_canBeClosed_39 rfl (lv_at hl 0 rfl) ?_
          refine xk_VP (As := []) (rest := []) hC hK hP hS hst hz hl.1 lk_Edge_42 rfl rfl rfl ⟨Nat.le_of_ble_eq_true rfl, Nat.le_of_ble_eq_true rfl⟩ (rc_Edge hK hP hk0) (fun sz' => c_Edge_area l D g b sz' hk0 h) d_Edge_canBeClosed_40 rfl (Nat.le_of_ble_eq_true rfl) ⟨Nat.le_of_ble_eq_true rfl, Nat.le_of_ble_eq_true rfl⟩ (fun r_2 h => ?_)
          try dsimp only at h
          obtain ⟨b0, h⟩ := h
          refine xi_ile hC (tgt := 50) d_Edge_canBeClosed_43 (by decide) b0 (fun q => ?_) (fun q => ?_)
          · have h := h.1 q
            refine xi_const hC d_Edge_canBeClosed_50 ?_
            exact xr_zp hC hr hlocks hH (by decide) h d_Edge_canBeClosed_51
          · have h := h.2 q
            refine xi_const hC d_Edge_canBeClosed_46 ?_
            refine lv_goto (tgt := 51) hC.1 hC.2.1 d_Edge_canBeClosed_47 (by decide) ?_
            exact xr_zp hC hr hlocks hH (by decide) h d_Edge_canBeClosed_51
set_option maxHeartbeats 4000000 in
theorem c_Edge_before (l : Launch) (D : va_G) (g : Nat → ClassId) (b sz : Nat) {k0 : Nat} (hk0 : isE k0) {x1 : Int} {M0 : Mem} {Post : Int → Prop} (h : wp_Edge_before k0 x1 M0 Post) : Met l y_Edge_before (Cond.code y_Edge_before b_Edge_before 2 (some .int) :: gd) ({ frames := 0, cells := 0, slots := 0, locals := 0 }) (PcG D g b 174 (cellC b g) sz M0 [.ref (b + k0), iv x1]) (QP Post) 0 0 nil_ := by
  refine xm_start (by decide) rfl (Nat.le_of_ble_eq_true rfl) ?_
  intro p e s m below meth c ls H args hC hr hlocks hK hP hst hz hS hH hl
  have hl : lv_has ls 2 [(0, .ref (b + k0)), (1, iv x1)] := hl
  unfold wp_Edge_before at h
  refine lv_iload_n hC.1 hC.2.1 d_Edge_before_0 rfl (lv_at hl 1 rfl) ?_
  obtain ⟨b0, h⟩ := h
  refine xi_ile hC (tgt := 10) d_Edge_before_1 (by decide) b0 (fun q => ?_) (fun q => ?_)
  · have h := h.1 q
    refine lv_aload_n hC.1 hC.2.1 d_Edge_before_10 rfl (lv_at hl 0 rfl) ?_
    refine gf_Edge_24 hC hK hP hst hk0 d_Edge_before_11 ?_
    refine xi_const hC d_Edge_before_14 ?_
    refine xi_sub hC d_Edge_before_15 ?_
    exact xr_ip hC hr hlocks hH h d_Edge_before_16
  · have h := h.2 q
    refine lv_iload_n hC.1 hC.2.1 d_Edge_before_4 rfl (lv_at hl 1 rfl) ?_
    refine xi_const hC d_Edge_before_5 ?_
    refine xi_sub hC d_Edge_before_6 ?_
    refine lv_goto (tgt := 16) hC.1 hC.2.1 d_Edge_before_7 (by decide) ?_
    exact xr_ip hC hr hlocks hH h d_Edge_before_16
set_option maxHeartbeats 4000000 in
theorem c_Edge_after (l : Launch) (D : va_G) (g : Nat → ClassId) (b sz : Nat) {k0 : Nat} (hk0 : isE k0) {x1 : Int} {M0 : Mem} {Post : Int → Prop} (h : wp_Edge_after k0 x1 M0 Post) : Met l y_Edge_after (Cond.code y_Edge_after b_Edge_after 2 (some .int) :: gd) ({ frames := 0, cells := 0, slots := 0, locals := 0 }) (PcG D g b 174 (cellC b g) sz M0 [.ref (b + k0), iv x1]) (QP Post) 0 0 nil_ := by
  refine xm_start (by decide) rfl (Nat.le_of_ble_eq_true rfl) ?_
  intro p e s m below meth c ls H args hC hr hlocks hK hP hst hz hS hH hl
  have hl : lv_has ls 2 [(0, .ref (b + k0)), (1, iv x1)] := hl
  unfold wp_Edge_after at h
  refine lv_iload_n hC.1 hC.2.1 d_Edge_after_0 rfl (lv_at hl 1 rfl) ?_
  refine xi_const hC d_Edge_after_1 ?_
  refine xi_add hC d_Edge_after_2 ?_
  refine lv_aload_n hC.1 hC.2.1 d_Edge_after_3 rfl (lv_at hl 0 rfl) ?_
  refine gf_Edge_24 hC hK hP hst hk0 d_Edge_after_4 ?_
  obtain ⟨b0, h⟩ := h
  obtain ⟨b1, h⟩ := h
  refine xi_cge hC (tgt := 16) d_Edge_after_7 (by decide) b0 b1 (fun q => ?_) (fun q => ?_)
  · have h := h.1 q
    refine xi_const hC d_Edge_after_16 ?_
    exact xr_ip hC hr hlocks hH h d_Edge_after_17
  · have h := h.2 q
    refine lv_iload_n hC.1 hC.2.1 d_Edge_after_10 rfl (lv_at hl 1 rfl) ?_
    refine xi_const hC d_Edge_after_11 ?_
    refine xi_add hC d_Edge_after_12 ?_
    refine lv_goto (tgt := 17) hC.1 hC.2.1 d_Edge_after_13 (by decide) ?_
    exact xr_ip hC hr hlocks hH h d_Edge_after_17
set_option maxHeartbeats 4000000 in
theorem c_X_contrary (l : Launch) (D : va_G) (g : Nat → ClassId) (b sz : Nat) {x0 x1 x2 : Int} {M0 : Mem} {Post : Int → Prop} (h : wp_X_contrary x0 x1 x2 M0 Post) : Met l y_X_contrary (Cond.code y_X_contrary b_X_contrary 3 (some .boolean) :: gd) ({ frames := 0, cells := 0, slots := 0, locals := 0 }) (PcG D g b 174 (cellC b g) sz M0 [iv x0, iv x1, iv x2]) (QP Post) 0 0 nil_ := by
  refine xm_start (by decide) rfl (Nat.le_of_ble_eq_true rfl) ?_
  intro p e s m below meth c ls H args hC hr hlocks hK hP hst hz hS hH hl
  have hl : lv_has ls 3 [(0, iv x0), (1, iv x1), (2, iv x2)] := hl
  unfold wp_X_contrary at h
  refine lv_iload_n hC.1 hC.2.1 d_X_contrary_0 rfl (lv_at hl 1 rfl) ?_
  refine lv_iload_n hC.1 hC.2.1 d_X_contrary_1 rfl (lv_at hl 2 rfl) ?_
  refine xi_add hC d_X_contrary_2 ?_
  refine xi_const hC d_X_contrary_3 ?_
  refine xi_and3r hC d_X_contrary_4 ?_
  refine lv_iload_n hC.1 hC.2.1 d_X_contrary_5 rfl (lv_at hl 0 rfl) ?_
  refine xi_const hC d_X_contrary_6 ?_
  refine xi_add hC d_X_contrary_7 ?_
  refine xi_const hC d_X_contrary_8 ?_
  refine xi_and3r hC d_X_contrary_9 ?_
  obtain ⟨b0, h⟩ := h
  obtain ⟨b1, h⟩ := h
  refine xi_cne hC (tgt := 17) d_X_contrary_10 (by decide) b0 b1 (fun q => ?_) (fun q => ?_)
  · have h := h.1 q
    refine xi_const hC d_X_contrary_17 ?_
    exact xr_zp hC hr hlocks hH (by decide) h d_X_contrary_18
  · have h := h.2 q
    refine xi_const hC d_X_contrary_13 ?_
    refine lv_goto (tgt := 18) hC.1 hC.2.1 d_X_contrary_14 (by decide) ?_
    exact xr_zp hC hr hlocks hH (by decide) h d_X_contrary_18
set_option maxHeartbeats 4000000 in
theorem s_X_stretch_16 {p : Program} {l : Launch} {e : Env} {s : State} {m : MethodId} {args : Array Value} {below : List Frame} {meth : Method} {c : Code} {D : va_G} {g : Nat → ClassId} {b sz : Nat} (hC : Cx p m c b_X_stretch 7 s args "EdgeJoins") (hr : meth.sig.returnType = some .int) (hlocks : meth.locks = false) (hK : va_K D classes (tyG g) s) (hst : sC (rA b 174 sz) s s.heap) (hz : sz ≤ s.heap.size) {M0 : Mem} {H : Heap} (hP : va_P D classes (wsG b 174 (cellC b g) M0) H) (hS : va_S (rA b 174 sz) s.heap H []) (hH : H = s.heap) {k0 : Nat} {k2 : Nat} (hk0 : isE k0) (hk2 : isE k2) {Post : Int → Prop} : ∀ (n : Nat) (x1 x3 x4 x5 x6 : Int) (ls : Array Slot), wp_X_stretch_16 k0 k2 M0 Post n x1 x3 x4 x5 x6 → lv_has ls 7 [(0, .ref (b + k0)), (1, iv x1), (2, .ref (b + k2)), (3, iv x3), (4, iv x4), (5, iv x5), (6, iv x6)] → W p l e ({ frames := 1, cells := 0, slots := 0, locals := 24 }) s m args below meth c H [] 0 0 (MQ below (QP Post) args s 0 0 nil_) (F0 m 16 ls []) := by
  intro n
  induction n with
  | zero => intro x1 x3 x4 x5 x6 ls h; exact h.elim
  | succ n ih =>
  intro x1 x3 x4 x5 x6 ls h hl
  simp only [wp_X_stretch_16] at h
  refine lv_iload hC.1 hC.2.1 d_X_stretch_16 (lv_at hl 6 rfl) ?_
  refine lv_iload hC.1 hC.2.1 d_X_stretch_18 (lv_at hl 5 rfl) ?_
  obtain ⟨b0, h⟩ := h
  obtain ⟨b1, h⟩ := h
  refine xi_cge hC (tgt := 61) d_X_stretch_20 (by decide) b0 b1 (fun q => ?_) (fun q => ?_)
  · have h := h.1 q
    refine lv_iload hC.1 hC.2.1 d_X_stretch_61 (lv_at hl 6 rfl) ?_
    exact xr_ip hC hr hlocks hH h d_X_stretch_63
  · have h := h.2 q
    refine lv_aload_n hC.1 hC.2.1 d_X_stretch_23 rfl (lv_at hl 0 rfl) ?_
    refine gf_X_214 hC hK hP hst hk0 d_X_stretch_24 ?_
    refine lv_iload_n hC.1 hC.2.1 d_X_stretch_27 rfl (lv_at hl 1 rfl) ?_
    obtain ⟨hi, h⟩ := h
    refine xg_ald hC hK hP (aE1 hk0) (by decide) hi d_X_stretch_28 ?_
    refine lv_aload_n hC.1 hC.2.1 d_X_stretch_29 rfl (lv_at hl 2 rfl) ?_
    refine gf_X_214 hC hK hP hst hk2 d_X_stretch_30 ?_
    refine lv_iload_n hC.1 hC.2.1 d_X_stretch_33 rfl (lv_at hl 3 rfl) ?_
    obtain ⟨hi, h⟩ := h
    refine xg_ald hC hK hP (aE1 hk2) (by decide) hi d_X_stretch_34 ?_
    refine lv_iload hC.1 hC.2.1 d_X_stretch_35 (lv_at hl 4 rfl) ?_
    refine xk_SP (As := [iv (M0 (k0 + 1) x1.toNat), iv (M0 (k2 + 1) x3.toNat), iv x4]) (rest := []) hC hK hP hS hst hz hl.1 lk_X_224 rfl rfl rfl ⟨Nat.le_of_ble_eq_true rfl, Nat.le_of_ble_eq_true rfl⟩ (fun sz' => c_X_contrary l D g b sz' h) d_X_stretch_37 rfl (Nat.le_of_ble_eq_true rfl) ⟨Nat.le_of_ble_eq_true rfl, Nat.le_of_ble_eq_true rfl⟩ (fun r_1 h => ?_)
    try dsimp only at h
    obtain ⟨b0, h⟩ := h
    refine xi_ieq hC (tgt := 61) d_X_stretch_40 (by decide) b0 (fun q => ?_) (fun q => ?_)
    · have h := h.1 q
      refine lv_iload hC.1 hC.2.1 d_X_stretch_61 (lv_at hl 6 rfl) ?_
      exact xr_ip hC hr hlocks hH h d_X_stretch_63
    · have h := h.2 q
      obtain ⟨v6_2, ev6_2⟩ : ∃ y : Int, y = x6 + 1 := ⟨_, rfl⟩
      have h := h v6_2 ev6_2
      refine xi_iinc (v := v6_2) (lv' := [(6, iv v6_2), (0, .ref (b + k0)), (1, iv x1), (2, .ref (b + k2)), (3, iv x3), (4, iv x4), (5, iv x5)]) hC d_X_stretch_43 hl (k := 6) rfl ev6_2 (by decide) rfl (fun ls hl => ?_)
      refine lv_aload_n hC.1 hC.2.1 d_X_stretch_46 rfl (lv_at hl 1 rfl) ?_
      refine lv_iload_n hC.1 hC.2.1 d_X_stretch_47 rfl (lv_at hl 2 rfl) ?_
      refine xk_VP (As := [iv x1]) (rest := []) hC hK hP hS hst hz hl.1 lk_X_221 rfl rfl rfl ⟨Nat.le_of_ble_eq_true rfl, Nat.le_of_ble_eq_true rfl⟩ (rc_Edge hK hP hk0) (fun sz' => c_Edge_after l D g b sz' hk0 h) d_X_stretch_48 rfl (Nat.le_of_ble_eq_true rfl) ⟨Nat.le_of_ble_eq_true rfl, Nat.le_of_ble_eq_true rfl⟩ (fun r_3 h => ?_)
      try dsimp only at h
      refine lv_istore_n (lv' := [(1, iv r_3), (6, iv v6_2), (0, .ref (b + k0)), (2, .ref (b + k2)), (3, iv x3), (4, iv x4), (5, iv x5)]) hC.1 hC.2.1 d_X_stretch_51 rfl hl (by decide) rfl (fun ls hl => ?_)
      refine lv_aload_n hC.1 hC.2.1 d_X_stretch_52 rfl (lv_at hl 3 rfl) ?_
      refine lv_iload_n hC.1 hC.2.1 d_X_stretch_53 rfl (lv_at hl 4 rfl) ?_
      refine xk_VP (As := [iv x3]) (rest := []) hC hK hP hS hst hz hl.1 lk_X_217 rfl rfl rfl ⟨Nat.le_of_ble_eq_true rfl, Nat.le_of_ble_eq_true rfl⟩ (rc_Edge hK hP hk2) (fun sz' => c_Edge_before l D g b sz' hk2 h) d_X_stretch_54 rfl (Nat.le_of_ble_eq_true rfl) ⟨Nat.le_of_ble_eq_true rfl, Nat.le_of_ble_eq_true rfl⟩ (fun r_4 h => ?_)
      try dsimp only at h
      refine lv_istore_n (lv' := [(3, iv r_4), (1, iv r_3), (6, iv v6_2), (0, .ref (b + k0)), (2, .ref (b + k2)), (4, iv x4), (5, iv x5)]) hC.1 hC.2.1 d_X_stretch_57 rfl hl (by decide) rfl (fun ls hl => ?_)
      refine lv_goto (tgt := 16) hC.1 hC.2.1 d_X_stretch_58 (by decide) ?_
      exact ih _ _ _ _ _ _ h (lv_sub hl [3, 1, 4, 0, 5, 6, 2] rfl)
set_option maxHeartbeats 4000000 in
theorem c_X_stretch (l : Launch) (D : va_G) (g : Nat → ClassId) (b sz : Nat) {k0 : Nat} {k2 : Nat} (hk0 : isE k0) (hk2 : isE k2) {x1 x3 x4 : Int} {M0 : Mem} {Post : Int → Prop} (h : wp_X_stretch k0 k2 x1 x3 x4 M0 Post) : Met l y_X_stretch (Cond.code y_X_stretch b_X_stretch 7 (some .int) :: gd) ({ frames := 1, cells := 0, slots := 0, locals := 24 }) (PcG D g b 174 (cellC b g) sz M0 [.ref (b + k0), iv x1, .ref (b + k2), iv x3, iv x4]) (QP Post) 0 0 nil_ := by
  refine xm_start (by decide) rfl (Nat.le_of_ble_eq_true rfl) ?_
  intro p e s m below meth c ls H args hC hr hlocks hK hP hst hz hS hH hl
  have hl : lv_has ls 7 [(0, .ref (b + k0)), (1, iv x1), (2, .ref (b + k2)), (3, iv x3), (4, iv x4)] := hl
  unfold wp_X_stretch at h
  refine lv_aload_n hC.1 hC.2.1 d_X_stretch_0 rfl (lv_at hl 0 rfl) ?_
  refine gf_X_72 hC hK hP hst hk0 d_X_stretch_1 ?_
  refine lv_aload_n hC.1 hC.2.1 d_X_stretch_4 rfl (lv_at hl 2 rfl) ?_
  refine gf_X_72 hC hK hP hst hk2 d_X_stretch_5 ?_
  obtain ⟨b0, h⟩ := h
  obtain ⟨b1, h⟩ := h
  refine xi_min hC lm_X_239 hl.1 (Nat.le_of_ble_eq_true rfl) (Nat.le_of_ble_eq_true rfl) (Nat.le_of_ble_eq_true rfl) (Nat.le_of_ble_eq_true rfl) b0 b1 d_X_stretch_8 ?_
  refine xi_top (fun v5_1 ev5_1 => ?_)
  have h := h v5_1 ev5_1
  refine lv_istore (lv' := [(5, iv v5_1), (0, .ref (b + k0)), (1, iv x1), (2, .ref (b + k2)), (3, iv x3), (4, iv x4)]) hC.1 hC.2.1 d_X_stretch_11 hl (by decide) rfl (fun ls hl => ?_)
  refine xi_const hC d_X_stretch_13 ?_
  refine lv_istore (lv' := [(6, iv 0), (5, iv v5_1), (0, .ref (b + k0)), (1, iv x1), (2, .ref (b + k2)), (3, iv x3), (4, iv x4)]) hC.1 hC.2.1 d_X_stretch_14 hl (by decide) rfl (fun ls hl => ?_)
  obtain ⟨nn, h⟩ := h
  exact s_X_stretch_16 hC hr hlocks hK hst hz hP hS hH hk0 hk2 nn _ _ _ _ _ _ h (lv_sub hl [2, 3, 4, 5, 6, 1, 0] rfl)
set_option maxHeartbeats 4000000 in
theorem s_X_squares_6 {p : Program} {l : Launch} {e : Env} {s : State} {m : MethodId} {args : Array Value} {below : List Frame} {meth : Method} {c : Code} {D : va_G} {g : Nat → ClassId} {b sz : Nat} (hC : Cx p m c b_X_squares 8 s args "EdgeJoins") (hr : meth.sig.returnType = some .int) (hlocks : meth.locks = false) (hK : va_K D classes (tyG g) s) (hst : sC (rA b 174 sz) s s.heap) (hz : sz ≤ s.heap.size) {M0 : Mem} {H : Heap} (hP : va_P D classes (wsG b 174 (cellC b g) M0) H) (hS : va_S (rA b 174 sz) s.heap H []) (hH : H = s.heap) {k0 : Nat} {k2 : Nat} (hk0 : isE k0) (hk2 : isE k2) {Post : Int → Prop} : ∀ (n : Nat) (x1 x3 x4 x5 x6 : Int) (ls : Array Slot), wp_X_squares_6 k0 k2 M0 Post n x1 x3 x4 x5 x6 → lv_has ls 8 [(0, .ref (b + k0)), (1, iv x1), (2, .ref (b + k2)), (3, iv x3), (4, iv x4), (5, iv x5), (6, iv x6)] → W p l e ({ frames := 1, cells := 0, slots := 0, locals := 21 }) s m args below meth c H [] 0 0 (MQ below (QP Post) args s 0 0 nil_) (F0 m 6 ls []) := by
  intro n
  induction n with
  | zero => intro x1 x3 x4 x5 x6 ls h; exact h.elim
  | succ n ih =>
  intro x1 x3 x4 x5 x6 ls h hl
  simp only [wp_X_squares_6] at h
  refine lv_iload hC.1 hC.2.1 d_X_squares_6 (lv_at hl 6 rfl) ?_
  refine lv_iload hC.1 hC.2.1 d_X_squares_8 (lv_at hl 4 rfl) ?_
  obtain ⟨b0, h⟩ := h
  obtain ⟨b1, h⟩ := h
  refine xi_cge hC (tgt := 56) d_X_squares_10 (by decide) b0 b1 (fun q => ?_) (fun q => ?_)
  · have h := h.1 q
    refine lv_iload hC.1 hC.2.1 d_X_squares_56 (lv_at hl 5 rfl) ?_
    exact xr_ip hC hr hlocks hH h d_X_squares_58
  · have h := h.2 q
    refine lv_aload_n hC.1 hC.2.1 d_X_squares_13 rfl (lv_at hl 0 rfl) ?_
    refine gf_X_93 hC hK hP hst hk0 d_X_squares_14 ?_
    refine lv_iload_n hC.1 hC.2.1 d_X_squares_17 rfl (lv_at hl 1 rfl) ?_
    obtain ⟨hi, h⟩ := h
    refine xg_ald hC hK hP (aE2 hk0) (by decide) hi d_X_squares_18 ?_
    refine lv_aload_n hC.1 hC.2.1 d_X_squares_19 rfl (lv_at hl 2 rfl) ?_
    refine gf_X_93 hC hK hP hst hk2 d_X_squares_20 ?_
    refine lv_iload_n hC.1 hC.2.1 d_X_squares_23 rfl (lv_at hl 3 rfl) ?_
    obtain ⟨hi, h⟩ := h
    refine xg_ald hC hK hP (aE2 hk2) (by decide) hi d_X_squares_24 ?_
    refine xi_sub hC d_X_squares_25 ?_
    refine xi_top (fun v7_1 ev7_1 => ?_)
    have h := h v7_1 ev7_1
    refine lv_istore (lv' := [(7, iv v7_1), (0, .ref (b + k0)), (1, iv x1), (2, .ref (b + k2)), (3, iv x3), (4, iv x4), (5, iv x5), (6, iv x6)]) hC.1 hC.2.1 d_X_squares_26 hl (by decide) rfl (fun ls hl => ?_)
    refine lv_iload hC.1 hC.2.1 d_X_squares_28 (lv_at hl 6 rfl) ?_
    refine lv_iload hC.1 hC.2.1 d_X_squares_30 (lv_at hl 0 rfl) ?_
    refine lv_iload hC.1 hC.2.1 d_X_squares_32 (lv_at hl 0 rfl) ?_
    refine xi_mul hC d_X_squares_34 ?_
    refine xi_add hC d_X_squares_35 ?_
    refine xi_top (fun v5_2 ev5_2 => ?_)
    have h := h v5_2 ev5_2
    refine lv_istore (lv' := [(5, iv v5_2), (7, iv v7_1), (0, .ref (b + k0)), (1, iv x1), (2, .ref (b + k2)), (3, iv x3), (4, iv x4), (6, iv x6)]) hC.1 hC.2.1 d_X_squares_36 hl (by decide) rfl (fun ls hl => ?_)
    refine lv_aload_n hC.1 hC.2.1 d_X_squares_38 rfl (lv_at hl 2 rfl) ?_
    refine lv_iload_n hC.1 hC.2.1 d_X_squares_39 rfl (lv_at hl 3 rfl) ?_
    refine xk_VP (As := [iv x1]) (rest := []) hC hK hP hS hst hz hl.1 lk_X_221 rfl rfl rfl ⟨Nat.le_of_ble_eq_true rfl, Nat.le_of_ble_eq_true rfl⟩ (rc_Edge hK hP hk0) (fun sz' => c_Edge_after l D g b sz' hk0 h) d_X_squares_40 rfl (Nat.le_of_ble_eq_true rfl) ⟨Nat.le_of_ble_eq_true rfl, Nat.le_of_ble_eq_true rfl⟩ (fun r_3 h => ?_)
    try dsimp only at h
    refine lv_istore_n (lv' := [(1, iv r_3), (5, iv v5_2), (7, iv v7_1), (0, .ref (b + k0)), (2, .ref (b + k2)), (3, iv x3), (4, iv x4), (6, iv x6)]) hC.1 hC.2.1 d_X_squares_43 rfl hl (by decide) rfl (fun ls hl => ?_)
    refine lv_aload_n hC.1 hC.2.1 d_X_squares_44 rfl (lv_at hl 4 rfl) ?_
    refine lv_iload_n hC.1 hC.2.1 d_X_squares_45 rfl (lv_at hl 5 rfl) ?_
    refine xk_VP (As := [iv x3]) (rest := []) hC hK hP hS hst hz hl.1 lk_X_217 rfl rfl rfl ⟨Nat.le_of_ble_eq_true rfl, Nat.le_of_ble_eq_true rfl⟩ (rc_Edge hK hP hk2) (fun sz' => c_Edge_before l D g b sz' hk2 h) d_X_squares_46 rfl (Nat.le_of_ble_eq_true rfl) ⟨Nat.le_of_ble_eq_true rfl, Nat.le_of_ble_eq_true rfl⟩ (fun r_4 h => ?_)
    try dsimp only at h
    refine lv_istore_n (lv' := [(3, iv r_4), (1, iv r_3), (5, iv v5_2), (7, iv v7_1), (0, .ref (b + k0)), (2, .ref (b + k2)), (4, iv x4), (6, iv x6)]) hC.1 hC.2.1 d_X_squares_49 rfl hl (by decide) rfl (fun ls hl => ?_)
    obtain ⟨v6_5, ev6_5⟩ : ∃ y : Int, y = x6 + 1 := ⟨_, rfl⟩
    have h := h v6_5 ev6_5
    refine xi_iinc (v := v6_5) (lv' := [(6, iv v6_5), (3, iv r_4), (1, iv r_3), (5, iv v5_2), (7, iv v7_1), (0, .ref (b + k0)), (2, .ref (b + k2)), (4, iv x4)]) hC d_X_squares_50 hl (k := 7) rfl ev6_5 (by decide) rfl (fun ls hl => ?_)
    refine lv_goto (tgt := 6) hC.1 hC.2.1 d_X_squares_53 (by decide) ?_
    exact ih _ _ _ _ _ _ h (lv_sub hl [5, 2, 6, 1, 7, 3, 0] rfl)
set_option maxHeartbeats 4000000 in
theorem c_X_squares (l : Launch) (D : va_G) (g : Nat → ClassId) (b sz : Nat) {k0 : Nat} {k2 : Nat} (hk0 : isE k0) (hk2 : isE k2) {x1 x3 x4 : Int} {M0 : Mem} {Post : Int → Prop} (h : wp_X_squares k0 k2 x1 x3 x4 M0 Post) : Met l y_X_squares (Cond.code y_X_squares b_X_squares 8 (some .int) :: gd) ({ frames := 1, cells := 0, slots := 0, locals := 21 }) (PcG D g b 174 (cellC b g) sz M0 [.ref (b + k0), iv x1, .ref (b + k2), iv x3, iv x4]) (QP Post) 0 0 nil_ := by
  refine xm_start (by decide) rfl (Nat.le_of_ble_eq_true rfl) ?_
  intro p e s m below meth c ls H args hC hr hlocks hK hP hst hz hS hH hl
  have hl : lv_has ls 8 [(0, .ref (b + k0)), (1, iv x1), (2, .ref (b + k2)), (3, iv x3), (4, iv x4)] := hl
  unfold wp_X_squares at h
  refine xi_const hC d_X_squares_0 ?_
  refine lv_istore (lv' := [(5, iv 0), (0, .ref (b + k0)), (1, iv x1), (2, .ref (b + k2)), (3, iv x3), (4, iv x4)]) hC.1 hC.2.1 d_X_squares_1 hl (by decide) rfl (fun ls hl => ?_)
  refine xi_const hC d_X_squares_3 ?_
  refine lv_istore (lv' := [(6, iv 0), (5, iv 0), (0, .ref (b + k0)), (1, iv x1), (2, .ref (b + k2)), (3, iv x3), (4, iv x4)]) hC.1 hC.2.1 d_X_squares_4 hl (by decide) rfl (fun ls hl => ?_)
  obtain ⟨nn, h⟩ := h
  exact s_X_squares_6 hC hr hlocks hK hst hz hP hS hH hk0 hk2 nn _ _ _ _ _ _ h (lv_sub hl [2, 3, 4, 5, 6, 1, 0] rfl)
