set_option maxHeartbeats 4000000 in
theorem c_Pair_become (l : Launch) (D : va_G) (g : Nat → ClassId) (b sz : Nat) {k0 : Nat} (hk0 : isP k0) {x1 x2 x3 x4 x5 x6 x7 : Int} {M0 : Mem} {Post : Mem → Prop} (h : wp_Pair_become k0 x1 x2 x3 x4 x5 x6 x7 M0 Post) : Met l y_Pair_become (Cond.code y_Pair_become b_Pair_become 8 (none) :: gd) ({ frames := 0, cells := 0, slots := 0, locals := 0 }) (PcG D g b 174 (cellC b g) sz M0 [.ref (b + k0), iv x1, iv x2, iv x3, iv x4, iv x5, iv x6, iv x7]) (QV D g b 174 (cellC b g) sz Post) 0 0 (rA b 174 sz) := by
  refine xm_start (by decide) rfl (Nat.le_of_ble_eq_true rfl) ?_
  intro p e s m below meth c ls H args hC hr hlocks hK hP hst hz hS hH hl
  have hl : lv_has ls 8 [(0, .ref (b + k0)), (1, iv x1), (2, iv x2), (3, iv x3), (4, iv x4), (5, iv x5), (6, iv x6), (7, iv x7)] := hl
  unfold wp_Pair_become at h
  refine lv_aload_n hC.1 hC.2.1 d_Pair_become_0 rfl (lv_at hl 0 rfl) ?_
  refine lv_iload_n hC.1 hC.2.1 d_Pair_become_1 rfl (lv_at hl 1 rfl) ?_
  refine pf_Pair_7 hC hK hP hS hst hk0 d_Pair_become_2 (fun H locs hP hS => ?_)
  obtain ⟨M_1, eM_1⟩ : ∃ y : Mem, y = up M0 k0 0 x1 := ⟨_, rfl⟩
  rw [← eM_1] at hP
  have h := h M_1 eM_1
  refine lv_aload_n hC.1 hC.2.1 d_Pair_become_5 rfl (lv_at hl 0 rfl) ?_
  refine lv_iload_n hC.1 hC.2.1 d_Pair_become_6 rfl (lv_at hl 2 rfl) ?_
  refine pf_Pair_13 hC hK hP hS hst hk0 d_Pair_become_7 (fun H locs hP hS => ?_)
  obtain ⟨M_2, eM_2⟩ : ∃ y : Mem, y = up M_1 k0 1 x2 := ⟨_, rfl⟩
  rw [← eM_2] at hP
  have h := h M_2 eM_2
  refine lv_aload_n hC.1 hC.2.1 d_Pair_become_10 rfl (lv_at hl 0 rfl) ?_
  refine lv_iload_n hC.1 hC.2.1 d_Pair_become_11 rfl (lv_at hl 3 rfl) ?_
  refine pf_Pair_16 hC hK hP hS hst hk0 d_Pair_become_12 (fun H locs hP hS => ?_)
  obtain ⟨M_3, eM_3⟩ : ∃ y : Mem, y = up M_2 k0 2 x3 := ⟨_, rfl⟩
  rw [← eM_3] at hP
  have h := h M_3 eM_3
  refine lv_aload_n hC.1 hC.2.1 d_Pair_become_15 rfl (lv_at hl 0 rfl) ?_
  refine lv_iload hC.1 hC.2.1 d_Pair_become_16 (lv_at hl 4 rfl) ?_
  refine pf_Pair_19 hC hK hP hS hst hk0 d_Pair_become_18 (fun H locs hP hS => ?_)
  obtain ⟨M_4, eM_4⟩ : ∃ y : Mem, y = up M_3 k0 3 x4 := ⟨_, rfl⟩
  rw [← eM_4] at hP
  have h := h M_4 eM_4
  refine lv_aload_n hC.1 hC.2.1 d_Pair_become_21 rfl (lv_at hl 0 rfl) ?_
  refine lv_iload hC.1 hC.2.1 d_Pair_become_22 (lv_at hl 5 rfl) ?_
  refine pf_Pair_22 hC hK hP hS hst hk0 d_Pair_become_24 (fun H locs hP hS => ?_)
  obtain ⟨M_5, eM_5⟩ : ∃ y : Mem, y = up M_4 k0 4 x5 := ⟨_, rfl⟩
  rw [← eM_5] at hP
  have h := h M_5 eM_5
  refine lv_aload_n hC.1 hC.2.1 d_Pair_become_27 rfl (lv_at hl 0 rfl) ?_
  refine lv_iload hC.1 hC.2.1 d_Pair_become_28 (lv_at hl 6 rfl) ?_
  refine pf_Pair_25 hC hK hP hS hst hk0 d_Pair_become_30 (fun H locs hP hS => ?_)
  obtain ⟨M_6, eM_6⟩ : ∃ y : Mem, y = up M_5 k0 5 x6 := ⟨_, rfl⟩
  rw [← eM_6] at hP
  have h := h M_6 eM_6
  refine lv_aload_n hC.1 hC.2.1 d_Pair_become_33 rfl (lv_at hl 0 rfl) ?_
  refine lv_iload hC.1 hC.2.1 d_Pair_become_34 (lv_at hl 7 rfl) ?_
  refine pf_Pair_28 hC hK hP hS hst hk0 d_Pair_become_36 (fun H locs hP hS => ?_)
  obtain ⟨M_7, eM_7⟩ : ∃ y : Mem, y = up M_6 k0 6 x7 := ⟨_, rfl⟩
  rw [← eM_7] at hP
  have h := h M_7 eM_7
  exact xr_v hC hr hlocks hK hP hS h d_Pair_become_39
set_option maxHeartbeats 4000000 in
theorem c_Pair_ranksAhead (l : Launch) (D : va_G) (g : Nat → ClassId) (b sz : Nat) {k0 : Nat} {k1 : Nat} (hk0 : isP k0) (hk1 : isP k1) {M0 : Mem} {Post : Int → Prop} (h : wp_Pair_ranksAhead k0 k1 M0 Post) : Met l y_Pair_ranksAhead (Cond.code y_Pair_ranksAhead b_Pair_ranksAhead 4 (some .boolean) :: gd) ({ frames := 0, cells := 0, slots := 0, locals := 0 }) (PcG D g b 174 (cellC b g) sz M0 [.ref (b + k0), .ref (b + k1)]) (QP Post) 0 0 nil_ := by
  refine xm_start (by decide) rfl (Nat.le_of_ble_eq_true rfl) ?_
  intro p e s m below meth c ls H args hC hr hlocks hK hP hst hz hS hH hl
  have hl : lv_has ls 4 [(0, .ref (b + k0)), (1, .ref (b + k1))] := hl
  unfold wp_Pair_ranksAhead at h
  refine lv_aload_n hC.1 hC.2.1 d_Pair_ranksAhead_0 rfl (lv_at hl 0 rfl) ?_
  refine gf_Pair_25 hC hK hP hst hk0 d_Pair_ranksAhead_1 ?_
  refine lv_aload_n hC.1 hC.2.1 d_Pair_ranksAhead_4 rfl (lv_at hl 1 rfl) ?_
  refine gf_Pair_22 hC hK hP hst hk1 d_Pair_ranksAhead_5 ?_
  refine xi_mul hC d_Pair_ranksAhead_8 ?_
  refine xi_top (fun v2_1 ev2_1 => ?_)
  have h := h v2_1 ev2_1
  refine lv_istore_n (lv' := [(2, iv v2_1), (0, .ref (b + k0)), (1, .ref (b + k1))]) hC.1 hC.2.1 d_Pair_ranksAhead_9 rfl hl (by decide) rfl (fun ls hl => ?_)
  refine lv_aload_n hC.1 hC.2.1 d_Pair_ranksAhead_10 rfl (lv_at hl 2 rfl) ?_
  refine gf_Pair_25 hC hK hP hst hk1 d_Pair_ranksAhead_11 ?_
  refine lv_aload_n hC.1 hC.2.1 d_Pair_ranksAhead_14 rfl (lv_at hl 1 rfl) ?_
  refine gf_Pair_22 hC hK hP hst hk0 d_Pair_ranksAhead_15 ?_
  refine xi_mul hC d_Pair_ranksAhead_18 ?_
  refine xi_top (fun v3_2 ev3_2 => ?_)
  have h := h v3_2 ev3_2
  refine lv_istore_n (lv' := [(3, iv v3_2), (2, iv v2_1), (0, .ref (b + k0)), (1, .ref (b + k1))]) hC.1 hC.2.1 d_Pair_ranksAhead_19 rfl hl (by decide) rfl (fun ls hl => ?_)
  refine lv_iload_n hC.1 hC.2.1 d_Pair_ranksAhead_20 rfl (lv_at hl 1 rfl) ?_
  refine lv_iload_n hC.1 hC.2.1 d_Pair_ranksAhead_21 rfl (lv_at hl 0 rfl) ?_
  obtain ⟨b0, h⟩ := h
  obtain ⟨b1, h⟩ := h
  refine xi_ceq hC (tgt := 38) d_Pair_ranksAhead_22 (by decide) b0 b1 (fun q => ?_) (fun q => ?_)
  · have h := h.1 q
    refine lv_aload_n hC.1 hC.2.1 d_Pair_ranksAhead_38 rfl (lv_at hl 2 rfl) ?_
    refine gf_Pair_22 hC hK hP hst hk0 d_Pair_ranksAhead_39 ?_
    refine lv_aload_n hC.1 hC.2.1 d_Pair_ranksAhead_42 rfl (lv_at hl 3 rfl) ?_
    refine gf_Pair_22 hC hK hP hst hk1 d_Pair_ranksAhead_43 ?_
    obtain ⟨b0, h⟩ := h
    obtain ⟨b1, h⟩ := h
    refine xi_cle hC (tgt := 53) d_Pair_ranksAhead_46 (by decide) b0 b1 (fun q => ?_) (fun q => ?_)
    · have h := h.1 q
      refine xi_const hC d_Pair_ranksAhead_53 ?_
      exact xr_zp hC hr hlocks hH (by decide) h d_Pair_ranksAhead_54
    · have h := h.2 q
      refine xi_const hC d_Pair_ranksAhead_49 ?_
      refine lv_goto (tgt := 54) hC.1 hC.2.1 d_Pair_ranksAhead_50 (by decide) ?_
      exact xr_zp hC hr hlocks hH (by decide) h d_Pair_ranksAhead_54
  · have h := h.2 q
    refine lv_iload_n hC.1 hC.2.1 d_Pair_ranksAhead_25 rfl (lv_at hl 1 rfl) ?_
    refine lv_iload_n hC.1 hC.2.1 d_Pair_ranksAhead_26 rfl (lv_at hl 0 rfl) ?_
    obtain ⟨b0, h⟩ := h
    obtain ⟨b1, h⟩ := h
    refine xi_cge hC (tgt := 34) d_Pair_ranksAhead_27 (by decide) b0 b1 (fun q => ?_) (fun q => ?_)
    · have h := h.1 q
      refine xi_const hC d_Pair_ranksAhead_34 ?_
      refine lv_goto (tgt := 54) hC.1 hC.2.1 d_Pair_ranksAhead_35 (by decide) ?_
      exact xr_zp hC hr hlocks hH (by decide) h d_Pair_ranksAhead_54
    · have h := h.2 q
      refine xi_const hC d_Pair_ranksAhead_30 ?_
      refine lv_goto (tgt := 54) hC.1 hC.2.1 d_Pair_ranksAhead_31 (by decide) ?_
      exact xr_zp hC hr hlocks hH (by decide) h d_Pair_ranksAhead_54
set_option maxHeartbeats 4000000 in
theorem s_Ranking_offer_77 {p : Program} {l : Launch} {e : Env} {s : State} {m : MethodId} {args : Array Value} {below : List Frame} {meth : Method} {c : Code} {D : va_G} {g : Nat → ClassId} {b sz : Nat} (hC : Cx p m c b_Ranking_offer 10 s args "EdgeJoins$Ranking") (hr : meth.sig.returnType = none) (hlocks : meth.locks = false) (hK : va_K D classes (tyG g) s) (hst : sC (rA b 174 sz) s s.heap) (hz : sz ≤ s.heap.size) {k8 : Nat} (hk8 : isP k8) {Post : Mem → Prop} : ∀ (x9 : Int) (M0 : Mem) (H : Heap) (locs : List Loc) (ls : Array Slot), wp_Ranking_offer_77 k8 x9 M0 Post → va_P D classes (wsG b 174 (cellC b g) M0) H → va_S (rA b 174 sz) s.heap H locs → lv_has ls 10 [(0, .ref (b + 8)), (8, .ref (b + k8)), (9, iv x9)] → W p l e ({ frames := 1, cells := 0, slots := 0, locals := 27 }) s m args below meth c H locs 0 0 (MQ below (QV D g b 174 (cellC b g) sz Post) args s 0 0 (rA b 174 sz)) (F0 m 77 ls []) := by
  intro x9 M0 H locs ls h hP hS hl
  unfold wp_Ranking_offer_77 at h
  refine lv_aload_n hC.1 hC.2.1 d_Ranking_offer_77 rfl (lv_at hl 0 rfl) ?_
  refine gf_Ranking_11 hC hK hP hst d_Ranking_offer_78 ?_
  refine lv_iload hC.1 hC.2.1 d_Ranking_offer_81 (lv_at hl 2 rfl) ?_
  refine lv_aload hC.1 hC.2.1 d_Ranking_offer_83 (lv_at hl 1 rfl) ?_
  obtain ⟨hi, h⟩ := h
  refine as_PairArr hC hK hP hS hi hk8 d_Ranking_offer_85 (fun H locs hP hS => ?_)
  obtain ⟨M_1, eM_1⟩ : ∃ y : Mem, y = up M0 9 x9.toNat ((k8 : Nat) - 10 : Int) := ⟨_, rfl⟩
  rw [← eM_1] at hP
  have h := h M_1 eM_1
  refine lv_aload_n hC.1 hC.2.1 d_Ranking_offer_86 rfl (lv_at hl 0 rfl) ?_
  refine gf_Ranking_17 hC hK hP hst d_Ranking_offer_87 ?_
  refine xi_bipush hC d_Ranking_offer_90 (by decide) ?_
  obtain ⟨b0, h⟩ := h
  refine xi_cge hC (tgt := 105) d_Ranking_offer_92 (by decide) b0 (xl rfl) (fun q => ?_) (fun q => ?_)
  · have h := h.1 q
    exact xr_v hC hr hlocks hK hP hS h d_Ranking_offer_105
  · have h := h.2 q
    refine lv_aload_n hC.1 hC.2.1 d_Ranking_offer_95 rfl (lv_at hl 0 rfl) ?_
    refine lv_dup hC.1 hC.2.1 d_Ranking_offer_96 rfl ?_
    refine gf_Ranking_17 hC hK hP hst d_Ranking_offer_97 ?_
    refine xi_const hC d_Ranking_offer_100 ?_
    refine xi_add hC d_Ranking_offer_101 ?_
    refine pf_Ranking_17 hC hK hP hS hst d_Ranking_offer_102 (fun H locs hP hS => ?_)
    obtain ⟨M_2, eM_2⟩ : ∃ y : Mem, y = up M_1 8 1 ((M_1 8 1) + 1) := ⟨_, rfl⟩
    rw [← eM_2] at hP
    have h := h M_2 eM_2
    exact xr_v hC hr hlocks hK hP hS h d_Ranking_offer_105
set_option maxHeartbeats 4000000 in
theorem s_Ranking_offer_33 {p : Program} {l : Launch} {e : Env} {s : State} {m : MethodId} {args : Array Value} {below : List Frame} {meth : Method} {c : Code} {D : va_G} {g : Nat → ClassId} {b sz : Nat} (hC : Cx p m c b_Ranking_offer 10 s args "EdgeJoins$Ranking") (hr : meth.sig.returnType = none) (hlocks : meth.locks = false) (hK : va_K D classes (tyG g) s) (hst : sC (rA b 174 sz) s s.heap) (hz : sz ≤ s.heap.size) {k8 : Nat} (hk8 : isP k8) {Post : Mem → Prop} : ∀ (n : Nat) (x9 : Int) (M0 : Mem) (H : Heap) (locs : List Loc) (ls : Array Slot), wp_Ranking_offer_33 k8 Post n x9 M0 → va_P D classes (wsG b 174 (cellC b g) M0) H → va_S (rA b 174 sz) s.heap H locs → lv_has ls 10 [(0, .ref (b + 8)), (8, .ref (b + k8)), (9, iv x9)] → W p l e ({ frames := 1, cells := 0, slots := 0, locals := 27 }) s m args below meth c H locs 0 0 (MQ below (QV D g b 174 (cellC b g) sz Post) args s 0 0 (rA b 174 sz)) (F0 m 33 ls []) := by
  intro n
  induction n with
  | zero => intro x9 M0 H locs ls h; exact h.elim
  | succ n ih =>
  intro x9 M0 H locs ls h hP hS hl
  simp only [wp_Ranking_offer_33] at h
  refine lv_iload hC.1 hC.2.1 d_Ranking_offer_33 (lv_at hl 2 rfl) ?_
  obtain ⟨b0, h⟩ := h
  refine xi_ile hC (tgt := 77) d_Ranking_offer_35 (by decide) b0 (fun q => ?_) (fun q => ?_)
  · have h := h.1 q
    exact s_Ranking_offer_77 hC hr hlocks hK hst hz hk8 _ _ _ _ _ h hP hS (lv_sub hl [0, 1, 2] rfl)
  · have h := h.2 q
    refine lv_aload hC.1 hC.2.1 d_Ranking_offer_38 (lv_at hl 1 rfl) ?_
    refine lv_aload_n hC.1 hC.2.1 d_Ranking_offer_40 rfl (lv_at hl 0 rfl) ?_
    refine gf_Ranking_11 hC hK hP hst d_Ranking_offer_41 ?_
    refine lv_iload hC.1 hC.2.1 d_Ranking_offer_44 (lv_at hl 2 rfl) ?_
    refine xi_const hC d_Ranking_offer_46 ?_
    refine xi_sub hC d_Ranking_offer_47 ?_
    obtain ⟨hi, h⟩ := h
    refine al_PairArr hC hK hP hi d_Ranking_offer_48 (fun hq_1 => ?_)
    refine xk_VP (As := [.ref (b + (10 + (M0 9 (x9 - 1).toNat).toNat % 101))]) (rest := []) hC hK hP hS hst hz hl.1 lk_Ranking_26 rfl rfl rfl ⟨Nat.le_of_ble_eq_true rfl, Nat.le_of_ble_eq_true rfl⟩ (rc_Pair hK hP hk8) (fun sz' => c_Pair_ranksAhead l D g b sz' hk8 hq_1 h) d_Ranking_offer_49 rfl (Nat.le_of_ble_eq_true rfl) ⟨Nat.le_of_ble_eq_true rfl, Nat.le_of_ble_eq_true rfl⟩ (fun r_2 h => ?_)
    try dsimp only at h
    obtain ⟨b0, h⟩ := h
    refine xi_ieq hC (tgt := 77) d_Ranking_offer_52 (by decide) b0 (fun q => ?_) (fun q => ?_)
    · have h := h.1 q
      exact s_Ranking_offer_77 hC hr hlocks hK hst hz hk8 _ _ _ _ _ h hP hS (lv_sub hl [0, 1, 2] rfl)
    · have h := h.2 q
      refine lv_aload_n hC.1 hC.2.1 d_Ranking_offer_55 rfl (lv_at hl 0 rfl) ?_
      refine gf_Ranking_11 hC hK hP hst d_Ranking_offer_56 ?_
      refine lv_iload hC.1 hC.2.1 d_Ranking_offer_59 (lv_at hl 2 rfl) ?_
      refine lv_aload_n hC.1 hC.2.1 d_Ranking_offer_61 rfl (lv_at hl 0 rfl) ?_
      refine gf_Ranking_11 hC hK hP hst d_Ranking_offer_62 ?_
      refine lv_iload hC.1 hC.2.1 d_Ranking_offer_65 (lv_at hl 2 rfl) ?_
      refine xi_const hC d_Ranking_offer_67 ?_
      refine xi_sub hC d_Ranking_offer_68 ?_
      obtain ⟨hi, h⟩ := h
      refine al_PairArr hC hK hP hi d_Ranking_offer_69 (fun hq_3 => ?_)
      obtain ⟨hi, h⟩ := h
      refine as_PairArr hC hK hP hS hi hq_3 d_Ranking_offer_70 (fun H locs hP hS => ?_)
      obtain ⟨M_4, eM_4⟩ : ∃ y : Mem, y = up M0 9 x9.toNat (((10 + (M0 9 (x9 - 1).toNat).toNat % 101) : Nat) - 10 : Int) := ⟨_, rfl⟩
      rw [← eM_4] at hP
      have h := h M_4 eM_4
      obtain ⟨v9_5, ev9_5⟩ : ∃ y : Int, y = x9 + (-1) := ⟨_, rfl⟩
      have h := h v9_5 ev9_5
      refine xi_iinc (v := v9_5) (lv' := [(9, iv v9_5), (0, .ref (b + 8)), (8, .ref (b + k8))]) hC d_Ranking_offer_71 hl (k := 2) rfl ev9_5 (by decide) rfl (fun ls hl => ?_)
      refine lv_goto (tgt := 33) hC.1 hC.2.1 d_Ranking_offer_74 (by decide) ?_
      exact ih _ _ _ _ _ h hP hS (lv_sub hl [1, 2, 0] rfl)
set_option maxHeartbeats 4000000 in
theorem c_Ranking_offer (l : Launch) (D : va_G) (g : Nat → ClassId) (b sz : Nat) {x1 x2 x3 x4 x5 x6 x7 : Int} {M0 : Mem} {Post : Mem → Prop} (h : wp_Ranking_offer x1 x2 x3 x4 x5 x6 x7 M0 Post) : Met l y_Ranking_offer (Cond.code y_Ranking_offer b_Ranking_offer 10 (none) :: gd) ({ frames := 1, cells := 0, slots := 0, locals := 27 }) (PcG D g b 174 (cellC b g) sz M0 [.ref (b + 8), iv x1, iv x2, iv x3, iv x4, iv x5, iv x6, iv x7]) (QV D g b 174 (cellC b g) sz Post) 0 0 (rA b 174 sz) := by
  refine xm_start (by decide) rfl (Nat.le_of_ble_eq_true rfl) ?_
  intro p e s m below meth c ls H args hC hr hlocks hK hP hst hz hS hH hl
  have hl : lv_has ls 10 [(0, .ref (b + 8)), (1, iv x1), (2, iv x2), (3, iv x3), (4, iv x4), (5, iv x5), (6, iv x6), (7, iv x7)] := hl
  unfold wp_Ranking_offer at h
  refine lv_aload_n hC.1 hC.2.1 d_Ranking_offer_0 rfl (lv_at hl 0 rfl) ?_
  refine gf_Ranking_11 hC hK hP hst d_Ranking_offer_1 ?_
  refine lv_aload_n hC.1 hC.2.1 d_Ranking_offer_4 rfl (lv_at hl 0 rfl) ?_
  refine gf_Ranking_17 hC hK hP hst d_Ranking_offer_5 ?_
  obtain ⟨hi, h⟩ := h
  refine al_PairArr hC hK hP hi d_Ranking_offer_8 (fun hq_1 => ?_)
  refine xi_topr (fun k8_2 ek8_2 => ?_)
  have h := h k8_2 ek8_2
  have hk8_2 : isP k8_2 := by rw [ek8_2]; exact hq_1
  refine lv_astore (lv' := [(8, .ref (b + k8_2)), (0, .ref (b + 8)), (1, iv x1), (2, iv x2), (3, iv x3), (4, iv x4), (5, iv x5), (6, iv x6), (7, iv x7)]) hC.1 hC.2.1 d_Ranking_offer_9 hl (by decide) rfl (fun ls hl => ?_)
  refine lv_aload hC.1 hC.2.1 d_Ranking_offer_11 (lv_at hl 0 rfl) ?_
  refine lv_iload_n hC.1 hC.2.1 d_Ranking_offer_13 rfl (lv_at hl 2 rfl) ?_
  refine lv_iload_n hC.1 hC.2.1 d_Ranking_offer_14 rfl (lv_at hl 3 rfl) ?_
  refine lv_iload_n hC.1 hC.2.1 d_Ranking_offer_15 rfl (lv_at hl 4 rfl) ?_
  refine lv_iload hC.1 hC.2.1 d_Ranking_offer_16 (lv_at hl 5 rfl) ?_
  refine lv_iload hC.1 hC.2.1 d_Ranking_offer_18 (lv_at hl 6 rfl) ?_
  refine lv_iload hC.1 hC.2.1 d_Ranking_offer_20 (lv_at hl 7 rfl) ?_
  refine lv_iload hC.1 hC.2.1 d_Ranking_offer_22 (lv_at hl 8 rfl) ?_
  refine xk_Vv (As := [iv x1, iv x2, iv x3, iv x4, iv x5, iv x6, iv x7]) (rest := []) hC hK hP hS hst hz hl.1 lk_Ranking_22 rfl rfl rfl ⟨Nat.le_of_ble_eq_true rfl, Nat.le_of_ble_eq_true rfl⟩ (rc_Pair hK hP hk8_2) (fun sz' => c_Pair_become l D g b sz' hk8_2 h) d_Ranking_offer_24 rfl (Nat.le_of_ble_eq_true rfl) ⟨Nat.le_of_ble_eq_true rfl, Nat.le_of_ble_eq_true rfl⟩ (fun M_4 H locs h hP hS => ?_)
  try dsimp only at h
  refine lv_aload_n hC.1 hC.2.1 d_Ranking_offer_27 rfl (lv_at hl 1 rfl) ?_
  refine gf_Ranking_17 hC hK hP hst d_Ranking_offer_28 ?_
  refine xi_top (fun v9_5 ev9_5 => ?_)
  have h := h v9_5 ev9_5
  refine lv_istore (lv' := [(9, iv v9_5), (8, .ref (b + k8_2)), (0, .ref (b + 8)), (1, iv x1), (2, iv x2), (3, iv x3), (4, iv x4), (5, iv x5), (6, iv x6), (7, iv x7)]) hC.1 hC.2.1 d_Ranking_offer_31 hl (by decide) rfl (fun ls hl => ?_)
  obtain ⟨nn, h⟩ := h
  exact s_Ranking_offer_33 hC hr hlocks hK hst hz hk8_2 nn _ _ _ _ _ h hP hS (lv_sub hl [2, 1, 0] rfl)
set_option maxHeartbeats 4000000 in
theorem c_X_listIfPair (l : Launch) (D : va_G) (g : Nat → ClassId) (b sz : Nat) {x1 x2 x3 x4 : Int} {M0 : Mem} {Post : Int → Mem → Prop} (h : wp_X_listIfPair x1 x2 x3 x4 M0 Post) : Met l y_X_listIfPair (Cond.code y_X_listIfPair b_X_listIfPair 10 (some .boolean) :: gd) ({ frames := 2, cells := 0, slots := 0, locals := 56 }) (PcG D g b 174 (cellC b g) sz M0 [.ref (b + 0), iv x1, iv x2, iv x3, iv x4]) (QI D g b 174 (cellC b g) sz Post) 0 0 (rA b 174 sz) := by
  refine xm_start (by decide) rfl (Nat.le_of_ble_eq_true rfl) ?_
  intro p e s m below meth c ls H args hC hr hlocks hK hP hst hz hS hH hl
  have hl : lv_has ls 10 [(0, .ref (b + 0)), (1, iv x1), (2, iv x2), (3, iv x3), (4, iv x4)] := hl
  unfold wp_X_listIfPair at h
  refine lv_aload_n hC.1 hC.2.1 d_X_listIfPair_0 rfl (lv_at hl 0 rfl) ?_
  refine gf_X_11 hC hK hP hst d_X_listIfPair_1 ?_
  refine lv_iload_n hC.1 hC.2.1 d_X_listIfPair_4 rfl (lv_at hl 1 rfl) ?_
  obtain ⟨hi, h⟩ := h
  refine al_EdgeArr hC hK hP hi d_X_listIfPair_5 (fun hq_1 => ?_)
  refine xi_topr (fun k5_2 ek5_2 => ?_)
  have h := h k5_2 ek5_2
  have hk5_2 : isE k5_2 := by rw [ek5_2]; exact hq_1
  refine lv_astore (lv' := [(5, .ref (b + k5_2)), (0, .ref (b + 0)), (1, iv x1), (2, iv x2), (3, iv x3), (4, iv x4)]) hC.1 hC.2.1 d_X_listIfPair_6 hl (by decide) rfl (fun ls hl => ?_)
  refine lv_aload_n hC.1 hC.2.1 d_X_listIfPair_8 rfl (lv_at hl 1 rfl) ?_
  refine gf_X_11 hC hK hP hst d_X_listIfPair_9 ?_
  refine lv_iload_n hC.1 hC.2.1 d_X_listIfPair_12 rfl (lv_at hl 4 rfl) ?_
  obtain ⟨hi, h⟩ := h
  refine al_EdgeArr hC hK hP hi d_X_listIfPair_13 (fun hq_3 => ?_)
  refine xi_topr (fun k6_4 ek6_4 => ?_)
  have h := h k6_4 ek6_4
  have hk6_4 : isE k6_4 := by rw [ek6_4]; exact hq_3
  refine lv_astore (lv' := [(6, .ref (b + k6_4)), (5, .ref (b + k5_2)), (0, .ref (b + 0)), (1, iv x1), (2, iv x2), (3, iv x3), (4, iv x4)]) hC.1 hC.2.1 d_X_listIfPair_14 hl (by decide) rfl (fun ls hl => ?_)
  refine lv_aload hC.1 hC.2.1 d_X_listIfPair_16 (lv_at hl 1 rfl) ?_
  refine gf_X_214 hC hK hP hst hk5_2 d_X_listIfPair_18 ?_
  refine lv_iload_n hC.1 hC.2.1 d_X_listIfPair_21 rfl (lv_at hl 4 rfl) ?_
  obtain ⟨hi, h⟩ := h
  refine xg_ald hC hK hP (aE1 hk5_2) (by decide) hi d_X_listIfPair_22 ?_
  refine xi_const hC d_X_listIfPair_23 ?_
  refine xi_add hC d_X_listIfPair_24 ?_
  refine lv_aload hC.1 hC.2.1 d_X_listIfPair_25 (lv_at hl 0 rfl) ?_
  refine gf_X_214 hC hK hP hst hk6_4 d_X_listIfPair_27 ?_
  refine lv_iload hC.1 hC.2.1 d_X_listIfPair_30 (lv_at hl 6 rfl) ?_
  obtain ⟨hi, h⟩ := h
  refine xg_ald hC hK hP (aE1 hk6_4) (by decide) hi d_X_listIfPair_32 ?_
  refine xi_sub hC d_X_listIfPair_33 ?_
  refine xi_const hC d_X_listIfPair_34 ?_
  refine xi_and3r hC d_X_listIfPair_35 ?_
  refine xi_top (fun v7_5 ev7_5 => ?_)
  have h := h v7_5 ev7_5
  refine lv_istore (lv' := [(7, iv v7_5), (6, .ref (b + k6_4)), (5, .ref (b + k5_2)), (0, .ref (b + 0)), (1, iv x1), (2, iv x2), (3, iv x3), (4, iv x4)]) hC.1 hC.2.1 d_X_listIfPair_36 hl (by decide) rfl (fun ls hl => ?_)
  refine lv_aload hC.1 hC.2.1 d_X_listIfPair_38 (lv_at hl 2 rfl) ?_
  refine gf_X_214 hC hK hP hst hk5_2 d_X_listIfPair_40 ?_
  refine lv_aload hC.1 hC.2.1 d_X_listIfPair_43 (lv_at hl 2 rfl) ?_
  refine lv_iload_n hC.1 hC.2.1 d_X_listIfPair_45 rfl (lv_at hl 5 rfl) ?_
  refine xk_VP (As := [iv x2]) (rest := [.ref (b + (k5_2 + 1))]) hC hK hP hS hst hz hl.1 lk_X_217 rfl rfl rfl ⟨Nat.le_of_ble_eq_true rfl, Nat.le_of_ble_eq_true rfl⟩ (rc_Edge hK hP hk5_2) (fun sz' => c_Edge_before l D g b sz' hk5_2 h) d_X_listIfPair_46 rfl (Nat.le_of_ble_eq_true rfl) ⟨Nat.le_of_ble_eq_true rfl, Nat.le_of_ble_eq_true rfl⟩ (fun r_6 h => ?_)
  try dsimp only at h
  obtain ⟨hi, h⟩ := h
  refine xg_ald hC hK hP (aE1 hk5_2) (by decide) hi d_X_listIfPair_49 ?_
  refine lv_aload hC.1 hC.2.1 d_X_listIfPair_50 (lv_at hl 1 rfl) ?_
  refine gf_X_214 hC hK hP hst hk6_4 d_X_listIfPair_52 ?_
  refine lv_aload hC.1 hC.2.1 d_X_listIfPair_55 (lv_at hl 1 rfl) ?_
  refine lv_iload hC.1 hC.2.1 d_X_listIfPair_57 (lv_at hl 7 rfl) ?_
  refine xk_VP (As := [iv x4]) (rest := [.ref (b + (k6_4 + 1)), iv (M0 (k5_2 + 1) r_6.toNat)]) hC hK hP hS hst hz hl.1 lk_X_221 rfl rfl rfl ⟨Nat.le_of_ble_eq_true rfl, Nat.le_of_ble_eq_true rfl⟩ (rc_Edge hK hP hk6_4) (fun sz' => c_Edge_after l D g b sz' hk6_4 h) d_X_listIfPair_59 rfl (Nat.le_of_ble_eq_true rfl) ⟨Nat.le_of_ble_eq_true rfl, Nat.le_of_ble_eq_true rfl⟩ (fun r_7 h => ?_)
  try dsimp only at h
  obtain ⟨hi, h⟩ := h
  refine xg_ald hC hK hP (aE1 hk6_4) (by decide) hi d_X_listIfPair_62 ?_
  refine lv_iload hC.1 hC.2.1 d_X_listIfPair_63 (lv_at hl 0 rfl) ?_
  refine xk_SP (As := [iv (M0 (k5_2 + 1) r_6.toNat), iv (M0 (k6_4 + 1) r_7.toNat), iv v7_5]) (rest := []) hC hK hP hS hst hz hl.1 lk_X_224 rfl rfl rfl ⟨Nat.le_of_ble_eq_true rfl, Nat.le_of_ble_eq_true rfl⟩ (fun sz' => c_X_contrary l D g b sz' h) d_X_listIfPair_65 rfl (Nat.le_of_ble_eq_true rfl) ⟨Nat.le_of_ble_eq_true rfl, Nat.le_of_ble_eq_true rfl⟩ (fun r_8 h => ?_)
  try dsimp only at h
  obtain ⟨b0, h⟩ := h
  refine xi_ieq hC (tgt := 73) d_X_listIfPair_68 (by decide) b0 (fun q => ?_) (fun q => ?_)
  · have h := h.1 q
    refine lv_aload hC.1 hC.2.1 d_X_listIfPair_73 (lv_at hl 2 rfl) ?_
    refine lv_iload_n hC.1 hC.2.1 d_X_listIfPair_75 rfl (lv_at hl 5 rfl) ?_
    refine lv_aload hC.1 hC.2.1 d_X_listIfPair_76 (lv_at hl 1 rfl) ?_
    refine lv_iload hC.1 hC.2.1 d_X_listIfPair_78 (lv_at hl 7 rfl) ?_
    refine lv_iload hC.1 hC.2.1 d_X_listIfPair_80 (lv_at hl 0 rfl) ?_
    refine xk_SP (As := [.ref (b + k5_2), iv x2, .ref (b + k6_4), iv x4, iv v7_5]) (rest := []) hC hK hP hS hst hz hl.1 lk_X_228 rfl rfl rfl ⟨Nat.le_of_ble_eq_true rfl, Nat.le_of_ble_eq_true rfl⟩ (fun sz' => c_X_stretch l D g b sz' hk5_2 hk6_4 h) d_X_listIfPair_82 rfl (Nat.le_of_ble_eq_true rfl) ⟨Nat.le_of_ble_eq_true rfl, Nat.le_of_ble_eq_true rfl⟩ (fun r_9 h => ?_)
    try dsimp only at h
    refine lv_istore (lv' := [(8, iv r_9), (7, iv v7_5), (6, .ref (b + k6_4)), (5, .ref (b + k5_2)), (0, .ref (b + 0)), (1, iv x1), (2, iv x2), (3, iv x3), (4, iv x4)]) hC.1 hC.2.1 d_X_listIfPair_85 hl (by decide) rfl (fun ls hl => ?_)
    refine lv_iload hC.1 hC.2.1 d_X_listIfPair_87 (lv_at hl 0 rfl) ?_
    refine lv_aload_n hC.1 hC.2.1 d_X_listIfPair_89 rfl (lv_at hl 4 rfl) ?_
    refine gf_X_50 hC hK hP hst d_X_listIfPair_90 ?_
    obtain ⟨b0, h⟩ := h
    obtain ⟨b1, h⟩ := h
    refine xi_cge hC (tgt := 98) d_X_listIfPair_93 (by decide) b0 b1 (fun q => ?_) (fun q => ?_)
    · have h := h.1 q
      refine lv_aload hC.1 hC.2.1 d_X_listIfPair_98 (lv_at hl 3 rfl) ?_
      refine lv_iload_n hC.1 hC.2.1 d_X_listIfPair_100 rfl (lv_at hl 6 rfl) ?_
      refine lv_aload hC.1 hC.2.1 d_X_listIfPair_101 (lv_at hl 2 rfl) ?_
      refine lv_iload hC.1 hC.2.1 d_X_listIfPair_103 (lv_at hl 8 rfl) ?_
      refine lv_iload hC.1 hC.2.1 d_X_listIfPair_105 (lv_at hl 0 rfl) ?_
      refine xk_SP (As := [.ref (b + k5_2), iv x2, .ref (b + k6_4), iv x4, iv r_9]) (rest := []) hC hK hP hS hst hz hl.1 lk_X_232 rfl rfl rfl ⟨Nat.le_of_ble_eq_true rfl, Nat.le_of_ble_eq_true rfl⟩ (fun sz' => c_X_squares l D g b sz' hk5_2 hk6_4 h) d_X_listIfPair_107 rfl (Nat.le_of_ble_eq_true rfl) ⟨Nat.le_of_ble_eq_true rfl, Nat.le_of_ble_eq_true rfl⟩ (fun r_10 h => ?_)
      try dsimp only at h
      refine lv_istore (lv' := [(9, iv r_10), (8, iv r_9), (7, iv v7_5), (6, .ref (b + k6_4)), (5, .ref (b + k5_2)), (0, .ref (b + 0)), (1, iv x1), (2, iv x2), (3, iv x3), (4, iv x4)]) hC.1 hC.2.1 d_X_listIfPair_110 hl (by decide) rfl (fun ls hl => ?_)
      refine lv_iload hC.1 hC.2.1 d_X_listIfPair_112 (lv_at hl 0 rfl) ?_
      refine lv_aload_n hC.1 hC.2.1 d_X_listIfPair_114 rfl (lv_at hl 5 rfl) ?_
      refine gf_X_53 hC hK hP hst d_X_listIfPair_115 ?_
      refine lv_iload hC.1 hC.2.1 d_X_listIfPair_118 (lv_at hl 1 rfl) ?_
      refine xi_mul hC d_X_listIfPair_120 ?_
      obtain ⟨b0, h⟩ := h
      obtain ⟨b1, h⟩ := h
      refine xi_cle hC (tgt := 126) d_X_listIfPair_121 (by decide) b0 b1 (fun q => ?_) (fun q => ?_)
      · have h := h.1 q
        refine lv_aload_n hC.1 hC.2.1 d_X_listIfPair_126 rfl (lv_at hl 5 rfl) ?_
        refine gf_X_29 hC hK hP hst d_X_listIfPair_127 ?_
        refine lv_iload_n hC.1 hC.2.1 d_X_listIfPair_130 rfl (lv_at hl 6 rfl) ?_
        refine lv_iload_n hC.1 hC.2.1 d_X_listIfPair_131 rfl (lv_at hl 7 rfl) ?_
        refine lv_iload_n hC.1 hC.2.1 d_X_listIfPair_132 rfl (lv_at hl 8 rfl) ?_
        refine lv_iload hC.1 hC.2.1 d_X_listIfPair_133 (lv_at hl 9 rfl) ?_
        refine lv_iload hC.1 hC.2.1 d_X_listIfPair_135 (lv_at hl 1 rfl) ?_
        refine lv_iload hC.1 hC.2.1 d_X_listIfPair_137 (lv_at hl 0 rfl) ?_
        refine lv_iload hC.1 hC.2.1 d_X_listIfPair_139 (lv_at hl 2 rfl) ?_
        refine xk_Vv (As := [iv x1, iv x2, iv x3, iv x4, iv r_9, iv r_10, iv v7_5]) (rest := []) hC hK hP hS hst hz hl.1 lk_X_235 rfl rfl rfl ⟨Nat.le_of_ble_eq_true rfl, Nat.le_of_ble_eq_true rfl⟩ (rc_Ranking hK hP) (fun sz' => c_Ranking_offer l D g b sz' h) d_X_listIfPair_141 rfl (Nat.le_of_ble_eq_true rfl) ⟨Nat.le_of_ble_eq_true rfl, Nat.le_of_ble_eq_true rfl⟩ (fun M_12 H locs h hP hS => ?_)
        try dsimp only at h
        refine xi_const hC d_X_listIfPair_144 ?_
        exact xr_z hC hr hlocks hK hP hS (by decide) h d_X_listIfPair_145
      · have h := h.2 q
        refine xi_const hC d_X_listIfPair_124 ?_
        exact xr_z hC hr hlocks hK hP hS (by decide) h d_X_listIfPair_125
    · have h := h.2 q
      refine xi_const hC d_X_listIfPair_96 ?_
      exact xr_z hC hr hlocks hK hP hS (by decide) h d_X_listIfPair_97
  · have h := h.2 q
    refine xi_const hC d_X_listIfPair_71 ?_
    exact xr_z hC hr hlocks hK hP hS (by decide) h d_X_listIfPair_72
set_option maxHeartbeats 4000000 in
theorem s_X_listPairsWith_20 {p : Program} {l : Launch} {e : Env} {s : State} {m : MethodId} {args : Array Value} {below : List Frame} {meth : Method} {c : Code} {D : va_G} {g : Nat → ClassId} {b sz : Nat} (hC : Cx p m c b_X_listPairsWith 6 s args "EdgeJoins") (hr : meth.sig.returnType = some .int) (hlocks : meth.locks = false) (hK : va_K D classes (tyG g) s) (hst : sC (rA b 174 sz) s s.heap) (hz : sz ≤ s.heap.size) {Post : Int → Mem → Prop} : ∀ (n : Nat) (x1 x2 x3 x4 x5 : Int) (M0 : Mem) (H : Heap) (locs : List Loc) (ls : Array Slot), wp_X_listPairsWith_20 Post n x1 x2 x3 x4 x5 M0 → va_P D classes (wsG b 174 (cellC b g) M0) H → va_S (rA b 174 sz) s.heap H locs → lv_has ls 6 [(0, .ref (b + 0)), (1, iv x1), (2, iv x2), (3, iv x3), (4, iv x4), (5, iv x5)] → W p l e ({ frames := 3, cells := 0, slots := 0, locals := 85 }) s m args below meth c H locs 0 0 (MQ below (QI D g b 174 (cellC b g) sz Post) args s 0 0 (rA b 174 sz)) (F0 m 20 ls []) := by
  intro n
  induction n with
  | zero => intro x1 x2 x3 x4 x5 M0 H locs ls h; exact h.elim
  | succ n ih =>
  intro x1 x2 x3 x4 x5 M0 H locs ls h hP hS hl
  simp only [wp_X_listPairsWith_20] at h
  refine lv_iload hC.1 hC.2.1 d_X_listPairsWith_20 (lv_at hl 5 rfl) ?_
  refine lv_aload_n hC.1 hC.2.1 d_X_listPairsWith_22 rfl (lv_at hl 0 rfl) ?_
  refine gf_X_11 hC hK hP hst d_X_listPairsWith_23 ?_
  refine lv_iload_n hC.1 hC.2.1 d_X_listPairsWith_26 rfl (lv_at hl 3 rfl) ?_
  obtain ⟨hi, h⟩ := h
  refine al_EdgeArr hC hK hP hi d_X_listPairsWith_27 (fun hq_1 => ?_)
  refine gf_X_72 hC hK hP hst hq_1 d_X_listPairsWith_28 ?_
  obtain ⟨b0, h⟩ := h
  obtain ⟨b1, h⟩ := h
  refine xi_cge hC (tgt := 55) d_X_listPairsWith_31 (by decide) b0 b1 (fun q => ?_) (fun q => ?_)
  · have h := h.1 q
    refine lv_iload hC.1 hC.2.1 d_X_listPairsWith_55 (lv_at hl 4 rfl) ?_
    exact xr_i hC hr hlocks hK hP hS h d_X_listPairsWith_57
  · have h := h.2 q
    refine lv_aload_n hC.1 hC.2.1 d_X_listPairsWith_34 rfl (lv_at hl 0 rfl) ?_
    refine lv_iload_n hC.1 hC.2.1 d_X_listPairsWith_35 rfl (lv_at hl 1 rfl) ?_
    refine lv_iload_n hC.1 hC.2.1 d_X_listPairsWith_36 rfl (lv_at hl 2 rfl) ?_
    refine lv_iload_n hC.1 hC.2.1 d_X_listPairsWith_37 rfl (lv_at hl 3 rfl) ?_
    refine lv_iload hC.1 hC.2.1 d_X_listPairsWith_38 (lv_at hl 5 rfl) ?_
    refine xk_Vi (As := [iv x1, iv x2, iv x3, iv x5]) (rest := []) hC hK hP hS hst hz hl.1 lk_X_211 rfl rfl rfl ⟨Nat.le_of_ble_eq_true rfl, Nat.le_of_ble_eq_true rfl⟩ (rc_X hK hP) (fun sz' => c_X_listIfPair l D g b sz' h) d_X_listPairsWith_40 rfl (Nat.le_of_ble_eq_true rfl) ⟨Nat.le_of_ble_eq_true rfl, Nat.le_of_ble_eq_true rfl⟩ (fun r_2 M_3 H locs h hP hS => ?_)
    try dsimp only at h
    obtain ⟨b0, h⟩ := h
    refine xi_ieq hC (tgt := 49) d_X_listPairsWith_43 (by decide) b0 (fun q => ?_) (fun q => ?_)
    · have h := h.1 q
      obtain ⟨v5_4, ev5_4⟩ : ∃ y : Int, y = x5 + 1 := ⟨_, rfl⟩
      have h := h v5_4 ev5_4
      refine xi_iinc (v := v5_4) (lv' := [(5, iv v5_4), (0, .ref (b + 0)), (1, iv x1), (2, iv x2), (3, iv x3), (4, iv x4)]) hC d_X_listPairsWith_49 hl (k := 5) rfl ev5_4 (by decide) rfl (fun ls hl => ?_)
      refine lv_goto (tgt := 20) hC.1 hC.2.1 d_X_listPairsWith_52 (by decide) ?_
      exact ih _ _ _ _ _ _ _ _ _ h hP hS (lv_sub hl [1, 2, 3, 4, 5, 0] rfl)
    · have h := h.2 q
      obtain ⟨v4_5, ev4_5⟩ : ∃ y : Int, y = x4 + 1 := ⟨_, rfl⟩
      have h := h v4_5 ev4_5
      refine xi_iinc (v := v4_5) (lv' := [(4, iv v4_5), (0, .ref (b + 0)), (1, iv x1), (2, iv x2), (3, iv x3), (5, iv x5)]) hC d_X_listPairsWith_46 hl (k := 4) rfl ev4_5 (by decide) rfl (fun ls hl => ?_)
      obtain ⟨v5_6, ev5_6⟩ : ∃ y : Int, y = x5 + 1 := ⟨_, rfl⟩
      have h := h v5_6 ev5_6
      refine xi_iinc (v := v5_6) (lv' := [(5, iv v5_6), (4, iv v4_5), (0, .ref (b + 0)), (1, iv x1), (2, iv x2), (3, iv x3)]) hC d_X_listPairsWith_49 hl (k := 5) rfl ev5_6 (by decide) rfl (fun ls hl => ?_)
      refine lv_goto (tgt := 20) hC.1 hC.2.1 d_X_listPairsWith_52 (by decide) ?_
      exact ih _ _ _ _ _ _ _ _ _ h hP hS (lv_sub hl [2, 3, 4, 5, 1, 0] rfl)
set_option maxHeartbeats 4000000 in
theorem c_X_listPairsWith (l : Launch) (D : va_G) (g : Nat → ClassId) (b sz : Nat) {x1 x2 x3 : Int} {M0 : Mem} {Post : Int → Mem → Prop} (h : wp_X_listPairsWith x1 x2 x3 M0 Post) : Met l y_X_listPairsWith (Cond.code y_X_listPairsWith b_X_listPairsWith 6 (some .int) :: gd) ({ frames := 3, cells := 0, slots := 0, locals := 85 }) (PcG D g b 174 (cellC b g) sz M0 [.ref (b + 0), iv x1, iv x2, iv x3]) (QI D g b 174 (cellC b g) sz Post) 0 0 (rA b 174 sz) := by
  refine xm_start (by decide) rfl (Nat.le_of_ble_eq_true rfl) ?_
  intro p e s m below meth c ls H args hC hr hlocks hK hP hst hz hS hH hl
  have hl : lv_has ls 6 [(0, .ref (b + 0)), (1, iv x1), (2, iv x2), (3, iv x3)] := hl
  unfold wp_X_listPairsWith at h
  refine lv_aload_n hC.1 hC.2.1 d_X_listPairsWith_0 rfl (lv_at hl 0 rfl) ?_
  refine gf_X_11 hC hK hP hst d_X_listPairsWith_1 ?_
  refine lv_iload_n hC.1 hC.2.1 d_X_listPairsWith_4 rfl (lv_at hl 3 rfl) ?_
  obtain ⟨hi, h⟩ := h
  refine al_EdgeArr hC hK hP hi d_X_listPairsWith_5 (fun hq_1 => ?_)
  refine gf_X_68 hC hK hP hst hq_1 d_X_listPairsWith_6 ?_
  obtain ⟨b0, h⟩ := h
  refine xi_ine hC (tgt := 14) d_X_listPairsWith_9 (by decide) b0 (fun q => ?_) (fun q => ?_)
  · have h := h.1 q
    refine xi_const hC d_X_listPairsWith_14 ?_
    refine lv_istore (lv' := [(4, iv 0), (0, .ref (b + 0)), (1, iv x1), (2, iv x2), (3, iv x3)]) hC.1 hC.2.1 d_X_listPairsWith_15 hl (by decide) rfl (fun ls hl => ?_)
    refine xi_const hC d_X_listPairsWith_17 ?_
    refine lv_istore (lv' := [(5, iv 0), (4, iv 0), (0, .ref (b + 0)), (1, iv x1), (2, iv x2), (3, iv x3)]) hC.1 hC.2.1 d_X_listPairsWith_18 hl (by decide) rfl (fun ls hl => ?_)
    obtain ⟨nn, h⟩ := h
    exact s_X_listPairsWith_20 hC hr hlocks hK hst hz nn _ _ _ _ _ _ _ _ _ h hP hS (lv_sub hl [2, 3, 4, 5, 1, 0] rfl)
  · have h := h.2 q
    refine xi_const hC d_X_listPairsWith_12 ?_
    exact xr_i hC hr hlocks hK hP hS h d_X_listPairsWith_13
set_option maxHeartbeats 4000000 in
theorem s_X_run_51 {p : Program} {l : Launch} {e : Env} {s : State} {m : MethodId} {args : Array Value} {below : List Frame} {meth : Method} {c : Code} {D : va_G} {g : Nat → ClassId} {b sz : Nat} (hC : Cx p m c b_X_run 5 s args "EdgeJoins") (hr : meth.sig.returnType = some .int) (hlocks : meth.locks = false) (hK : va_K D classes (tyG g) s) (hst : sC (rA b 174 sz) s s.heap) (hz : sz ≤ s.heap.size) {Post : Int → Mem → Prop} {X11 : Int → Int → Mem → Prop} {X21 : Int → Int → Int → Mem → Prop} (hX11 : ∀ (x1 x2 : Int) (M0 : Mem) (H : Heap) (locs : List Loc) (ls : Array Slot), X11 x1 x2 M0 → va_P D classes (wsG b 174 (cellC b g) M0) H → va_S (rA b 174 sz) s.heap H locs → lv_has ls 5 [(0, .ref (b + 0)), (1, iv x1), (2, iv x2)] → W p l e ({ frames := 4, cells := 0, slots := 0, locals := 110 }) s m args below meth c H locs 0 0 (MQ below (QI D g b 174 (cellC b g) sz Post) args s 0 0 (rA b 174 sz)) (F0 m 11 ls [])) (hX21 : ∀ (x1 x2 x3 : Int) (M0 : Mem) (H : Heap) (locs : List Loc) (ls : Array Slot), X21 x1 x2 x3 M0 → va_P D classes (wsG b 174 (cellC b g) M0) H → va_S (rA b 174 sz) s.heap H locs → lv_has ls 5 [(0, .ref (b + 0)), (1, iv x1), (2, iv x2), (3, iv x3)] → W p l e ({ frames := 4, cells := 0, slots := 0, locals := 110 }) s m args below meth c H locs 0 0 (MQ below (QI D g b 174 (cellC b g) sz Post) args s 0 0 (rA b 174 sz)) (F0 m 21 ls [])) : ∀ (n : Nat) (x1 x2 x3 x4 : Int) (M0 : Mem) (H : Heap) (locs : List Loc) (ls : Array Slot), wp_X_run_51 X11 X21 Post n x1 x2 x3 x4 M0 → va_P D classes (wsG b 174 (cellC b g) M0) H → va_S (rA b 174 sz) s.heap H locs → lv_has ls 5 [(0, .ref (b + 0)), (1, iv x1), (2, iv x2), (3, iv x3), (4, iv x4)] → W p l e ({ frames := 4, cells := 0, slots := 0, locals := 110 }) s m args below meth c H locs 0 0 (MQ below (QI D g b 174 (cellC b g) sz Post) args s 0 0 (rA b 174 sz)) (F0 m 51 ls []) := by
  intro n
  induction n with
  | zero => intro x1 x2 x3 x4 M0 H locs ls h; exact h.elim
  | succ n ih =>
  intro x1 x2 x3 x4 M0 H locs ls h hP hS hl
  simp only [wp_X_run_51] at h
  refine lv_iload hC.1 hC.2.1 d_X_run_51 (lv_at hl 4 rfl) ?_
  refine lv_aload_n hC.1 hC.2.1 d_X_run_53 rfl (lv_at hl 0 rfl) ?_
  refine gf_X_40 hC hK hP hst d_X_run_54 ?_
  obtain ⟨b0, h⟩ := h
  obtain ⟨b1, h⟩ := h
  refine xi_cge hC (tgt := 77) d_X_run_57 (by decide) b0 b1 (fun q => ?_) (fun q => ?_)
  · have h := h.1 q
    obtain ⟨v3_1, ev3_1⟩ : ∃ y : Int, y = x3 + 1 := ⟨_, rfl⟩
    have h := h v3_1 ev3_1
    refine xi_iinc (v := v3_1) (lv' := [(3, iv v3_1), (0, .ref (b + 0)), (1, iv x1), (2, iv x2), (4, iv x4)]) hC d_X_run_77 hl (k := 3) rfl ev3_1 (by decide) rfl (fun ls hl => ?_)
    refine lv_goto (tgt := 21) hC.1 hC.2.1 d_X_run_80 (by decide) ?_
    exact hX21 _ _ _ _ _ _ _ h hP hS (lv_sub hl [1, 2, 3, 0] rfl)
  · have h := h.2 q
    refine lv_iload_n hC.1 hC.2.1 d_X_run_60 rfl (lv_at hl 1 rfl) ?_
    refine lv_aload_n hC.1 hC.2.1 d_X_run_61 rfl (lv_at hl 0 rfl) ?_
    refine lv_iload_n hC.1 hC.2.1 d_X_run_62 rfl (lv_at hl 2 rfl) ?_
    refine lv_iload_n hC.1 hC.2.1 d_X_run_63 rfl (lv_at hl 3 rfl) ?_
    refine lv_iload hC.1 hC.2.1 d_X_run_64 (lv_at hl 4 rfl) ?_
    refine xk_Vi (As := [iv x2, iv x3, iv x4]) (rest := [iv x1]) hC hK hP hS hst hz hl.1 lk_X_112 rfl rfl rfl ⟨Nat.le_of_ble_eq_true rfl, Nat.le_of_ble_eq_true rfl⟩ (rc_X hK hP) (fun sz' => c_X_listPairsWith l D g b sz' h) d_X_run_66 rfl (Nat.le_of_ble_eq_true rfl) ⟨Nat.le_of_ble_eq_true rfl, Nat.le_of_ble_eq_true rfl⟩ (fun r_2 M_3 H locs h hP hS => ?_)
    try dsimp only at h
    refine xi_add hC d_X_run_69 ?_
    refine xi_top (fun v1_4 ev1_4 => ?_)
    have h := h v1_4 ev1_4
    refine lv_istore_n (lv' := [(1, iv v1_4), (0, .ref (b + 0)), (2, iv x2), (3, iv x3), (4, iv x4)]) hC.1 hC.2.1 d_X_run_70 rfl hl (by decide) rfl (fun ls hl => ?_)
    obtain ⟨v4_5, ev4_5⟩ : ∃ y : Int, y = x4 + 1 := ⟨_, rfl⟩
    have h := h v4_5 ev4_5
    refine xi_iinc (v := v4_5) (lv' := [(4, iv v4_5), (1, iv v1_4), (0, .ref (b + 0)), (2, iv x2), (3, iv x3)]) hC d_X_run_71 hl (k := 4) rfl ev4_5 (by decide) rfl (fun ls hl => ?_)
    refine lv_goto (tgt := 51) hC.1 hC.2.1 d_X_run_74 (by decide) ?_
    exact ih _ _ _ _ _ _ _ _ h hP hS (lv_sub hl [2, 1, 3, 4, 0] rfl)
set_option maxHeartbeats 4000000 in
theorem s_X_run_21 {p : Program} {l : Launch} {e : Env} {s : State} {m : MethodId} {args : Array Value} {below : List Frame} {meth : Method} {c : Code} {D : va_G} {g : Nat → ClassId} {b sz : Nat} (hC : Cx p m c b_X_run 5 s args "EdgeJoins") (hr : meth.sig.returnType = some .int) (hlocks : meth.locks = false) (hK : va_K D classes (tyG g) s) (hst : sC (rA b 174 sz) s s.heap) (hz : sz ≤ s.heap.size) {Post : Int → Mem → Prop} {X11 : Int → Int → Mem → Prop} (hX11 : ∀ (x1 x2 : Int) (M0 : Mem) (H : Heap) (locs : List Loc) (ls : Array Slot), X11 x1 x2 M0 → va_P D classes (wsG b 174 (cellC b g) M0) H → va_S (rA b 174 sz) s.heap H locs → lv_has ls 5 [(0, .ref (b + 0)), (1, iv x1), (2, iv x2)] → W p l e ({ frames := 4, cells := 0, slots := 0, locals := 110 }) s m args below meth c H locs 0 0 (MQ below (QI D g b 174 (cellC b g) sz Post) args s 0 0 (rA b 174 sz)) (F0 m 11 ls [])) : ∀ (n : Nat) (x1 x2 x3 : Int) (M0 : Mem) (H : Heap) (locs : List Loc) (ls : Array Slot), wp_X_run_21 X11 Post n x1 x2 x3 M0 → va_P D classes (wsG b 174 (cellC b g) M0) H → va_S (rA b 174 sz) s.heap H locs → lv_has ls 5 [(0, .ref (b + 0)), (1, iv x1), (2, iv x2), (3, iv x3)] → W p l e ({ frames := 4, cells := 0, slots := 0, locals := 110 }) s m args below meth c H locs 0 0 (MQ below (QI D g b 174 (cellC b g) sz Post) args s 0 0 (rA b 174 sz)) (F0 m 21 ls []) := by
  intro n
  induction n with
  | zero => intro x1 x2 x3 M0 H locs ls h; exact h.elim
  | succ n ih =>
  intro x1 x2 x3 M0 H locs ls h hP hS hl
  simp only [wp_X_run_21] at h
  refine lv_aload_n hC.1 hC.2.1 d_X_run_21 rfl (lv_at hl 0 rfl) ?_
  refine gf_X_11 hC hK hP hst d_X_run_22 ?_
  refine lv_iload_n hC.1 hC.2.1 d_X_run_25 rfl (lv_at hl 2 rfl) ?_
  obtain ⟨hi, h⟩ := h
  refine al_EdgeArr hC hK hP hi d_X_run_26 (fun hq_1 => ?_)
  refine gf_X_68 hC hK hP hst hq_1 d_X_run_27 ?_
  obtain ⟨b0, h⟩ := h
  refine xi_ieq hC (tgt := 83) d_X_run_30 (by decide) b0 (fun q => ?_) (fun q => ?_)
  · have h := h.1 q
    obtain ⟨v2_2, ev2_2⟩ : ∃ y : Int, y = x2 + 1 := ⟨_, rfl⟩
    have h := h v2_2 ev2_2
    refine xi_iinc (v := v2_2) (lv' := [(2, iv v2_2), (0, .ref (b + 0)), (1, iv x1), (3, iv x3)]) hC d_X_run_83 hl (k := 2) rfl ev2_2 (by decide) rfl (fun ls hl => ?_)
    refine lv_goto (tgt := 11) hC.1 hC.2.1 d_X_run_86 (by decide) ?_
    exact hX11 _ _ _ _ _ _ h hP hS (lv_sub hl [1, 2, 0] rfl)
  · have h := h.2 q
    refine lv_iload_n hC.1 hC.2.1 d_X_run_33 rfl (lv_at hl 3 rfl) ?_
    refine lv_aload_n hC.1 hC.2.1 d_X_run_34 rfl (lv_at hl 0 rfl) ?_
    refine gf_X_11 hC hK hP hst d_X_run_35 ?_
    refine lv_iload_n hC.1 hC.2.1 d_X_run_38 rfl (lv_at hl 2 rfl) ?_
    obtain ⟨hi, h⟩ := h
    refine al_EdgeArr hC hK hP hi d_X_run_39 (fun hq_3 => ?_)
    refine gf_X_72 hC hK hP hst hq_3 d_X_run_40 ?_
    obtain ⟨b0, h⟩ := h
    obtain ⟨b1, h⟩ := h
    refine xi_cge hC (tgt := 83) d_X_run_43 (by decide) b0 b1 (fun q => ?_) (fun q => ?_)
    · have h := h.1 q
      obtain ⟨v2_4, ev2_4⟩ : ∃ y : Int, y = x2 + 1 := ⟨_, rfl⟩
      have h := h v2_4 ev2_4
      refine xi_iinc (v := v2_4) (lv' := [(2, iv v2_4), (0, .ref (b + 0)), (1, iv x1), (3, iv x3)]) hC d_X_run_83 hl (k := 2) rfl ev2_4 (by decide) rfl (fun ls hl => ?_)
      refine lv_goto (tgt := 11) hC.1 hC.2.1 d_X_run_86 (by decide) ?_
      exact hX11 _ _ _ _ _ _ h hP hS (lv_sub hl [1, 2, 0] rfl)
    · have h := h.2 q
      refine lv_iload_n hC.1 hC.2.1 d_X_run_46 rfl (lv_at hl 2 rfl) ?_
      refine xi_const hC d_X_run_47 ?_
      refine xi_add hC d_X_run_48 ?_
      refine xi_top (fun v4_5 ev4_5 => ?_)
      have h := h v4_5 ev4_5
      refine lv_istore (lv' := [(4, iv v4_5), (0, .ref (b + 0)), (1, iv x1), (2, iv x2), (3, iv x3)]) hC.1 hC.2.1 d_X_run_49 hl (by decide) rfl (fun ls hl => ?_)
      obtain ⟨nn, h⟩ := h
      exact s_X_run_51 hC hr hlocks hK hst hz hX11 ih nn _ _ _ _ _ _ _ _ h hP hS (lv_sub hl [1, 2, 3, 4, 0] rfl)
set_option maxHeartbeats 4000000 in
theorem s_X_run_11 {p : Program} {l : Launch} {e : Env} {s : State} {m : MethodId} {args : Array Value} {below : List Frame} {meth : Method} {c : Code} {D : va_G} {g : Nat → ClassId} {b sz : Nat} (hC : Cx p m c b_X_run 5 s args "EdgeJoins") (hr : meth.sig.returnType = some .int) (hlocks : meth.locks = false) (hK : va_K D classes (tyG g) s) (hst : sC (rA b 174 sz) s s.heap) (hz : sz ≤ s.heap.size) {Post : Int → Mem → Prop} : ∀ (n : Nat) (x1 x2 : Int) (M0 : Mem) (H : Heap) (locs : List Loc) (ls : Array Slot), wp_X_run_11 Post n x1 x2 M0 → va_P D classes (wsG b 174 (cellC b g) M0) H → va_S (rA b 174 sz) s.heap H locs → lv_has ls 5 [(0, .ref (b + 0)), (1, iv x1), (2, iv x2)] → W p l e ({ frames := 4, cells := 0, slots := 0, locals := 110 }) s m args below meth c H locs 0 0 (MQ below (QI D g b 174 (cellC b g) sz Post) args s 0 0 (rA b 174 sz)) (F0 m 11 ls []) := by
  intro n
  induction n with
  | zero => intro x1 x2 M0 H locs ls h; exact h.elim
  | succ n ih =>
  intro x1 x2 M0 H locs ls h hP hS hl
  simp only [wp_X_run_11] at h
  refine lv_iload_n hC.1 hC.2.1 d_X_run_11 rfl (lv_at hl 2 rfl) ?_
  refine lv_aload_n hC.1 hC.2.1 d_X_run_12 rfl (lv_at hl 0 rfl) ?_
  refine gf_X_40 hC hK hP hst d_X_run_13 ?_
  obtain ⟨b0, h⟩ := h
  obtain ⟨b1, h⟩ := h
  refine xi_cge hC (tgt := 89) d_X_run_16 (by decide) b0 b1 (fun q => ?_) (fun q => ?_)
  · have h := h.1 q
    refine lv_iload_n hC.1 hC.2.1 d_X_run_89 rfl (lv_at hl 1 rfl) ?_
    exact xr_i hC hr hlocks hK hP hS h d_X_run_90
  · have h := h.2 q
    refine xi_const hC d_X_run_19 ?_
    refine lv_istore_n (lv' := [(3, iv 0), (0, .ref (b + 0)), (1, iv x1), (2, iv x2)]) hC.1 hC.2.1 d_X_run_20 rfl hl (by decide) rfl (fun ls hl => ?_)
    obtain ⟨nn, h⟩ := h
    exact s_X_run_21 hC hr hlocks hK hst hz ih nn _ _ _ _ _ _ _ h hP hS (lv_sub hl [1, 2, 3, 0] rfl)
set_option maxHeartbeats 4000000 in
theorem c_X_run (l : Launch) (D : va_G) (g : Nat → ClassId) (b sz : Nat) {M0 : Mem} {Post : Int → Mem → Prop} (h : wp_X_run M0 Post) : Met l y_X_run (Cond.code y_X_run b_X_run 5 (some .int) :: gd) ({ frames := 4, cells := 0, slots := 0, locals := 110 }) (PcG D g b 174 (cellC b g) sz M0 [.ref (b + 0)]) (QI D g b 174 (cellC b g) sz Post) 0 0 (rA b 174 sz) := by
  refine xm_start (by decide) rfl (Nat.le_of_ble_eq_true rfl) ?_
  intro p e s m below meth c ls H args hC hr hlocks hK hP hst hz hS hH hl
  have hl : lv_has ls 5 [(0, .ref (b + 0))] := hl
  unfold wp_X_run at h
  refine lv_aload_n hC.1 hC.2.1 d_X_run_0 rfl (lv_at hl 0 rfl) ?_
  refine gf_X_29 hC hK hP hst d_X_run_1 ?_
  refine xk_Vv (As := []) (rest := []) hC hK hP hS hst hz hl.1 lk_X_97 rfl rfl rfl ⟨Nat.le_of_ble_eq_true rfl, Nat.le_of_ble_eq_true rfl⟩ (rc_Ranking hK hP) (fun sz' => c_Ranking_clear l D g b sz' h) d_X_run_4 rfl (Nat.le_of_ble_eq_true rfl) ⟨Nat.le_of_ble_eq_true rfl, Nat.le_of_ble_eq_true rfl⟩ (fun M_2 H locs h hP hS => ?_)
  try dsimp only at h
  refine xi_const hC d_X_run_7 ?_
  refine lv_istore_n (lv' := [(1, iv 0), (0, .ref (b + 0))]) hC.1 hC.2.1 d_X_run_8 rfl hl (by decide) rfl (fun ls hl => ?_)
  refine xi_const hC d_X_run_9 ?_
  refine lv_istore_n (lv' := [(2, iv 0), (1, iv 0), (0, .ref (b + 0))]) hC.1 hC.2.1 d_X_run_10 rfl hl (by decide) rfl (fun ls hl => ?_)
  obtain ⟨nn, h⟩ := h
  exact s_X_run_11 hC hr hlocks hK hst hz nn _ _ _ _ _ _ h hP hS (lv_sub hl [2, 1, 0] rfl)
