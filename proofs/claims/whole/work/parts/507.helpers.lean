theorem cl_19 : Cond.classLink "EdgeJoinsLaw" 19 (xn 0) ∈ gd := gm 330 (by decide +kernel) rfl
theorem cl_13 : Cond.classLink "EdgeJoinsLaw" 13 (xn 1) ∈ gd := gm 254 (by decide +kernel) rfl
theorem cl_21 : Cond.classLink "EdgeJoinsLaw" 21 (xn 2) ∈ gd := gm 331 (by decide +kernel) rfl
theorem d_Law_sherd_0 : decode b_Law_sherd 0 = .ok (.aload_n 1, 1) := by decide +kernel
theorem d_Law_sherd_1 : decode b_Law_sherd 1 = .ok (.iconst 0, 1) := by decide +kernel
theorem d_Law_sherd_2 : decode b_Law_sherd 2 = .ok (.aload_n 0, 1) := by decide +kernel
theorem d_Law_sherd_3 : decode b_Law_sherd 3 = .ok (.invokevirtual 7, 3) := by decide +kernel
theorem d_Law_sherd_6 : decode b_Law_sherd 6 = .ok (.i2l, 1) := by decide +kernel
theorem d_Law_sherd_7 : decode b_Law_sherd 7 = .ok (.lastore, 1) := by decide +kernel
theorem d_Law_sherd_8 : decode b_Law_sherd 8 = .ok (.goto 6, 3) := by decide +kernel
theorem d_Law_sherd_11 : decode b_Law_sherd 11 = .ok (.astore_n 2, 1) := by decide +kernel
theorem d_Law_sherd_12 : decode b_Law_sherd 12 = .ok (.iconst 1, 1) := by decide +kernel
theorem d_Law_sherd_13 : decode b_Law_sherd 13 = .ok (.ireturn, 1) := by decide +kernel
theorem d_Law_sherd_14 : decode b_Law_sherd 14 = .ok (.iconst 0, 1) := by decide +kernel
theorem d_Law_sherd_15 : decode b_Law_sherd 15 = .ok (.ireturn, 1) := by decide +kernel
set_option maxRecDepth 20000 in
theorem lk_Law_7 : lkV "EdgeJoinsLaw" 7 R_X y_X_sherd b_X_sherd 1 (some .int) 0 := ⟨rfl, ⟨by decide, by decide, by decide +kernel⟩, gm 258 rfl rfl, gm 1 (by decide +kernel) rfl, gm 256 (by decide +kernel) rfl, gm 257 (by decide +kernel) rfl, Or.inl (gm 255 (by decide +kernel) rfl)⟩
theorem ln_Law_7 : Cond.methodLink "EdgeJoinsLaw" 7 y_X_sherd ∈ gd := gm 255 (by decide +kernel) rfl
def wpL_sherd (w : Int64) (M : Mem) (K : Int → Int64 → Mem → Prop) : Prop := wp_X_sherd  M (fun r M1 => K 0 (toL r) M1) (fun x => (x = 1 ∧ K 1 w M))
set_option maxHeartbeats 4000000 in
theorem h_sherd (l : Launch) (hfl : l.stackTraces = false) (D : va_G) (g : Nat → ClassId) (b sz o : Nat) {w : Int64} {M : Mem} {K : Int → Int64 → Mem → Prop} (h : wpL_sherd  w M K) : Met l y_Law_sherd (Cond.codeWith y_Law_sherd b_Law_sherd 3 (some .int) [(0, 8, 11, 13)] :: gd) ({ frames := 7, cells := 1, slots := 6, locals := 110 }) (PcL D g b sz M o w [.ref (b + 0), .ref o]) (QL D g b sz o K) 1 6 (aL b sz o) := by
  refine xm_startL (by decide) rfl (Nat.le_of_ble_eq_true rfl) ?_
  intro p e s m below meth c ls H args hC hr hlocks het hK hP hst hsX hsz hH hO hno hS hl
  have hl : lv_has ls 3 [(0, .ref (b + 0)), (1, .ref o)] := hl
  unfold wpL_sherd at h
  have hno2 : ¬ (b ≤ o ∧ o < b + 174) := fun z => hno (Or.inl z)
  refine lv_aload_n hC.1 hC.2.1 d_Law_sherd_0 rfl (lv_at hl 1 rfl) ?_
  refine xi_const hC d_Law_sherd_1 ?_
  refine lv_aload_n hC.1 hC.2.1 d_Law_sherd_2 rfl (lv_at hl 0 rfl) ?_
  refine xk_try (As := []) (rest := [iv 0, .ref o]) (sz := sz) hC hK hP hS (fun q hq => Or.inl (by rw [hH, hsz] at hq; exact hq)) hst (fun q _ _ => by rw [hH]) (by omega) hsX hl.1 lk_Law_7 ln_Law_7 rfl rfl rfl ⟨(Nat.le_of_ble_eq_true rfl), (Nat.le_of_ble_eq_true rfl)⟩ (c_X_sherd l hfl D g b H.size h) (fun st oc t hh hq => QTry_I (by rw [hh]; exact hq)) het (fun z hz => by
      simp only [List.map_cons, List.map_nil, List.mem_cons, List.not_mem_nil, or_false] at hz
      rcases hz with rfl
      · exact ⟨by decide, by decide, cl_13⟩) (fun x hx => by
      rcases hx with ⟨rfl, -⟩
      · exact ⟨abE (0, 8, 11, 13), List.mem_map.mpr ⟨(0, 8, 11, 13), by decide, rfl⟩, rfl⟩) d_Law_sherd_3 rfl (Nat.le_of_ble_eq_true rfl) ⟨(Nat.le_of_ble_eq_true rfl), (Nat.le_of_ble_eq_true rfl)⟩ (fun r M1 H1 locs h hP hkp hS => ?_) (fun x a H1 locs h hkp hS => ?_)
  · have hO := hO.kept (hkp o hO.lt (fun z => hno (by rw [hH, hsz] at z; exact z)))
    refine lv_i2l (v := toL r) hC.1 hC.2.1 d_Law_sherd_6 rfl ?_
    refine xg_last hC hK hP hO hno2 hS (Or.inr rfl) (fun q hq => Or.inl (Or.inl hq)) d_Law_sherd_7 (fun H locs hP hO hS => ?_)
    refine lv_goto (tgt := 14) hC.1 hC.2.1 d_Law_sherd_8 (by decide) ?_
    refine xi_const hC d_Law_sherd_14 ?_
    exact xr_L hC hr hlocks hK hP hO hS h d_Law_sherd_15 (Nat.le_of_ble_eq_true rfl) (Nat.le_of_ble_eq_true rfl)
  · have hO := hO.kept (hkp o hO.lt)
    have hP : va_P D classes (wsG b 174 (cellC b g) M) H1 := hP.kept (fun k q hk => hkp q.1 ((hP k q hk).lt))
    rcases h with ⟨rfl, h⟩
    · refine W.eq (g2 := F0 m 11 ls [.ref a]) rfl ?_
      refine lv_astore_n (lv' := [(2, .ref a), (0, .ref (b + 0)), (1, .ref o)]) hC.1 hC.2.1 d_Law_sherd_11 rfl hl (by decide) rfl (fun ls hl => ?_)
      refine xi_const hC d_Law_sherd_12 ?_
      exact xr_L hC hr hlocks hK hP hO hS h d_Law_sherd_13 (Nat.le_of_ble_eq_true rfl) (Nat.le_of_ble_eq_true rfl)
theorem d_Law_step_0 : decode b_Law_step 0 = .ok (.aload_n 3, 1) := by decide +kernel
theorem d_Law_step_1 : decode b_Law_step 1 = .ok (.iconst 0, 1) := by decide +kernel
theorem d_Law_step_2 : decode b_Law_step 2 = .ok (.aload_n 0, 1) := by decide +kernel
theorem d_Law_step_3 : decode b_Law_step 3 = .ok (.iload_n 1, 1) := by decide +kernel
theorem d_Law_step_4 : decode b_Law_step 4 = .ok (.iload_n 2, 1) := by decide +kernel
theorem d_Law_step_5 : decode b_Law_step 5 = .ok (.invokevirtual 15, 3) := by decide +kernel
theorem d_Law_step_8 : decode b_Law_step 8 = .ok (.i2l, 1) := by decide +kernel
theorem d_Law_step_9 : decode b_Law_step 9 = .ok (.lastore, 1) := by decide +kernel
theorem d_Law_step_10 : decode b_Law_step 10 = .ok (.goto 15, 3) := by decide +kernel
theorem d_Law_step_13 : decode b_Law_step 13 = .ok (.astore 4, 2) := by decide +kernel
theorem d_Law_step_15 : decode b_Law_step 15 = .ok (.iconst 1, 1) := by decide +kernel
theorem d_Law_step_16 : decode b_Law_step 16 = .ok (.ireturn, 1) := by decide +kernel
theorem d_Law_step_17 : decode b_Law_step 17 = .ok (.astore 4, 2) := by decide +kernel
theorem d_Law_step_19 : decode b_Law_step 19 = .ok (.iconst 2, 1) := by decide +kernel
theorem d_Law_step_20 : decode b_Law_step 20 = .ok (.ireturn, 1) := by decide +kernel
theorem d_Law_step_21 : decode b_Law_step 21 = .ok (.astore 4, 2) := by decide +kernel
theorem d_Law_step_23 : decode b_Law_step 23 = .ok (.iconst 3, 1) := by decide +kernel
theorem d_Law_step_24 : decode b_Law_step 24 = .ok (.ireturn, 1) := by decide +kernel
theorem d_Law_step_25 : decode b_Law_step 25 = .ok (.iconst 0, 1) := by decide +kernel
theorem d_Law_step_26 : decode b_Law_step 26 = .ok (.ireturn, 1) := by decide +kernel
set_option maxRecDepth 20000 in
theorem lk_Law_15 : lkV "EdgeJoinsLaw" 15 R_X y_X_step b_X_step 4 (some .int) 2 := ⟨rfl, ⟨by decide, by decide, by decide +kernel⟩, gm 335 rfl rfl, gm 1 (by decide +kernel) rfl, gm 333 (by decide +kernel) rfl, gm 334 (by decide +kernel) rfl, Or.inl (gm 332 (by decide +kernel) rfl)⟩
theorem ln_Law_15 : Cond.methodLink "EdgeJoinsLaw" 15 y_X_step ∈ gd := gm 332 (by decide +kernel) rfl
def wpL_step (p1 p2 : Int) (w : Int64) (M : Mem) (K : Int → Int64 → Mem → Prop) : Prop := wp_X_step p1 p2 M (fun r M1 => K 0 (toL r) M1) (fun x => (x = 0 ∧ K 1 w M) ∨ (x = 1 ∧ K 2 w M) ∨ (x = 2 ∧ K 3 w M))
set_option maxHeartbeats 4000000 in
theorem h_step (l : Launch) (hfl : l.stackTraces = false) (D : va_G) (g : Nat → ClassId) (b sz o : Nat) {p1 p2 : Int} {w : Int64} {M : Mem} {K : Int → Int64 → Mem → Prop} (h : wpL_step p1 p2 w M K) : Met l y_Law_step (Cond.codeWith y_Law_step b_Law_step 5 (some .int) [(0, 10, 13, 19), (0, 10, 17, 13), (0, 10, 21, 21)] :: gd) ({ frames := 8, cells := 2, slots := 12, locals := 134 }) (PcL D g b sz M o w [.ref (b + 0), iv p1, iv p2, .ref o]) (QL D g b sz o K) 2 12 (aL b sz o) := by
  refine xm_startL (by decide) rfl (Nat.le_of_ble_eq_true rfl) ?_
  intro p e s m below meth c ls H args hC hr hlocks het hK hP hst hsX hsz hH hO hno hS hl
  have hl : lv_has ls 5 [(0, .ref (b + 0)), (1, iv p1), (2, iv p2), (3, .ref o)] := hl
  unfold wpL_step at h
  have hno2 : ¬ (b ≤ o ∧ o < b + 174) := fun z => hno (Or.inl z)
  refine lv_aload_n hC.1 hC.2.1 d_Law_step_0 rfl (lv_at hl 3 rfl) ?_
  refine xi_const hC d_Law_step_1 ?_
  refine lv_aload_n hC.1 hC.2.1 d_Law_step_2 rfl (lv_at hl 0 rfl) ?_
  refine lv_iload_n hC.1 hC.2.1 d_Law_step_3 rfl (lv_at hl 1 rfl) ?_
  refine lv_iload_n hC.1 hC.2.1 d_Law_step_4 rfl (lv_at hl 2 rfl) ?_
  refine xk_try (As := [iv p1, iv p2]) (rest := [iv 0, .ref o]) (sz := sz) hC hK hP hS (fun q hq => Or.inl (by rw [hH, hsz] at hq; exact hq)) hst (fun q _ _ => by rw [hH]) (by omega) hsX hl.1 lk_Law_15 ln_Law_15 rfl rfl rfl ⟨(Nat.le_of_ble_eq_true rfl), (Nat.le_of_ble_eq_true rfl)⟩ (c_X_step l hfl D g b H.size h) (fun st oc t hh hq => QTry_I (by rw [hh]; exact hq)) het (fun z hz => by
      simp only [List.map_cons, List.map_nil, List.mem_cons, List.not_mem_nil, or_false] at hz
      rcases hz with rfl | rfl | rfl
      · exact ⟨by decide, by decide, cl_19⟩
      · exact ⟨by decide, by decide, cl_13⟩
      · exact ⟨by decide, by decide, cl_21⟩) (fun x hx => by
      rcases hx with ⟨rfl, -⟩ | ⟨rfl, -⟩ | ⟨rfl, -⟩
      · exact ⟨abE (0, 10, 13, 19), List.mem_map.mpr ⟨(0, 10, 13, 19), by decide, rfl⟩, rfl⟩
      · exact ⟨abE (0, 10, 17, 13), List.mem_map.mpr ⟨(0, 10, 17, 13), by decide, rfl⟩, rfl⟩
      · exact ⟨abE (0, 10, 21, 21), List.mem_map.mpr ⟨(0, 10, 21, 21), by decide, rfl⟩, rfl⟩) d_Law_step_5 rfl (Nat.le_of_ble_eq_true rfl) ⟨(Nat.le_of_ble_eq_true rfl), (Nat.le_of_ble_eq_true rfl)⟩ (fun r M1 H1 locs h hP hkp hS => ?_) (fun x a H1 locs h hkp hS => ?_)
  · have hO := hO.kept (hkp o hO.lt (fun z => hno (by rw [hH, hsz] at z; exact z)))
    refine lv_i2l (v := toL r) hC.1 hC.2.1 d_Law_step_8 rfl ?_
    refine xg_last hC hK hP hO hno2 hS (Or.inr rfl) (fun q hq => Or.inl (Or.inl hq)) d_Law_step_9 (fun H locs hP hO hS => ?_)
    refine lv_goto (tgt := 25) hC.1 hC.2.1 d_Law_step_10 (by decide) ?_
    refine xi_const hC d_Law_step_25 ?_
    exact xr_L hC hr hlocks hK hP hO hS h d_Law_step_26 (Nat.le_of_ble_eq_true rfl) (Nat.le_of_ble_eq_true rfl)
  · have hO := hO.kept (hkp o hO.lt)
    have hP : va_P D classes (wsG b 174 (cellC b g) M) H1 := hP.kept (fun k q hk => hkp q.1 ((hP k q hk).lt))
    rcases h with ⟨rfl, h⟩ | ⟨rfl, h⟩ | ⟨rfl, h⟩
    · refine W.eq (g2 := F0 m 13 ls [.ref a]) rfl ?_
      refine lv_astore (lv' := [(4, .ref a), (0, .ref (b + 0)), (1, iv p1), (2, iv p2), (3, .ref o)]) hC.1 hC.2.1 d_Law_step_13 hl (by decide) rfl (fun ls hl => ?_)
      refine xi_const hC d_Law_step_15 ?_
      exact xr_L hC hr hlocks hK hP hO hS h d_Law_step_16 (Nat.le_of_ble_eq_true rfl) (Nat.le_of_ble_eq_true rfl)
    · refine W.eq (g2 := F0 m 17 ls [.ref a]) rfl ?_
      refine lv_astore (lv' := [(4, .ref a), (0, .ref (b + 0)), (1, iv p1), (2, iv p2), (3, .ref o)]) hC.1 hC.2.1 d_Law_step_17 hl (by decide) rfl (fun ls hl => ?_)
      refine xi_const hC d_Law_step_19 ?_
      exact xr_L hC hr hlocks hK hP hO hS h d_Law_step_20 (Nat.le_of_ble_eq_true rfl) (Nat.le_of_ble_eq_true rfl)
    · refine W.eq (g2 := F0 m 21 ls [.ref a]) rfl ?_
      refine lv_astore (lv' := [(4, .ref a), (0, .ref (b + 0)), (1, iv p1), (2, iv p2), (3, .ref o)]) hC.1 hC.2.1 d_Law_step_21 hl (by decide) rfl (fun ls hl => ?_)
      refine xi_const hC d_Law_step_23 ?_
      exact xr_L hC hr hlocks hK hP hO hS h d_Law_step_24 (Nat.le_of_ble_eq_true rfl) (Nat.le_of_ble_eq_true rfl)
theorem d_Law_height_0 : decode b_Law_height 0 = .ok (.aload 4, 2) := by decide +kernel
theorem d_Law_height_2 : decode b_Law_height 2 = .ok (.iconst 0, 1) := by decide +kernel
theorem d_Law_height_3 : decode b_Law_height 3 = .ok (.aload_n 0, 1) := by decide +kernel
theorem d_Law_height_4 : decode b_Law_height 4 = .ok (.iload_n 1, 1) := by decide +kernel
theorem d_Law_height_5 : decode b_Law_height 5 = .ok (.iload_n 2, 1) := by decide +kernel
theorem d_Law_height_6 : decode b_Law_height 6 = .ok (.iload_n 3, 1) := by decide +kernel
theorem d_Law_height_7 : decode b_Law_height 7 = .ok (.invokevirtual 23, 3) := by decide +kernel
theorem d_Law_height_10 : decode b_Law_height 10 = .ok (.i2l, 1) := by decide +kernel
theorem d_Law_height_11 : decode b_Law_height 11 = .ok (.lastore, 1) := by decide +kernel
theorem d_Law_height_12 : decode b_Law_height 12 = .ok (.goto 11, 3) := by decide +kernel
theorem d_Law_height_15 : decode b_Law_height 15 = .ok (.astore 5, 2) := by decide +kernel
theorem d_Law_height_17 : decode b_Law_height 17 = .ok (.iconst 1, 1) := by decide +kernel
theorem d_Law_height_18 : decode b_Law_height 18 = .ok (.ireturn, 1) := by decide +kernel
theorem d_Law_height_19 : decode b_Law_height 19 = .ok (.astore 5, 2) := by decide +kernel
theorem d_Law_height_21 : decode b_Law_height 21 = .ok (.iconst 2, 1) := by decide +kernel
theorem d_Law_height_22 : decode b_Law_height 22 = .ok (.ireturn, 1) := by decide +kernel
theorem d_Law_height_23 : decode b_Law_height 23 = .ok (.iconst 0, 1) := by decide +kernel
theorem d_Law_height_24 : decode b_Law_height 24 = .ok (.ireturn, 1) := by decide +kernel
set_option maxRecDepth 20000 in
theorem lk_Law_23 : lkV "EdgeJoinsLaw" 23 R_X y_X_height b_X_height 6 (some .int) 3 := ⟨rfl, ⟨by decide, by decide, by decide +kernel⟩, gm 391 rfl rfl, gm 1 (by decide +kernel) rfl, gm 389 (by decide +kernel) rfl, gm 390 (by decide +kernel) rfl, Or.inl (gm 388 (by decide +kernel) rfl)⟩
theorem ln_Law_23 : Cond.methodLink "EdgeJoinsLaw" 23 y_X_height ∈ gd := gm 388 (by decide +kernel) rfl
def wpL_height (p1 p2 p3 : Int) (w : Int64) (M : Mem) (K : Int → Int64 → Mem → Prop) : Prop := wp_X_height p1 p2 p3 M (fun r M1 => K 0 (toL r) M1) (fun x => (x = 0 ∧ K 1 w M) ∨ (x = 2 ∧ K 2 w M))
set_option maxHeartbeats 4000000 in
theorem h_height (l : Launch) (hfl : l.stackTraces = false) (D : va_G) (g : Nat → ClassId) (b sz o : Nat) {p1 p2 p3 : Int} {w : Int64} {M : Mem} {K : Int → Int64 → Mem → Prop} (h : wpL_height p1 p2 p3 w M K) : Met l y_Law_height (Cond.codeWith y_Law_height b_Law_height 6 (some .int) [(0, 12, 15, 19), (0, 12, 19, 21)] :: gd) ({ frames := 8, cells := 2, slots := 12, locals := 136 }) (PcL D g b sz M o w [.ref (b + 0), iv p1, iv p2, iv p3, .ref o]) (QL D g b sz o K) 2 12 (aL b sz o) := by
  refine xm_startL (by decide) rfl (Nat.le_of_ble_eq_true rfl) ?_
  intro p e s m below meth c ls H args hC hr hlocks het hK hP hst hsX hsz hH hO hno hS hl
  have hl : lv_has ls 6 [(0, .ref (b + 0)), (1, iv p1), (2, iv p2), (3, iv p3), (4, .ref o)] := hl
  unfold wpL_height at h
  have hno2 : ¬ (b ≤ o ∧ o < b + 174) := fun z => hno (Or.inl z)
  refine lv_aload hC.1 hC.2.1 d_Law_height_0 (lv_at hl 4 rfl) ?_
  refine xi_const hC d_Law_height_2 ?_
  refine lv_aload_n hC.1 hC.2.1 d_Law_height_3 rfl (lv_at hl 0 rfl) ?_
  refine lv_iload_n hC.1 hC.2.1 d_Law_height_4 rfl (lv_at hl 1 rfl) ?_
  refine lv_iload_n hC.1 hC.2.1 d_Law_height_5 rfl (lv_at hl 2 rfl) ?_
  refine lv_iload_n hC.1 hC.2.1 d_Law_height_6 rfl (lv_at hl 3 rfl) ?_
  refine xk_try (As := [iv p1, iv p2, iv p3]) (rest := [iv 0, .ref o]) (sz := sz) hC hK hP hS (fun q hq => Or.inl (by rw [hH, hsz] at hq; exact hq)) hst (fun q _ _ => by rw [hH]) (by omega) hsX hl.1 lk_Law_23 ln_Law_23 rfl rfl rfl ⟨(Nat.le_of_ble_eq_true rfl), (Nat.le_of_ble_eq_true rfl)⟩ (c_X_height l hfl D g b H.size h) (fun st oc t hh hq => QTry_I (by rw [hh]; exact hq)) het (fun z hz => by
      simp only [List.map_cons, List.map_nil, List.mem_cons, List.not_mem_nil, or_false] at hz
      rcases hz with rfl | rfl
      · exact ⟨by decide, by decide, cl_19⟩
      · exact ⟨by decide, by decide, cl_21⟩) (fun x hx => by
      rcases hx with ⟨rfl, -⟩ | ⟨rfl, -⟩
      · exact ⟨abE (0, 12, 15, 19), List.mem_map.mpr ⟨(0, 12, 15, 19), by decide, rfl⟩, rfl⟩
      · exact ⟨abE (0, 12, 19, 21), List.mem_map.mpr ⟨(0, 12, 19, 21), by decide, rfl⟩, rfl⟩) d_Law_height_7 rfl (Nat.le_of_ble_eq_true rfl) ⟨(Nat.le_of_ble_eq_true rfl), (Nat.le_of_ble_eq_true rfl)⟩ (fun r M1 H1 locs h hP hkp hS => ?_) (fun x a H1 locs h hkp hS => ?_)
  · have hO := hO.kept (hkp o hO.lt (fun z => hno (by rw [hH, hsz] at z; exact z)))
    refine lv_i2l (v := toL r) hC.1 hC.2.1 d_Law_height_10 rfl ?_
    refine xg_last hC hK hP hO hno2 hS (Or.inr rfl) (fun q hq => Or.inl (Or.inl hq)) d_Law_height_11 (fun H locs hP hO hS => ?_)
    refine lv_goto (tgt := 23) hC.1 hC.2.1 d_Law_height_12 (by decide) ?_
    refine xi_const hC d_Law_height_23 ?_
    exact xr_L hC hr hlocks hK hP hO hS h d_Law_height_24 (Nat.le_of_ble_eq_true rfl) (Nat.le_of_ble_eq_true rfl)
  · have hO := hO.kept (hkp o hO.lt)
    have hP : va_P D classes (wsG b 174 (cellC b g) M) H1 := hP.kept (fun k q hk => hkp q.1 ((hP k q hk).lt))
    rcases h with ⟨rfl, h⟩ | ⟨rfl, h⟩
    · refine W.eq (g2 := F0 m 15 ls [.ref a]) rfl ?_
      refine lv_astore (lv' := [(5, .ref a), (0, .ref (b + 0)), (1, iv p1), (2, iv p2), (3, iv p3), (4, .ref o)]) hC.1 hC.2.1 d_Law_height_15 hl (by decide) rfl (fun ls hl => ?_)
      refine xi_const hC d_Law_height_17 ?_
      exact xr_L hC hr hlocks hK hP hO hS h d_Law_height_18 (Nat.le_of_ble_eq_true rfl) (Nat.le_of_ble_eq_true rfl)
    · refine W.eq (g2 := F0 m 19 ls [.ref a]) rfl ?_
      refine lv_astore (lv' := [(5, .ref a), (0, .ref (b + 0)), (1, iv p1), (2, iv p2), (3, iv p3), (4, .ref o)]) hC.1 hC.2.1 d_Law_height_19 hl (by decide) rfl (fun ls hl => ?_)
      refine xi_const hC d_Law_height_21 ?_
      exact xr_L hC hr hlocks hK hP hO hS h d_Law_height_22 (Nat.le_of_ble_eq_true rfl) (Nat.le_of_ble_eq_true rfl)
theorem d_Law_close_0 : decode b_Law_close 0 = .ok (.aload_n 2, 1) := by decide +kernel
theorem d_Law_close_1 : decode b_Law_close 1 = .ok (.iconst 0, 1) := by decide +kernel
theorem d_Law_close_2 : decode b_Law_close 2 = .ok (.aload_n 0, 1) := by decide +kernel
theorem d_Law_close_3 : decode b_Law_close 3 = .ok (.iload_n 1, 1) := by decide +kernel
theorem d_Law_close_4 : decode b_Law_close 4 = .ok (.invokevirtual 27, 3) := by decide +kernel
theorem d_Law_close_7 : decode b_Law_close 7 = .ok (.i2l, 1) := by decide +kernel
theorem d_Law_close_8 : decode b_Law_close 8 = .ok (.lastore, 1) := by decide +kernel
theorem d_Law_close_9 : decode b_Law_close 9 = .ok (.goto 6, 3) := by decide +kernel
theorem d_Law_close_12 : decode b_Law_close 12 = .ok (.astore_n 3, 1) := by decide +kernel
theorem d_Law_close_13 : decode b_Law_close 13 = .ok (.iconst 1, 1) := by decide +kernel
theorem d_Law_close_14 : decode b_Law_close 14 = .ok (.ireturn, 1) := by decide +kernel
theorem d_Law_close_15 : decode b_Law_close 15 = .ok (.iconst 0, 1) := by decide +kernel
theorem d_Law_close_16 : decode b_Law_close 16 = .ok (.ireturn, 1) := by decide +kernel
set_option maxRecDepth 20000 in
theorem lk_Law_27 : lkV "EdgeJoinsLaw" 27 R_X y_X_close b_X_close 3 (some .int) 1 := ⟨rfl, ⟨by decide, by decide, by decide +kernel⟩, gm 400 rfl rfl, gm 1 (by decide +kernel) rfl, gm 398 (by decide +kernel) rfl, gm 399 (by decide +kernel) rfl, Or.inl (gm 397 (by decide +kernel) rfl)⟩
theorem ln_Law_27 : Cond.methodLink "EdgeJoinsLaw" 27 y_X_close ∈ gd := gm 397 (by decide +kernel) rfl
def wpL_close (p1 : Int) (w : Int64) (M : Mem) (K : Int → Int64 → Mem → Prop) : Prop := wp_X_close p1 M (fun r M1 => K 0 (toL r) M1) (fun x => (x = 0 ∧ K 1 w M))
set_option maxHeartbeats 4000000 in
theorem h_close (l : Launch) (hfl : l.stackTraces = false) (D : va_G) (g : Nat → ClassId) (b sz o : Nat) {p1 : Int} {w : Int64} {M : Mem} {K : Int → Int64 → Mem → Prop} (h : wpL_close p1 w M K) : Met l y_Law_close (Cond.codeWith y_Law_close b_Law_close 4 (some .int) [(0, 9, 12, 19)] :: gd) ({ frames := 8, cells := 1, slots := 6, locals := 133 }) (PcL D g b sz M o w [.ref (b + 0), iv p1, .ref o]) (QL D g b sz o K) 1 6 (aL b sz o) := by
  refine xm_startL (by decide) rfl (Nat.le_of_ble_eq_true rfl) ?_
  intro p e s m below meth c ls H args hC hr hlocks het hK hP hst hsX hsz hH hO hno hS hl
  have hl : lv_has ls 4 [(0, .ref (b + 0)), (1, iv p1), (2, .ref o)] := hl
  unfold wpL_close at h
  have hno2 : ¬ (b ≤ o ∧ o < b + 174) := fun z => hno (Or.inl z)
  refine lv_aload_n hC.1 hC.2.1 d_Law_close_0 rfl (lv_at hl 2 rfl) ?_
  refine xi_const hC d_Law_close_1 ?_
  refine lv_aload_n hC.1 hC.2.1 d_Law_close_2 rfl (lv_at hl 0 rfl) ?_
  refine lv_iload_n hC.1 hC.2.1 d_Law_close_3 rfl (lv_at hl 1 rfl) ?_
  refine xk_try (As := [iv p1]) (rest := [iv 0, .ref o]) (sz := sz) hC hK hP hS (fun q hq => Or.inl (by rw [hH, hsz] at hq; exact hq)) hst (fun q _ _ => by rw [hH]) (by omega) hsX hl.1 lk_Law_27 ln_Law_27 rfl rfl rfl ⟨(Nat.le_of_ble_eq_true rfl), (Nat.le_of_ble_eq_true rfl)⟩ (c_X_close l hfl D g b H.size h) (fun st oc t hh hq => QTry_I (by rw [hh]; exact hq)) het (fun z hz => by
      simp only [List.map_cons, List.map_nil, List.mem_cons, List.not_mem_nil, or_false] at hz
      rcases hz with rfl
      · exact ⟨by decide, by decide, cl_19⟩) (fun x hx => by
      rcases hx with ⟨rfl, -⟩
      · exact ⟨abE (0, 9, 12, 19), List.mem_map.mpr ⟨(0, 9, 12, 19), by decide, rfl⟩, rfl⟩) d_Law_close_4 rfl (Nat.le_of_ble_eq_true rfl) ⟨(Nat.le_of_ble_eq_true rfl), (Nat.le_of_ble_eq_true rfl)⟩ (fun r M1 H1 locs h hP hkp hS => ?_) (fun x a H1 locs h hkp hS => ?_)
  · have hO := hO.kept (hkp o hO.lt (fun z => hno (by rw [hH, hsz] at z; exact z)))
    refine lv_i2l (v := toL r) hC.1 hC.2.1 d_Law_close_7 rfl ?_
    refine xg_last hC hK hP hO hno2 hS (Or.inr rfl) (fun q hq => Or.inl (Or.inl hq)) d_Law_close_8 (fun H locs hP hO hS => ?_)
    refine lv_goto (tgt := 15) hC.1 hC.2.1 d_Law_close_9 (by decide) ?_
    refine xi_const hC d_Law_close_15 ?_
    exact xr_L hC hr hlocks hK hP hO hS h d_Law_close_16 (Nat.le_of_ble_eq_true rfl) (Nat.le_of_ble_eq_true rfl)
  · have hO := hO.kept (hkp o hO.lt)
    have hP : va_P D classes (wsG b 174 (cellC b g) M) H1 := hP.kept (fun k q hk => hkp q.1 ((hP k q hk).lt))
    rcases h with ⟨rfl, h⟩
    · refine W.eq (g2 := F0 m 12 ls [.ref a]) rfl ?_
      refine lv_astore_n (lv' := [(3, .ref a), (0, .ref (b + 0)), (1, iv p1), (2, .ref o)]) hC.1 hC.2.1 d_Law_close_12 rfl hl (by decide) rfl (fun ls hl => ?_)
      refine xi_const hC d_Law_close_13 ?_
      exact xr_L hC hr hlocks hK hP hO hS h d_Law_close_14 (Nat.le_of_ble_eq_true rfl) (Nat.le_of_ble_eq_true rfl)
theorem d_Law_least_0 : decode b_Law_least 0 = .ok (.aload_n 2, 1) := by decide +kernel
theorem d_Law_least_1 : decode b_Law_least 1 = .ok (.iconst 0, 1) := by decide +kernel
theorem d_Law_least_2 : decode b_Law_least 2 = .ok (.aload_n 0, 1) := by decide +kernel
theorem d_Law_least_3 : decode b_Law_least 3 = .ok (.iload_n 1, 1) := by decide +kernel
theorem d_Law_least_4 : decode b_Law_least 4 = .ok (.invokevirtual 31, 3) := by decide +kernel
theorem d_Law_least_7 : decode b_Law_least 7 = .ok (.i2l, 1) := by decide +kernel
theorem d_Law_least_8 : decode b_Law_least 8 = .ok (.lastore, 1) := by decide +kernel
theorem d_Law_least_9 : decode b_Law_least 9 = .ok (.goto 6, 3) := by decide +kernel
theorem d_Law_least_12 : decode b_Law_least 12 = .ok (.astore_n 3, 1) := by decide +kernel
theorem d_Law_least_13 : decode b_Law_least 13 = .ok (.iconst 1, 1) := by decide +kernel
theorem d_Law_least_14 : decode b_Law_least 14 = .ok (.ireturn, 1) := by decide +kernel
theorem d_Law_least_15 : decode b_Law_least 15 = .ok (.iconst 0, 1) := by decide +kernel
theorem d_Law_least_16 : decode b_Law_least 16 = .ok (.ireturn, 1) := by decide +kernel
set_option maxRecDepth 20000 in
theorem lk_Law_31 : lkV "EdgeJoinsLaw" 31 R_X y_X_least b_X_least 3 (some .int) 1 := ⟨rfl, ⟨by decide, by decide, by decide +kernel⟩, gm 420 rfl rfl, gm 1 (by decide +kernel) rfl, gm 418 (by decide +kernel) rfl, gm 419 (by decide +kernel) rfl, Or.inl (gm 417 (by decide +kernel) rfl)⟩
theorem ln_Law_31 : Cond.methodLink "EdgeJoinsLaw" 31 y_X_least ∈ gd := gm 417 (by decide +kernel) rfl
def wpL_least (p1 : Int) (w : Int64) (M : Mem) (K : Int → Int64 → Mem → Prop) : Prop := wp_X_least p1 M (fun r M1 => K 0 (toL r) M1) (fun x => (x = 2 ∧ K 1 w M))
set_option maxHeartbeats 4000000 in
theorem h_least (l : Launch) (hfl : l.stackTraces = false) (D : va_G) (g : Nat → ClassId) (b sz o : Nat) {p1 : Int} {w : Int64} {M : Mem} {K : Int → Int64 → Mem → Prop} (h : wpL_least p1 w M K) : Met l y_Law_least (Cond.codeWith y_Law_least b_Law_least 4 (some .int) [(0, 9, 12, 21)] :: gd) ({ frames := 7, cells := 1, slots := 6, locals := 112 }) (PcL D g b sz M o w [.ref (b + 0), iv p1, .ref o]) (QL D g b sz o K) 1 6 (aL b sz o) := by
  refine xm_startL (by decide) rfl (Nat.le_of_ble_eq_true rfl) ?_
  intro p e s m below meth c ls H args hC hr hlocks het hK hP hst hsX hsz hH hO hno hS hl
  have hl : lv_has ls 4 [(0, .ref (b + 0)), (1, iv p1), (2, .ref o)] := hl
  unfold wpL_least at h
  have hno2 : ¬ (b ≤ o ∧ o < b + 174) := fun z => hno (Or.inl z)
  refine lv_aload_n hC.1 hC.2.1 d_Law_least_0 rfl (lv_at hl 2 rfl) ?_
  refine xi_const hC d_Law_least_1 ?_
  refine lv_aload_n hC.1 hC.2.1 d_Law_least_2 rfl (lv_at hl 0 rfl) ?_
  refine lv_iload_n hC.1 hC.2.1 d_Law_least_3 rfl (lv_at hl 1 rfl) ?_
  refine xk_try (As := [iv p1]) (rest := [iv 0, .ref o]) (sz := sz) hC hK hP hS (fun q hq => Or.inl (by rw [hH, hsz] at hq; exact hq)) hst (fun q _ _ => by rw [hH]) (by omega) hsX hl.1 lk_Law_31 ln_Law_31 rfl rfl rfl ⟨(Nat.le_of_ble_eq_true rfl), (Nat.le_of_ble_eq_true rfl)⟩ (c_X_least l hfl D g b H.size h) (fun st oc t hh hq => QTry_I (by rw [hh]; exact hq)) het (fun z hz => by
      simp only [List.map_cons, List.map_nil, List.mem_cons, List.not_mem_nil, or_false] at hz
      rcases hz with rfl
      · exact ⟨by decide, by decide, cl_21⟩) (fun x hx => by
      rcases hx with ⟨rfl, -⟩
      · exact ⟨abE (0, 9, 12, 21), List.mem_map.mpr ⟨(0, 9, 12, 21), by decide, rfl⟩, rfl⟩) d_Law_least_4 rfl (Nat.le_of_ble_eq_true rfl) ⟨(Nat.le_of_ble_eq_true rfl), (Nat.le_of_ble_eq_true rfl)⟩ (fun r M1 H1 locs h hP hkp hS => ?_) (fun x a H1 locs h hkp hS => ?_)
  · have hO := hO.kept (hkp o hO.lt (fun z => hno (by rw [hH, hsz] at z; exact z)))
    refine lv_i2l (v := toL r) hC.1 hC.2.1 d_Law_least_7 rfl ?_
    refine xg_last hC hK hP hO hno2 hS (Or.inr rfl) (fun q hq => Or.inl (Or.inl hq)) d_Law_least_8 (fun H locs hP hO hS => ?_)
    refine lv_goto (tgt := 15) hC.1 hC.2.1 d_Law_least_9 (by decide) ?_
    refine xi_const hC d_Law_least_15 ?_
    exact xr_L hC hr hlocks hK hP hO hS h d_Law_least_16 (Nat.le_of_ble_eq_true rfl) (Nat.le_of_ble_eq_true rfl)
  · have hO := hO.kept (hkp o hO.lt)
    have hP : va_P D classes (wsG b 174 (cellC b g) M) H1 := hP.kept (fun k q hk => hkp q.1 ((hP k q hk).lt))
    rcases h with ⟨rfl, h⟩
    · refine W.eq (g2 := F0 m 12 ls [.ref a]) rfl ?_
      refine lv_astore_n (lv' := [(3, .ref a), (0, .ref (b + 0)), (1, iv p1), (2, .ref o)]) hC.1 hC.2.1 d_Law_least_12 rfl hl (by decide) rfl (fun ls hl => ?_)
      refine xi_const hC d_Law_least_13 ?_
      exact xr_L hC hr hlocks hK hP hO hS h d_Law_least_14 (Nat.le_of_ble_eq_true rfl) (Nat.le_of_ble_eq_true rfl)
theorem d_Law_bound_0 : decode b_Law_bound 0 = .ok (.aload_n 2, 1) := by decide +kernel
theorem d_Law_bound_1 : decode b_Law_bound 1 = .ok (.iconst 0, 1) := by decide +kernel
theorem d_Law_bound_2 : decode b_Law_bound 2 = .ok (.aload_n 0, 1) := by decide +kernel
theorem d_Law_bound_3 : decode b_Law_bound 3 = .ok (.iload_n 1, 1) := by decide +kernel
theorem d_Law_bound_4 : decode b_Law_bound 4 = .ok (.invokevirtual 34, 3) := by decide +kernel
theorem d_Law_bound_7 : decode b_Law_bound 7 = .ok (.i2l, 1) := by decide +kernel
theorem d_Law_bound_8 : decode b_Law_bound 8 = .ok (.lastore, 1) := by decide +kernel
theorem d_Law_bound_9 : decode b_Law_bound 9 = .ok (.goto 6, 3) := by decide +kernel
theorem d_Law_bound_12 : decode b_Law_bound 12 = .ok (.astore_n 3, 1) := by decide +kernel
theorem d_Law_bound_13 : decode b_Law_bound 13 = .ok (.iconst 1, 1) := by decide +kernel
theorem d_Law_bound_14 : decode b_Law_bound 14 = .ok (.ireturn, 1) := by decide +kernel
theorem d_Law_bound_15 : decode b_Law_bound 15 = .ok (.iconst 0, 1) := by decide +kernel
theorem d_Law_bound_16 : decode b_Law_bound 16 = .ok (.ireturn, 1) := by decide +kernel
set_option maxRecDepth 20000 in
theorem lk_Law_34 : lkV "EdgeJoinsLaw" 34 R_X y_X_bound b_X_bound 3 (some .int) 1 := ⟨rfl, ⟨by decide, by decide, by decide +kernel⟩, gm 428 rfl rfl, gm 1 (by decide +kernel) rfl, gm 426 (by decide +kernel) rfl, gm 427 (by decide +kernel) rfl, Or.inl (gm 425 (by decide +kernel) rfl)⟩
theorem ln_Law_34 : Cond.methodLink "EdgeJoinsLaw" 34 y_X_bound ∈ gd := gm 425 (by decide +kernel) rfl
def wpL_bound (p1 : Int) (w : Int64) (M : Mem) (K : Int → Int64 → Mem → Prop) : Prop := wp_X_bound p1 M (fun r M1 => K 0 (toL r) M1) (fun x => (x = 2 ∧ K 1 w M))
set_option maxHeartbeats 4000000 in
theorem h_bound (l : Launch) (hfl : l.stackTraces = false) (D : va_G) (g : Nat → ClassId) (b sz o : Nat) {p1 : Int} {w : Int64} {M : Mem} {K : Int → Int64 → Mem → Prop} (h : wpL_bound p1 w M K) : Met l y_Law_bound (Cond.codeWith y_Law_bound b_Law_bound 4 (some .int) [(0, 9, 12, 21)] :: gd) ({ frames := 7, cells := 1, slots := 6, locals := 112 }) (PcL D g b sz M o w [.ref (b + 0), iv p1, .ref o]) (QL D g b sz o K) 1 6 (aL b sz o) := by
  refine xm_startL (by decide) rfl (Nat.le_of_ble_eq_true rfl) ?_
  intro p e s m below meth c ls H args hC hr hlocks het hK hP hst hsX hsz hH hO hno hS hl
  have hl : lv_has ls 4 [(0, .ref (b + 0)), (1, iv p1), (2, .ref o)] := hl
  unfold wpL_bound at h
  have hno2 : ¬ (b ≤ o ∧ o < b + 174) := fun z => hno (Or.inl z)
  refine lv_aload_n hC.1 hC.2.1 d_Law_bound_0 rfl (lv_at hl 2 rfl) ?_
  refine xi_const hC d_Law_bound_1 ?_
  refine lv_aload_n hC.1 hC.2.1 d_Law_bound_2 rfl (lv_at hl 0 rfl) ?_
  refine lv_iload_n hC.1 hC.2.1 d_Law_bound_3 rfl (lv_at hl 1 rfl) ?_
  refine xk_try (As := [iv p1]) (rest := [iv 0, .ref o]) (sz := sz) hC hK hP hS (fun q hq => Or.inl (by rw [hH, hsz] at hq; exact hq)) hst (fun q _ _ => by rw [hH]) (by omega) hsX hl.1 lk_Law_34 ln_Law_34 rfl rfl rfl ⟨(Nat.le_of_ble_eq_true rfl), (Nat.le_of_ble_eq_true rfl)⟩ (c_X_bound l hfl D g b H.size h) (fun st oc t hh hq => QTry_I (by rw [hh]; exact hq)) het (fun z hz => by
      simp only [List.map_cons, List.map_nil, List.mem_cons, List.not_mem_nil, or_false] at hz
      rcases hz with rfl
      · exact ⟨by decide, by decide, cl_21⟩) (fun x hx => by
      rcases hx with ⟨rfl, -⟩
      · exact ⟨abE (0, 9, 12, 21), List.mem_map.mpr ⟨(0, 9, 12, 21), by decide, rfl⟩, rfl⟩) d_Law_bound_4 rfl (Nat.le_of_ble_eq_true rfl) ⟨(Nat.le_of_ble_eq_true rfl), (Nat.le_of_ble_eq_true rfl)⟩ (fun r M1 H1 locs h hP hkp hS => ?_) (fun x a H1 locs h hkp hS => ?_)
  · have hO := hO.kept (hkp o hO.lt (fun z => hno (by rw [hH, hsz] at z; exact z)))
    refine lv_i2l (v := toL r) hC.1 hC.2.1 d_Law_bound_7 rfl ?_
    refine xg_last hC hK hP hO hno2 hS (Or.inr rfl) (fun q hq => Or.inl (Or.inl hq)) d_Law_bound_8 (fun H locs hP hO hS => ?_)
    refine lv_goto (tgt := 15) hC.1 hC.2.1 d_Law_bound_9 (by decide) ?_
    refine xi_const hC d_Law_bound_15 ?_
    exact xr_L hC hr hlocks hK hP hO hS h d_Law_bound_16 (Nat.le_of_ble_eq_true rfl) (Nat.le_of_ble_eq_true rfl)
  · have hO := hO.kept (hkp o hO.lt)
    have hP : va_P D classes (wsG b 174 (cellC b g) M) H1 := hP.kept (fun k q hk => hkp q.1 ((hP k q hk).lt))
    rcases h with ⟨rfl, h⟩
    · refine W.eq (g2 := F0 m 12 ls [.ref a]) rfl ?_
      refine lv_astore_n (lv' := [(3, .ref a), (0, .ref (b + 0)), (1, iv p1), (2, .ref o)]) hC.1 hC.2.1 d_Law_bound_12 rfl hl (by decide) rfl (fun ls hl => ?_)
      refine xi_const hC d_Law_bound_13 ?_
      exact xr_L hC hr hlocks hK hP hO hS h d_Law_bound_14 (Nat.le_of_ble_eq_true rfl) (Nat.le_of_ble_eq_true rfl)
theorem d_Law_pair_0 : decode b_Law_pair 0 = .ok (.aload_n 3, 1) := by decide +kernel
theorem d_Law_pair_1 : decode b_Law_pair 1 = .ok (.iconst 0, 1) := by decide +kernel
theorem d_Law_pair_2 : decode b_Law_pair 2 = .ok (.aload_n 0, 1) := by decide +kernel
theorem d_Law_pair_3 : decode b_Law_pair 3 = .ok (.iload_n 1, 1) := by decide +kernel
theorem d_Law_pair_4 : decode b_Law_pair 4 = .ok (.iload_n 2, 1) := by decide +kernel
theorem d_Law_pair_5 : decode b_Law_pair 5 = .ok (.invokevirtual 37, 3) := by decide +kernel
theorem d_Law_pair_8 : decode b_Law_pair 8 = .ok (.i2l, 1) := by decide +kernel
theorem d_Law_pair_9 : decode b_Law_pair 9 = .ok (.lastore, 1) := by decide +kernel
theorem d_Law_pair_10 : decode b_Law_pair 10 = .ok (.goto 7, 3) := by decide +kernel
theorem d_Law_pair_13 : decode b_Law_pair 13 = .ok (.astore 4, 2) := by decide +kernel
theorem d_Law_pair_15 : decode b_Law_pair 15 = .ok (.iconst 1, 1) := by decide +kernel
theorem d_Law_pair_16 : decode b_Law_pair 16 = .ok (.ireturn, 1) := by decide +kernel
theorem d_Law_pair_17 : decode b_Law_pair 17 = .ok (.iconst 0, 1) := by decide +kernel
theorem d_Law_pair_18 : decode b_Law_pair 18 = .ok (.ireturn, 1) := by decide +kernel
set_option maxRecDepth 20000 in
theorem lk_Law_37 : lkV "EdgeJoinsLaw" 37 R_X y_X_pair b_X_pair 4 (some .int) 2 := ⟨rfl, ⟨by decide, by decide, by decide +kernel⟩, gm 436 rfl rfl, gm 1 (by decide +kernel) rfl, gm 434 (by decide +kernel) rfl, gm 435 (by decide +kernel) rfl, Or.inl (gm 433 (by decide +kernel) rfl)⟩
theorem ln_Law_37 : Cond.methodLink "EdgeJoinsLaw" 37 y_X_pair ∈ gd := gm 433 (by decide +kernel) rfl
def wpL_pair (p1 p2 : Int) (w : Int64) (M : Mem) (K : Int → Int64 → Mem → Prop) : Prop := wp_X_pair p1 p2 M (fun r => K 0 (toL r) M) (fun x => (x = 0 ∧ K 1 w M))
set_option maxHeartbeats 4000000 in
theorem h_pair (l : Launch) (hfl : l.stackTraces = false) (D : va_G) (g : Nat → ClassId) (b sz o : Nat) {p1 p2 : Int} {w : Int64} {M : Mem} {K : Int → Int64 → Mem → Prop} (h : wpL_pair p1 p2 w M K) : Met l y_Law_pair (Cond.codeWith y_Law_pair b_Law_pair 5 (some .int) [(0, 10, 13, 19)] :: gd) ({ frames := 8, cells := 2, slots := 12, locals := 134 }) (PcL D g b sz M o w [.ref (b + 0), iv p1, iv p2, .ref o]) (QL D g b sz o K) 2 12 (aL b sz o) := by
  refine xm_startL (by decide) rfl (Nat.le_of_ble_eq_true rfl) ?_
  intro p e s m below meth c ls H args hC hr hlocks het hK hP hst hsX hsz hH hO hno hS hl
  have hl : lv_has ls 5 [(0, .ref (b + 0)), (1, iv p1), (2, iv p2), (3, .ref o)] := hl
  unfold wpL_pair at h
  have hno2 : ¬ (b ≤ o ∧ o < b + 174) := fun z => hno (Or.inl z)
  refine lv_aload_n hC.1 hC.2.1 d_Law_pair_0 rfl (lv_at hl 3 rfl) ?_
  refine xi_const hC d_Law_pair_1 ?_
  refine lv_aload_n hC.1 hC.2.1 d_Law_pair_2 rfl (lv_at hl 0 rfl) ?_
  refine lv_iload_n hC.1 hC.2.1 d_Law_pair_3 rfl (lv_at hl 1 rfl) ?_
  refine lv_iload_n hC.1 hC.2.1 d_Law_pair_4 rfl (lv_at hl 2 rfl) ?_
  refine xk_try (As := [iv p1, iv p2]) (rest := [iv 0, .ref o]) (sz := sz) hC hK hP hS (fun q hq => Or.inl (by rw [hH, hsz] at hq; exact hq)) hst (fun q _ _ => by rw [hH]) (by omega) hsX hl.1 lk_Law_37 ln_Law_37 rfl rfl rfl ⟨(Nat.le_of_ble_eq_true rfl), (Nat.le_of_ble_eq_true rfl)⟩ (MetX.free (c_X_pair l hfl D g b H.size h)) (fun st oc t hh hq => QTry_P (M := M) (by rw [hh]; exact hP) hq) het (fun z hz => by
      simp only [List.map_cons, List.map_nil, List.mem_cons, List.not_mem_nil, or_false] at hz
      rcases hz with rfl
      · exact ⟨by decide, by decide, cl_19⟩) (fun x hx => by
      rcases hx with ⟨rfl, -⟩
      · exact ⟨abE (0, 10, 13, 19), List.mem_map.mpr ⟨(0, 10, 13, 19), by decide, rfl⟩, rfl⟩) d_Law_pair_5 rfl (Nat.le_of_ble_eq_true rfl) ⟨(Nat.le_of_ble_eq_true rfl), (Nat.le_of_ble_eq_true rfl)⟩ (fun r M1 H1 locs h hP hkp hS => ?_) (fun x a H1 locs h hkp hS => ?_)
  · have hO := hO.kept (hkp o hO.lt (fun z => hno (by rw [hH, hsz] at z; exact z)))
    obtain ⟨h, hM⟩ := h
    have hP : va_P D classes (wsG b 174 (cellC b g) M) H1 := hM ▸ hP
    refine lv_i2l (v := toL r) hC.1 hC.2.1 d_Law_pair_8 rfl ?_
    refine xg_last hC hK hP hO hno2 hS (Or.inr rfl) (fun q hq => Or.inl (Or.inl hq)) d_Law_pair_9 (fun H locs hP hO hS => ?_)
    refine lv_goto (tgt := 17) hC.1 hC.2.1 d_Law_pair_10 (by decide) ?_
    refine xi_const hC d_Law_pair_17 ?_
    exact xr_L hC hr hlocks hK hP hO hS h d_Law_pair_18 (Nat.le_of_ble_eq_true rfl) (Nat.le_of_ble_eq_true rfl)
  · have hO := hO.kept (hkp o hO.lt)
    have hP : va_P D classes (wsG b 174 (cellC b g) M) H1 := hP.kept (fun k q hk => hkp q.1 ((hP k q hk).lt))
    rcases h with ⟨rfl, h⟩
    · refine W.eq (g2 := F0 m 13 ls [.ref a]) rfl ?_
      refine lv_astore (lv' := [(4, .ref a), (0, .ref (b + 0)), (1, iv p1), (2, iv p2), (3, .ref o)]) hC.1 hC.2.1 d_Law_pair_13 hl (by decide) rfl (fun ls hl => ?_)
      refine xi_const hC d_Law_pair_15 ?_
      exact xr_L hC hr hlocks hK hP hO hS h d_Law_pair_16 (Nat.le_of_ble_eq_true rfl) (Nat.le_of_ble_eq_true rfl)
theorem d_Law_join_0 : decode b_Law_join 0 = .ok (.aload_n 2, 1) := by decide +kernel
theorem d_Law_join_1 : decode b_Law_join 1 = .ok (.iconst 0, 1) := by decide +kernel
theorem d_Law_join_2 : decode b_Law_join 2 = .ok (.aload_n 0, 1) := by decide +kernel
theorem d_Law_join_3 : decode b_Law_join 3 = .ok (.iload_n 1, 1) := by decide +kernel
theorem d_Law_join_4 : decode b_Law_join 4 = .ok (.invokevirtual 40, 3) := by decide +kernel
theorem d_Law_join_7 : decode b_Law_join 7 = .ok (.i2l, 1) := by decide +kernel
theorem d_Law_join_8 : decode b_Law_join 8 = .ok (.lastore, 1) := by decide +kernel
theorem d_Law_join_9 : decode b_Law_join 9 = .ok (.goto 6, 3) := by decide +kernel
theorem d_Law_join_12 : decode b_Law_join 12 = .ok (.astore_n 3, 1) := by decide +kernel
theorem d_Law_join_13 : decode b_Law_join 13 = .ok (.iconst 1, 1) := by decide +kernel
theorem d_Law_join_14 : decode b_Law_join 14 = .ok (.ireturn, 1) := by decide +kernel
theorem d_Law_join_15 : decode b_Law_join 15 = .ok (.iconst 0, 1) := by decide +kernel
theorem d_Law_join_16 : decode b_Law_join 16 = .ok (.ireturn, 1) := by decide +kernel
set_option maxRecDepth 20000 in
theorem lk_Law_40 : lkV "EdgeJoinsLaw" 40 R_X y_X_join b_X_join 9 (some .int) 1 := ⟨rfl, ⟨by decide, by decide, by decide +kernel⟩, gm 449 rfl rfl, gm 1 (by decide +kernel) rfl, gm 447 (by decide +kernel) rfl, gm 448 (by decide +kernel) rfl, Or.inl (gm 446 (by decide +kernel) rfl)⟩
theorem ln_Law_40 : Cond.methodLink "EdgeJoinsLaw" 40 y_X_join ∈ gd := gm 446 (by decide +kernel) rfl
def wpL_join (p1 : Int) (w : Int64) (M : Mem) (K : Int → Int64 → Mem → Prop) : Prop := wp_X_join p1 M (fun r M1 => K 0 (toL r) M1) (fun x => (x = 0 ∧ K 1 w M))
set_option maxHeartbeats 4000000 in
theorem h_join (l : Launch) (hfl : l.stackTraces = false) (D : va_G) (g : Nat → ClassId) (b sz o : Nat) {p1 : Int} {w : Int64} {M : Mem} {K : Int → Int64 → Mem → Prop} (h : wpL_join p1 w M K) : Met l y_Law_join (Cond.codeWith y_Law_join b_Law_join 4 (some .int) [(0, 9, 12, 19)] :: gd) ({ frames := 8, cells := 1, slots := 6, locals := 150 }) (PcL D g b sz M o w [.ref (b + 0), iv p1, .ref o]) (QL D g b sz o K) 1 6 (aL b sz o) := by
  refine xm_startL (by decide) rfl (Nat.le_of_ble_eq_true rfl) ?_
  intro p e s m below meth c ls H args hC hr hlocks het hK hP hst hsX hsz hH hO hno hS hl
  have hl : lv_has ls 4 [(0, .ref (b + 0)), (1, iv p1), (2, .ref o)] := hl
  unfold wpL_join at h
  have hno2 : ¬ (b ≤ o ∧ o < b + 174) := fun z => hno (Or.inl z)
  refine lv_aload_n hC.1 hC.2.1 d_Law_join_0 rfl (lv_at hl 2 rfl) ?_
  refine xi_const hC d_Law_join_1 ?_
  refine lv_aload_n hC.1 hC.2.1 d_Law_join_2 rfl (lv_at hl 0 rfl) ?_
  refine lv_iload_n hC.1 hC.2.1 d_Law_join_3 rfl (lv_at hl 1 rfl) ?_
  refine xk_try (As := [iv p1]) (rest := [iv 0, .ref o]) (sz := sz) hC hK hP hS (fun q hq => Or.inl (by rw [hH, hsz] at hq; exact hq)) hst (fun q _ _ => by rw [hH]) (by omega) hsX hl.1 lk_Law_40 ln_Law_40 rfl rfl rfl ⟨(Nat.le_of_ble_eq_true rfl), (Nat.le_of_ble_eq_true rfl)⟩ (c_X_join l hfl D g b H.size h) (fun st oc t hh hq => QTry_I (by rw [hh]; exact hq)) het (fun z hz => by
      simp only [List.map_cons, List.map_nil, List.mem_cons, List.not_mem_nil, or_false] at hz
      rcases hz with rfl
      · exact ⟨by decide, by decide, cl_19⟩) (fun x hx => by
      rcases hx with ⟨rfl, -⟩
      · exact ⟨abE (0, 9, 12, 19), List.mem_map.mpr ⟨(0, 9, 12, 19), by decide, rfl⟩, rfl⟩) d_Law_join_4 rfl (Nat.le_of_ble_eq_true rfl) ⟨(Nat.le_of_ble_eq_true rfl), (Nat.le_of_ble_eq_true rfl)⟩ (fun r M1 H1 locs h hP hkp hS => ?_) (fun x a H1 locs h hkp hS => ?_)
  · have hO := hO.kept (hkp o hO.lt (fun z => hno (by rw [hH, hsz] at z; exact z)))
    refine lv_i2l (v := toL r) hC.1 hC.2.1 d_Law_join_7 rfl ?_
    refine xg_last hC hK hP hO hno2 hS (Or.inr rfl) (fun q hq => Or.inl (Or.inl hq)) d_Law_join_8 (fun H locs hP hO hS => ?_)
    refine lv_goto (tgt := 15) hC.1 hC.2.1 d_Law_join_9 (by decide) ?_
    refine xi_const hC d_Law_join_15 ?_
    exact xr_L hC hr hlocks hK hP hO hS h d_Law_join_16 (Nat.le_of_ble_eq_true rfl) (Nat.le_of_ble_eq_true rfl)
  · have hO := hO.kept (hkp o hO.lt)
    have hP : va_P D classes (wsG b 174 (cellC b g) M) H1 := hP.kept (fun k q hk => hkp q.1 ((hP k q hk).lt))
    rcases h with ⟨rfl, h⟩
    · refine W.eq (g2 := F0 m 12 ls [.ref a]) rfl ?_
      refine lv_astore_n (lv' := [(3, .ref a), (0, .ref (b + 0)), (1, iv p1), (2, .ref o)]) hC.1 hC.2.1 d_Law_join_12 rfl hl (by decide) rfl (fun ls hl => ?_)
      refine xi_const hC d_Law_join_13 ?_
      exact xr_L hC hr hlocks hK hP hO hS h d_Law_join_14 (Nat.le_of_ble_eq_true rfl) (Nat.le_of_ble_eq_true rfl)
theorem d_Law_place_0 : decode b_Law_place 0 = .ok (.aload_n 3, 1) := by decide +kernel
theorem d_Law_place_1 : decode b_Law_place 1 = .ok (.iconst 0, 1) := by decide +kernel
theorem d_Law_place_2 : decode b_Law_place 2 = .ok (.aload_n 0, 1) := by decide +kernel
theorem d_Law_place_3 : decode b_Law_place 3 = .ok (.iload_n 1, 1) := by decide +kernel
theorem d_Law_place_4 : decode b_Law_place 4 = .ok (.iload_n 2, 1) := by decide +kernel
theorem d_Law_place_5 : decode b_Law_place 5 = .ok (.invokevirtual 43, 3) := by decide +kernel
theorem d_Law_place_8 : decode b_Law_place 8 = .ok (.i2l, 1) := by decide +kernel
theorem d_Law_place_9 : decode b_Law_place 9 = .ok (.lastore, 1) := by decide +kernel
theorem d_Law_place_10 : decode b_Law_place 10 = .ok (.goto 7, 3) := by decide +kernel
theorem d_Law_place_13 : decode b_Law_place 13 = .ok (.astore 4, 2) := by decide +kernel
theorem d_Law_place_15 : decode b_Law_place 15 = .ok (.iconst 1, 1) := by decide +kernel
theorem d_Law_place_16 : decode b_Law_place 16 = .ok (.ireturn, 1) := by decide +kernel
theorem d_Law_place_17 : decode b_Law_place 17 = .ok (.iconst 0, 1) := by decide +kernel
theorem d_Law_place_18 : decode b_Law_place 18 = .ok (.ireturn, 1) := by decide +kernel
set_option maxRecDepth 20000 in
theorem lk_Law_43 : lkV "EdgeJoinsLaw" 43 R_X y_X_place b_X_place 3 (some .int) 2 := ⟨rfl, ⟨by decide, by decide, by decide +kernel⟩, gm 516 rfl rfl, gm 1 (by decide +kernel) rfl, gm 514 (by decide +kernel) rfl, gm 515 (by decide +kernel) rfl, Or.inl (gm 513 (by decide +kernel) rfl)⟩
theorem ln_Law_43 : Cond.methodLink "EdgeJoinsLaw" 43 y_X_place ∈ gd := gm 513 (by decide +kernel) rfl
def wpL_place (p1 p2 : Int) (w : Int64) (M : Mem) (K : Int → Int64 → Mem → Prop) : Prop := wp_X_place p1 p2 M (fun r => K 0 (toL r) M) (fun x => (x = 0 ∧ K 1 w M))
set_option maxHeartbeats 4000000 in
theorem h_place (l : Launch) (hfl : l.stackTraces = false) (D : va_G) (g : Nat → ClassId) (b sz o : Nat) {p1 p2 : Int} {w : Int64} {M : Mem} {K : Int → Int64 → Mem → Prop} (h : wpL_place p1 p2 w M K) : Met l y_Law_place (Cond.codeWith y_Law_place b_Law_place 5 (some .int) [(0, 10, 13, 19)] :: gd) ({ frames := 7, cells := 1, slots := 6, locals := 112 }) (PcL D g b sz M o w [.ref (b + 0), iv p1, iv p2, .ref o]) (QL D g b sz o K) 1 6 (aL b sz o) := by
  refine xm_startL (by decide) rfl (Nat.le_of_ble_eq_true rfl) ?_
  intro p e s m below meth c ls H args hC hr hlocks het hK hP hst hsX hsz hH hO hno hS hl
  have hl : lv_has ls 5 [(0, .ref (b + 0)), (1, iv p1), (2, iv p2), (3, .ref o)] := hl
  unfold wpL_place at h
  have hno2 : ¬ (b ≤ o ∧ o < b + 174) := fun z => hno (Or.inl z)
  refine lv_aload_n hC.1 hC.2.1 d_Law_place_0 rfl (lv_at hl 3 rfl) ?_
  refine xi_const hC d_Law_place_1 ?_
  refine lv_aload_n hC.1 hC.2.1 d_Law_place_2 rfl (lv_at hl 0 rfl) ?_
  refine lv_iload_n hC.1 hC.2.1 d_Law_place_3 rfl (lv_at hl 1 rfl) ?_
  refine lv_iload_n hC.1 hC.2.1 d_Law_place_4 rfl (lv_at hl 2 rfl) ?_
  refine xk_try (As := [iv p1, iv p2]) (rest := [iv 0, .ref o]) (sz := sz) hC hK hP hS (fun q hq => Or.inl (by rw [hH, hsz] at hq; exact hq)) hst (fun q _ _ => by rw [hH]) (by omega) hsX hl.1 lk_Law_43 ln_Law_43 rfl rfl rfl ⟨(Nat.le_of_ble_eq_true rfl), (Nat.le_of_ble_eq_true rfl)⟩ (MetX.free (c_X_place l hfl D g b H.size h)) (fun st oc t hh hq => QTry_P (M := M) (by rw [hh]; exact hP) hq) het (fun z hz => by
      simp only [List.map_cons, List.map_nil, List.mem_cons, List.not_mem_nil, or_false] at hz
      rcases hz with rfl
      · exact ⟨by decide, by decide, cl_19⟩) (fun x hx => by
      rcases hx with ⟨rfl, -⟩
      · exact ⟨abE (0, 10, 13, 19), List.mem_map.mpr ⟨(0, 10, 13, 19), by decide, rfl⟩, rfl⟩) d_Law_place_5 rfl (Nat.le_of_ble_eq_true rfl) ⟨(Nat.le_of_ble_eq_true rfl), (Nat.le_of_ble_eq_true rfl)⟩ (fun r M1 H1 locs h hP hkp hS => ?_) (fun x a H1 locs h hkp hS => ?_)
  · have hO := hO.kept (hkp o hO.lt (fun z => hno (by rw [hH, hsz] at z; exact z)))
    obtain ⟨h, hM⟩ := h
    have hP : va_P D classes (wsG b 174 (cellC b g) M) H1 := hM ▸ hP
    refine lv_i2l (v := toL r) hC.1 hC.2.1 d_Law_place_8 rfl ?_
    refine xg_last hC hK hP hO hno2 hS (Or.inr rfl) (fun q hq => Or.inl (Or.inl hq)) d_Law_place_9 (fun H locs hP hO hS => ?_)
    refine lv_goto (tgt := 17) hC.1 hC.2.1 d_Law_place_10 (by decide) ?_
    refine xi_const hC d_Law_place_17 ?_
    exact xr_L hC hr hlocks hK hP hO hS h d_Law_place_18 (Nat.le_of_ble_eq_true rfl) (Nat.le_of_ble_eq_true rfl)
  · have hO := hO.kept (hkp o hO.lt)
    have hP : va_P D classes (wsG b 174 (cellC b g) M) H1 := hP.kept (fun k q hk => hkp q.1 ((hP k q hk).lt))
    rcases h with ⟨rfl, h⟩
    · refine W.eq (g2 := F0 m 13 ls [.ref a]) rfl ?_
      refine lv_astore (lv' := [(4, .ref a), (0, .ref (b + 0)), (1, iv p1), (2, iv p2), (3, .ref o)]) hC.1 hC.2.1 d_Law_place_13 hl (by decide) rfl (fun ls hl => ?_)
      refine xi_const hC d_Law_place_15 ?_
      exact xr_L hC hr hlocks hK hP hO hS h d_Law_place_16 (Nat.le_of_ble_eq_true rfl) (Nat.le_of_ble_eq_true rfl)
theorem d_Law_holes_0 : decode b_Law_holes 0 = .ok (.aload_n 2, 1) := by decide +kernel
theorem d_Law_holes_1 : decode b_Law_holes 1 = .ok (.iconst 0, 1) := by decide +kernel
theorem d_Law_holes_2 : decode b_Law_holes 2 = .ok (.aload_n 0, 1) := by decide +kernel
theorem d_Law_holes_3 : decode b_Law_holes 3 = .ok (.iload_n 1, 1) := by decide +kernel
theorem d_Law_holes_4 : decode b_Law_holes 4 = .ok (.invokevirtual 46, 3) := by decide +kernel
theorem d_Law_holes_7 : decode b_Law_holes 7 = .ok (.i2l, 1) := by decide +kernel
theorem d_Law_holes_8 : decode b_Law_holes 8 = .ok (.lastore, 1) := by decide +kernel
theorem d_Law_holes_9 : decode b_Law_holes 9 = .ok (.goto 6, 3) := by decide +kernel
theorem d_Law_holes_12 : decode b_Law_holes 12 = .ok (.astore_n 3, 1) := by decide +kernel
theorem d_Law_holes_13 : decode b_Law_holes 13 = .ok (.iconst 1, 1) := by decide +kernel
theorem d_Law_holes_14 : decode b_Law_holes 14 = .ok (.ireturn, 1) := by decide +kernel
theorem d_Law_holes_15 : decode b_Law_holes 15 = .ok (.iconst 0, 1) := by decide +kernel
theorem d_Law_holes_16 : decode b_Law_holes 16 = .ok (.ireturn, 1) := by decide +kernel
set_option maxRecDepth 20000 in
theorem lk_Law_46 : lkV "EdgeJoinsLaw" 46 R_X y_X_holes b_X_holes 2 (some .int) 1 := ⟨rfl, ⟨by decide, by decide, by decide +kernel⟩, gm 524 rfl rfl, gm 1 (by decide +kernel) rfl, gm 522 (by decide +kernel) rfl, gm 523 (by decide +kernel) rfl, Or.inl (gm 521 (by decide +kernel) rfl)⟩
theorem ln_Law_46 : Cond.methodLink "EdgeJoinsLaw" 46 y_X_holes ∈ gd := gm 521 (by decide +kernel) rfl
def wpL_holes (p1 : Int) (w : Int64) (M : Mem) (K : Int → Int64 → Mem → Prop) : Prop := wp_X_holes p1 M (fun r M1 => K 0 (toL r) M1) (fun x => (x = 0 ∧ K 1 w M))
set_option maxHeartbeats 4000000 in
theorem h_holes (l : Launch) (hfl : l.stackTraces = false) (D : va_G) (g : Nat → ClassId) (b sz o : Nat) {p1 : Int} {w : Int64} {M : Mem} {K : Int → Int64 → Mem → Prop} (h : wpL_holes p1 w M K) : Met l y_Law_holes (Cond.codeWith y_Law_holes b_Law_holes 4 (some .int) [(0, 9, 12, 19)] :: gd) ({ frames := 8, cells := 1, slots := 6, locals := 132 }) (PcL D g b sz M o w [.ref (b + 0), iv p1, .ref o]) (QL D g b sz o K) 1 6 (aL b sz o) := by
  refine xm_startL (by decide) rfl (Nat.le_of_ble_eq_true rfl) ?_
  intro p e s m below meth c ls H args hC hr hlocks het hK hP hst hsX hsz hH hO hno hS hl
  have hl : lv_has ls 4 [(0, .ref (b + 0)), (1, iv p1), (2, .ref o)] := hl
  unfold wpL_holes at h
  have hno2 : ¬ (b ≤ o ∧ o < b + 174) := fun z => hno (Or.inl z)
  refine lv_aload_n hC.1 hC.2.1 d_Law_holes_0 rfl (lv_at hl 2 rfl) ?_
  refine xi_const hC d_Law_holes_1 ?_
  refine lv_aload_n hC.1 hC.2.1 d_Law_holes_2 rfl (lv_at hl 0 rfl) ?_
  refine lv_iload_n hC.1 hC.2.1 d_Law_holes_3 rfl (lv_at hl 1 rfl) ?_
  refine xk_try (As := [iv p1]) (rest := [iv 0, .ref o]) (sz := sz) hC hK hP hS (fun q hq => Or.inl (by rw [hH, hsz] at hq; exact hq)) hst (fun q _ _ => by rw [hH]) (by omega) hsX hl.1 lk_Law_46 ln_Law_46 rfl rfl rfl ⟨(Nat.le_of_ble_eq_true rfl), (Nat.le_of_ble_eq_true rfl)⟩ (c_X_holes l hfl D g b H.size h) (fun st oc t hh hq => QTry_I (by rw [hh]; exact hq)) het (fun z hz => by
      simp only [List.map_cons, List.map_nil, List.mem_cons, List.not_mem_nil, or_false] at hz
      rcases hz with rfl
      · exact ⟨by decide, by decide, cl_19⟩) (fun x hx => by
      rcases hx with ⟨rfl, -⟩
      · exact ⟨abE (0, 9, 12, 19), List.mem_map.mpr ⟨(0, 9, 12, 19), by decide, rfl⟩, rfl⟩) d_Law_holes_4 rfl (Nat.le_of_ble_eq_true rfl) ⟨(Nat.le_of_ble_eq_true rfl), (Nat.le_of_ble_eq_true rfl)⟩ (fun r M1 H1 locs h hP hkp hS => ?_) (fun x a H1 locs h hkp hS => ?_)
  · have hO := hO.kept (hkp o hO.lt (fun z => hno (by rw [hH, hsz] at z; exact z)))
    refine lv_i2l (v := toL r) hC.1 hC.2.1 d_Law_holes_7 rfl ?_
    refine xg_last hC hK hP hO hno2 hS (Or.inr rfl) (fun q hq => Or.inl (Or.inl hq)) d_Law_holes_8 (fun H locs hP hO hS => ?_)
    refine lv_goto (tgt := 15) hC.1 hC.2.1 d_Law_holes_9 (by decide) ?_
    refine xi_const hC d_Law_holes_15 ?_
    exact xr_L hC hr hlocks hK hP hO hS h d_Law_holes_16 (Nat.le_of_ble_eq_true rfl) (Nat.le_of_ble_eq_true rfl)
  · have hO := hO.kept (hkp o hO.lt)
    have hP : va_P D classes (wsG b 174 (cellC b g) M) H1 := hP.kept (fun k q hk => hkp q.1 ((hP k q hk).lt))
    rcases h with ⟨rfl, h⟩
    · refine W.eq (g2 := F0 m 12 ls [.ref a]) rfl ?_
      refine lv_astore_n (lv' := [(3, .ref a), (0, .ref (b + 0)), (1, iv p1), (2, .ref o)]) hC.1 hC.2.1 d_Law_holes_12 rfl hl (by decide) rfl (fun ls hl => ?_)
      refine xi_const hC d_Law_holes_13 ?_
      exact xr_L hC hr hlocks hK hP hO hS h d_Law_holes_14 (Nat.le_of_ble_eq_true rfl) (Nat.le_of_ble_eq_true rfl)
theorem d_Law_count_0 : decode b_Law_count 0 = .ok (.aload_n 2, 1) := by decide +kernel
theorem d_Law_count_1 : decode b_Law_count 1 = .ok (.iconst 0, 1) := by decide +kernel
theorem d_Law_count_2 : decode b_Law_count 2 = .ok (.aload_n 0, 1) := by decide +kernel
theorem d_Law_count_3 : decode b_Law_count 3 = .ok (.iload_n 1, 1) := by decide +kernel
theorem d_Law_count_4 : decode b_Law_count 4 = .ok (.invokevirtual 49, 3) := by decide +kernel
theorem d_Law_count_7 : decode b_Law_count 7 = .ok (.i2l, 1) := by decide +kernel
theorem d_Law_count_8 : decode b_Law_count 8 = .ok (.lastore, 1) := by decide +kernel
theorem d_Law_count_9 : decode b_Law_count 9 = .ok (.goto 6, 3) := by decide +kernel
theorem d_Law_count_12 : decode b_Law_count 12 = .ok (.astore_n 3, 1) := by decide +kernel
theorem d_Law_count_13 : decode b_Law_count 13 = .ok (.iconst 1, 1) := by decide +kernel
theorem d_Law_count_14 : decode b_Law_count 14 = .ok (.ireturn, 1) := by decide +kernel
theorem d_Law_count_15 : decode b_Law_count 15 = .ok (.iconst 0, 1) := by decide +kernel
theorem d_Law_count_16 : decode b_Law_count 16 = .ok (.ireturn, 1) := by decide +kernel
set_option maxRecDepth 20000 in
theorem lk_Law_49 : lkV "EdgeJoinsLaw" 49 R_X y_X_count b_X_count 2 (some .int) 1 := ⟨rfl, ⟨by decide, by decide, by decide +kernel⟩, gm 543 rfl rfl, gm 1 (by decide +kernel) rfl, gm 541 (by decide +kernel) rfl, gm 542 (by decide +kernel) rfl, Or.inl (gm 540 (by decide +kernel) rfl)⟩
theorem ln_Law_49 : Cond.methodLink "EdgeJoinsLaw" 49 y_X_count ∈ gd := gm 540 (by decide +kernel) rfl
def wpL_count (p1 : Int) (w : Int64) (M : Mem) (K : Int → Int64 → Mem → Prop) : Prop := wp_X_count p1 M (fun r => K 0 (toL r) M) (fun x => (x = 0 ∧ K 1 w M))
set_option maxHeartbeats 4000000 in
theorem h_count (l : Launch) (hfl : l.stackTraces = false) (D : va_G) (g : Nat → ClassId) (b sz o : Nat) {p1 : Int} {w : Int64} {M : Mem} {K : Int → Int64 → Mem → Prop} (h : wpL_count p1 w M K) : Met l y_Law_count (Cond.codeWith y_Law_count b_Law_count 4 (some .int) [(0, 9, 12, 19)] :: gd) ({ frames := 7, cells := 1, slots := 6, locals := 111 }) (PcL D g b sz M o w [.ref (b + 0), iv p1, .ref o]) (QL D g b sz o K) 1 6 (aL b sz o) := by
  refine xm_startL (by decide) rfl (Nat.le_of_ble_eq_true rfl) ?_
  intro p e s m below meth c ls H args hC hr hlocks het hK hP hst hsX hsz hH hO hno hS hl
  have hl : lv_has ls 4 [(0, .ref (b + 0)), (1, iv p1), (2, .ref o)] := hl
  unfold wpL_count at h
  have hno2 : ¬ (b ≤ o ∧ o < b + 174) := fun z => hno (Or.inl z)
  refine lv_aload_n hC.1 hC.2.1 d_Law_count_0 rfl (lv_at hl 2 rfl) ?_
  refine xi_const hC d_Law_count_1 ?_
  refine lv_aload_n hC.1 hC.2.1 d_Law_count_2 rfl (lv_at hl 0 rfl) ?_
  refine lv_iload_n hC.1 hC.2.1 d_Law_count_3 rfl (lv_at hl 1 rfl) ?_
  refine xk_try (As := [iv p1]) (rest := [iv 0, .ref o]) (sz := sz) hC hK hP hS (fun q hq => Or.inl (by rw [hH, hsz] at hq; exact hq)) hst (fun q _ _ => by rw [hH]) (by omega) hsX hl.1 lk_Law_49 ln_Law_49 rfl rfl rfl ⟨(Nat.le_of_ble_eq_true rfl), (Nat.le_of_ble_eq_true rfl)⟩ (MetX.free (c_X_count l hfl D g b H.size h)) (fun st oc t hh hq => QTry_P (M := M) (by rw [hh]; exact hP) hq) het (fun z hz => by
      simp only [List.map_cons, List.map_nil, List.mem_cons, List.not_mem_nil, or_false] at hz
      rcases hz with rfl
      · exact ⟨by decide, by decide, cl_19⟩) (fun x hx => by
      rcases hx with ⟨rfl, -⟩
      · exact ⟨abE (0, 9, 12, 19), List.mem_map.mpr ⟨(0, 9, 12, 19), by decide, rfl⟩, rfl⟩) d_Law_count_4 rfl (Nat.le_of_ble_eq_true rfl) ⟨(Nat.le_of_ble_eq_true rfl), (Nat.le_of_ble_eq_true rfl)⟩ (fun r M1 H1 locs h hP hkp hS => ?_) (fun x a H1 locs h hkp hS => ?_)
  · have hO := hO.kept (hkp o hO.lt (fun z => hno (by rw [hH, hsz] at z; exact z)))
    obtain ⟨h, hM⟩ := h
    have hP : va_P D classes (wsG b 174 (cellC b g) M) H1 := hM ▸ hP
    refine lv_i2l (v := toL r) hC.1 hC.2.1 d_Law_count_7 rfl ?_
    refine xg_last hC hK hP hO hno2 hS (Or.inr rfl) (fun q hq => Or.inl (Or.inl hq)) d_Law_count_8 (fun H locs hP hO hS => ?_)
    refine lv_goto (tgt := 15) hC.1 hC.2.1 d_Law_count_9 (by decide) ?_
    refine xi_const hC d_Law_count_15 ?_
    exact xr_L hC hr hlocks hK hP hO hS h d_Law_count_16 (Nat.le_of_ble_eq_true rfl) (Nat.le_of_ble_eq_true rfl)
  · have hO := hO.kept (hkp o hO.lt)
    have hP : va_P D classes (wsG b 174 (cellC b g) M) H1 := hP.kept (fun k q hk => hkp q.1 ((hP k q hk).lt))
    rcases h with ⟨rfl, h⟩
    · refine W.eq (g2 := F0 m 12 ls [.ref a]) rfl ?_
      refine lv_astore_n (lv' := [(3, .ref a), (0, .ref (b + 0)), (1, iv p1), (2, .ref o)]) hC.1 hC.2.1 d_Law_count_12 rfl hl (by decide) rfl (fun ls hl => ?_)
      refine xi_const hC d_Law_count_13 ?_
      exact xr_L hC hr hlocks hK hP hO hS h d_Law_count_14 (Nat.le_of_ble_eq_true rfl) (Nat.le_of_ble_eq_true rfl)
