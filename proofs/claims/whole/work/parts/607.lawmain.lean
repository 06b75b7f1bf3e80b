theorem ofNat_iv (n : Nat) : Value.int (Int32.ofNat n) = iv (n : Int) := by
  show Value.int (Int32.ofNat n) = Value.int (Int32.ofInt (n : Int))
  congr 1
set_option maxHeartbeats 8000000 in
theorem L_loop {Rel : Mem → Mem → Prop} (hob : Obs Rel) {p : Program} {l : Launch} {e : Env} {s : State} {m : MethodId} {below : List Frame} {meth : Method} {c : Code} {D : va_G} {g : Nat → ClassId} {b q L : Nat} {xs : Nat → Int32} (hfl : l.stackTraces = false) (hC : Cx p m c b_Law_law 7 s #[Value.ref q] "EdgeJoinsLaw") (hr : meth.sig.returnType = ret) (hlocks : meth.locks = false) (hK : va_K D classes (tyG g) s) (hst : sC (fromB b) s s.heap) (hsX : sX s) (hbs : s.heap.size = b) (hX : va_X q L xs s s.heap) (hq : q < s.heap.size) (hL : L ≤ 2048) :
    ∀ (n j : Nat), j + n = 513 → ∀ (M N : Mem) (w : Int64) (H : Heap) (locs : List Loc) (ls : Array Slot), Rel M N → Lw D g b M N w H → va_S (fromB b) s.heap H locs → lv_has ls 7 [(0, .ref q), (1, .ref (b + 0)), (2, .ref (b + 174 + 0)), (3, .ref (b + 188)), (4, iv (4 * (j : Int)))] → W p l e room_1 s m #[Value.ref q] below meth c H locs (189 + 2 * j) (15500 + 12 * j) (lw_Z below #[Value.ref q] s) (F0 m 23 ls []) := by
  have hA : ¬ fromB b q := fun h => absurd (show b ≤ q from h) (by omega)
  intro n
  induction n with
  | zero =>
    intro j hj M N w H locs ls hR hW hS hl
    refine lv_iload hC.1 hC.2.1 d_Law_law_23 (lv_at hl 4 rfl) ?_
    refine lv_aload_n hC.1 hC.2.1 d_Law_law_25 rfl (lv_at hl 0 rfl) ?_
    refine va_slen hC.1 hC.2.1 hX hq hA hS d_Law_law_26 ?_
    rw [ofNat_iv]
    refine xi_const hC d_Law_law_27 ?_
    refine xi_sub hC d_Law_law_28 ?_
    refine xi_cgt hC (tgt := 800) d_Law_law_29 (by decide) ⟨by omega, by omega⟩ ⟨by omega, by omega⟩ (fun _ => ?_) (fun h => absurd (show (L : Int) - 4 < 4 * (j : Int) by omega) h)
    refine xi_const hC d_Law_law_800 ?_
    refine va_forget (fun z hz => by rw [hbs]; exact hS.2.2 z hz) ?_
    exact W.widen (by omega) (by omega) (lw_ret hC.1 hC.2.1 hr hlocks d_Law_law_801)
  | succ n ih =>
    intro j hj M N w H locs ls hR hW hS hl
    refine lv_iload hC.1 hC.2.1 d_Law_law_23 (lv_at hl 4 rfl) ?_
    refine lv_aload_n hC.1 hC.2.1 d_Law_law_25 rfl (lv_at hl 0 rfl) ?_
    refine va_slen hC.1 hC.2.1 hX hq hA hS d_Law_law_26 ?_
    rw [ofNat_iv]
    refine xi_const hC d_Law_law_27 ?_
    refine xi_sub hC d_Law_law_28 ?_
    refine xi_cgt hC (tgt := 800) d_Law_law_29 (by decide) ⟨by omega, by omega⟩ ⟨by omega, by omega⟩ (fun _ => ?_) (fun hlt => ?_)
    · refine xi_const hC d_Law_law_800 ?_
      refine va_forget (fun z hz => by rw [hbs]; exact hS.2.2 z hz) ?_
      exact W.widen (by omega) (by omega) (lw_ret hC.1 hC.2.1 hr hlocks d_Law_law_801)
    · have hi : 0 ≤ 4 * (j : Int) ∧ 4 * (j : Int) + 4 ≤ L := ⟨by omega, by omega⟩
      have kk : ∀ (M1 N1 : Mem) (w1 : Int64) (H1 : Heap) (locs1 : List Loc) (ls1 : Array Slot), Rel M1 N1 → Lw D g b M1 N1 w1 H1 → va_S (fromB b) s.heap H1 locs1 → lv_has ls1 7 [(0, .ref q), (1, .ref (b + 0)), (2, .ref (b + 174 + 0)), (3, .ref (b + 188)), (4, iv (4 * (j : Int)))] → W p l e room_1 s m #[Value.ref q] below meth c H1 locs1 (189 + 2 * j + 2) (15500 + 12 * j + 12) (lw_Z below #[Value.ref q] s) (F0 m 794 ls1 []) := by
        intro M1 N1 w1 H1 locs1 ls1 hR1 hW1 hS1 hl1
        refine xi_iinc (v := 4 * ((j + 1 : Nat) : Int)) (lv' := [(4, iv (4 * ((j + 1 : Nat) : Int))), (0, .ref q), (1, .ref (b + 0)), (2, .ref (b + 174 + 0)), (3, .ref (b + 188))]) hC d_Law_law_794 hl1 (k := 4) rfl (by omega) (by decide) rfl (fun ls2 hl2 => ?_)
        refine lv_goto (tgt := 23) hC.1 hC.2.1 d_Law_law_797 (by decide) ?_
        exact W.widen (by omega) (by omega) (ih (j + 1) (by omega) M1 N1 w1 H1 locs1 ls2 hR1 hW1 hS1 (lv_sub hl2 [1, 2, 3, 4, 0] rfl))
      refine lv_aload_n hC.1 hC.2.1 d_Law_law_32 rfl (lv_at hl 0 rfl) ?_
      refine lv_iload hC.1 hC.2.1 d_Law_law_33 (lv_at hl 4 rfl) ?_
      refine xw_sld hC hX hq hA hS hL ⟨by omega, by omega⟩ d_Law_law_35 ?_
      refine xi_bipush hC d_Law_law_36 (by decide) ?_
      refine xi_and15r hC d_Law_law_38 ?_
      have hin : in32 (xz xs (4 * (j : Int)) % 16) := ⟨by omega, by omega⟩
      by_cases hout : 12 < xz xs (4 * (j : Int)) % 16
      · refine lv_tableOut (tgt := 794) hC.1 hC.2.1 d_Law_law_39 (by rw [xi_T hin]; exact Or.inr hout) (by decide) ?_
        exact W.widen (by omega) (by omega) (kk M N w H locs ls hR hW hS hl)
      rcases (show xz xs (4 * (j : Int)) % 16 = 0 ∨ xz xs (4 * (j : Int)) % 16 = 1 ∨ xz xs (4 * (j : Int)) % 16 = 2 ∨ xz xs (4 * (j : Int)) % 16 = 3 ∨ xz xs (4 * (j : Int)) % 16 = 4 ∨ xz xs (4 * (j : Int)) % 16 = 5 ∨ xz xs (4 * (j : Int)) % 16 = 6 ∨ xz xs (4 * (j : Int)) % 16 = 7 ∨ xz xs (4 * (j : Int)) % 16 = 8 ∨ xz xs (4 * (j : Int)) % 16 = 9 ∨ xz xs (4 * (j : Int)) % 16 = 10 ∨ xz xs (4 * (j : Int)) % 16 = 11 ∨ xz xs (4 * (j : Int)) % 16 = 12 by omega) with h | h | h | h | h | h | h | h | h | h | h | h | h
      · refine lv_tableIn (off := 65) (tgt := 104) hC.1 hC.2.1 d_Law_law_39 (by rw [xi_T hin, h]; decide) (by rw [xi_T hin, h]; decide) (by rw [xi_T hin, h]; rfl) (by decide) ?_
        exact L_sherd hob hR hfl hC hK hst hsX hbs hX hq hL hi (by omega) (by omega) hW hS hl kk
      · refine lv_tableIn (off := 109) (tgt := 148) hC.1 hC.2.1 d_Law_law_39 (by rw [xi_T hin, h]; decide) (by rw [xi_T hin, h]; decide) (by rw [xi_T hin, h]; rfl) (by decide) ?_
        exact L_step hob hR hfl hC hK hst hsX hbs hX hq hL hi (by omega) (by omega) hW hS hl kk
      · refine lv_tableIn (off := 177) (tgt := 216) hC.1 hC.2.1 d_Law_law_39 (by rw [xi_T hin, h]; decide) (by rw [xi_T hin, h]; decide) (by rw [xi_T hin, h]; rfl) (by decide) ?_
        exact L_height hob hR hfl hC hK hst hsX hbs hX hq hL hi (by omega) (by omega) hW hS hl kk
      · refine lv_tableIn (off := 257) (tgt := 296) hC.1 hC.2.1 d_Law_law_39 (by rw [xi_T hin, h]; decide) (by rw [xi_T hin, h]; decide) (by rw [xi_T hin, h]; rfl) (by decide) ?_
        exact L_close hob hR hfl hC hK hst hsX hbs hX hq hL hi (by omega) (by omega) hW hS hl kk
      · refine lv_tableIn (off := 313) (tgt := 352) hC.1 hC.2.1 d_Law_law_39 (by rw [xi_T hin, h]; decide) (by rw [xi_T hin, h]; decide) (by rw [xi_T hin, h]; rfl) (by decide) ?_
        exact L_least hob hR hfl hC hK hst hsX hbs hX hq hL hi (by omega) (by omega) hW hS hl kk
      · refine lv_tableIn (off := 369) (tgt := 408) hC.1 hC.2.1 d_Law_law_39 (by rw [xi_T hin, h]; decide) (by rw [xi_T hin, h]; decide) (by rw [xi_T hin, h]; rfl) (by decide) ?_
        exact L_bound hob hR hfl hC hK hst hsX hbs hX hq hL hi (by omega) (by omega) hW hS hl kk
      · refine lv_tableIn (off := 425) (tgt := 464) hC.1 hC.2.1 d_Law_law_39 (by rw [xi_T hin, h]; decide) (by rw [xi_T hin, h]; decide) (by rw [xi_T hin, h]; rfl) (by decide) ?_
        exact L_run hob hR hfl hC hK hst hsX hbs hX hq hL hi (by omega) (by omega) hW hS hl kk
      · refine lv_tableIn (off := 438) (tgt := 477) hC.1 hC.2.1 d_Law_law_39 (by rw [xi_T hin, h]; decide) (by rw [xi_T hin, h]; decide) (by rw [xi_T hin, h]; rfl) (by decide) ?_
        exact L_pair hob hR hfl hC hK hst hsX hbs hX hq hL hi (by omega) (by omega) hW hS hl kk
      · refine lv_tableIn (off := 506) (tgt := 545) hC.1 hC.2.1 d_Law_law_39 (by rw [xi_T hin, h]; decide) (by rw [xi_T hin, h]; decide) (by rw [xi_T hin, h]; rfl) (by decide) ?_
        exact L_join hob hR hfl hC hK hst hsX hbs hX hq hL hi (by omega) (by omega) hW hS hl kk
      · refine lv_tableIn (off := 562) (tgt := 601) hC.1 hC.2.1 d_Law_law_39 (by rw [xi_T hin, h]; decide) (by rw [xi_T hin, h]; decide) (by rw [xi_T hin, h]; rfl) (by decide) ?_
        exact L_undo hob hR hfl hC hK hst hsX hbs hX hq hL hi (by omega) (by omega) hW hS hl kk
      · refine lv_tableIn (off := 575) (tgt := 614) hC.1 hC.2.1 d_Law_law_39 (by rw [xi_T hin, h]; decide) (by rw [xi_T hin, h]; decide) (by rw [xi_T hin, h]; rfl) (by decide) ?_
        exact L_place hob hR hfl hC hK hst hsX hbs hX hq hL hi (by omega) (by omega) hW hS hl kk
      · refine lv_tableIn (off := 643) (tgt := 682) hC.1 hC.2.1 d_Law_law_39 (by rw [xi_T hin, h]; decide) (by rw [xi_T hin, h]; decide) (by rw [xi_T hin, h]; rfl) (by decide) ?_
        exact L_holes hob hR hfl hC hK hst hsX hbs hX hq hL hi (by omega) (by omega) hW hS hl kk
      · refine lv_tableIn (off := 699) (tgt := 738) hC.1 hC.2.1 d_Law_law_39 (by rw [xi_T hin, h]; decide) (by rw [xi_T hin, h]; decide) (by rw [xi_T hin, h]; rfl) (by decide) ?_
        exact L_count hob hR hfl hC hK hst hsX hbs hX hq hL hi (by omega) (by omega) hW hS hl kk
set_option maxRecDepth 20000 in
theorem lI_Law_52 : lkI "EdgeJoinsLaw" 52 y_X_init b_X_init 2 := ⟨rfl, ⟨by decide, by decide, by decide +kernel⟩, gm 19 rfl rfl, gm 1 (by decide +kernel) rfl, gm 18 (by decide +kernel) rfl, Or.inl (gm 17 (by decide +kernel) rfl)⟩
set_option maxRecDepth 20000 in
theorem lI_Law_55 : lkI "EdgeJoinsLaw" 55 y_Model_init b_Model_init 2 := ⟨rfl, ⟨by decide, by decide, by decide +kernel⟩, gm 549 rfl rfl, gm 7 (by decide +kernel) rfl, gm 548 (by decide +kernel) rfl, Or.inl (gm 547 (by decide +kernel) rfl)⟩
def FL (f1 f2 : Nat → va_E) (e3 : va_E) : Nat → va_E := fun k => if k < 174 then f1 k else if k < 188 then f2 (k - 174) else e3
set_option maxHeartbeats 4000000 in
theorem whole_walk {Rel : Mem → Mem → Prop} (hob : Obs Rel) {p : Program} {e : Env} {s : State} {m : MethodId} {below : List Frame} {meth : Method} {c : Code} (l : Launch) (hfl : l.stackTraces = false) {q L : Nat} {xs : Nat → Int32} (hL : L ≤ 2048) (C0 : lw_At p s m meth c q L xs) : W p l e room_1 s m #[Value.ref q] below meth c s.heap [] 0 0 (lw_Z below #[Value.ref q] s) (entryFrame m ([Value.ref q] : List Value).toArray 7) := by
  obtain ⟨hx, hb, hr, hml, hown, hts, hX, hq, hlocks, hgv⟩ := C0
  have hC : Cx p m c b_Law_law 7 s #[Value.ref q] "EdgeJoinsLaw" := ⟨hx, hb, hml, hown, tgd hts⟩
  obtain ⟨D, g, hK⟩ := st_K hts
  obtain ⟨b, hbs⟩ : ∃ b, s.heap.size = b := ⟨_, rfl⟩
  have hst : sC (fromB b) s s.heap := st_C hts hgv (fun a ha h => absurd (show b ≤ a from h) (by omega))
  have hsX : sX s := st_X hts hgv
  have hk : sK s := st_AK hts
  have hS : va_S (fromB b) s.heap s.heap [] := va_S.rf
  have hl := lv_entry ([.ref q]) (n := 7) (Nat.le_of_ble_eq_true rfl)
  rw [lg_entry_eq]
  generalize (lg_sl ([.ref q]) ++ List.replicate (7 - (lg_sl ([.ref q])).length) Slot.unset).toArray = ls at hl ⊢
  have hl : lv_has ls 7 [(0, .ref q)] := hl
  have hI : CI D b 0 (FX b g [.null, .null, .null, .null, .null, .int 0, .int 0, .int 0, .int 0, .int 0] 0 0) s.heap := ⟨by omega, fun k z h => by simp [wsF] at h⟩
  refine xn_new (i := 8) (ci := 0) (fs := [.null, .null, .null, .null, .null, .int 0, .int 0, .int 0, .int 0, .int 0]) t_X hC i_X t_X_ok (gm 15 (by decide +kernel) rfl) (gm 16 (by decide +kernel) rfl) (gm 1 (by decide +kernel) rfl) hK hI hS rfl (fun j hj => by rcases (show j = 0 ∨ j = 1 ∨ j = 2 ∨ j = 3 ∨ j = 4 ∨ j = 5 ∨ j = 6 ∨ j = 7 ∨ j = 8 ∨ j = 9 by omega) with rfl | rfl | rfl | rfl | rfl | rfl | rfl | rfl | rfl | rfl <;> rfl) rfl (Nat.le_of_ble_eq_true rfl) (Nat.le_of_ble_eq_true rfl) d_Law_law_0 (fun H hI hS => ?_)
  have hP := hI.2
  refine lv_dup hC.1 hC.2.1 d_Law_law_3 rfl ?_
  refine xn_call (n := 0) (L := 174) (f1 := FX b g [.ref (b + 1), .ref (b + 2), .ref (b + 7), .ref (b + 8), .ref (b + 111), iv 0, iv 0, iv 0, iv 3, iv 100] 6 6) hC hl.1 lI_Law_52 (k_X l D g b) rfl rfl ⟨(Nat.le_of_ble_eq_true rfl), (Nat.le_of_ble_eq_true rfl)⟩ hK hk hP (by omega) hS (fun _ h => h) rfl (fun k hk => absurd hk (by omega)) (fun j _ => by rw [Nat.zero_add]) (Nat.le_of_ble_eq_true rfl) ⟨(Nat.le_of_ble_eq_true rfl), (Nat.le_of_ble_eq_true rfl)⟩ d_Law_law_4 (fun H locs hP hS => ?_)
  have hP : va_P D classes (wsF b (173 + 1) (FX b g [.ref (b + 1), .ref (b + 2), .ref (b + 7), .ref (b + 8), .ref (b + 111), iv 0, iv 0, iv 0, iv 3, iv 100] 6 6)) H := hP
  refine lv_astore_n (lv' := [(1, .ref (b + 0)), (0, .ref q)]) hC.1 hC.2.1 d_Law_law_7 rfl hl (by decide) rfl (fun ls hl => ?_)
  refine W.exact (n := 173) hP (by omega) (fun hz => ?_)
  have hI : CI D b 174 (FL (FX b g [.ref (b + 1), .ref (b + 2), .ref (b + 7), .ref (b + 8), .ref (b + 111), iv 0, iv 0, iv 0, iv 3, iv 100] 6 6) (FModel g [.int 0, .int 0, .null, .null, .null, .null, .null, .null, .null, .int 0, .int 0, .int 0, .int 0, .null, .null, .null, .null, .int 0, .null, .int 0, .int 0, .null, .int 0, .int 0] (fun _ => 0)) (.inl (g 5, 1, .inr (.inl (fun _ => 0))))) H := CI.cong (CI.of hP hz) (fun j hj => if_pos hj)
  refine xn_new (i := 53) (ci := 6) (fs := [.int 0, .int 0, .null, .null, .null, .null, .null, .null, .null, .int 0, .int 0, .int 0, .int 0, .null, .null, .null, .null, .int 0, .null, .int 0, .int 0, .null, .int 0, .int 0]) t_Model hC i_Model t_Model_ok (gm 545 (by decide +kernel) rfl) (gm 546 (by decide +kernel) rfl) (gm 7 (by decide +kernel) rfl) hK hI hS rfl (fun j hj => by rcases (show j = 0 ∨ j = 1 ∨ j = 2 ∨ j = 3 ∨ j = 4 ∨ j = 5 ∨ j = 6 ∨ j = 7 ∨ j = 8 ∨ j = 9 ∨ j = 10 ∨ j = 11 ∨ j = 12 ∨ j = 13 ∨ j = 14 ∨ j = 15 ∨ j = 16 ∨ j = 17 ∨ j = 18 ∨ j = 19 ∨ j = 20 ∨ j = 21 ∨ j = 22 ∨ j = 23 by omega) with rfl | rfl | rfl | rfl | rfl | rfl | rfl | rfl | rfl | rfl | rfl | rfl | rfl | rfl | rfl | rfl | rfl | rfl | rfl | rfl | rfl | rfl | rfl | rfl <;> rfl) rfl (Nat.le_of_ble_eq_true rfl) (Nat.le_of_ble_eq_true rfl) d_Law_law_8 (fun H hI hS => ?_)
  have hP := hI.2
  refine lv_dup hC.1 hC.2.1 d_Law_law_11 rfl ?_
  refine xn_call (n := 174) (L := 14) (f1 := FL (FX b g [.ref (b + 1), .ref (b + 2), .ref (b + 7), .ref (b + 8), .ref (b + 111), iv 0, iv 0, iv 0, iv 3, iv 100] 6 6) (FModel g [.int 0, .int 0, .ref ((b + 174) + 1), .ref ((b + 174) + 2), .ref ((b + 174) + 3), .ref ((b + 174) + 4), .ref ((b + 174) + 5), .ref ((b + 174) + 6), .ref ((b + 174) + 7), iv 3, iv 100, .int 0, .int 0, .ref ((b + 174) + 8), .ref ((b + 174) + 9), .ref ((b + 174) + 10), .ref ((b + 174) + 11), .int 0, .ref ((b + 174) + 12), .int 0, .int 0, .ref ((b + 174) + 13), .int 0, .int 0] (plU 6)) (.inl (g 5, 1, .inr (.inl (fun _ => 0))))) hC hl.1 lI_Law_55 (k_Model l D g (b + 174)) rfl rfl ⟨(Nat.le_of_ble_eq_true rfl), (Nat.le_of_ble_eq_true rfl)⟩ hK hk hP (by omega) hS (fun _ h => h) rfl (fun k hk => by unfold FL; rw [if_pos hk, if_pos hk]) (fun j hj => by unfold FL; rw [if_neg (by omega), if_pos (by omega), Nat.add_sub_cancel_left]) (Nat.le_of_ble_eq_true rfl) ⟨(Nat.le_of_ble_eq_true rfl), (Nat.le_of_ble_eq_true rfl)⟩ d_Law_law_12 (fun H locs hP hS => ?_)
  have hP : va_P D classes (wsF b (187 + 1) (FL (FX b g [.ref (b + 1), .ref (b + 2), .ref (b + 7), .ref (b + 8), .ref (b + 111), iv 0, iv 0, iv 0, iv 3, iv 100] 6 6) (FModel g [.int 0, .int 0, .ref ((b + 174) + 1), .ref ((b + 174) + 2), .ref ((b + 174) + 3), .ref ((b + 174) + 4), .ref ((b + 174) + 5), .ref ((b + 174) + 6), .ref ((b + 174) + 7), iv 3, iv 100, .int 0, .int 0, .ref ((b + 174) + 8), .ref ((b + 174) + 9), .ref ((b + 174) + 10), .ref ((b + 174) + 11), .int 0, .ref ((b + 174) + 12), .int 0, .int 0, .ref ((b + 174) + 13), .int 0, .int 0] (plU 6)) (.inl (g 5, 1, .inr (.inl (fun _ => 0)))))) H := hP
  refine lv_astore_n (lv' := [(2, .ref (b + 174)), (1, .ref (b + 0)), (0, .ref q)]) hC.1 hC.2.1 d_Law_law_15 rfl hl (by decide) rfl (fun ls hl => ?_)
  refine xi_const hC d_Law_law_16 ?_
  refine W.exact (n := 187) hP (by omega) (fun hz => ?_)
  refine xn_newl (n := 188) hC ar_long hK (CI.of hP hz) hS rfl (Nat.le_of_ble_eq_true rfl) (Nat.le_of_ble_eq_true rfl) d_Law_law_17 (fun H hI hS => ?_)
  have hP := hI.2
  refine lv_astore_n (lv' := [(3, .ref (b + 188)), (2, .ref (b + 174)), (1, .ref (b + 0)), (0, .ref q)]) hC.1 hC.2.1 d_Law_law_19 rfl hl (by decide) rfl (fun ls hl => ?_)
  refine xi_const hC d_Law_law_20 ?_
  refine lv_istore (lv' := [(4, iv 0), (3, .ref (b + 188)), (2, .ref (b + 174)), (1, .ref (b + 0)), (0, .ref q)]) hC.1 hC.2.1 d_Law_law_21 hl (by decide) rfl (fun ls hl => ?_)
  have hW : Lw D g b m0 n0 0 H := by
    refine ⟨reg_X (fun k z hz => ?_), reg_N (fun k z hz => ?_), fun _ => 0, rfl, ?_⟩
    · obtain ⟨h1, rfl⟩ := wsF_some hz
      have := hP k _ (wsF_get (by omega))
      rw [show FL (FX b g [.ref (b + 1), .ref (b + 2), .ref (b + 7), .ref (b + 8), .ref (b + 111), iv 0, iv 0, iv 0, iv 3, iv 100] 6 6) (FModel g [.int 0, .int 0, .ref ((b + 174) + 1), .ref ((b + 174) + 2), .ref ((b + 174) + 3), .ref ((b + 174) + 4), .ref ((b + 174) + 5), .ref ((b + 174) + 6), .ref ((b + 174) + 7), iv 3, iv 100, .int 0, .int 0, .ref ((b + 174) + 8), .ref ((b + 174) + 9), .ref ((b + 174) + 10), .ref ((b + 174) + 11), .int 0, .ref ((b + 174) + 12), .int 0, .int 0, .ref ((b + 174) + 13), .int 0, .int 0] (plU 6)) (.inl (g 5, 1, .inr (.inl (fun _ => 0)))) k = FX b g [.ref (b + 1), .ref (b + 2), .ref (b + 7), .ref (b + 8), .ref (b + 111), iv 0, iv 0, iv 0, iv 3, iv 100] 6 6 k from if_pos h1] at this
      exact this
    · obtain ⟨h1, rfl⟩ := wsF_some hz
      have := hP (174 + k) _ (wsF_get (by omega))
      rw [show FL (FX b g [.ref (b + 1), .ref (b + 2), .ref (b + 7), .ref (b + 8), .ref (b + 111), iv 0, iv 0, iv 0, iv 3, iv 100] 6 6) (FModel g [.int 0, .int 0, .ref ((b + 174) + 1), .ref ((b + 174) + 2), .ref ((b + 174) + 3), .ref ((b + 174) + 4), .ref ((b + 174) + 5), .ref ((b + 174) + 6), .ref ((b + 174) + 7), iv 3, iv 100, .int 0, .int 0, .ref ((b + 174) + 8), .ref ((b + 174) + 9), .ref ((b + 174) + 10), .ref ((b + 174) + 11), .int 0, .ref ((b + 174) + 12), .int 0, .int 0, .ref ((b + 174) + 13), .int 0, .int 0] (plU 6)) (.inl (g 5, 1, .inr (.inl (fun _ => 0)))) (174 + k) = FModel g [.int 0, .int 0, .ref ((b + 174) + 1), .ref ((b + 174) + 2), .ref ((b + 174) + 3), .ref ((b + 174) + 4), .ref ((b + 174) + 5), .ref ((b + 174) + 6), .ref ((b + 174) + 7), iv 3, iv 100, .int 0, .int 0, .ref ((b + 174) + 8), .ref ((b + 174) + 9), .ref ((b + 174) + 10), .ref ((b + 174) + 11), .int 0, .ref ((b + 174) + 12), .int 0, .int 0, .ref ((b + 174) + 13), .int 0, .int 0] (plU 6) k by unfold FL; rw [if_neg (by omega), if_pos (by omega), Nat.add_sub_cancel_left], ← Nat.add_assoc] at this
      exact this
    · exact hP 188 _ (wsF_get (by omega))
  exact W.widen (by omega) (by omega) (L_loop hob hfl hC hr hlocks hK hst hsX hbs hX hq hL 513 0 (by omega) m0 n0 0 H locs ls hob.init hW hS (lv_sub hl [4, 3, 2, 1, 0] rfl))
