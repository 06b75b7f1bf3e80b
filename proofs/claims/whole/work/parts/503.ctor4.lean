/-! THE RANKING AND THE OBJECT ITSELF -/
theorem arrV_congr {c : ClassId} {n : Nat} {z z' : Nat → Value} (h : ∀ i, i < n → z i = z' i) : arrV c n z = arrV c n z' := by
  unfold arrV
  congr 1
  apply Array.ext
  · simp
  · intro i h1 h2
    simp at h1 ⊢
    exact h i h1
theorem va_at_q {D : va_G} {cl : List vw_C} {a n : Nat} {c : ClassId} {f f' : Nat → Option Nat} {H : Heap} (h : va_at D cl (a, qA c n f) H) (he : ∀ i, i < n → f i = f' i) : va_at D cl (a, qA c n f') H := by
  have h : H[a]? = some (vp_cell c (n, .inr (.inr (.inr (.inr f))))) := h
  show H[a]? = some (vp_cell c (n, .inr (.inr (.inr (.inr f')))))
  rw [h, vp_cell_q, vp_cell_q, arrV_congr (fun i hi => by rw [he i hi])]
theorem va_at_i {D : va_G} {cl : List vw_C} {a n : Nat} {c : ClassId} {f f' : Nat → Int32} {H : Heap} (h : va_at D cl (a, .inl (c, n, .inl f)) H) (he : ∀ i, i < n → f i = f' i) : va_at D cl (a, .inl (c, n, .inl f')) H := by
  have h : H[a]? = some (vp_cell c (n, .inl f)) := h
  show H[a]? = some (vp_cell c (n, .inl f'))
  rw [h, vp_cell_i, vp_cell_i, arrV_congr (fun i hi => by rw [he i hi])]
def rkU (b s : Nat) : Nat → Option Nat := fun i => if i < s then some (b + (2 + i)) else none
theorem rkU_s (b s : Nat) : rkU b (s + 1) = va_up (rkU b s) s (some (b + (2 + s))) := by
  funext j
  unfold rkU va_up
  by_cases h : j = s
  · subst h; simp
  · simp only [h, if_false]
    by_cases h2 : j < s
    · rw [if_pos h2, if_pos (by omega)]
    · rw [if_neg h2, if_neg (by omega)]
def FRank (b : Nat) (g : Nat → ClassId) (fs : List Value) (s : Nat) : Nat → va_E := fun k => if k = 0 then .inr (4, fs) else if k = 1 then qA (g 3) 101 (rkU b s) else FPair k
theorem lI_Ranking_21 : lkI "EdgeJoins$Ranking" 21 y_Pair_init b_Pair_init 1 := ⟨rfl, ⟨by decide, by decide, by decide +kernel⟩, gm 65 rfl rfl, gm 4 (by decide +kernel) rfl, gm 64 (by decide +kernel) rfl, Or.inr ⟨"EdgeJoins", gn 63 (by decide +kernel) rfl⟩⟩
theorem lI_X_17 : lkI "EdgeJoins" 17 y_Layout_init b_Layout_init 2 := ⟨rfl, ⟨by decide, by decide, by decide +kernel⟩, gm 29 rfl rfl, gm 2 (by decide +kernel) rfl, gm 28 (by decide +kernel) rfl, Or.inr ⟨"EdgeJoins", gn 27 (by decide +kernel) rfl⟩⟩
theorem lI_X_28 : lkI "EdgeJoins" 28 y_Ranking_init b_Ranking_init 2 := ⟨rfl, ⟨by decide, by decide, by decide +kernel⟩, gm 58 rfl rfl, gm 3 (by decide +kernel) rfl, gm 57 (by decide +kernel) rfl, Or.inr ⟨"EdgeJoins", gn 56 (by decide +kernel) rfl⟩⟩
theorem lI_X_35 : lkI "EdgeJoins" 35 y_Board_init b_Board_init 1 := ⟨rfl, ⟨by decide, by decide, by decide +kernel⟩, gm 109 rfl rfl, gm 5 (by decide +kernel) rfl, gm 108 (by decide +kernel) rfl, Or.inr ⟨"EdgeJoins", gn 107 (by decide +kernel) rfl⟩⟩
theorem lI_X_56 : lkI "EdgeJoins" 56 y_Edge_init b_Edge_init 1 := ⟨rfl, ⟨by decide, by decide, by decide +kernel⟩, gm 133 rfl rfl, gm 6 (by decide +kernel) rfl, gm 132 (by decide +kernel) rfl, Or.inr ⟨"EdgeJoins", gn 131 (by decide +kernel) rfl⟩⟩
set_option maxHeartbeats 4000000 in
theorem q_Ranking {p : Program} {l : Launch} {e : Env} {s : State} {m : MethodId} {args : Array Value} {below : List Frame} {meth : Method} {c : Code} {D : va_G} {g : Nat → ClassId} {b : Nat} (hC : Cx p m c b_Ranking_init 2 s args "EdgeJoins$Ranking") (hr : meth.sig.returnType = none) (hlocks : meth.locks = false) (hK : va_K D classes (tyG g) s) (hk : sK s) (hsz : s.heap.size = b + 1) : ∀ (n i : Nat), i + n = 101 → ∀ (H : Heap) (locs : List Loc) (ls : Array Slot), va_P D classes (wsF b (2 + i) (FRank b g [.ref (b + 1), iv 0] i)) H → va_S (fromB b) s.heap H locs → lv_has ls 2 [(1, iv (i : Int)), (0, .ref (b + 0))] → W p l e ({ frames := 2, cells := 102, slots := 808, locals := 44 }) s m args below meth c H locs (1 + i) (101 + 7 * i) (MQ below (QN D b 103 (FRank b g [.ref (b + 1), iv 0] 101)) args s 102 808 (fromB b)) (F0 m 20 ls []) := by
  intro n
  induction n with
  | zero =>
    intro i hi H locs ls hP hS hl
    have hi6 : i = 101 := by omega
    subst hi6
    refine lv_iload_n hC.1 hC.2.1 d_Ranking_init_20 rfl (lv_at hl 0 rfl) ?_
    refine xi_bipush hC d_Ranking_init_21 (by decide) ?_
    refine xi_cgt hC (tgt := 45) d_Ranking_init_23 (by decide) (xl rfl) (xl rfl) (fun q => ?_) (fun q => absurd (by decide) q)
    exact xr_n (n := 102) hC hr hlocks hP (by omega) hS d_Ranking_init_45
  | succ n ih =>
    intro i hi H locs ls hP hS hl
    have hb : in32 (i : Int) := ⟨by omega, by omega⟩
    refine lv_iload_n hC.1 hC.2.1 d_Ranking_init_20 rfl (lv_at hl 0 rfl) ?_
    refine xi_bipush hC d_Ranking_init_21 (by decide) ?_
    refine xi_cgt hC (tgt := 45) d_Ranking_init_23 (by decide) hb (xl rfl) (fun q => absurd q (by omega)) (fun q => ?_)
    refine lv_aload_n hC.1 hC.2.1 d_Ranking_init_26 rfl (lv_at hl 1 rfl) ?_
    refine xn_get (i := 11) (k := 0) (v := .ref (b + 1)) hC i_Ranking hK hP (by omega) rfl rfl 0 (by decide) (gm 96 (by decide +kernel) rfl) rfl d_Ranking_init_27 ?_
    refine lv_iload_n hC.1 hC.2.1 d_Ranking_init_30 rfl (lv_at hl 0 rfl) ?_
    have hP : va_P D classes (wsF b ((1 + i) + 1) (FRank b g [.ref (b + 1), iv 0] i)) H := by rw [show 1 + i + 1 = 2 + i by omega]; exact hP
    refine W.exact (n := 1 + i) hP (by omega) (fun hz => ?_)
    refine xn_new (i := 9) (ci := 3) (fs := [.int 0, .int 0, .int 0, .int 0, .int 0, .int 0, .int 0]) t_Pair hC i_Pair t_Pair_ok (gm 60 (by decide +kernel) rfl) (gm 62 (by decide +kernel) rfl) (gm 4 (by decide +kernel) rfl) hK (CI.of hP hz) hS rfl (fun j hj => by rcases (show j = 0 ∨ j = 1 ∨ j = 2 ∨ j = 3 ∨ j = 4 ∨ j = 5 ∨ j = 6 by omega) with rfl | rfl | rfl | rfl | rfl | rfl | rfl <;> rfl) (by unfold FRank; rw [if_neg (by omega), if_neg (by omega)]; rfl) (by show 1 + i + 1 ≤ 102; omega) (by show 101 + 7 * i + 7 ≤ 808; omega) d_Ranking_init_31 (fun H hI hS => ?_)
    have hP := hI.2
    refine lv_dup hC.1 hC.2.1 d_Ranking_init_34 rfl ?_
    refine xn_call (n := 1 + i + 1) (L := 1) (f1 := FRank b g [.ref (b + 1), iv 0] i) (fe := FPair) (fc := FPair) hC hl.1 lI_Ranking_21 (k_Pair l D g (b + (1 + i + 1))) rfl rfl ⟨(Nat.le_of_ble_eq_true rfl), (Nat.le_of_ble_eq_true rfl)⟩ hK hk hP (by omega) hS (fun _ h => h) (by unfold FRank; rw [if_neg (by omega), if_neg (by omega)]; rfl) (fun _ _ => rfl) (fun j hj => by unfold FRank; rw [if_neg (by omega), if_neg (by omega)]; rfl) (Nat.le_of_ble_eq_true rfl) ⟨by show 1 + i + 1 + 0 ≤ 102; omega, by show 101 + 7 * i + 7 + 0 ≤ 808; omega⟩ d_Ranking_init_35 (fun H locs hP hS => ?_)
    refine xn_aast (k := 1) (j := 3) (ci := 3) (v := 1 + i + 1) (len := 101) (r := (R_Pair, F_Pair, 7)) (f' := FRank b g [.ref (b + 1), iv 0] (i + 1)) (fun _ h => h) hC hK hP hS (by omega) rfl rfl (by omega) (by unfold FRank; rw [if_neg (by omega), if_neg (by omega)]; rfl) rfl (by decide) ⟨by omega, by omega⟩ (by
      show qA (g 3) 101 (rkU b (i + 1)) = _
      rw [rkU_s, show (i : Int).toNat = i by omega, show 1 + i + 1 = 2 + i by omega]) (fun a ha h => by unfold FRank; by_cases h0 : a = 0 <;> simp only [h0, h, if_true, if_false]) d_Ranking_init_38 (fun H locs hP hS => ?_)
    refine xi_iinc (v := ((i + 1 : Nat) : Int)) (lv' := [(1, iv ((i + 1 : Nat) : Int)), (0, .ref (b + 0))]) hC d_Ranking_init_39 hl (k := 0) rfl (by omega) (by decide) rfl (fun ls hl => ?_)
    refine lv_goto (tgt := 20) hC.1 hC.2.1 d_Ranking_init_42 (by decide) ?_
    refine W.cs (cells' := 1 + (i + 1)) (slots' := 101 + 7 * (i + 1)) (by omega) (by omega) ?_
    exact ih (i + 1) (by omega) _ _ _ (by rw [show 2 + (i + 1) = 1 + i + 1 + 1 by omega]; exact hP) hS (lv_sub hl [0, 1] rfl)
set_option maxHeartbeats 4000000 in
set_option maxRecDepth 20000 in
theorem k_Ranking (l : Launch) (D : va_G) (g : Nat → ClassId) (b : Nat) : Met l y_Ranking_init (Cond.code y_Ranking_init b_Ranking_init 2 none :: gd) ({ frames := 2, cells := 102, slots := 808, locals := 44 }) (PcN D g b (FRank b g [.null, .int 0] 0)) (QN D b 103 (FRank b g [.ref (b + 1), iv 0] 101)) 102 808 (fromB b) := by
  refine xm_new (own := "EdgeJoins$Ranking") (by decide) rfl rfl (Nat.le_of_ble_eq_true rfl) ?_
  intro p e s m below meth c ls H args hC hr hlocks hin hK hP hsz hk hS hl
  have hl : lv_has ls 2 [(0, .ref (b + 0))] := hl
  refine lv_aload_n hC.1 hC.2.1 d_Ranking_init_0 rfl (lv_at hl 0 rfl) ?_
  refine xn_obj hC hl.1 (gm 59 (by decide +kernel) rfl) ob_i ob_c (Nat.le_of_ble_eq_true rfl) (Nat.le_of_ble_eq_true rfl) d_Ranking_init_1 ?_
  refine lv_aload_n hC.1 hC.2.1 d_Ranking_init_4 rfl (lv_at hl 0 rfl) ?_
  refine xi_bipush hC d_Ranking_init_5 (by decide) ?_
  refine W.exact (n := 0) hP (by omega) (fun hz => ?_)
  refine xn_newq (i := 9) (len := 101) (j := 3) hC (gm 60 (by decide +kernel) rfl) hk.2.2.2 hK rfl (CI.of hP hz) hS (by decide) rfl (Nat.le_of_ble_eq_true rfl) (Nat.le_of_ble_eq_true rfl) d_Ranking_init_7 (fun H hI hS => ?_)
  have hP := hI.2
  refine xn_putF (i := 11) (k := 0) (f' := FRank b g [.ref (b + 1), .int 0] 0) (fun _ h => h) hC i_Ranking t_Ranking t_Ranking_ok n_Ranking hK hP hS (by decide) rfl rfl 0 (by decide) (gm 96 (by decide +kernel) rfl) rfl hin rfl rfl rfl rfl (Nat.le_of_ble_eq_true rfl) rfl (fun a ha h => by cases a with | zero => exact absurd rfl h | succ a => rfl) d_Ranking_init_10 (fun H locs hP hS => ?_)
  refine lv_aload_n hC.1 hC.2.1 d_Ranking_init_13 rfl (lv_at hl 0 rfl) ?_
  refine xi_const hC d_Ranking_init_14 ?_
  refine xn_putI (i := 17) (k := 0) (f' := FRank b g [.ref (b + 1), iv 0] 0) (fun _ h => h) hC i_Ranking t_Ranking t_Ranking_ok n_Ranking hK hP hS (by decide) rfl rfl 1 (by decide) (gm 98 (by decide +kernel) rfl) rfl rfl rfl rfl (Nat.le_of_ble_eq_true rfl) rfl (fun a ha h => by cases a with | zero => exact absurd rfl h | succ a => rfl) d_Ranking_init_15 (fun H locs hP hS => ?_)
  refine xi_const hC d_Ranking_init_18 ?_
  refine lv_istore_n (lv' := [(1, iv 0), (0, .ref (b + 0))]) hC.1 hC.2.1 d_Ranking_init_19 rfl hl (by decide) rfl (fun ls hl => ?_)
  exact q_Ranking hC hr hlocks hK hk hsz 101 0 (by omega) _ _ _ hP hS (lv_sub hl [0, 1] rfl)
/-- the memory of a new object -/
def m0 : Mem := fun k j => if k = 9 then (if j < 101 then (j : Int) else 0) else if k = 6 ∨ (114 ≤ k ∧ (k - 114) % 10 = 9) then (if j < 6 then (j : Int) else 0) else if k = 0 then (if j = 8 then 3 else if j = 9 then 100 else 0) else 0
theorem m0_zero {k : Nat} (h1 : k ≠ 9) (h2 : ¬ (k = 6 ∨ (114 ≤ k ∧ (k - 114) % 10 = 9))) (h3 : k ≠ 0) (j : Nat) : m0 k j = 0 := by
  unfold m0
  rw [if_neg h1, if_neg h2, if_neg h3]
theorem m0_tree {k : Nat} (h : k = 6 ∨ (114 ≤ k ∧ (k - 114) % 10 = 9)) : (fun j => Int32.ofInt (m0 k j)) = trU 6 := by
  funext j
  unfold m0 trU
  rw [if_neg (by omega), if_pos h]
  split <;> rfl
def eU (b o s : Nat) : Nat → Option Nat := fun i => if i < s then some (b + (o + 10 * i)) else none
theorem eU_s (b o s : Nat) : eU b o (s + 1) = va_up (eU b o s) s (some (b + (o + 10 * s))) := by
  funext j
  unfold eU va_up
  by_cases h : j = s
  · subst h; simp
  · simp only [h, if_false]
    by_cases h2 : j < s
    · rw [if_pos h2, if_pos (by omega)]
    · rw [if_neg h2, if_neg (by omega)]
def FX (b : Nat) (g : Nat → ClassId) (fs : List Value) (e1 e2 : Nat) : Nat → va_E := fun k => if k = 0 then .inr (0, fs) else if k = 1 then qA (g 1) 6 (eU b 114 e1) else if k = 7 then qA (g 2) 6 (eU b 119 e2) else if k = 9 then qA (g 3) 101 (rkU (b + 8) 101) else cellC b g (m0 k) k
theorem FX_c {b : Nat} {g : Nat → ClassId} {fs : List Value} {e1 e2 k : Nat} (h0 : k ≠ 0) (h1 : k ≠ 1) (h7 : k ≠ 7) (h9 : k ≠ 9) : FX b g fs e1 e2 k = cellC b g (m0 k) k := by
  unfold FX
  rw [if_neg h0, if_neg h1, if_neg h7, if_neg h9]
def FU (f : Nat → va_E) (n : Nat) (e : va_E) : Nat → va_E := fun k => if k = n then e else f k
theorem FU_s (f : Nat → va_E) (n : Nat) (e : va_E) : FU f n e n = e := if_pos rfl
theorem FU_n {f : Nat → va_E} {n k : Nat} {e : va_E} (h : k ≠ n) : FU f n e k = f k := if_neg h
theorem iA_0 {g : Nat → ClassId} {n : Nat} {r : Nat → Int} (h : ∀ j, r j = 0) : iA g n r = z0 g n := by
  have : (fun j => Int32.ofInt (r j)) = fun _ => (0 : Int32) := by funext j; rw [h j]; rfl
  show (Sum.inl (g 0, n, Sum.inl (fun j => Int32.ofInt (r j))) : va_E) = _
  rw [this]
theorem hn_Layout {b : Nat} {g : Nat → ClassId} {fs : List Value} {e1 e2 n : Nat} (h : isL n) : ∀ j, j < 5 → FX b g fs e1 e2 (n + j) = FLayout g [.ref (b + n + 1), .ref (b + n + 2), .ref (b + n + 3), .ref (b + n + 4)] (trU 6) j := by
  intro j hj
  have hl := isL_lt h
  have hc : n = 2 ∨ (114 ≤ n ∧ (n - 114) % 10 = 5) := by rcases h with h | ⟨h1, h2, h3⟩ <;> omega
  rw [FX_c (by omega) (by omega) (by omega) (by omega)]
  rcases (show j = 0 ∨ (1 ≤ j ∧ j ≤ 3) ∨ j = 4 by omega) with rfl | h3 | rfl
  · rw [show n + 0 = n from rfl, sh_Layout h]; rfl
  · rw [sh_A6 h (by omega), iA_0 (m0_zero (by omega) (by omega) (by omega))]
    unfold FLayout
    rw [if_neg (by omega), if_pos (by omega)]
  · rw [sh_A6 h (by omega)]
    show (Sum.inl (g 0, 6, Sum.inl (fun j => Int32.ofInt (m0 (n + 4) j))) : va_E) = _
    rw [m0_tree (by omega)]; rfl
theorem hn_Edge {b : Nat} {g : Nat → ClassId} {fs : List Value} {e1 e2 n : Nat} (h : isE n) : ∀ j, j < 5 → FX b g fs e1 e2 (n + j) = FEdge g [.ref (b + n + 1), .ref (b + n + 2), .ref (b + n + 3), .ref (b + n + 4), iv 0, iv 0] j := by
  intro j hj
  obtain ⟨h1, h2, h3⟩ := id h
  rw [FX_c (by omega) (by omega) (by omega) (by omega)]
  rcases (show j = 0 ∨ (j = 1 ∨ j = 2) ∨ (j = 3 ∨ j = 4) by omega) with rfl | h4 | h4
  · rw [show n + 0 = n from rfl, sh_Edge h]
    show (Sum.inr (1, fEdge b n (m0 n)) : va_E) = _
    unfold fEdge
    rw [m0_zero (by omega) (by omega) (by omega), m0_zero (by omega) (by omega) (by omega)]; rfl
  · rw [sh_A28 h h4, iA_0 (m0_zero (by omega) (by omega) (by omega))]
    unfold FEdge
    rw [if_neg (by omega), if_pos (by omega)]
  · rw [sh_A29 h h4, iA_0 (m0_zero (by omega) (by omega) (by omega))]
    unfold FEdge
    rw [if_neg (by omega), if_neg (by omega)]
theorem hn_Board {b : Nat} {g : Nat → ClassId} {fs : List Value} {e1 e2 : Nat} : ∀ j, j < 3 → FX b g fs e1 e2 (111 + j) = FBoard g [.ref (b + 111 + 1), .ref (b + 111 + 2), .int 0, .int 0, .int 0, .int 0] j := by
  intro j hj
  rw [FX_c (by omega) (by omega) (by omega) (by omega)]
  rcases (show j = 0 ∨ j = 1 ∨ j = 2 by omega) with rfl | rfl | rfl
  · rfl
  · rw [aB1.2, ]
    exact iA_0 (m0_zero (by omega) (by omega) (by omega))
  · rw [aB2.2]
    exact iA_0 (m0_zero (by omega) (by omega) (by omega))
theorem hn_Ranking {b : Nat} {g : Nat → ClassId} {fs : List Value} {e1 e2 : Nat} : ∀ j, j < 103 → FX b g fs e1 e2 (8 + j) = FRank (b + 8) g [.ref (b + 8 + 1), iv 0] 101 j := by
  intro j hj
  rcases (show j = 0 ∨ j = 1 ∨ 2 ≤ j by omega) with rfl | rfl | h
  · rfl
  · rfl
  · rw [FX_c (by omega) (by omega) (by omega) (by omega), sh_Pair ⟨by omega, by omega⟩]
    unfold FRank
    rw [if_neg (by omega), if_neg (by omega)]
    show (Sum.inr (3, fPair (m0 (8 + j))) : va_E) = _
    unfold fPair
    simp only [m0_zero (show 8 + j ≠ 9 by omega) (show ¬ (8 + j = 6 ∨ (114 ≤ 8 + j ∧ (8 + j - 114) % 10 = 9)) by omega) (show 8 + j ≠ 0 by omega)]
    rfl
set_option maxHeartbeats 4000000 in
theorem q_X {p : Program} {l : Launch} {e : Env} {s : State} {m : MethodId} {args : Array Value} {below : List Frame} {meth : Method} {c : Code} {D : va_G} {g : Nat → ClassId} {b : Nat} (hC : Cx p m c b_X_init 2 s args "EdgeJoins") (hr : meth.sig.returnType = none) (hlocks : meth.locks = false) (hK : va_K D classes (tyG g) s) (hk : sK s) (hsz : s.heap.size = b + 1) : ∀ (n i : Nat), i + n = 6 → ∀ (H : Heap) (locs : List Loc) (ls : Array Slot), va_P D classes (wsF b (114 + 10 * i) (FX b g [.ref (b + 1), .ref (b + 2), .ref (b + 7), .ref (b + 8), .ref (b + 111), iv 0, iv 0, iv 0, iv 3, iv 100] i i)) H → va_S (fromB b) s.heap H locs → lv_has ls 2 [(1, iv (i : Int)), (0, .ref (b + 0))] → W p l e ({ frames := 3, cells := 173, slots := 5616, locals := 65 }) s m args below meth c H locs (113 + 10 * i) (4728 + 148 * i) (MQ below (QN D b 174 (FX b g [.ref (b + 1), .ref (b + 2), .ref (b + 7), .ref (b + 8), .ref (b + 111), iv 0, iv 0, iv 0, iv 3, iv 100] 6 6)) args s 173 5616 (fromB b)) (F0 m 83 ls []) := by
  intro n
  induction n with
  | zero =>
    intro i hi H locs ls hP hS hl
    have hi6 : i = 6 := by omega
    subst hi6
    refine lv_iload_n hC.1 hC.2.1 d_X_init_83 rfl (lv_at hl 0 rfl) ?_
    refine xi_bipush hC d_X_init_84 (by decide) ?_
    refine xi_cge hC (tgt := 121) d_X_init_86 (by decide) (xl rfl) (xl rfl) (fun q => ?_) (fun q => absurd (by decide) q)
    exact xr_n (n := 173) hC hr hlocks hP (by omega) hS d_X_init_121
  | succ n ih =>
    intro i hi H locs ls hP hS hl
    have hb : in32 (i : Int) := ⟨by omega, by omega⟩
    refine lv_iload_n hC.1 hC.2.1 d_X_init_83 rfl (lv_at hl 0 rfl) ?_
    refine xi_bipush hC d_X_init_84 (by decide) ?_
    refine xi_cge hC (tgt := 121) d_X_init_86 (by decide) hb (xl rfl) (fun q => absurd q (by omega)) (fun q => ?_)
    refine lv_aload_n hC.1 hC.2.1 d_X_init_89 rfl (lv_at hl 1 rfl) ?_
    refine xn_get (i := 11) (k := 0) (v := .ref (b + 1)) hC i_X hK hP (by omega) rfl rfl 0 (by decide) (gm 164 (by decide +kernel) rfl) rfl d_X_init_90 ?_
    refine lv_iload_n hC.1 hC.2.1 d_X_init_93 rfl (lv_at hl 0 rfl) ?_
    have hP : va_P D classes (wsF b ((113 + 10 * i) + 1) (FX b g [.ref (b + 1), .ref (b + 2), .ref (b + 7), .ref (b + 8), .ref (b + 111), iv 0, iv 0, iv 0, iv 3, iv 100] i i)) H := by rw [show 113 + 10 * i + 1 = 114 + 10 * i by omega]; exact hP
    refine W.exact (n := 113 + 10 * i) hP (by omega) (fun hz => ?_)
    have hI := CI.cong (f' := FU (FX b g [.ref (b + 1), .ref (b + 2), .ref (b + 7), .ref (b + 8), .ref (b + 111), iv 0, iv 0, iv 0, iv 3, iv 100] i i) (113 + 10 * i + 1) (.inr (1, [.null, .null, .null, .null, .int 0, .int 0]))) (CI.of hP hz) (fun j hj => FU_n (by omega))
    refine xn_new (i := 9) (ci := 1) (fs := [.null, .null, .null, .null, .int 0, .int 0]) t_Edge hC i_Edge t_Edge_ok (gm 23 (by decide +kernel) rfl) (gm 130 (by decide +kernel) rfl) (gm 6 (by decide +kernel) rfl) hK hI hS rfl (fun j hj => by rcases (show j = 0 ∨ j = 1 ∨ j = 2 ∨ j = 3 ∨ j = 4 ∨ j = 5 by omega) with rfl | rfl | rfl | rfl | rfl | rfl <;> rfl) (FU_s _ _ _) (by show 113 + 10 * i + 1 ≤ 173; omega) (by show 4728 + 148 * i + 6 ≤ 5616; omega) d_X_init_94 (fun H hI hS => ?_)
    have hP := hI.2
    refine lv_dup hC.1 hC.2.1 d_X_init_97 rfl ?_
    have hE : isE (113 + 10 * i + 1) := ⟨by omega, by omega, by omega⟩
    refine xn_call (n := 113 + 10 * i + 1) (L := 5) (f1 := FX b g [.ref (b + 1), .ref (b + 2), .ref (b + 7), .ref (b + 8), .ref (b + 111), iv 0, iv 0, iv 0, iv 3, iv 100] i i) hC hl.1 lI_X_56 (k_Edge l D g (b + (113 + 10 * i + 1))) rfl rfl ⟨(Nat.le_of_ble_eq_true rfl), (Nat.le_of_ble_eq_true rfl)⟩ hK hk hP (by omega) hS (fun _ h => h) (FU_s _ _ _).symm (fun k hk => (FU_n (by omega)).symm) (hn_Edge hE) (Nat.le_of_ble_eq_true rfl) ⟨by show 113 + 10 * i + 1 + 4 ≤ 173; omega, by show 4728 + 148 * i + 6 + 114 ≤ 5616; omega⟩ d_X_init_98 (fun H locs hP hS => ?_)
    refine xn_aast (k := 1) (j := 1) (ci := 1) (v := 113 + 10 * i + 1) (len := 6) (r := (R_Edge, F_Edge, 6)) (f' := FX b g [.ref (b + 1), .ref (b + 2), .ref (b + 7), .ref (b + 8), .ref (b + 111), iv 0, iv 0, iv 0, iv 3, iv 100] (i + 1) i) (fun _ h => h) hC hK hP hS (by omega) rfl rfl (by omega) (by rw [FX_c (by omega) (by omega) (by omega) (by omega), sh_Edge hE]) rfl (by decide) ⟨by omega, by omega⟩ (by
      show qA (g 1) 6 (eU b 114 (i + 1)) = _
      rw [eU_s, show (i : Int).toNat = i by omega, show 113 + 10 * i + 1 = 114 + 10 * i by omega]) (fun a ha h => by unfold FX; by_cases h0 : a = 0 <;> simp only [h0, h, if_true, if_false]) d_X_init_101 (fun H locs hP hS => ?_)
    refine lv_aload_n hC.1 hC.2.1 d_X_init_102 rfl (lv_at hl 1 rfl) ?_
    refine xn_get (i := 22) (k := 0) (v := .ref (b + 7)) hC i_X hK hP (by omega) rfl rfl 2 (by decide) (gm 166 (by decide +kernel) rfl) rfl d_X_init_103 ?_
    refine lv_iload_n hC.1 hC.2.1 d_X_init_106 rfl (lv_at hl 0 rfl) ?_
    have hP : va_P D classes (wsF b ((118 + 10 * i) + 1) (FX b g [.ref (b + 1), .ref (b + 2), .ref (b + 7), .ref (b + 8), .ref (b + 111), iv 0, iv 0, iv 0, iv 3, iv 100] (i + 1) i)) H := by rw [show 118 + 10 * i + 1 = 113 + 10 * i + 1 + 5 by omega]; exact hP
    refine W.exact (n := 118 + 10 * i) hP (by omega) (fun hz => ?_)
    have hI := CI.cong (f' := FU (FX b g [.ref (b + 1), .ref (b + 2), .ref (b + 7), .ref (b + 8), .ref (b + 111), iv 0, iv 0, iv 0, iv 3, iv 100] (i + 1) i) (118 + 10 * i + 1) (.inr (2, [.null, .null, .null, .null]))) (CI.of hP hz) (fun j hj => FU_n (by omega))
    refine xn_new (i := 15) (ci := 2) (fs := [.null, .null, .null, .null]) t_Layout hC i_Layout t_Layout_ok (gm 25 (by decide +kernel) rfl) (gm 26 (by decide +kernel) rfl) (gm 2 (by decide +kernel) rfl) hK hI hS rfl (fun j hj => by rcases (show j = 0 ∨ j = 1 ∨ j = 2 ∨ j = 3 by omega) with rfl | rfl | rfl | rfl <;> rfl) (FU_s _ _ _) (by show 113 + 10 * i + 1 + 4 + 1 ≤ 173; omega) (by show 4728 + 148 * i + 6 + 114 + 4 ≤ 5616; omega) d_X_init_107 (fun H hI hS => ?_)
    have hP := hI.2
    refine lv_dup hC.1 hC.2.1 d_X_init_110 rfl ?_
    have hE : isL (118 + 10 * i + 1) := Or.inr ⟨by omega, by omega, by omega⟩
    refine xn_call (n := 118 + 10 * i + 1) (L := 5) (f1 := FX b g [.ref (b + 1), .ref (b + 2), .ref (b + 7), .ref (b + 8), .ref (b + 111), iv 0, iv 0, iv 0, iv 3, iv 100] (i + 1) i) hC hl.1 lI_X_17 (k_Layout l D g (b + (118 + 10 * i + 1))) rfl rfl ⟨(Nat.le_of_ble_eq_true rfl), (Nat.le_of_ble_eq_true rfl)⟩ hK hk hP (by omega) hS (fun _ h => h) (FU_s _ _ _).symm (fun k hk => (FU_n (by omega)).symm) (hn_Layout hE) (Nat.le_of_ble_eq_true rfl) ⟨by show 113 + 10 * i + 1 + 4 + 1 + 4 ≤ 173; omega, by show 4728 + 148 * i + 6 + 114 + 4 + 24 ≤ 5616; omega⟩ d_X_init_111 (fun H locs hP hS => ?_)
    refine xn_aast (k := 7) (j := 2) (ci := 2) (v := 118 + 10 * i + 1) (len := 6) (r := (R_Layout, F_Layout, 4)) (f' := FX b g [.ref (b + 1), .ref (b + 2), .ref (b + 7), .ref (b + 8), .ref (b + 111), iv 0, iv 0, iv 0, iv 3, iv 100] (i + 1) (i + 1)) (fun _ h => h) hC hK hP hS (by omega) rfl rfl (by omega) (by rw [FX_c (by omega) (by omega) (by omega) (by omega), sh_Layout hE]) rfl (by decide) ⟨by omega, by omega⟩ (by
      show qA (g 2) 6 (eU b 119 (i + 1)) = _
      rw [eU_s, show (i : Int).toNat = i by omega, show 118 + 10 * i + 1 = 119 + 10 * i by omega]) (fun a ha h => by unfold FX; by_cases h0 : a = 0 <;> by_cases h1 : a = 1 <;> simp only [h0, h1, h, if_true, if_false]) d_X_init_114 (fun H locs hP hS => ?_)
    refine xi_iinc (v := ((i + 1 : Nat) : Int)) (lv' := [(1, iv ((i + 1 : Nat) : Int)), (0, .ref (b + 0))]) hC d_X_init_115 hl (k := 0) rfl (by omega) (by decide) rfl (fun ls hl => ?_)
    refine lv_goto (tgt := 83) hC.1 hC.2.1 d_X_init_118 (by decide) ?_
    refine W.cs (cells' := 113 + 10 * (i + 1)) (slots' := 4728 + 148 * (i + 1)) (by omega) (by omega) ?_
    exact ih (i + 1) (by omega) _ _ _ (by rw [show 114 + 10 * (i + 1) = 118 + 10 * i + 1 + 5 by omega]; exact hP) hS (lv_sub hl [0, 1] rfl)
set_option maxHeartbeats 4000000 in
set_option maxRecDepth 20000 in
theorem k_X (l : Launch) (D : va_G) (g : Nat → ClassId) (b : Nat) : Met l y_X_init (Cond.code y_X_init b_X_init 2 none :: gd) ({ frames := 3, cells := 173, slots := 5616, locals := 65 }) (PcN D g b (FX b g [.null, .null, .null, .null, .null, .int 0, .int 0, .int 0, .int 0, .int 0] 0 0)) (QN D b 174 (FX b g [.ref (b + 1), .ref (b + 2), .ref (b + 7), .ref (b + 8), .ref (b + 111), iv 0, iv 0, iv 0, iv 3, iv 100] 6 6)) 173 5616 (fromB b) := by
  refine xm_new (own := "EdgeJoins") (by decide) rfl rfl (Nat.le_of_ble_eq_true rfl) ?_
  intro p e s m below meth c ls H args hC hr hlocks hin hK hP hsz hk hS hl
  have hl : lv_has ls 2 [(0, .ref (b + 0))] := hl
  refine lv_aload_n hC.1 hC.2.1 d_X_init_0 rfl (lv_at hl 0 rfl) ?_
  refine xn_obj hC hl.1 (gm 20 (by decide +kernel) rfl) ob_i ob_c (Nat.le_of_ble_eq_true rfl) (Nat.le_of_ble_eq_true rfl) d_X_init_1 ?_
  refine lv_aload_n hC.1 hC.2.1 d_X_init_4 rfl (lv_at hl 0 rfl) ?_
  refine xi_bipush hC d_X_init_5 (by decide) ?_
  refine W.exact (n := 0) hP (by omega) (fun hz => ?_)
  refine xn_newq (i := 9) (len := 6) (j := 1) hC (gm 23 (by decide +kernel) rfl) hk.2.1 hK rfl (CI.of hP hz) hS (by decide) rfl (Nat.le_of_ble_eq_true rfl) (Nat.le_of_ble_eq_true rfl) d_X_init_7 (fun H hI hS => ?_)
  have hP : va_P D classes (wsF b 2 (FX b g [.null, .null, .null, .null, .null, .int 0, .int 0, .int 0, .int 0, .int 0] 0 0)) H := hI.2
  refine xn_putF (i := 11) (k := 0) (f' := FX b g [.ref (b + 1), .null, .null, .null, .null, .int 0, .int 0, .int 0, .int 0, .int 0] 0 0) (fun _ h => h) hC i_X t_X t_X_ok n_X hK hP hS (by omega) rfl rfl 0 (by decide) (gm 164 (by decide +kernel) rfl) rfl hin rfl rfl rfl rfl (Nat.le_of_ble_eq_true rfl) rfl (fun a ha h => by unfold FX; rw [if_neg h, if_neg h]) d_X_init_10 (fun H locs hP hS => ?_)
  refine lv_aload_n hC.1 hC.2.1 d_X_init_13 rfl (lv_at hl 0 rfl) ?_
  refine W.exact (n := 1) hP (by omega) (fun hz => ?_)
  have hI := CI.cong (f' := FU (FX b g [.ref (b + 1), .null, .null, .null, .null, .int 0, .int 0, .int 0, .int 0, .int 0] 0 0) 2 (.inr (2, [.null, .null, .null, .null]))) (CI.of hP hz) (fun j hj => FU_n (by omega))
  refine xn_new (i := 15) (ci := 2) (fs := [.null, .null, .null, .null]) t_Layout hC i_Layout t_Layout_ok (gm 25 (by decide +kernel) rfl) (gm 26 (by decide +kernel) rfl) (gm 2 (by decide +kernel) rfl) hK hI hS rfl (fun j hj => by rcases (show j = 0 ∨ j = 1 ∨ j = 2 ∨ j = 3 by omega) with rfl | rfl | rfl | rfl <;> rfl) (FU_s _ _ _) (Nat.le_of_ble_eq_true rfl) (Nat.le_of_ble_eq_true rfl) d_X_init_14 (fun H hI hS => ?_)
  have hP := hI.2
  refine lv_dup hC.1 hC.2.1 d_X_init_17 rfl ?_
  refine xn_call (n := 2) (L := 5) (f1 := FX b g [.ref (b + 1), .null, .null, .null, .null, .int 0, .int 0, .int 0, .int 0, .int 0] 0 0) hC hl.1 lI_X_17 (k_Layout l D g (b + 2)) rfl rfl ⟨(Nat.le_of_ble_eq_true rfl), (Nat.le_of_ble_eq_true rfl)⟩ hK hk hP (by omega) hS (fun _ h => h) (FU_s _ _ _).symm (fun k hk => (FU_n (by omega)).symm) (hn_Layout isL_2) (Nat.le_of_ble_eq_true rfl) ⟨(Nat.le_of_ble_eq_true rfl), (Nat.le_of_ble_eq_true rfl)⟩ d_X_init_18 (fun H locs hP hS => ?_)
  have hP : va_P D classes (wsF b 7 (FX b g [.ref (b + 1), .null, .null, .null, .null, .int 0, .int 0, .int 0, .int 0, .int 0] 0 0)) H := hP
  refine W.cs (cells' := 6) (slots' := 34) rfl rfl ?_
  refine xn_putF (i := 18) (k := 0) (f' := FX b g [.ref (b + 1), .ref (b + 2), .null, .null, .null, .int 0, .int 0, .int 0, .int 0, .int 0] 0 0) (fun _ h => h) hC i_X t_X t_X_ok n_X hK hP hS (by omega) rfl rfl 1 (by decide) (gm 165 (by decide +kernel) rfl) rfl hin rfl rfl rfl rfl (Nat.le_of_ble_eq_true rfl) rfl (fun a ha h => by unfold FX; rw [if_neg h, if_neg h]) d_X_init_21 (fun H locs hP hS => ?_)
  refine lv_aload_n hC.1 hC.2.1 d_X_init_24 rfl (lv_at hl 0 rfl) ?_
  refine xi_bipush hC d_X_init_25 (by decide) ?_
  refine W.exact (n := 6) hP (by omega) (fun hz => ?_)
  refine xn_newq (i := 15) (len := 6) (j := 2) hC (gm 25 (by decide +kernel) rfl) hk.2.2.1 hK rfl (CI.of hP hz) hS (by decide) rfl (Nat.le_of_ble_eq_true rfl) (Nat.le_of_ble_eq_true rfl) d_X_init_27 (fun H hI hS => ?_)
  have hP : va_P D classes (wsF b 8 (FX b g [.ref (b + 1), .ref (b + 2), .null, .null, .null, .int 0, .int 0, .int 0, .int 0, .int 0] 0 0)) H := hI.2
  refine xn_putF (i := 22) (k := 0) (f' := FX b g [.ref (b + 1), .ref (b + 2), .ref (b + 7), .null, .null, .int 0, .int 0, .int 0, .int 0, .int 0] 0 0) (fun _ h => h) hC i_X t_X t_X_ok n_X hK hP hS (by omega) rfl rfl 2 (by decide) (gm 166 (by decide +kernel) rfl) rfl hin rfl rfl rfl rfl (Nat.le_of_ble_eq_true rfl) rfl (fun a ha h => by unfold FX; rw [if_neg h, if_neg h]) d_X_init_30 (fun H locs hP hS => ?_)
  refine lv_aload_n hC.1 hC.2.1 d_X_init_33 rfl (lv_at hl 0 rfl) ?_
  refine W.exact (n := 7) hP (by omega) (fun hz => ?_)
  have hI := CI.cong (f' := FU (FX b g [.ref (b + 1), .ref (b + 2), .ref (b + 7), .null, .null, .int 0, .int 0, .int 0, .int 0, .int 0] 0 0) 8 (.inr (4, [.null, .int 0]))) (CI.of hP hz) (fun j hj => FU_n (by omega))
  refine xn_new (i := 26) (ci := 4) (fs := [.null, .int 0]) t_Ranking hC i_Ranking t_Ranking_ok (gm 54 (by decide +kernel) rfl) (gm 55 (by decide +kernel) rfl) (gm 3 (by decide +kernel) rfl) hK hI hS rfl (fun j hj => by rcases (show j = 0 ∨ j = 1 by omega) with rfl | rfl <;> rfl) (FU_s _ _ _) (Nat.le_of_ble_eq_true rfl) (Nat.le_of_ble_eq_true rfl) d_X_init_34 (fun H hI hS => ?_)
  have hP := hI.2
  refine lv_dup hC.1 hC.2.1 d_X_init_37 rfl ?_
  refine xn_call (n := 8) (L := 103) (f1 := FX b g [.ref (b + 1), .ref (b + 2), .ref (b + 7), .null, .null, .int 0, .int 0, .int 0, .int 0, .int 0] 0 0) hC hl.1 lI_X_28 (k_Ranking l D g (b + 8)) rfl rfl ⟨(Nat.le_of_ble_eq_true rfl), (Nat.le_of_ble_eq_true rfl)⟩ hK hk hP (by omega) hS (fun _ h => h) (FU_s _ _ _).symm (fun k hk => (FU_n (by omega)).symm) hn_Ranking (Nat.le_of_ble_eq_true rfl) ⟨(Nat.le_of_ble_eq_true rfl), (Nat.le_of_ble_eq_true rfl)⟩ d_X_init_38 (fun H locs hP hS => ?_)
  have hP : va_P D classes (wsF b 111 (FX b g [.ref (b + 1), .ref (b + 2), .ref (b + 7), .null, .null, .int 0, .int 0, .int 0, .int 0, .int 0] 0 0)) H := hP
  refine W.cs (cells' := 110) (slots' := 850) rfl rfl ?_
  refine xn_putF (i := 29) (k := 0) (f' := FX b g [.ref (b + 1), .ref (b + 2), .ref (b + 7), .ref (b + 8), .null, .int 0, .int 0, .int 0, .int 0, .int 0] 0 0) (fun _ h => h) hC i_X t_X t_X_ok n_X hK hP hS (by omega) rfl rfl 3 (by decide) (gm 167 (by decide +kernel) rfl) rfl hin rfl rfl rfl rfl (Nat.le_of_ble_eq_true rfl) rfl (fun a ha h => by unfold FX; rw [if_neg h, if_neg h]) d_X_init_41 (fun H locs hP hS => ?_)
  refine lv_aload_n hC.1 hC.2.1 d_X_init_44 rfl (lv_at hl 0 rfl) ?_
  refine W.exact (n := 110) hP (by omega) (fun hz => ?_)
  have hI := CI.cong (f' := FU (FX b g [.ref (b + 1), .ref (b + 2), .ref (b + 7), .ref (b + 8), .null, .int 0, .int 0, .int 0, .int 0, .int 0] 0 0) 111 (.inr (5, [.null, .null, .int 0, .int 0, .int 0, .int 0]))) (CI.of hP hz) (fun j hj => FU_n (by omega))
  refine xn_new (i := 33) (ci := 5) (fs := [.null, .null, .int 0, .int 0, .int 0, .int 0]) t_Board hC i_Board t_Board_ok (gm 105 (by decide +kernel) rfl) (gm 106 (by decide +kernel) rfl) (gm 5 (by decide +kernel) rfl) hK hI hS rfl (fun j hj => by rcases (show j = 0 ∨ j = 1 ∨ j = 2 ∨ j = 3 ∨ j = 4 ∨ j = 5 by omega) with rfl | rfl | rfl | rfl | rfl | rfl <;> rfl) (FU_s _ _ _) (Nat.le_of_ble_eq_true rfl) (Nat.le_of_ble_eq_true rfl) d_X_init_45 (fun H hI hS => ?_)
  have hP := hI.2
  refine lv_dup hC.1 hC.2.1 d_X_init_48 rfl ?_
  refine xn_call (n := 111) (L := 3) (f1 := FX b g [.ref (b + 1), .ref (b + 2), .ref (b + 7), .ref (b + 8), .null, .int 0, .int 0, .int 0, .int 0, .int 0] 0 0) hC hl.1 lI_X_35 (k_Board l D g (b + 111)) rfl rfl ⟨(Nat.le_of_ble_eq_true rfl), (Nat.le_of_ble_eq_true rfl)⟩ hK hk hP (by omega) hS (fun _ h => h) (FU_s _ _ _).symm (fun k hk => (FU_n (by omega)).symm) hn_Board (Nat.le_of_ble_eq_true rfl) ⟨(Nat.le_of_ble_eq_true rfl), (Nat.le_of_ble_eq_true rfl)⟩ d_X_init_49 (fun H locs hP hS => ?_)
  have hP : va_P D classes (wsF b 114 (FX b g [.ref (b + 1), .ref (b + 2), .ref (b + 7), .ref (b + 8), .null, .int 0, .int 0, .int 0, .int 0, .int 0] 0 0)) H := hP
  refine W.cs (cells' := 113) (slots' := 4728) rfl rfl ?_
  refine xn_putF (i := 36) (k := 0) (f' := FX b g [.ref (b + 1), .ref (b + 2), .ref (b + 7), .ref (b + 8), .ref (b + 111), .int 0, .int 0, .int 0, .int 0, .int 0] 0 0) (fun _ h => h) hC i_X t_X t_X_ok n_X hK hP hS (by omega) rfl rfl 4 (by decide) (gm 168 (by decide +kernel) rfl) rfl hin rfl rfl rfl rfl (Nat.le_of_ble_eq_true rfl) rfl (fun a ha h => by unfold FX; rw [if_neg h, if_neg h]) d_X_init_52 (fun H locs hP hS => ?_)
  refine lv_aload_n hC.1 hC.2.1 d_X_init_55 rfl (lv_at hl 0 rfl) ?_
  refine xi_const hC d_X_init_56 ?_
  refine xn_putI (i := 40) (k := 0) (f' := FX b g [.ref (b + 1), .ref (b + 2), .ref (b + 7), .ref (b + 8), .ref (b + 111), iv 0, .int 0, .int 0, .int 0, .int 0] 0 0) (fun _ h => h) hC i_X t_X t_X_ok n_X hK hP hS (by omega) rfl rfl 5 (by decide) (gm 169 (by decide +kernel) rfl) rfl rfl rfl rfl (Nat.le_of_ble_eq_true rfl) rfl (fun a ha h => by unfold FX; rw [if_neg h, if_neg h]) d_X_init_57 (fun H locs hP hS => ?_)
  refine lv_aload_n hC.1 hC.2.1 d_X_init_60 rfl (lv_at hl 0 rfl) ?_
  refine xi_const hC d_X_init_61 ?_
  refine xn_putI (i := 44) (k := 0) (f' := FX b g [.ref (b + 1), .ref (b + 2), .ref (b + 7), .ref (b + 8), .ref (b + 111), iv 0, iv 0, .int 0, .int 0, .int 0] 0 0) (fun _ h => h) hC i_X t_X t_X_ok n_X hK hP hS (by omega) rfl rfl 6 (by decide) (gm 170 (by decide +kernel) rfl) rfl rfl rfl rfl (Nat.le_of_ble_eq_true rfl) rfl (fun a ha h => by unfold FX; rw [if_neg h, if_neg h]) d_X_init_62 (fun H locs hP hS => ?_)
  refine lv_aload_n hC.1 hC.2.1 d_X_init_65 rfl (lv_at hl 0 rfl) ?_
  refine xi_const hC d_X_init_66 ?_
  refine xn_putI (i := 47) (k := 0) (f' := FX b g [.ref (b + 1), .ref (b + 2), .ref (b + 7), .ref (b + 8), .ref (b + 111), iv 0, iv 0, iv 0, .int 0, .int 0] 0 0) (fun _ h => h) hC i_X t_X t_X_ok n_X hK hP hS (by omega) rfl rfl 7 (by decide) (gm 171 (by decide +kernel) rfl) rfl rfl rfl rfl (Nat.le_of_ble_eq_true rfl) rfl (fun a ha h => by unfold FX; rw [if_neg h, if_neg h]) d_X_init_67 (fun H locs hP hS => ?_)
  refine lv_aload_n hC.1 hC.2.1 d_X_init_70 rfl (lv_at hl 0 rfl) ?_
  refine xi_const hC d_X_init_71 ?_
  refine xn_putI (i := 50) (k := 0) (f' := FX b g [.ref (b + 1), .ref (b + 2), .ref (b + 7), .ref (b + 8), .ref (b + 111), iv 0, iv 0, iv 0, iv 3, .int 0] 0 0) (fun _ h => h) hC i_X t_X t_X_ok n_X hK hP hS (by omega) rfl rfl 8 (by decide) (gm 172 (by decide +kernel) rfl) rfl rfl rfl rfl (Nat.le_of_ble_eq_true rfl) rfl (fun a ha h => by unfold FX; rw [if_neg h, if_neg h]) d_X_init_72 (fun H locs hP hS => ?_)
  refine lv_aload_n hC.1 hC.2.1 d_X_init_75 rfl (lv_at hl 0 rfl) ?_
  refine xi_bipush hC d_X_init_76 (by decide) ?_
  refine xn_putI (i := 53) (k := 0) (f' := FX b g [.ref (b + 1), .ref (b + 2), .ref (b + 7), .ref (b + 8), .ref (b + 111), iv 0, iv 0, iv 0, iv 3, iv 100] 0 0) (fun _ h => h) hC i_X t_X t_X_ok n_X hK hP hS (by omega) rfl rfl 9 (by decide) (gm 173 (by decide +kernel) rfl) rfl rfl rfl rfl (Nat.le_of_ble_eq_true rfl) rfl (fun a ha h => by unfold FX; rw [if_neg h, if_neg h]) d_X_init_78 (fun H locs hP hS => ?_)
  refine xi_const hC d_X_init_81 ?_
  refine lv_istore_n (lv' := [(1, iv 0), (0, .ref (b + 0))]) hC.1 hC.2.1 d_X_init_82 rfl hl (by decide) rfl (fun ls hl => ?_)
  exact q_X hC hr hlocks hK hk hsz 6 0 (by omega) _ _ _ hP hS (lv_sub hl [0, 1] rfl)
