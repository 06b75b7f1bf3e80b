/-! THE BOARD IS LAID: marks and their sums -/
def mkv (w left top : Int) (D X Y : Nat → Int) (k : Nat) (t : Int) : Int := if D k = 3 then (if (Y k - 1 - top) * w + X k - left = t then 1 else 0) else if D k = 1 then (if (Y k - top) * w + X k - left = t then -1 else 0) else 0
theorem mul44 {a b : Int} (ha : 0 ≤ a) (hb : 0 ≤ b) (h : a + b ≤ 88) : a * b ≤ 1936 := by
  have h1 : a * b ≤ (88 - b) * b := Int.mul_le_mul_of_nonneg_right (by omega) hb
  have h2 : 0 ≤ (b - 44) * (b - 44) := by
    by_cases c : 0 ≤ b - 44
    · exact Int.mul_nonneg c c
    · have := Int.mul_nonneg (show 0 ≤ -(b - 44) by omega) (show 0 ≤ -(b - 44) by omega)
      rw [Int.neg_mul_neg] at this
      exact this
  have e1 : (b - 44) * (b - 44) = b * b - 88 * b + 1936 := by grind
  have e2 : (88 - b) * b = 88 * b - b * b := by grind
  omega
theorem ix_in {row col w h : Int} (hr : 0 ≤ row ∧ row < h) (hc : 0 ≤ col ∧ col < w) : 0 ≤ row * w + col ∧ row * w + col < w * h := by
  have h1 := Int.mul_nonneg hr.1 (show 0 ≤ w by omega)
  have h2 : (row + 1) * w ≤ h * w := Int.mul_le_mul_of_nonneg_right (by omega) (by omega)
  have e1 : (row + 1) * w = row * w + w := by grind
  have e2 : h * w = w * h := Int.mul_comm _ _
  omega
theorem ix_le {r1 c1 r2 c2 w : Int} (h1 : 0 ≤ c1 ∧ c1 < w) (h2 : 0 ≤ c2 ∧ c2 < w) : r1 * w + c1 ≤ r2 * w + c2 ↔ r1 < r2 ∨ (r1 = r2 ∧ c1 ≤ c2) := by
  have key : ∀ a b : Int, a < b → a * w + w ≤ b * w := fun a b hab => by
    have : (a + 1) * w ≤ b * w := Int.mul_le_mul_of_nonneg_right (by omega) (by omega)
    have e1 : (a + 1) * w = a * w + w := by grind
    omega
  constructor
  · intro h
    rcases Int.lt_trichotomy r1 r2 with q | q | q
    · exact Or.inl q
    · subst q; exact Or.inr ⟨rfl, by omega⟩
    · have := key r2 r1 q; omega
  · intro h
    rcases h with q | ⟨q, q2⟩
    · have := key r1 r2 q; omega
    · subst q; omega
theorem sm_ind (c v : Int) (hc : 0 ≤ c) : ∀ m : Nat, sm (fun t => if c = (t : Int) then v else 0) m = if c < m then v else 0 := by
  intro m
  induction m with
  | zero => rw [if_neg (by omega)]; rfl
  | succ m ih =>
    show sm _ m + (if c = (m : Int) then v else 0) = _
    rw [ih]
    by_cases h1 : c < m
    · rw [if_pos h1, if_neg (by omega), if_pos (by omega), Int.add_zero]
    · rw [if_neg h1]
      by_cases h2 : c = m
      · rw [if_pos h2, if_pos (by omega), Int.zero_add]
      · rw [if_neg h2, if_neg (by omega)]; rfl
/-- the marks of one edge, summed up to a cell, are how often it goes round the cell -/
theorem marks_wn {n : Nat} {D cx cy : Nat → Int} {X0 Y0 lo hi ul uh : Int} (hp : Poly n D cx cy) (ho : cx n = 0 ∧ cy n = 0) (hb : ∀ k, k ≤ n → lo ≤ X0 + cx k ∧ X0 + cx k ≤ hi ∧ ul ≤ Y0 + cy k ∧ Y0 + cy k ≤ uh) {row col : Nat} (hr : (row : Int) < uh - ul + 2) (hc : (col : Int) < hi - lo + 2) (w : Nat) (hw : hi - lo + 2 = w) :
    sm (fun t => sm (fun k => mkv (hi - lo + 2) (lo - 1) (ul - 1) D (fun k => X0 + cx k) (fun k => Y0 + cy k) k t) n) (row * w + col + 1) = wn n D (fun k => X0 + cx k) (fun k => Y0 + cy k) (lo - 1 + col) (ul - 1 + row) := by
  rw [sm_swap (fun t k => mkv (hi - lo + 2) (lo - 1) (ul - 1) D (fun k => X0 + cx k) (fun k => Y0 + cy k) k t)]
  have ev := rows_even hp ho (ul - 1 + row - Y0)
  have e : sm (fun k => sm (fun t => mkv (hi - lo + 2) (lo - 1) (ul - 1) D (fun k => X0 + cx k) (fun k => Y0 + cy k) k t) (row * w + col + 1)) n = sm (fun k => (if D k = 3 then (if cy k - 1 < ul - 1 + row - Y0 then (1 : Int) else 0) else if D k = 1 then (if cy k < ul - 1 + row - Y0 then -1 else 0) else 0) + wd D (fun k => X0 + cx k) (fun k => Y0 + cy k) (lo - 1 + col) (ul - 1 + row) k) n := by
    refine sm_congr (fun k hk => ?_)
    have bk := hb k (by omega)
    have bk1 := hb (k + 1) (by omega)
    have hcast : ((row * w + col + 1 : Nat) : Int) = (row : Int) * (w : Int) + (col : Int) + 1 := by
      rw [Int.natCast_add, Int.natCast_add, Int.natCast_mul]; rfl
    unfold mkv wd
    dsimp only
    rw [hw]
    by_cases h3 : D k = 3
    · have hdc : cy (k + 1) = cy k - 1 := by rcases d_cases hp hk with ⟨q, a, b⟩ | ⟨q, a, b⟩ | ⟨q, a, b⟩ | ⟨q, a, b⟩ <;> omega
      simp only [if_pos h3]
      have nn := ix_in (row := Y0 + cy k - 1 - (ul - 1)) (col := X0 + cx k - (lo - 1)) (w := w) (h := uh - ul + 2) ⟨by omega, by omega⟩ ⟨by omega, by omega⟩
      have el : (Y0 + cy k - 1 - (ul - 1)) * (w : Int) + (X0 + cx k) - (lo - 1) = (Y0 + cy k - 1 - (ul - 1)) * (w : Int) + (X0 + cx k - (lo - 1)) := by omega
      rw [el, sm_ind _ _ nn.1, hcast]
      have hle := ix_le (r1 := Y0 + cy k - 1 - (ul - 1)) (c1 := X0 + cx k - (lo - 1)) (r2 := row) (c2 := col) (w := w) ⟨by omega, by omega⟩ ⟨by omega, by omega⟩
      by_cases q1 : Y0 + cy k - 1 - (ul - 1) < row
      · rw [if_pos (by have := hle.mpr (Or.inl q1); omega), if_pos (by omega), if_neg (by omega)]; rfl
      · by_cases q2 : Y0 + cy k - 1 - (ul - 1) = row ∧ X0 + cx k - (lo - 1) ≤ col
        · rw [if_pos (by have := hle.mpr (Or.inr q2); omega), if_neg (by omega), if_pos (by omega)]; rfl
        · rw [if_neg (fun z => by
            rcases hle.mp (by omega) with z | z
            · exact q1 z
            · exact q2 z), if_neg (by omega), if_neg (by omega)]; rfl
    · simp only [if_neg h3]
      by_cases h1 : D k = 1
      · have hdc : cy (k + 1) = cy k + 1 := by rcases d_cases hp hk with ⟨q, a, b⟩ | ⟨q, a, b⟩ | ⟨q, a, b⟩ | ⟨q, a, b⟩ <;> omega
        simp only [if_pos h1]
        have nn := ix_in (row := Y0 + cy k - (ul - 1)) (col := X0 + cx k - (lo - 1)) (w := w) (h := uh - ul + 2) ⟨by omega, by omega⟩ ⟨by omega, by omega⟩
        have el : (Y0 + cy k - (ul - 1)) * (w : Int) + (X0 + cx k) - (lo - 1) = (Y0 + cy k - (ul - 1)) * (w : Int) + (X0 + cx k - (lo - 1)) := by omega
        rw [el, sm_ind _ _ nn.1, hcast]
        have hle := ix_le (r1 := Y0 + cy k - (ul - 1)) (c1 := X0 + cx k - (lo - 1)) (r2 := row) (c2 := col) (w := w) ⟨by omega, by omega⟩ ⟨by omega, by omega⟩
        by_cases q1 : Y0 + cy k - (ul - 1) < row
        · rw [if_pos (by have := hle.mpr (Or.inl q1); omega), if_pos (by omega), if_neg (by omega)]; rfl
        · by_cases q2 : Y0 + cy k - (ul - 1) = row ∧ X0 + cx k - (lo - 1) ≤ col
          · rw [if_pos (by have := hle.mpr (Or.inr q2); omega), if_neg (by omega), if_pos (by omega)]; rfl
          · rw [if_neg (fun z => by
              rcases hle.mp (by omega) with z | z
              · exact q1 z
              · exact q2 z), if_neg (by omega), if_neg (by omega)]; rfl
      · simp only [if_neg h1]
        exact sm_const0 _ (fun _ => rfl)
  rw [e, sm_add, ev, Int.zero_add]
  rfl
def Wsum (M : Mem) (T : Nat) (n : Nat → Nat) (x y : Int) : Int := sm (fun s => if M (2 + 4) s = T then wn (n s) (PD M s) (PX M s) (PY M s) x y else 0) 6
section Lay2
variable {M : Mem} {T : Nat} {n : Nat → Nat} {l r u d lo hi ul uh : Int} {w h : Nat}
/-- the board with its box -/
def Boxd (Mc : Mem) (lo hi ul uh : Int) (w h : Nat) : Prop := (Mc 111 2 = lo - 1 ∧ Mc 111 3 = ul - 1 ∧ Mc 111 4 = w ∧ Mc 111 5 = ((w * h : Nat) : Int)) ∧ (hi - lo + 2 = w ∧ uh - ul + 2 = h) ∧ w * h ≤ 1936 ∧ (-1000 ≤ lo ∧ hi ≤ 1000 ∧ -1000 ≤ ul ∧ uh ≤ 1000)
def InB (M : Mem) (T : Nat) (n : Nat → Nat) (lo hi ul uh : Int) : Prop := ∀ s, s < 6 → M (2 + 4) s = T → ∀ k, k ≤ n s → lo ≤ PX M s k ∧ PX M s k ≤ hi ∧ ul ≤ PY M s k ∧ PY M s k ≤ uh
theorem mark_ok {Mc : Mem} {x y c : Int} {Post : Mem → Prop} (hB : Boxd Mc lo hi ul uh w h) (hx : lo ≤ x ∧ x ≤ hi) (hy : ul ≤ y ∧ y < uh) (hP : ∀ t : Nat, (t : Int) = (y - (ul - 1)) * (w : Int) + x - (lo - 1) → Post (up Mc 112 t (Mc 112 t + c))) : wp_Board_mark x y c Mc Post := by
  obtain ⟨⟨b1, b2, b3, b4⟩, ⟨b5, b6⟩, b7, b8⟩ := hB
  intro v hv
  rw [b1, b2, b3] at hv
  have nn := ix_in (row := y - (ul - 1)) (col := x - (lo - 1)) (w := w) (h := h) ⟨by omega, by omega⟩ ⟨by omega, by omega⟩
  have e : (y - (ul - 1)) * (w : Int) + x - (lo - 1) = (y - (ul - 1)) * (w : Int) + (x - (lo - 1)) := by omega
  rw [e] at hv hP
  rw [← hv] at nn
  rw [← hv] at hP
  have hwh : ((w * h : Nat) : Int) = (w : Int) * (h : Int) := Int.natCast_mul _ _
  rw [b4]
  refine ⟨⟨by omega, by omega⟩, fun z => absurd z (by omega), fun _ => ⟨⟨by omega, by omega⟩, ⟨by omega, by omega⟩, fun z => absurd z (by omega), fun _ => ⟨⟨by omega, by omega⟩, ⟨by omega, by omega⟩, fun M2 h2 => ?_⟩⟩⟩
  rw [h2]
  exact hP v.toNat (by omega)
theorem Boxd.same {Mc Mc' : Mem} (hB : Boxd Mc lo hi ul uh w h) (he : Mc' 111 = Mc 111) : Boxd Mc' lo hi ul uh w h := by
  unfold Boxd
  rw [he]
  exact hB
theorem sides_ok {Mc : Mem} {s : Nat} {Post : Mem → Prop} (hL : LayIn M T n l r u d) (hI : InB M T n lo hi ul uh) (hs : s < 6) (hm : M (2 + 4) s = T) (hr : ∀ r, r ≠ 111 → r ≠ 112 → r ≠ 113 → Mc r = M r) (hB : Boxd Mc lo hi ul uh w h) (hP : ∀ M' : Mem, (∀ r, r ≠ 112 → M' r = Mc r) → (∀ t : Nat, M' 112 t = Mc 112 t + sm (fun k => mkv (hi - lo + 2) (lo - 1) (ul - 1) (PD M s) (PX M s) (PY M s) k t) (n s)) → Post M') : wp_Board_markSides (114 + 10 * s) 2 s Mc Post := by
  obtain ⟨m1, m2, m3, m4, m5⟩ := hL.2.2.2 s hs hm
  obtain ⟨b1, b2, b3⟩ := hL.2.1 s hs
  have bI := hI s hs hm
  have hw := hB.2.1.1
  have loop : ∀ f k : Nat, k + f = n s → ∀ Md : Mem, (∀ r, r ≠ 112 → Md r = Mc r) → (∀ t : Nat, Md 112 t = Mc 112 t + sm (fun k => mkv (hi - lo + 2) (lo - 1) (ul - 1) (PD M s) (PX M s) (PY M s) k t) k) → wp_Board_markSides_3 (114 + 10 * s) 2 Post (f + 1) s k Md := by
    intro f
    induction f with
    | zero =>
      intro k hk Md h1 h2
      have e4 : Md (114 + 10 * s) 4 = n s := by rw [h1 _ (by omega), hr _ (by omega) (by omega) (by omega)]; exact b2
      refine ⟨⟨by omega, by omega⟩, by rw [e4]; exact ⟨by omega, by omega⟩, fun _ => hP Md h1 (fun t => by rw [h2 t, show k = n s by omega]), fun z => absurd (show Md (114 + 10 * s) 4 ≤ (k : Int) by omega) z⟩
    | succ f ih =>
      intro k hk Md h1 h2
      have e4 : Md (114 + 10 * s) 4 = n s := by rw [h1 _ (by omega), hr _ (by omega) (by omega) (by omega)]; exact b2
      have rM : ∀ r, r ≠ 111 → r ≠ 112 → r ≠ 113 → Md r = M r := fun r x y z => by rw [h1 r y, hr r x y z]
      obtain ⟨p1, p2, p3⟩ := PX_same rM s k hs
      have hq : 0 ≤ Md (2 + 3) s ∧ Md (2 + 3) s ≤ 3 := by rw [rM (2 + 3) (by omega) (by omega) (by omega)]; exact m2
      have bk := bI k (by omega)
      have bk1 := bI (k + 1) (by omega)
      have hBd := hB.same (h1 111 (by omega))
      have pr := m3.rotq m2
      have hpd : PD M s k = (M (114 + 10 * s + 1) k + M (2 + 3) s) % 4 := rfl
      have next : ∀ (M2 : Mem), (∀ r, r ≠ 112 → M2 r = Md r) → (∀ t : Nat, M2 112 t = Md 112 t + mkv (hi - lo + 2) (lo - 1) (ul - 1) (PD M s) (PX M s) (PY M s) k t) → wp_Board_markSides_3 (114 + 10 * s) 2 Post (f + 1) s ((k : Int) + 1) M2 := by
        intro M2 g1 g2
        rw [show ((k : Nat) : Int) + 1 = ((k + 1 : Nat) : Int) by omega]
        refine ih (k + 1) (by omega) M2 (fun r hr => by rw [g1 r hr, h1 r hr]) (fun t => ?_)
        rw [g2 t, h2 t, Int.add_assoc]
        rfl
      refine ⟨⟨by omega, by omega⟩, by rw [e4]; exact ⟨by omega, by omega⟩, fun z => absurd z (by omega), fun _ => ⟨⟨by omega, by omega⟩, ⟨by omega, by omega⟩, fun v5 hv5 => placedX_ok hs (by omega) hq (placedY_ok hs (by omega) hq ?_)⟩⟩
      rw [Int.toNat_natCast, Int.toNat_natCast] at hv5
      have hv5 : v5 = PD Md s k := hv5
      rw [p3] at hv5
      rw [p1, p2, hv5]
      have d4 : 0 ≤ PD M s k ∧ PD M s k ≤ 3 := by rw [hpd]; omega
      refine ⟨⟨by omega, by omega⟩, fun q3 => ⟨⟨by omega, by omega⟩, fun q1 v hv => ?_, fun q1 => ?_⟩, fun q3 => ?_⟩
      · rw [hv]
        refine next Md (fun _ _ => rfl) (fun t => ?_)
        unfold mkv
        rw [if_neg q3, if_neg q1, Int.add_zero]
      · have hdc : PY M s (k + 1) = PY M s k + 1 := by
          rcases d_cases pr (show k < n s by omega) with ⟨q, a, b⟩ | ⟨q, a, b⟩ | ⟨q, a, b⟩ | ⟨q, a, b⟩
          · exact absurd (q.symm.trans q1) (by decide)
          · unfold PY; rw [b]; omega
          · exact absurd (q.symm.trans q1) (by decide)
          · exact absurd (q.symm.trans q1) (by decide)
        refine mark_ok hBd ⟨by omega, by omega⟩ ⟨by omega, by omega⟩ (fun t ht v hv => ?_)
        rw [hv]
        refine next _ (fun r hr => up_ne hr) (fun t' => ?_)
        unfold mkv
        rw [if_neg q3, if_pos q1, hw]
        by_cases z : t' = t
        · subst z; rw [up_ss, if_pos ht.symm]
        · rw [up_nj z, if_neg (by omega), Int.add_zero]
      · have hdc : PY M s (k + 1) = PY M s k - 1 := by
          rcases d_cases pr (show k < n s by omega) with ⟨q, a, b⟩ | ⟨q, a, b⟩ | ⟨q, a, b⟩ | ⟨q, a, b⟩
          · exact absurd (q.symm.trans q3) (by decide)
          · exact absurd (q.symm.trans q3) (by decide)
          · exact absurd (q.symm.trans q3) (by decide)
          · unfold PY; rw [b]; omega
        refine mark_ok hBd ⟨by omega, by omega⟩ ⟨by omega, by omega⟩ (fun t ht v hv => ?_)
        rw [hv]
        refine next _ (fun r hr => up_ne hr) (fun t' => ?_)
        unfold mkv
        rw [if_pos q3, hw]
        by_cases z : t' = t
        · subst z; rw [up_ss, if_pos ht.symm]
        · rw [up_nj z, if_neg (by omega), Int.add_zero]
  exact ⟨n s + 1, loop (n s) 0 (by omega) Mc (fun _ _ => rfl) (fun t => by show _ = Mc 112 t + 0; omega)⟩
theorem lay_ok {Post : Mem → Prop} (hL : LayIn M T n l r u d) (hP : ∀ (M' : Mem) (lo hi ul uh : Int) (w h : Nat), (∀ r, r ≠ 111 → r ≠ 112 → M' r = M r) → Boxd M' lo hi ul uh w h → (l ≤ lo ∧ lo ≤ hi ∧ hi ≤ r) → (u ≤ ul ∧ ul ≤ uh ∧ uh ≤ d) → InB M T n lo hi ul uh → (∀ row col : Nat, row < h → col < w → M' 112 (row * w + col) = Wsum M T n (lo - 1 + col) (ul - 1 + row)) → Post M') : wp_Board_lay 2 T M Post := by
  refine frame_ok hL (fun M1 lo hi ul uh r1 e1 bx by' hin => ?_)
  obtain ⟨⟨t1, t2⟩, b, ⟨c1, c2⟩, e⟩ := id hL
  obtain ⟨w, hw⟩ : ∃ w : Nat, hi - lo + 2 = w := ⟨(hi - lo + 2).toNat, by omega⟩
  obtain ⟨h, hh⟩ : ∃ h : Nat, uh - ul + 2 = h := ⟨(uh - ul + 2).toNat, by omega⟩
  have hwh : w * h ≤ 1936 := by
    have := mul44 (a := w) (b := h) (by omega) (by omega) (by omega)
    rw [← Int.natCast_mul] at this
    omega
  have hcell : M1 111 5 = ((w * h : Nat) : Int) := by
    rw [e1.2.2.2, hw, hh, ← Int.natCast_mul]
    omega
  have hIn : InB M T n lo hi ul uh := by
    intro s hs hm k hk
    by_cases z : k < n s
    · exact hin s hs hm k z
    · have hkn : k = n s := by omega
      obtain ⟨m1, m2, m3, m4, m5⟩ := e s hs hm
      have ra := rot_n (cx := M (114 + 10 * s + 3)) (cy := M (114 + 10 * s + 4)) (k := n s) m2 m4
      have rb := rot_n (cx := M (114 + 10 * s + 3)) (cy := M (114 + 10 * s + 4)) (k := 0) m2 ⟨m3.1, m3.2.1⟩
      have := hin s hs hm 0 (by omega)
      unfold PX PY at this ⊢
      rw [rb.1, rb.2] at this
      rw [hkn, ra.1, ra.2]
      exact this
  have hB1 : Boxd M1 lo hi ul uh w h := ⟨⟨e1.1, e1.2.1, by rw [e1.2.2.1]; exact hw, hcell⟩, ⟨hw, hh⟩, hwh, by omega, by omega, by omega, by omega⟩
  -- sums
  have sums : ∀ f t : Nat, 1 ≤ t → t + f = w * h → ∀ (C : Nat → Int) (Mc : Mem), (∀ r, r ≠ 111 → r ≠ 112 → Mc r = M r) → Boxd Mc lo hi ul uh w h → (∀ q, q < t → Mc 112 q = sm C (q + 1)) → (∀ q, t ≤ q → Mc 112 q = C q) → (∀ row col : Nat, row < h → col < w → sm C (row * w + col + 1) = Wsum M T n (lo - 1 + col) (ul - 1 + row)) → wp_Board_lay_74 Post (f + 1) t Mc := by
    intro f
    induction f with
    | zero =>
      intro t ht1 ht C Mc h1 h2 h3 h4 h5
      have e5 := h2.1.2.2.2
      refine ⟨⟨by omega, by omega⟩, by rw [e5]; exact ⟨by omega, by omega⟩, fun _ => hP Mc lo hi ul uh w h h1 h2 bx by' hIn (fun row col hr hc => ?_), fun z => absurd (show Mc 111 5 ≤ (t : Int) by omega) z⟩
      have hlt : row * w + col < w * h := by
        have : (row + 1) * w ≤ h * w := Nat.mul_le_mul_right w hr
        rw [Nat.add_mul, Nat.one_mul, Nat.mul_comm h w] at this
        omega
      rw [h3 _ (by omega)]
      exact h5 row col hr hc
    | succ f ih =>
      intro t ht1 ht C Mc h1 h2 h3 h4 h5
      have e5 := h2.1.2.2.2
      refine ⟨⟨by omega, by omega⟩, by rw [e5]; exact ⟨by omega, by omega⟩, fun z => absurd z (by omega), fun _ => ⟨⟨by omega, by omega⟩, ⟨by omega, by omega⟩, ⟨by omega, by omega⟩, fun M2 g2 v hv => ?_⟩⟩
      rw [Int.toNat_natCast, show ((t : Int) - 1).toNat = t - 1 by omega, h4 t (by omega), h3 (t - 1) (by omega), show t - 1 + 1 = t by omega] at g2
      rw [hv, show ((t : Nat) : Int) + 1 = ((t + 1 : Nat) : Int) by omega]
      refine ih (t + 1) (by omega) (by omega) C M2 (fun r x y => by rw [g2, up_ne y]; exact h1 r x y) (h2.same (by rw [g2, up_ne (by decide)])) (fun q hq => ?_) (fun q hq => ?_) h5
      · rw [g2]
        by_cases z : q = t
        · subst z; rw [up_ss]; show C q + sm C q = sm C q + C q; omega
        · rw [up_nj z]; exact h3 q (by omega)
      · rw [g2, up_nj (by omega)]; exact h4 q (by omega)
  -- marks of all
  have marks : ∀ f s : Nat, s + f = 6 → ∀ Mc : Mem, (∀ r, r ≠ 111 → r ≠ 112 → Mc r = M r) → Boxd Mc lo hi ul uh w h → (∀ t : Nat, t < w * h → Mc 112 t = sm (fun s' => if M (2 + 4) s' = T then sm (fun k => mkv (hi - lo + 2) (lo - 1) (ul - 1) (PD M s') (PX M s') (PY M s') k t) (n s') else 0) s) → wp_Board_lay_36 2 Post (f + 1) T s Mc := by
    intro f
    induction f with
    | zero =>
      intro s hs Mc h1 h2 h3
      refine ⟨⟨by omega, by omega⟩, fun _ => ?_, fun z => absurd (show (6 : Int) ≤ s by omega) z⟩
      have hs6 : s = 6 := by omega
      subst hs6
      have hpos : 1 ≤ w * h := Nat.mul_pos (by omega) (by omega)
      refine ⟨w * h - 1 + 1, sums (w * h - 1) 1 (by omega) (by omega) (Mc 112) Mc h1 h2 (fun q hq => ?_) (fun q hq => rfl) (fun row col hr hc => ?_)⟩
      · rw [show q = 0 by omega]; show Mc 112 0 = 0 + Mc 112 0; omega
      · have hlt : row * w + col < w * h := by
          have : (row + 1) * w ≤ h * w := Nat.mul_le_mul_right w hr
          rw [Nat.add_mul, Nat.one_mul, Nat.mul_comm h w] at this
          omega
        rw [sm_congr (fun t ht => h3 t (by omega)), sm_swap (fun t s' => if M (2 + 4) s' = T then sm (fun k => mkv (hi - lo + 2) (lo - 1) (ul - 1) (PD M s') (PX M s') (PY M s') k t) (n s') else 0)]
        refine sm_congr (fun s' hs' => ?_)
        by_cases hm : M (2 + 4) s' = T
        · rw [if_pos hm, sm_congr (fun t _ => if_pos hm)]
          obtain ⟨m1, m2, m3, m4, m5⟩ := e s' hs' hm
          have ra := rot_n (cx := M (114 + 10 * s' + 3)) (cy := M (114 + 10 * s' + 4)) (k := n s') m2 m4
          exact marks_wn (m3.rotq m2) ra (hIn s' hs' hm) (by omega) (by omega) w hw
        · rw [if_neg hm, sm_congr (fun t _ => if_neg hm)]
          exact sm_const0 _ (fun _ => rfl)
    | succ f ih =>
      intro s hs Mc h1 h2 h3
      have hs6 : s < 6 := by omega
      obtain ⟨b1, b2, b3⟩ := b s hs6
      refine ⟨⟨by omega, by omega⟩, fun z => absurd z (by omega), fun _ => ⟨⟨by omega, by omega⟩, ?_⟩⟩
      rw [Int.toNat_natCast, h1 (2 + 4) (by omega) (by omega)]
      refine ⟨⟨by omega, by omega⟩, ⟨by omega, by omega⟩, fun hm v hv => ?_, fun hm => ⟨⟨by omega, by omega⟩, sides_ok hL hIn hs6 hm (fun r x y z => h1 r x y) h2 (fun M' g1 g2 v hv => ?_)⟩⟩
      · rw [hv, show ((s : Nat) : Int) + 1 = ((s + 1 : Nat) : Int) by omega]
        refine ih (s + 1) (by omega) Mc h1 h2 (fun t ht => ?_)
        rw [h3 t ht]
        show _ = sm _ s + (if M (2 + 4) s = T then _ else 0)
        rw [if_neg hm, Int.add_zero]
      · rw [hv, show ((s : Nat) : Int) + 1 = ((s + 1 : Nat) : Int) by omega]
        refine ih (s + 1) (by omega) M' (fun r x y => by rw [g1 r y]; exact h1 r x y) (h2.same (g1 111 (by decide))) (fun t ht => ?_)
        rw [g2 t, h3 t ht]
        show _ = sm _ s + (if M (2 + 4) s = T then _ else 0)
        rw [if_pos hm]
  -- all is 0 first
  have zero : ∀ f t : Nat, t + f = w * h → ∀ Mc : Mem, (∀ r, r ≠ 111 → r ≠ 112 → Mc r = M r) → Boxd Mc lo hi ul uh w h → (∀ q, q < t → Mc 112 q = 0) → wp_Board_lay_10 2 Post (f + 1) T t Mc := by
    intro f
    induction f with
    | zero =>
      intro t ht Mc h1 h2 h3
      have e5 := h2.1.2.2.2
      exact ⟨⟨by omega, by omega⟩, by rw [e5]; exact ⟨by omega, by omega⟩, fun _ => ⟨7, marks 6 0 (by omega) Mc h1 h2 (fun q hq => h3 q (by omega))⟩, fun z => absurd (show Mc 111 5 ≤ (t : Int) by omega) z⟩
    | succ f ih =>
      intro t ht Mc h1 h2 h3
      have e5 := h2.1.2.2.2
      refine ⟨⟨by omega, by omega⟩, by rw [e5]; exact ⟨by omega, by omega⟩, fun z => absurd z (by omega), fun _ => ⟨⟨by omega, by omega⟩, fun M2 g2 v hv => ?_⟩⟩
      rw [Int.toNat_natCast] at g2
      rw [hv, show ((t : Nat) : Int) + 1 = ((t + 1 : Nat) : Int) by omega]
      refine ih (t + 1) (by omega) M2 (fun r x y => by rw [g2, up_ne y]; exact h1 r x y) (h2.same (by rw [g2, up_ne (by decide)])) (fun q hq => ?_)
      rw [g2]
      by_cases z : q = t
      · subst z; rw [up_ss]
      · rw [up_nj z]; exact h3 q (by omega)
  exact ⟨w * h + 1, zero (w * h) 0 (by omega) M1 (fun r x _ => r1 r x) hB1 (fun q hq => absurd hq (by omega))⟩
end Lay2
