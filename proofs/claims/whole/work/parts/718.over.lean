/-! AN OVERLAP ON THE BOARD IS A CELL IN COMMON -/
theorem placed_wn {M N : Mem} {P : Nat → Int} {s : Nat} (hE : RelE M N) (hs : s < 6) (hc : N 4 s = 1) (hl : RelLay M 2 P) (hq : 0 ≤ P (4 * s + 2) ∧ P (4 * s + 2) ≤ 3) :
    (∀ x y, wn (szN N s) (PD M s) (PX M s) (PY M s) x y = 0 ∨ wn (szN N s) (PD M s) (PX M s) (PY M s) x y = 1) ∧ ∀ x y, wn (szN N s) (PD M s) (PX M s) (PY M s) x y = 1 ↔ ∃ i : Nat, (i : Int) < N 5 s ∧ CX N P s i = x ∧ CY N P s i = y := by
  obtain ⟨⟨e1, e2, e3, e4, e5, e6⟩, e7, e8⟩ := hE s hs
  obtain ⟨g1, g2, g3⟩ := e6 hc
  obtain ⟨k1, k2, k3⟩ := e7.2 hc
  obtain ⟨l1, l2, l3, l4⟩ := hl s hs
  have hn : (N 1 s).toNat ≤ 28 := by omega
  have hoo : M (114 + 10 * s + 3) (N 1 s).toNat = 0 ∧ M (114 + 10 * s + 4) (N 1 s).toNat = 0 := ⟨g2.1, g2.2.1⟩
  have key : ∀ a b : Int, wn (szN N s) (PD M s) (PX M s) (PY M s) (P (4 * s) + crX (P (4 * s + 2)) a b) (P (4 * s + 1) + crY (P (4 * s + 2)) a b) = wn (N 1 s).toNat (M (114 + 10 * s + 1)) (M (114 + 10 * s + 3)) (M (114 + 10 * s + 4)) a b := by
    intro a b
    have h1 := wn_tr (n := szN N s) (d := PD M s) (cx := fun k => rotX (P (4 * s + 2)) (M (114 + 10 * s + 3) k) (M (114 + 10 * s + 4) k)) (cy := fun k => rotY (P (4 * s + 2)) (M (114 + 10 * s + 3) k) (M (114 + 10 * s + 4) k)) (P (4 * s)) (P (4 * s + 1)) (P (4 * s) + crX (P (4 * s + 2)) a b) (P (4 * s + 1) + crY (P (4 * s + 2)) a b)
    rw [show P (4 * s) + crX (P (4 * s + 2)) a b - P (4 * s) = crX (P (4 * s + 2)) a b by omega, show P (4 * s + 1) + crY (P (4 * s + 2)) a b - P (4 * s + 1) = crY (P (4 * s + 2)) a b by omega] at h1
    have h2 := wn_rotq e5 hoo hq a b
    rw [← h2]
    have h3 : wn (szN N s) (PD M s) (PX M s) (PY M s) (P (4 * s) + crX (P (4 * s + 2)) a b) (P (4 * s + 1) + crY (P (4 * s + 2)) a b) = wn (szN N s) (PD M s) (fun k => P (4 * s) + rotX (P (4 * s + 2)) (M (114 + 10 * s + 3) k) (M (114 + 10 * s + 4) k)) (fun k => P (4 * s + 1) + rotY (P (4 * s + 2)) (M (114 + 10 * s + 3) k) (M (114 + 10 * s + 4) k)) (P (4 * s) + crX (P (4 * s + 2)) a b) (P (4 * s + 1) + crY (P (4 * s + 2)) a b) := by
      refine wn_congr (fun k _ => ⟨rfl, ?_, ?_⟩) _ _
      · unfold PX; rw [l1, l3]
      · unfold PY; rw [l2, l3]
    rw [h3, h1]
    refine wn_congr (fun k _ => ⟨?_, rfl, rfl⟩) _ _
    unfold PD; rw [l3]
  have back : ∀ x y : Int, ∃ a b : Int, x = P (4 * s) + crX (P (4 * s + 2)) a b ∧ y = P (4 * s + 1) + crY (P (4 * s + 2)) a b := by
    intro x y
    obtain ⟨a, b, h1, h2⟩ := cr_inv hq (x - P (4 * s)) (y - P (4 * s + 1))
    exact ⟨a, b, by omega, by omega⟩
  refine ⟨fun x y => ?_, fun x y => ⟨fun h => ?_, fun ⟨i, i1, i2, i3⟩ => ?_⟩⟩
  · obtain ⟨a, b, h1, h2⟩ := back x y
    rw [h1, h2, key a b]
    exact wn_pos e5 g2 hn g3 a b
  · obtain ⟨a, b, h1, h2⟩ := back x y
    rw [h1, h2, key a b] at h
    obtain ⟨i, i1, i2, i3⟩ := k3 a b h
    have i2 : N 6 (49 * s + i) = a := i2
    have i3 : N 7 (49 * s + i) = b := i3
    refine ⟨i, i1, ?_, ?_⟩
    · unfold CX; rw [h1, i2, i3]
    · unfold CY; rw [h2, i2, i3]
  · rw [← i2, ← i3]
    exact (key _ _).trans (k2 i i1)
theorem two_ones {f : Nat → Int} : ∀ {n : Nat}, (∀ k, k < n → f k = 0 ∨ f k = 1) → (0 ≤ sm f n ∧ sm f n ≤ n) ∧ (0 < sm f n ↔ ∃ i, i < n ∧ f i = 1) ∧ (1 < sm f n ↔ ∃ i j, j < i ∧ i < n ∧ f i = 1 ∧ f j = 1) := by
  intro n
  induction n with
  | zero =>
    intro _
    refine ⟨⟨Int.le_refl _, Int.le_refl _⟩, ⟨fun h => absurd h (by show ¬ (0 : Int) < 0; decide), fun ⟨i, h, _⟩ => absurd h (by omega)⟩, ⟨fun h => absurd h (by show ¬ (1 : Int) < 0; decide), fun ⟨i, j, _, h, _⟩ => absurd h (by omega)⟩⟩
  | succ n ih =>
    intro h
    obtain ⟨a, b, c⟩ := ih (fun k hk => h k (by omega))
    have e : sm f (n + 1) = sm f n + f n := rfl
    have hn := h n (by omega)
    refine ⟨by rw [e]; omega, ⟨fun q => ?_, fun ⟨i, h1, h2⟩ => ?_⟩, ⟨fun q => ?_, fun ⟨i, j, h1, h2, h3, h4⟩ => ?_⟩⟩
    · by_cases z : f n = 1
      · exact ⟨n, by omega, z⟩
      · obtain ⟨i, i1, i2⟩ := b.mp (by omega)
        exact ⟨i, by omega, i2⟩
    · rw [e]
      by_cases z : i = n
      · subst z; omega
      · have := b.mpr ⟨i, by omega, h2⟩; omega
    · by_cases z : f n = 1
      · obtain ⟨i, i1, i2⟩ := b.mp (by omega)
        exact ⟨n, i, i1, by omega, z, i2⟩
      · obtain ⟨i, j, i1, i2, i3⟩ := c.mp (by omega)
        exact ⟨i, j, i1, by omega, i3⟩
    · rw [e]
      by_cases z : i = n
      · subst z
        have := b.mpr ⟨j, by omega, h4⟩; omega
      · have := c.mpr ⟨i, j, h1, by omega, h3, h4⟩; omega
section Ovr
variable {M M' N : Mem} {P : Nat → Int} {T : Nat} {l r u d lo hi ul uh : Int} {w h : Nat}
/-- the tree's sherds are closed, and lie as the reference has them -/
def TreeOK (M N : Mem) (P : Nat → Int) (T : Nat) : Prop := RelE M N ∧ RelLay M 2 P ∧ ∀ s, s < 6 → M (2 + 4) s = T → N 4 s = 1 ∧ 0 ≤ P (4 * s + 2) ∧ P (4 * s + 2) ≤ 3
theorem TreeOK.sum (hT : TreeOK M N P T) (x y : Int) : (0 ≤ Wsum M T (szN N) x y ∧ Wsum M T (szN N) x y ≤ 6) ∧ (0 < Wsum M T (szN N) x y ↔ ∃ s, s < 6 ∧ M (2 + 4) s = T ∧ ∃ i : Nat, (i : Int) < N 5 s ∧ CX N P s i = x ∧ CY N P s i = y) ∧ (1 < Wsum M T (szN N) x y ↔ ∃ s t, t < s ∧ s < 6 ∧ M (2 + 4) s = T ∧ M (2 + 4) t = T ∧ (∃ i : Nat, (i : Int) < N 5 s ∧ CX N P s i = x ∧ CY N P s i = y) ∧ ∃ i : Nat, (i : Int) < N 5 t ∧ CX N P t i = x ∧ CY N P t i = y) := by
  obtain ⟨hE, hl, hm⟩ := hT
  have f01 : ∀ s, s < 6 → (if M (2 + 4) s = T then wn (szN N s) (PD M s) (PX M s) (PY M s) x y else 0) = 0 ∨ (if M (2 + 4) s = T then wn (szN N s) (PD M s) (PX M s) (PY M s) x y else 0) = 1 := by
    intro s hs
    by_cases z : M (2 + 4) s = T
    · rw [if_pos z]
      obtain ⟨h1, h2⟩ := hm s hs z
      exact (placed_wn hE hs h1 hl h2).1 x y
    · rw [if_neg z]; exact Or.inl rfl
  have f1 : ∀ s, s < 6 → ((if M (2 + 4) s = T then wn (szN N s) (PD M s) (PX M s) (PY M s) x y else 0) = 1 ↔ M (2 + 4) s = T ∧ ∃ i : Nat, (i : Int) < N 5 s ∧ CX N P s i = x ∧ CY N P s i = y) := by
    intro s hs
    by_cases z : M (2 + 4) s = T
    · rw [if_pos z]
      obtain ⟨h1, h2⟩ := hm s hs z
      rw [(placed_wn hE hs h1 hl h2).2 x y]
      exact ⟨fun q => ⟨z, q⟩, fun q => q.2⟩
    · rw [if_neg z]
      exact ⟨fun q => absurd q (by decide), fun q => absurd q.1 z⟩
  obtain ⟨a, b, c⟩ := two_ones (n := 6) f01
  refine ⟨a, ?_, ?_⟩
  · rw [show (0 < Wsum M T (szN N) x y ↔ ∃ s, s < 6 ∧ (if M (2 + 4) s = T then wn (szN N s) (PD M s) (PX M s) (PY M s) x y else 0) = 1) from b]
    constructor
    · intro ⟨s, h1, h2⟩; exact ⟨s, h1, (f1 s h1).mp h2⟩
    · intro ⟨s, h1, h2⟩; exact ⟨s, h1, (f1 s h1).mpr h2⟩
  · rw [show (1 < Wsum M T (szN N) x y ↔ ∃ s t, t < s ∧ s < 6 ∧ (if M (2 + 4) s = T then wn (szN N s) (PD M s) (PX M s) (PY M s) x y else 0) = 1 ∧ (if M (2 + 4) t = T then wn (szN N t) (PD M t) (PX M t) (PY M t) x y else 0) = 1) from c]
    constructor
    · intro ⟨s, t, h1, h2, h3, h4⟩
      have g1 := (f1 s h2).mp h3
      have g2 := (f1 t (by omega)).mp h4
      exact ⟨s, t, h1, h2, g1.1, g2.1, g1.2, g2.2⟩
    · intro ⟨s, t, h1, h2, h3, h4, h5, h6⟩
      exact ⟨s, t, h1, h2, (f1 s h2).mpr ⟨h3, h5⟩, (f1 t (by omega)).mpr ⟨h4, h6⟩⟩
/-- where a cell of the tree is, the box is -/
theorem TreeOK.inbox (hT : TreeOK M N P T) (hL : LayIn M T (szN N) l r u d) (hI : InB M T (szN N) lo hi ul uh) {x y : Int} (hw : 0 < Wsum M T (szN N) x y) : (lo ≤ x ∧ x < hi) ∧ ul ≤ y ∧ y < uh := by
  obtain ⟨s, hs, hm, i, hi', hx, hy⟩ := ((hT.sum x y).2.1).mp hw
  obtain ⟨h1, h2⟩ := hT.2.2 s hs hm
  have hw1 : wn (szN N s) (PD M s) (PX M s) (PY M s) x y = 1 := ((placed_wn hT.1 hs h1 hT.2.1 h2).2 x y).mpr ⟨i, hi', hx, hy⟩
  obtain ⟨m1, m2, m3, m4, m5⟩ := hL.2.2.2 s hs hm
  have pr := m3.rotq m2
  have ra := rot_n (cx := M (114 + 10 * s + 3)) (cy := M (114 + 10 * s + 4)) (k := szN N s) m2 m4
  have ht := wn_tr (n := szN N s) (d := PD M s) (cx := fun k => rotX (M (2 + 3) s) (M (114 + 10 * s + 3) k) (M (114 + 10 * s + 4) k)) (cy := fun k => rotY (M (2 + 3) s) (M (114 + 10 * s + 3) k) (M (114 + 10 * s + 4) k)) (M (2 + 1) s) (M (2 + 2) s) x y
  have hw2 : wn (szN N s) (PD M s) (fun k => rotX (M (2 + 3) s) (M (114 + 10 * s + 3) k) (M (114 + 10 * s + 4) k)) (fun k => rotY (M (2 + 3) s) (M (114 + 10 * s + 3) k) (M (114 + 10 * s + 4) k)) (x - M (2 + 1) s) (y - M (2 + 2) s) ≠ 0 := by
    rw [← ht]
    show wn (szN N s) (PD M s) (PX M s) (PY M s) x y ≠ 0
    rw [hw1]; decide
  have := wn_box pr ra (lo := lo - M (2 + 1) s) (hi := hi - M (2 + 1) s) (ul := ul - M (2 + 2) s) (uh := uh - M (2 + 2) s) (fun k hk => by
    have bb := hI s hs hm k hk
    unfold PX PY at bb
    exact ⟨by omega, by omega, by omega, by omega⟩) hw2
  exact ⟨⟨by omega, by omega⟩, by omega, by omega⟩
theorem over_iff (hT : TreeOK M N P T) (hL : LayIn M T (szN N) l r u d) (hB : Boxd M' lo hi ul uh w h) (hI : InB M T (szN N) lo hi ul uh) (hcov : ∀ row col : Nat, row < h → col < w → M' 112 (row * w + col) = Wsum M T (szN N) (lo - 1 + col) (ul - 1 + row)) :
    (∀ t, t < w * h → 0 ≤ M' 112 t ∧ M' 112 t ≤ 6) ∧ ((∃ t, t < w * h ∧ 1 < M' 112 t) ↔ ∃ s t, t < s ∧ s < 6 ∧ M (2 + 4) s = T ∧ M (2 + 4) t = T ∧ Ov N P s t) := by
  have at_ : ∀ t, t < w * h → t % w < w ∧ t / w < h ∧ M' 112 t = Wsum M T (szN N) (lo - 1 + ((t % w : Nat) : Int)) (ul - 1 + ((t / w : Nat) : Int)) := by
    intro t ht
    have hw : 0 < w := by
      rcases Nat.eq_zero_or_pos w with e | e
      · rw [e, Nat.zero_mul] at ht; omega
      · exact e
    have h1 := Nat.mod_lt t hw
    have h2 : t / w < h := by rw [Nat.div_lt_iff_lt_mul hw, Nat.mul_comm]; exact ht
    refine ⟨h1, h2, ?_⟩
    rw [← hcov _ _ h2 h1, Nat.mul_comm, Nat.div_add_mod]
  refine ⟨fun t ht => ?_, ⟨fun ⟨t, ht, h1⟩ => ?_, fun ⟨s, t, h1, h2, h3, h4, i, j, h5, h6, h7, h8⟩ => ?_⟩⟩
  · rw [(at_ t ht).2.2]; exact (hT.sum _ _).1
  · rw [(at_ t ht).2.2] at h1
    obtain ⟨s, t', g1, g2, g3, g4, ⟨i, i1, i2, i3⟩, j, j1, j2, j3⟩ := ((hT.sum _ _).2.2).mp h1
    exact ⟨s, t', g1, g2, g3, g4, i, j, i1, j1, by rw [i2, j2], by rw [i3, j3]⟩
  · have hw2 : 1 < Wsum M T (szN N) (CX N P s i) (CY N P s i) := ((hT.sum _ _).2.2).mpr ⟨s, t, h1, h2, h3, h4, ⟨i, h5, rfl, rfl⟩, j, h6, h7.symm, h8.symm⟩
    have hb := hT.inbox hL hI (show 0 < Wsum M T (szN N) (CX N P s i) (CY N P s i) by omega)
    obtain ⟨row, hrow⟩ : ∃ row : Nat, CY N P s i - (ul - 1) = row := ⟨(CY N P s i - (ul - 1)).toNat, by omega⟩
    obtain ⟨col, hcol⟩ : ∃ col : Nat, CX N P s i - (lo - 1) = col := ⟨(CX N P s i - (lo - 1)).toNat, by omega⟩
    have hwh := hB.2.1
    have hr : row < h := by omega
    have hc : col < w := by omega
    refine ⟨row * w + col, ?_, ?_⟩
    · have : (row + 1) * w ≤ h * w := Nat.mul_le_mul_right w hr
      rw [Nat.add_mul, Nat.one_mul, Nat.mul_comm h w] at this
      omega
    · rw [hcov row col hr hc, show lo - 1 + (col : Int) = CX N P s i by omega, show ul - 1 + (row : Int) = CY N P s i by omega]
      exact hw2
end Ovr
