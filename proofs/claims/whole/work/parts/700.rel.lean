/-! THE TWO SIDES HELD TOGETHER -/
def ex (M : Mem) : Nat → Nat → Int := fun s => M (114 + 10 * s + 3)
def ey (M : Mem) : Nat → Nat → Int := fun s => M (114 + 10 * s + 4)
def ed (M : Mem) : Nat → Nat → Int := fun s => M (114 + 10 * s + 1)
/-- an edge of the class beside the reference's -/
def EdgeOK (e0 e1 e2 e3 e4 : Nat → Int) (n c : Int) (ds hs : Nat → Int) : Prop :=
  (e0 4 = n ∧ 0 ≤ n ∧ n ≤ 28) ∧ (e0 5 = c ∧ (c = 0 ∨ c = 1)) ∧ (∀ i, i < 28 → e1 i = ds i ∧ 0 ≤ ds i ∧ ds i ≤ 3) ∧ (∀ i, i < 28 → e2 i = hs i ∧ 0 ≤ hs i ∧ hs i ≤ 99) ∧ Poly n.toNat e1 e3 e4 ∧ (c = 1 → 4 ≤ n ∧ Once n.toNat e3 e4 ∧ 0 < spaceOf n.toNat e1 e3)
def CellOK (n c : Int) (e1 e3 e4 : Nat → Int) (k : Int) (xs ys : Nat → Int) : Prop :=
  (c = 0 → k = 0) ∧ (c = 1 → (0 ≤ k ∧ k ≤ 49) ∧ (∀ i : Nat, (i : Int) < k → wn n.toNat e1 e3 e4 (xs i) (ys i) = 1) ∧ ∀ x y : Int, wn n.toNat e1 e3 e4 x y = 1 → ∃ i : Nat, (i : Int) < k ∧ xs i = x ∧ ys i = y)
def RelE (M N : Mem) : Prop := ∀ s : Nat, s < 6 → EdgeOK (M (114 + 10 * s)) (M (114 + 10 * s + 1)) (M (114 + 10 * s + 2)) (M (114 + 10 * s + 3)) (M (114 + 10 * s + 4)) (N 1 s) (N 4 s) (fun i => N 2 (28 * s + i)) (fun i => N 3 (28 * s + i)) ∧ CellOK (N 1 s) (N 4 s) (M (114 + 10 * s + 1)) (M (114 + 10 * s + 3)) (M (114 + 10 * s + 4)) (N 5 s) (fun i => N 6 (49 * s + i)) (fun i => N 7 (49 * s + i)) ∧ (N 0 1 ≤ (s : Int) → N 1 s = 0)
def RelC (M N : Mem) : Prop := (M 0 5 = N 0 1 ∧ 0 ≤ N 0 1 ∧ N 0 1 ≤ 6) ∧ M 0 6 = sm (fun s => N 4 s) 6 ∧ (M 0 8 = N 0 9 ∧ 2 ≤ N 0 9 ∧ N 0 9 ≤ 20) ∧ (M 0 9 = N 0 10 ∧ 0 ≤ N 0 10 ∧ N 0 10 ≤ 9801)
def rotX (q x y : Int) : Int := if q = 0 then x else if q = 1 then -y else if q = 2 then -x else y
def rotY (q x y : Int) : Int := if q = 0 then y else if q = 1 then x else if q = 2 then -y else -x
def card (P : Nat → Int) (t : Int) : Int := sm (fun s => if P (4 * s + 3) = t then 1 else 0) 6
/-- a layout that keeps its promises: trees, who may move, how large a tree's box is -/
def LayOK (clo siz : Nat → Int) (cx cy : Nat → Nat → Int) (P : Nat → Int) (J : Int) : Prop :=
  (∀ s : Nat, s < 6 → (0 ≤ P (4 * s + 2) ∧ P (4 * s + 2) ≤ 3) ∧ (0 ≤ P (4 * s + 3) ∧ P (4 * s + 3) ≤ s ∧ P (4 * (P (4 * s + 3)).toNat + 3) = P (4 * s + 3)) ∧ (P (4 * s + 3) ≠ s → clo s = 1 ∧ clo (P (4 * s + 3)).toNat = 1) ∧ (clo s = 0 → P (4 * s) = 0 ∧ P (4 * s + 1) = 0 ∧ P (4 * s + 2) = 0)) ∧
  (∀ t : Int, 0 ≤ t → t < 6 → ∃ l r u d : Int, (l ≤ 0 ∧ 0 ≤ r ∧ u ≤ 0 ∧ 0 ≤ d) ∧ (r - l) + (d - u) ≤ 14 * card P t ∧ ∀ s : Nat, s < 6 → P (4 * s + 3) = t → (l ≤ P (4 * s) ∧ P (4 * s) ≤ r ∧ u ≤ P (4 * s + 1) ∧ P (4 * s + 1) ≤ d) ∧ (clo s = 1 → ∀ k : Nat, k ≤ (siz s).toNat → l ≤ P (4 * s) + rotX (P (4 * s + 2)) (cx s k) (cy s k) ∧ P (4 * s) + rotX (P (4 * s + 2)) (cx s k) (cy s k) ≤ r ∧ u ≤ P (4 * s + 1) + rotY (P (4 * s + 2)) (cx s k) (cy s k) ∧ P (4 * s + 1) + rotY (P (4 * s + 2)) (cx s k) (cy s k) ≤ d)) ∧
  sm (fun s => if P (4 * s + 3) = (s : Int) then 1 else 0) 6 = 6 - J
def RelLay (M : Mem) (k : Nat) (P : Nat → Int) : Prop := ∀ s : Nat, s < 6 → M (k + 1) s = P (4 * s) ∧ M (k + 2) s = P (4 * s + 1) ∧ M (k + 3) s = P (4 * s + 2) ∧ M (k + 4) s = P (4 * s + 3)
def RelL (M N : Mem) : Prop := (M 0 7 = N 0 17 ∧ 0 ≤ N 0 17 ∧ N 0 17 ≤ 5) ∧ RelLay M 2 (N 10) ∧ LayOK (N 4) (N 1) (ex M) (ey M) (N 10) (N 0 17) ∧ ∀ j : Nat, (j : Int) < N 0 17 → RelLay M (119 + 10 * j) (fun i => N 11 (24 * j + i)) ∧ LayOK (N 4) (N 1) (ex M) (ey M) (fun i => N 11 (24 * j + i)) j
def pK (M : Mem) (k : Nat) : Nat := 10 + (M 9 k).toNat % 101
def PermOK (f : Nat → Int) : Prop := (∀ k, k < 101 → 0 ≤ f k ∧ f k ≤ 100) ∧ ∀ i j, i < 101 → j < 101 → f i = f j → i = j
/-- a told pair of the reference is one that could be found -/
def PairOK (N : Mem) (a i b j : Int) : Prop := (0 ≤ a ∧ a < b ∧ b < N 0 1) ∧ (N 4 a.toNat = 1 ∧ N 4 b.toNat = 1) ∧ (0 ≤ i ∧ i < N 1 a.toNat) ∧ (0 ≤ j ∧ j < N 1 b.toNat)
def RelP (M N : Mem) : Prop := (0 ≤ M 8 1 ∧ M 8 1 ≤ 100) ∧ PermOK (M 9) ∧ (N 0 11 = 0 ∨ N 0 11 = 1) ∧ (0 ≤ N 0 12 ∧ N 0 12 ≤ 100) ∧ (N 0 11 = 0 → M 8 1 = 0) ∧ (N 0 11 = 1 → M 8 1 = N 0 12) ∧ ∀ k : Nat, (k : Int) < M 8 1 → (∀ j : Nat, j < 6 → M (pK M k) j = N 8 (6 * k + j)) ∧ PairOK N (N 8 (6 * k)) (N 8 (6 * k + 1)) (N 8 (6 * k + 2)) (N 8 (6 * k + 3)) ∧ M (pK M k) 6 = (N 2 (28 * (N 8 (6 * k)).toNat + (N 8 (6 * k + 1)).toNat) + 2 - N 2 (28 * (N 8 (6 * k + 2)).toNat + (N 8 (6 * k + 3)).toNat)) % 4
def Rel (M N : Mem) : Prop := RelC M N ∧ RelE M N ∧ RelL M N ∧ RelP M N
theorem RelE.same {M N M' N' : Mem} (h : RelE M N) (hM : ∀ s j, s < 6 → j < 5 → M' (114 + 10 * s + j) = M (114 + 10 * s + j)) (hN : ∀ r, 1 ≤ r → r ≤ 7 → N' r = N r) (h0 : N' 0 1 = N 0 1) : RelE M' N' := by
  intro s hs
  have := h s hs
  have m0 : M' (114 + 10 * s) = M (114 + 10 * s) := hM s 0 hs (by omega)
  rw [m0, hM s 1 hs (by omega), hM s 2 hs (by omega), hM s 3 hs (by omega), hM s 4 hs (by omega), hN 1 (by omega) (by omega), hN 2 (by omega) (by omega), hN 3 (by omega) (by omega), hN 4 (by omega) (by omega), hN 5 (by omega) (by omega), hN 6 (by omega) (by omega), hN 7 (by omega) (by omega), h0]
  exact this
theorem RelLay.same {M M' : Mem} {k : Nat} {P : Nat → Int} (h : RelLay M k P) (hM : ∀ j, 1 ≤ j → j ≤ 4 → M' (k + j) = M (k + j)) : RelLay M' k P := by
  intro s hs
  rw [hM 1 (by omega) (by omega), hM 2 (by omega) (by omega), hM 3 (by omega) (by omega), hM 4 (by omega) (by omega)]
  exact h s hs
theorem LayOK.edges {clo siz siz' : Nat → Int} {cx cy cx' cy' : Nat → Nat → Int} {P : Nat → Int} {J : Int} (h : LayOK clo siz cx cy P J) (he : ∀ s, s < 6 → clo s = 1 → cx' s = cx s ∧ cy' s = cy s ∧ siz' s = siz s) : LayOK clo siz' cx' cy' P J := by
  obtain ⟨h1, h2, h3⟩ := h
  refine ⟨h1, fun t t0 t1 => ?_, h3⟩
  obtain ⟨l, r, u, d, b1, b2, b3⟩ := h2 t t0 t1
  refine ⟨l, r, u, d, b1, b2, fun s hs ht => ⟨(b3 s hs ht).1, fun hc k hk => ?_⟩⟩
  obtain ⟨e1, e2, e3⟩ := he s hs hc
  rw [e1, e2]
  exact (b3 s hs ht).2 hc k (by rw [← e3]; exact hk)
theorem RelL.same {M N M' N' : Mem} (h : RelL M N) (h0 : M' 0 7 = M 0 7) (h1 : N' 0 17 = N 0 17) (hM : ∀ k, 2 ≤ k → k ≤ 6 → M' k = M k) (hM2 : ∀ j i, j < 6 → 5 ≤ i → i < 10 → M' (114 + 10 * j + i) = M (114 + 10 * j + i)) (h10 : N' 10 = N 10) (h11 : N' 11 = N 11) (h4 : N' 4 = N 4) (he : ∀ s, s < 6 → N 4 s = 1 → ex M' s = ex M s ∧ ey M' s = ey M s ∧ N' 1 s = N 1 s) : RelL M' N' := by
  obtain ⟨a, b, c, d⟩ := h
  refine ⟨by rw [h0, h1]; exact a, ?_, ?_, fun j hj => ?_⟩
  · rw [h10]; exact b.same (fun j h1 h2 => hM _ (by omega) (by omega))
  · rw [h10, h4, h1]; exact c.edges he
  · rw [h1] at hj
    obtain ⟨d1, d2⟩ := d j hj
    rw [h11, h4]
    refine ⟨d1.same (fun i i1 i2 => ?_), d2.edges he⟩
    have := hM2 j (5 + i) (by omega) (by omega) (by omega)
    rw [show 114 + 10 * j + (5 + i) = 119 + 10 * j + i by omega] at this
    exact this
/-- the list is cleared on both sides -/
theorem RelP.clear {M N M' N' : Mem} (h : RelP M N) (h8 : M' 8 1 = 0) (h9 : M' 9 = M 9) (h11 : N' 0 11 = 0) (h12 : N' 0 12 = N 0 12) : RelP M' N' := by
  obtain ⟨a, b, c, d, -⟩ := h
  refine ⟨by rw [h8]; exact ⟨by omega, by omega⟩, by rw [h9]; exact b, Or.inl h11, by rw [h12]; exact d, fun _ => h8, fun h => absurd (h11.symm.trans h) (by decide), fun k hk => ?_⟩
  rw [h8] at hk
  omega
theorem PairOK.same {N N' : Mem} {a i b j : Int} (h : PairOK N a i b j) (h0 : N 0 1 ≤ N' 0 1) (h6 : N 0 1 ≤ 6) (h4 : N' 4 = N 4) (h1 : ∀ s, s < 6 → N 4 s = 1 → N' 1 s = N 1 s) : PairOK N' a i b j := by
  obtain ⟨⟨a1, a2, a3⟩, ⟨b1, b2⟩, c1, c2⟩ := h
  refine ⟨⟨a1, a2, by omega⟩, by rw [h4]; exact ⟨b1, b2⟩, ?_, ?_⟩
  · rw [h1 _ (by omega) b1]; exact c1
  · rw [h1 _ (by omega) b2]; exact c2
theorem RelP.same {M N M' N' : Mem} (h : RelP M N) (h6 : N 0 1 ≤ 6) (h8 : M' 8 1 = M 8 1) (h9 : M' 9 = M 9) (hp : ∀ k, 10 ≤ k → k < 111 → M' k = M k) (h11 : N' 0 11 = N 0 11) (h12 : N' 0 12 = N 0 12) (hn8 : N' 8 = N 8) (h0 : N 0 1 ≤ N' 0 1) (h4 : N' 4 = N 4) (h1 : ∀ s, s < 6 → N 4 s = 1 → N' 1 s = N 1 s) (h2 : ∀ s i : Nat, s < 6 → N 4 s = 1 → (i : Int) < N 1 s → N' 2 (28 * s + i) = N 2 (28 * s + i)) : RelP M' N' := by
  obtain ⟨a, b, c, d, e, f, g⟩ := h
  refine ⟨by rw [h8]; exact a, by rw [h9]; exact b, by rw [h11]; exact c, by rw [h12]; exact d, by rw [h11, h8]; exact e, by rw [h11, h8, h12]; exact f, fun k hk => ?_⟩
  rw [h8] at hk
  obtain ⟨g1, g2, g3⟩ := g k hk
  have hpk : pK M' k = pK M k := by unfold pK; rw [h9]
  have hM : M' (pK M k) = M (pK M k) := hp _ (by unfold pK; omega) (by unfold pK; omega)
  rw [hpk, hM, hn8]
  refine ⟨g1, g2.same h0 h6 h4 h1, ?_⟩
  obtain ⟨⟨a1, a2, a3⟩, ⟨b1, b2⟩, c1, c2⟩ := g2
  rw [h2 _ _ (by omega) b1 (by omega), h2 _ _ (by omega) b2 (by omega)]
  exact g3
/-! ways through the reference's little methods -/
theorem thr_no {N : Mem} {Post : Int → Mem → Prop} (h : Post 0 (up N 0 0 0)) : wp_Model_throwing 0 0 0 N Post := by
  refine ⟨xl rfl, fun _ => ⟨xl rfl, fun _ => ⟨xl rfl, fun _ => ?_, fun h => absurd rfl h⟩, fun h => absurd rfl h⟩, fun h => absurd rfl h⟩
  intro M1 hM
  subst hM
  rw [up_ss]
  exact ⟨xl rfl, fun _ => h, fun h => absurd (by decide) h⟩
theorem thr_1 {N : Mem} {x2 x3 : Int} {Post : Int → Mem → Prop} (h : Post 1 (up N 0 0 1)) : wp_Model_throwing 1 x2 x3 N Post := by
  refine ⟨xl rfl, fun h => absurd h (by decide), fun _ => ?_⟩
  intro M1 hM
  subst hM
  rw [up_ss]
  exact ⟨xl rfl, fun h => absurd h (by decide), fun _ => h⟩
theorem thr_2 {N : Mem} {x3 : Int} {Post : Int → Mem → Prop} (h : Post 1 (up N 0 0 2)) : wp_Model_throwing 0 1 x3 N Post := by
  refine ⟨xl rfl, fun _ => ⟨xl rfl, fun h => absurd h (by decide), fun _ => ?_⟩, fun h => absurd rfl h⟩
  intro M1 hM
  subst hM
  rw [up_ss]
  exact ⟨xl rfl, fun h => absurd h (by decide), fun _ => h⟩
theorem thr_3 {N : Mem} {Post : Int → Mem → Prop} (h : Post 1 (up N 0 0 3)) : wp_Model_throwing 0 0 1 N Post := by
  refine ⟨xl rfl, fun _ => ⟨xl rfl, fun _ => ⟨xl rfl, fun h => absurd h (by decide), fun _ => ?_⟩, fun h => absurd rfl h⟩, fun h => absurd rfl h⟩
  intro M1 hM
  subst hM
  rw [up_ss]
  exact ⟨xl rfl, fun h => absurd h (by decide), fun _ => h⟩
theorem in_yes {N : Mem} {x lo hi : Int} {Post : Int → Prop} (h1 : in32 x) (h2 : in32 lo) (h3 : in32 hi) (h : lo ≤ x ∧ x ≤ hi) (hP : Post 1) : wp_Model_in x lo hi N Post :=
  ⟨h1, h2, fun q => absurd q (by omega), fun _ => ⟨h1, h3, fun q => absurd q (by omega), fun _ => hP⟩⟩
theorem in_no {N : Mem} {x lo hi : Int} {Post : Int → Prop} (h1 : in32 x) (h2 : in32 lo) (h3 : in32 hi) (h : ¬ (lo ≤ x ∧ x ≤ hi)) (hP : Post 0) : wp_Model_in x lo hi N Post :=
  ⟨h1, h2, fun _ => hP, fun _ => ⟨h1, h3, fun _ => hP, fun q => absurd ⟨by omega, by omega⟩ h⟩⟩
theorem sh_yes {M N : Mem} {x : Int} {Post : Int → Prop} (hR : RelC M N) (h1 : in32 x) (h : 0 ≤ x ∧ x < N 0 1) (hP : Post 1) : wp_Model_isSherd x N Post :=
  have h2 := hR.1
  in_yes h1 (xl rfl) ⟨by omega, by omega⟩ ⟨by omega, by omega⟩ ⟨Or.inr rfl, hP⟩
theorem sh_no {M N : Mem} {x : Int} {Post : Int → Prop} (hR : RelC M N) (h1 : in32 x) (h : ¬ (0 ≤ x ∧ x < N 0 1)) (hP : Post 0) : wp_Model_isSherd x N Post :=
  have h2 := hR.1
  in_no h1 (xl rfl) ⟨by omega, by omega⟩ (by omega) ⟨Or.inl rfl, hP⟩
theorem xs_yes {M N : Mem} {x : Int} {Post : Int → Prop} (hR : RelC M N) (h1 : in32 x) (h : 0 ≤ x ∧ x < N 0 1) (hP : Post 1) : wp_X_isSherd x M Post := by
  have h2 := hR.1
  refine ⟨h1, fun q => absurd q (by omega), fun _ => ⟨h1, ⟨by omega, by omega⟩, fun q => absurd q (by omega), fun _ => hP⟩⟩
theorem xs_no {M N : Mem} {x : Int} {Post : Int → Prop} (hR : RelC M N) (h1 : in32 x) (h : ¬ (0 ≤ x ∧ x < N 0 1)) (hP : Post 0) : wp_X_isSherd x M Post := by
  have h2 := hR.1
  refine ⟨h1, fun _ => hP, fun _ => ⟨h1, ⟨by omega, by omega⟩, fun _ => hP, fun q => absurd ⟨by omega, by omega⟩ h⟩⟩
theorem eo_yes {M N : Mem} {x : Int} {Post PostX : Nat → Prop} (hR : RelC M N) (h1 : in32 x) (h : 0 ≤ x ∧ x < N 0 1) (hP : Post (114 + 10 * x.toNat)) : wp_X_edgeOf x M Post PostX := by
  have h2 := hR.1
  exact xs_yes hR h1 h ⟨xl rfl, fun _ => ⟨⟨by omega, by omega⟩, hP⟩, fun q => absurd q (by decide)⟩
theorem eo_no {M N : Mem} {x : Int} {Post PostX : Nat → Prop} (hR : RelC M N) (h1 : in32 x) (h : ¬ (0 ≤ x ∧ x < N 0 1)) (hP : PostX 0) : wp_X_edgeOf x M Post PostX :=
  xs_no hR h1 h ⟨xl rfl, fun q => absurd rfl q, fun _ => hP⟩
/-- only 'thrown' has changed in the reference -/
theorem Rel.thr {M N : Mem} (h : Rel M N) (t : Int) : Rel M (up N 0 0 t) := by
  obtain ⟨h1, h2, h3, h4⟩ := h
  have q : ∀ j, j ≠ 0 → up N 0 0 t 0 j = N 0 j := fun j hj => up_nj hj
  have z : ∀ r, r ≠ 0 → up N 0 0 t r = N r := fun r hr => up_ne hr
  have h6 := h1.1.2.2
  refine ⟨?_, h2.same (fun _ _ _ _ => rfl) (fun r a _ => z r (by omega)) (q 1 (by omega)), h3.same rfl (q 17 (by omega)) (fun _ _ _ => rfl) (fun _ _ _ _ _ => rfl) (z 10 (by omega)) (z 11 (by omega)) (z 4 (by omega)) (fun s _ _ => ⟨rfl, rfl, by rw [z 1 (by omega)]⟩), h4.same h6 rfl rfl (fun _ _ _ => rfl) (q 11 (by omega)) (q 12 (by omega)) (z 8 (by omega)) (by rw [q 1 (by omega)]; exact Int.le_refl _) (z 4 (by omega)) (fun s _ _ => by rw [z 1 (by omega)]) (fun s i _ _ _ => by rw [z 2 (by omega)])⟩
  unfold RelC
  rw [q 1 (by omega), q 9 (by omega), q 10 (by omega), z 4 (by omega)]
  exact h1
