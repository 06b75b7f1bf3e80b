/-! THE ORDER OF PAIRS, AND LISTS OF THE BEST -/
abbrev T6 : Type := Int × Int × Int × Int × Int × Int
def tn (x : T6) : Int := x.2.2.2.2.1
def ts (x : T6) : Int := x.2.2.2.2.2
def lexL (x y : T6) : Prop := x.1 < y.1 ∨ (x.1 = y.1 ∧ (x.2.1 < y.2.1 ∨ (x.2.1 = y.2.1 ∧ (x.2.2.1 < y.2.2.1 ∨ (x.2.2.1 = y.2.2.1 ∧ x.2.2.2.1 < y.2.2.2.1)))))
def rk (x y : T6) : Prop := ts x * tn y < ts y * tn x ∨ (ts x * tn y = ts y * tn x ∧ tn y < tn x)
def Lt6 (x y : T6) : Prop := rk x y ∨ (ts x * tn y = ts y * tn x ∧ tn x = tn y ∧ lexL x y)
theorem mul_cross {s1 n1 s2 n2 s3 n3 : Int} (p1 : 0 < n1) (p2 : 0 < n2) (p3 : 0 < n3) (h1 : s1 * n2 ≤ s2 * n1) (h2 : s2 * n3 ≤ s3 * n2) : s1 * n3 ≤ s3 * n1 := by
  have a := Int.mul_le_mul_of_nonneg_left h1 (Int.le_of_lt p3)
  have b := Int.mul_le_mul_of_nonneg_left h2 (Int.le_of_lt p1)
  have c : n2 * (s1 * n3) ≤ n2 * (s3 * n1) := by
    have e1 : n2 * (s1 * n3) = n3 * (s1 * n2) := by grind
    have e2 : n3 * (s2 * n1) = n1 * (s2 * n3) := by grind
    have e3 : n1 * (s3 * n2) = n2 * (s3 * n1) := by grind
    omega
  exact Int.le_of_mul_le_mul_left c p2
theorem mul_crossS {s1 n1 s2 n2 s3 n3 : Int} (p1 : 0 < n1) (p2 : 0 < n2) (p3 : 0 < n3) (h1 : s1 * n2 ≤ s2 * n1) (h2 : s2 * n3 ≤ s3 * n2) (h : s1 * n2 < s2 * n1 ∨ s2 * n3 < s3 * n2) : s1 * n3 < s3 * n1 := by
  have a := Int.mul_le_mul_of_nonneg_left h1 (Int.le_of_lt p3)
  have b := Int.mul_le_mul_of_nonneg_left h2 (Int.le_of_lt p1)
  have c : n2 * (s1 * n3) < n2 * (s3 * n1) := by
    have e1 : n2 * (s1 * n3) = n3 * (s1 * n2) := by grind
    have e2 : n3 * (s2 * n1) = n1 * (s2 * n3) := by grind
    have e3 : n1 * (s3 * n2) = n2 * (s3 * n1) := by grind
    rcases h with h | h
    · have := Int.mul_lt_mul_of_pos_left h p3
      omega
    · have := Int.mul_lt_mul_of_pos_left h p1
      omega
  exact Int.lt_of_mul_lt_mul_left c (Int.le_of_lt p2)
theorem mul_crossE {s1 n1 s2 n2 s3 n3 : Int} (p1 : 0 < n1) (p2 : 0 < n2) (p3 : 0 < n3) (h1 : s1 * n2 = s2 * n1) (h2 : s2 * n3 = s3 * n2) : s1 * n3 = s3 * n1 :=
  Int.le_antisymm (mul_cross p1 p2 p3 (Int.le_of_eq h1) (Int.le_of_eq h2)) (mul_cross p3 p2 p1 (Int.le_of_eq h2.symm) (Int.le_of_eq h1.symm))
theorem lexL_trans {x y z : T6} (h1 : lexL x y) (h2 : lexL y z) : lexL x z := by
  unfold lexL at *
  omega
theorem Lt6_trans {x y z : T6} (px : 0 < tn x) (py : 0 < tn y) (pz : 0 < tn z) (h1 : Lt6 x y) (h2 : Lt6 y z) : Lt6 x z := by
  unfold Lt6 rk at *
  rcases h1 with (h1 | ⟨h1, h1'⟩) | ⟨h1, h1', h1''⟩
  · have l1 := Int.le_of_lt h1
    have l2 : ts y * tn z ≤ ts z * tn y := by rcases h2 with (h2 | ⟨h2, h2'⟩) | ⟨h2, h2', h2''⟩ <;> omega
    exact Or.inl (Or.inl (mul_crossS px py pz l1 l2 (Or.inl h1)))
  · rcases h2 with (h2 | ⟨h2, h2'⟩) | ⟨h2, h2', h2''⟩
    · exact Or.inl (Or.inl (mul_crossS px py pz (Int.le_of_eq h1) (Int.le_of_lt h2) (Or.inr h2)))
    · exact Or.inl (Or.inr ⟨mul_crossE px py pz h1 h2, by omega⟩)
    · exact Or.inl (Or.inr ⟨mul_crossE px py pz h1 h2, by omega⟩)
  · rcases h2 with (h2 | ⟨h2, h2'⟩) | ⟨h2, h2', h2''⟩
    · exact Or.inl (Or.inl (mul_crossS px py pz (Int.le_of_eq h1) (Int.le_of_lt h2) (Or.inr h2)))
    · exact Or.inl (Or.inr ⟨mul_crossE px py pz h1 h2, by omega⟩)
    · exact Or.inr ⟨mul_crossE px py pz h1 h2, by omega, lexL_trans h1'' h2''⟩
theorem Lt6_irr {x : T6} (h : Lt6 x x) : False := by
  unfold Lt6 rk lexL at h
  omega
theorem Lt6_tri {x y : T6} (px : 0 < tn x) (py : 0 < tn y) : x = y ∨ Lt6 x y ∨ Lt6 y x := by
  unfold Lt6 rk
  rcases Int.lt_trichotomy (ts x * tn y) (ts y * tn x) with h | h | h
  · exact Or.inr (Or.inl (Or.inl (Or.inl h)))
  · rcases Int.lt_trichotomy (tn x) (tn y) with g | g | g
    · exact Or.inr (Or.inr (Or.inl (Or.inr ⟨h.symm, g⟩)))
    · have hs : ts x = ts y := by
        rw [g] at h
        exact Int.eq_of_mul_eq_mul_right (by omega) h
      obtain ⟨xa, xi, xb, xj, xn, xs⟩ := x
      obtain ⟨ya, yi, yb, yj, yn, ys⟩ := y
      have g' : xn = yn := g
      have hs' : xs = ys := hs
      subst g'
      subst hs'
      unfold lexL
      by_cases q : xa = ya ∧ xi = yi ∧ xb = yb ∧ xj = yj
      · obtain ⟨q1, q2, q3, q4⟩ := q
        subst q1; subst q2; subst q3; subst q4
        exact Or.inl rfl
      · refine Or.inr ?_
        by_cases z : xa < ya ∨ (xa = ya ∧ (xi < yi ∨ (xi = yi ∧ (xb < yb ∨ (xb = yb ∧ xj < yj)))))
        · exact Or.inl (Or.inr ⟨rfl, rfl, z⟩)
        · refine Or.inr (Or.inr ⟨rfl, rfl, ?_⟩)
          show ya < xa ∨ (ya = xa ∧ (yi < xi ∨ (yi = xi ∧ (yb < xb ∨ (yb = xb ∧ yj < xj)))))
          omega
    · exact Or.inr (Or.inl (Or.inl (Or.inr ⟨h, g⟩)))
  · exact Or.inr (Or.inr (Or.inl (Or.inl h)))
/-- f lists, best first, the c best of S: all of them, or a hundred -/
def Top (S : T6 → Prop) (c : Nat) (f : Nat → T6) : Prop :=
  c ≤ 100 ∧ (∀ i j, i < j → j < c → Lt6 (f i) (f j)) ∧ (∀ k, k < c → S (f k)) ∧ ∀ x, S x → (∃ k, k < c ∧ f k = x) ∨ (c = 100 ∧ ∀ k, k < c → Lt6 (f k) x)
theorem Top.congr {S S' : T6 → Prop} {c : Nat} {f f' : Nat → T6} (h : Top S c f) (hS : ∀ x, S x ↔ S' x) (hf : ∀ k, k < c → f' k = f k) : Top S' c f' := by
  obtain ⟨h1, h2, h3, h4⟩ := h
  refine ⟨h1, fun i j hi hj => ?_, fun k hk => ?_, fun x hx => ?_⟩
  · rw [hf i (by omega), hf j hj]; exact h2 i j hi hj
  · rw [hf k hk]; exact (hS _).mp (h3 k hk)
  · rcases h4 x ((hS x).mpr hx) with ⟨k, hk, e⟩ | ⟨hc, hk⟩
    · exact Or.inl ⟨k, hk, by rw [hf k hk]; exact e⟩
    · exact Or.inr ⟨hc, fun k h => by rw [hf k h]; exact hk k h⟩
theorem Top.uniq {S : T6 → Prop} {c c' : Nat} {f f' : Nat → T6} (hp : ∀ x, S x → 0 < tn x) (h : Top S c f) (h' : Top S c' f') : c = c' ∧ ∀ k, k < c → f k = f' k := by
  have half : ∀ {c c' : Nat} {f f' : Nat → T6}, Top S c f → Top S c' f' → ∀ k, k < c → (∀ i, i < k → i < c' ∧ f i = f' i) → k < c' ∧ (f k = f' k ∨ Lt6 (f' k) (f k)) := by
    intro c c' f f' h h' k hk pre
    obtain ⟨h1, h2, h3, h4⟩ := h
    obtain ⟨g1, g2, g3, g4⟩ := h'
    have hx := h3 k hk
    have noprev : ∀ j, j < k → f' j ≠ f k := fun j hj e => by
      rw [← (pre j hj).2] at e
      have := h2 j k hj hk
      rw [e] at this
      exact Lt6_irr this
    have hkc : k < c' := by
      rcases Nat.lt_or_ge k c' with q | q
      · exact q
      · rcases g4 _ hx with ⟨j, hj, e⟩ | ⟨hc, -⟩
        · exact absurd e (noprev j (by omega))
        · omega
    refine ⟨hkc, ?_⟩
    rcases g4 _ hx with ⟨j, hj, e⟩ | ⟨-, hall⟩
    · by_cases q : j = k
      · subst q; exact Or.inl e.symm
      · by_cases q2 : j < k
        · exact absurd e (noprev j q2)
        · have := g2 k j (by omega) hj
          rw [e] at this
          exact Or.inr this
    · exact Or.inr (hall k hkc)
  have all : ∀ n k, k < n → (k < c → k < c' ∧ f k = f' k) ∧ (k < c' → k < c) := by
    intro n
    induction n with
    | zero => intro k hk; omega
    | succ n ih =>
      intro k hk
      by_cases q : k < n
      · exact ih k q
      · have hkn : k = n := by omega
        subst hkn
        refine ⟨fun hkc => ?_, fun hkc => ?_⟩
        · have pre : ∀ i, i < k → i < c' ∧ f i = f' i := fun i hi => (ih i hi).1 (by omega)
          obtain ⟨a, b⟩ := half h h' k hkc pre
          have pre' : ∀ i, i < k → i < c ∧ f' i = f i := fun i hi => ⟨by omega, ((ih i hi).1 (by omega)).2.symm⟩
          obtain ⟨a', b'⟩ := half h' h k a pre'
          refine ⟨a, ?_⟩
          rcases b with b | b
          · exact b
          · rcases b' with b' | b'
            · exact b'.symm
            · exact absurd (Lt6_trans (hp _ (h.2.2.1 k hkc)) (hp _ (h'.2.2.1 k a)) (hp _ (h.2.2.1 k hkc)) b' b) Lt6_irr
        · have pre' : ∀ i, i < k → i < c ∧ f' i = f i := fun i hi => by
            have := (ih i hi).2 (by omega)
            exact ⟨this, ((ih i hi).1 this).2.symm⟩
          exact (half h' h k hkc pre').1
  have hcc : c = c' := by
    rcases Nat.lt_trichotomy c c' with q | q | q
    · have := (all (c + 1) c (by omega)).2 q; omega
    · exact q
    · have := ((all (c' + 1) c' (by omega)).1 q).1; omega
  exact ⟨hcc, fun k hk => ((all (k + 1) k (by omega)).1 hk).2⟩
theorem Top.put {S : T6 → Prop} {c p : Nat} {f f' : Nat → T6} {x : T6} (h : Top S c f) (hp : ∀ y, S y → 0 < tn y) (hx : 0 < tn x) (hpc : p ≤ c) (h1 : p = 0 ∨ Lt6 (f (p - 1)) x) (h2 : ∀ k, p ≤ k → k < c → Lt6 x (f k)) (f1 : ∀ k, k < p → f' k = f k) (f2 : f' p = x) (f3 : ∀ k, p ≤ k → k < c → f' (k + 1) = f k) : Top (fun y => S y ∨ y = x) (if c < 100 then c + 1 else c) f' := by
  obtain ⟨a, b, e, g⟩ := h
  have low : ∀ k, k < p → Lt6 (f k) x := fun k hk => by
    rcases h1 with h1 | h1
    · omega
    · by_cases q : k = p - 1
      · rw [q]; exact h1
      · exact Lt6_trans (hp _ (e k (by omega))) (hp _ (e (p - 1) (by omega))) hx (b k (p - 1) (by omega) (by omega)) h1
  have sorted : ∀ i j, i < j → j < c + 1 → Lt6 (f' i) (f' j) := by
    intro i j hij hj
    by_cases q1 : j < p
    · rw [f1 i (by omega), f1 j q1]; exact b i j hij (by omega)
    · by_cases q2 : j = p
      · rw [q2, f2, f1 i (by omega)]; exact low i (by omega)
      · have ej := f3 (j - 1) (by omega) (by omega)
        rw [show j - 1 + 1 = j by omega] at ej
        rw [ej]
        by_cases q3 : i < p
        · rw [f1 i q3]; exact b i (j - 1) (by omega) (by omega)
        · by_cases q4 : i = p
          · rw [q4, f2]; exact h2 (j - 1) (by omega) (by omega)
          · have ei := f3 (i - 1) (by omega) (by omega)
            rw [show i - 1 + 1 = i by omega] at ei
            rw [ei]; exact b (i - 1) (j - 1) (by omega) (by omega)
  have mem : ∀ k, k < c + 1 → S (f' k) ∨ f' k = x := by
    intro k hk
    by_cases q1 : k < p
    · rw [f1 k q1]; exact Or.inl (e k (by omega))
    · by_cases q2 : k = p
      · rw [q2]; exact Or.inr f2
      · have ek := f3 (k - 1) (by omega) (by omega)
        rw [show k - 1 + 1 = k by omega] at ek
        rw [ek]; exact Or.inl (e (k - 1) (by omega))
  by_cases hc : c < 100
  · rw [if_pos hc]
    refine ⟨by omega, sorted, mem, fun y hy => Or.inl ?_⟩
    rcases hy with hy | hy
    · rcases g y hy with ⟨k, hk, ek⟩ | ⟨q, -⟩
      · by_cases q1 : k < p
        · exact ⟨k, by omega, by rw [f1 k q1]; exact ek⟩
        · exact ⟨k + 1, by omega, by rw [f3 k (by omega) hk]; exact ek⟩
      · omega
    · exact ⟨p, by omega, by rw [f2, hy]⟩
  · rw [if_neg hc]
    have hc100 : c = 100 := by omega
    refine ⟨a, fun i j hij hj => sorted i j hij (by omega), fun k hk => mem k (by omega), fun y hy => ?_⟩
    have pos : ∀ k, k < c + 1 → 0 < tn (f' k) := fun k hk => by
      rcases mem k hk with q | q
      · exact hp _ q
      · rw [q]; exact hx
    have last : ∀ y, f' c = y → ∀ k, k < c → Lt6 (f' k) y := fun y q k hk => by rw [← q]; exact sorted k c hk (by omega)
    rcases hy with hy | hy
    · rcases g y hy with ⟨k, hk, ek⟩ | ⟨-, q⟩
      · by_cases q1 : k < p
        · exact Or.inl ⟨k, hk, by rw [f1 k q1]; exact ek⟩
        · have ek1 : f' (k + 1) = y := by rw [f3 k (by omega) hk]; exact ek
          by_cases q2 : k + 1 < c
          · exact Or.inl ⟨k + 1, q2, ek1⟩
          · exact Or.inr ⟨hc100, last y (by rw [show c = k + 1 by omega]; exact ek1)⟩
      · refine Or.inr ⟨hc100, fun k hk => ?_⟩
        by_cases q1 : k < p
        · rw [f1 k q1]; exact q k hk
        · by_cases q2 : k = p
          · rw [q2, f2]
            exact Lt6_trans hx (hp _ (e p (by omega))) (hp _ hy) (h2 p (by omega) (by omega)) (q p (by omega))
          · have ek := f3 (k - 1) (by omega) (by omega)
            rw [show k - 1 + 1 = k by omega] at ek
            rw [ek]; exact q (k - 1) (by omega)
    · by_cases q1 : p < c
      · exact Or.inl ⟨p, q1, by rw [f2, hy]⟩
      · exact Or.inr ⟨hc100, last y (by rw [show c = p by omega, f2, hy])⟩
