/-! AN EDGE OF 28 STEPS GOES ROUND AT MOST 49 CELLS -/
theorem ex_min (f : Nat → Int) : ∀ n : Nat, ∃ i, i ≤ n ∧ ∀ j, j ≤ n → f i ≤ f j
  | 0 => ⟨0, Nat.le_refl 0, fun j hj => by rw [Nat.le_zero.mp hj]; exact Int.le_refl _⟩
  | n + 1 => by
    obtain ⟨i, h1, h2⟩ := ex_min f n
    by_cases h : f i ≤ f (n + 1)
    · refine ⟨i, by omega, fun j hj => ?_⟩
      by_cases hjn : j = n + 1
      · rw [hjn]; exact h
      · exact h2 j (by omega)
    · refine ⟨n + 1, Nat.le_refl _, fun j hj => ?_⟩
      by_cases hjn : j = n + 1
      · rw [hjn]; exact Int.le_refl _
      · have := h2 j (by omega)
        omega
theorem mul49 {a b : Int} (ha : 0 ≤ a) (hb : 0 ≤ b) (h : a + b ≤ 14) : a * b ≤ 49 := by
  have : a = 0 ∨ a = 1 ∨ a = 2 ∨ a = 3 ∨ a = 4 ∨ a = 5 ∨ a = 6 ∨ a = 7 ∨ a = 8 ∨ a = 9 ∨ a = 10 ∨ a = 11 ∨ a = 12 ∨ a = 13 ∨ a = 14 := by omega
  rcases this with rfl | rfl | rfl | rfl | rfl | rfl | rfl | rfl | rfl | rfl | rfl | rfl | rfl | rfl | rfl <;> omega
theorem space49 {n : Nat} {d cx cy : Nat → Int} (h : Poly n d cx cy) (ho : cx n = 0 ∧ cy n = 0) (hn : n ≤ 28) : spaceOf n d cx ≤ 49 := by
  obtain ⟨i, hi, hmin⟩ := ex_min cx n
  obtain ⟨b1, b2, b3⟩ := box h ho
  have hs := cnt_sum h (k := n) (Nat.le_refl n)
  rw [ho.1, ho.2] at hs
  have c0 := cnt_pos d 0 n
  have c1 := cnt_pos d 1 n
  have hle : spaceOf n d cx ≤ sm (fun k => (cx i + cnt d 0 n) * (if d k = 1 then 1 else 0) - cx i * (if d k = 3 then 1 else 0)) n := sm_le (fun k hk => by
    have m1 := hmin k (by omega)
    have m2 := b2 k i (by omega) hi
    rcases d_cases h hk with ⟨e, e1, e2⟩ | ⟨e, e1, e2⟩ | ⟨e, e1, e2⟩ | ⟨e, e1, e2⟩ <;> simp only [e] <;> simp [stY] <;> omega)
  rw [sm_sub, sm_mul, sm_mul] at hle
  change spaceOf n d cx ≤ (cx i + cnt d 0 n) * cnt d 1 n - cx i * cnt d 3 n at hle
  rw [show cnt d 3 n = cnt d 1 n by omega, Int.add_mul] at hle
  have := mul49 c0 c1 (by omega)
  omega
