/-! step, height, undo, a new object -/
theorem Poly.more {n : Nat} {d cx cy d' cx' cy' : Nat → Int} (h : Poly n d cx cy) (h1 : ∀ k, k < n → d' k = d k) (h2 : ∀ k, k ≤ n → cx' k = cx k ∧ cy' k = cy k) (h3 : 0 ≤ d' n ∧ d' n ≤ 3) (h4 : cx' (n + 1) = cx n + stX (d' n)) (h5 : cy' (n + 1) = cy n + stY (d' n)) : Poly (n + 1) d' cx' cy' := by
  obtain ⟨a, b, c⟩ := h
  refine ⟨by rw [(h2 0 (by omega)).1]; exact a, by rw [(h2 0 (by omega)).2]; exact b, fun k hk => ?_⟩
  by_cases hkn : k = n
  · subst hkn
    rw [h4, h5, (h2 k (by omega)).1, (h2 k (by omega)).2]
    exact ⟨h3, rfl, rfl⟩
  · obtain ⟨c1, c2, c3⟩ := c k (by omega)
    rw [h1 k (by omega), (h2 k (by omega)).1, (h2 k (by omega)).2, (h2 (k + 1) (by omega)).1, (h2 (k + 1) (by omega)).2]
    exact ⟨c1, c2, c3⟩
theorem ob_height : Ob_height Rel := by
  intro M N w a1 a2 a3 hR i1 i2 i3
  obtain ⟨h1, h2, h3, h4⟩ := id hR
  obtain ⟨⟨c1, c2, c3⟩, c4, c5, c6⟩ := id h1
  have bad1 : ¬ ((0 ≤ a1 ∧ a1 < N 0 1) ∧ (0 ≤ a2 ∧ a2 < N 1 a1.toNat)) → wp_Model_height a1 a2 a3 N (fun r N1 => wp_Model_thrown N1 (fun t => endR Rel 1 w M r N1 t)) := by
    intro h
    have t : wp_Model_height_24 a1 a2 a3 N (fun r N1 => wp_Model_thrown N1 (fun t => endR Rel 1 w M r N1 t)) := by
      unfold wp_Model_height_24 wp_Model_height_29
      by_cases hv : 0 ≤ a3 ∧ a3 ≤ 99
      · exact in_yes i3 (xl rfl) (xl rfl) hv ⟨xl rfl, fun _ => thr_1 ⟨xl rfl, fun q => absurd q (by decide), fun _ => ⟨up_ss _ _ _ _, ⟨by omega, by omega⟩, fun q => absurd q (by decide), hR.thr 1⟩⟩, fun q => absurd q (by decide)⟩
      · exact in_no i3 (xl rfl) (xl rfl) hv ⟨xl rfl, fun q => absurd rfl q, fun _ => thr_1 ⟨xl rfl, fun q => absurd q (by decide), fun _ => ⟨up_ss _ _ _ _, ⟨by omega, by omega⟩, fun q => absurd q (by decide), hR.thr 1⟩⟩⟩
    by_cases hs : 0 ≤ a1 ∧ a1 < N 0 1
    · have e1 := (h2 a1.toNat (by omega)).1.1
      exact sh_yes h1 i1 hs ⟨xl rfl, fun q => absurd q (by decide), fun _ => ⟨⟨by omega, by omega⟩, in_no i2 (xl rfl) ⟨by omega, by omega⟩ (fun q => h ⟨hs, q.1, by omega⟩) ⟨xl rfl, fun q => absurd rfl q, fun _ => t⟩⟩⟩
    · exact sh_no h1 i1 hs ⟨xl rfl, fun _ => t, fun q => absurd rfl q⟩
  unfold wpL_height wp_X_height
  by_cases hs : 0 ≤ a1 ∧ a1 < N 0 1
  · refine eo_yes h1 i1 hs ?_
    have hs6 : a1.toNat < 6 := by omega
    obtain ⟨⟨e1, e2, e3, e4, e5, e6⟩, e7, e8⟩ := h2 a1.toNat hs6
    have in4 : in32 (M (114 + 10 * a1.toNat) 4) := by rw [e1.1]; exact ⟨by omega, by omega⟩
    have bad2 : 0 ≤ a2 ∧ a2 < N 1 a1.toNat → ¬ (0 ≤ a3 ∧ a3 ≤ 99) → wp_Model_height a1 a2 a3 N (fun r N1 => wp_Model_thrown N1 (fun t => endR Rel 2 w M r N1 t)) := by
      intro h hv
      exact sh_yes h1 i1 hs ⟨xl rfl, fun q => absurd q (by decide), fun _ => ⟨⟨by omega, by omega⟩, in_yes i2 (xl rfl) ⟨by omega, by omega⟩ ⟨h.1, by omega⟩ ⟨xl rfl, fun _ => in_no i3 (xl rfl) (xl rfl) hv ⟨xl rfl, fun q => absurd rfl q, fun _ => thr_2 ⟨xl rfl, fun q => absurd q (by decide), fun _ => ⟨up_ss _ _ _ _, ⟨by omega, by omega⟩, fun q => absurd q (by decide), hR.thr 2⟩⟩⟩, fun q => absurd q (by decide)⟩⟩⟩
    refine ⟨i2, fun h => Or.inl ⟨rfl, bad1 (by omega)⟩, fun h => ⟨i2, in4, fun hh => ⟨i3, fun hv => Or.inr ⟨rfl, bad2 (by omega) (by omega)⟩, fun hv => ⟨i3, fun hv9 => ⟨⟨by omega, by omega⟩, fun v hvv => ⟨⟨by omega, by omega⟩, fun M3 hM3 M5 hM5 => ?_⟩⟩, fun hv9 => Or.inr ⟨rfl, bad2 (by omega) (by omega)⟩⟩⟩, fun hh => Or.inl ⟨rfl, bad1 (by omega)⟩⟩⟩
    rw [e1.1] at hh
    have i28 : a2.toNat < 28 := by omega
    refine sh_yes h1 i1 hs ⟨xl rfl, fun q => absurd q (by decide), fun _ => ⟨⟨by omega, by omega⟩, in_yes i2 (xl rfl) ⟨by omega, by omega⟩ ⟨by omega, by omega⟩ ⟨xl rfl, fun _ => in_yes i3 (xl rfl) (xl rfl) ⟨by omega, by omega⟩ ⟨xl rfl, fun _ => thr_no ⟨xl rfl, fun _ => ⟨⟨by omega, by omega⟩, fun v5 hv5 => ⟨⟨by omega, by omega⟩, fun N4 hN4 N5 hN5 => ?_⟩⟩, fun q => absurd rfl q⟩, fun q => absurd q (by decide)⟩, fun q => absurd q (by decide)⟩⟩⟩
    rw [show (28 * a1 + a2).toNat = 28 * a1.toNat + a2.toNat by omega] at hv5 hN4
    show endR Rel 0 _ M5 _ N5 (N5 0 0)
    have q : ∀ r, r ≠ 0 → r ≠ 3 → N5 r = N r := fun r hr h3 => by rw [hN5, hN4, up_ne hr, up_ne h3, up_ne hr]
    have q3 : ∀ j, j ≠ 28 * a1.toNat + a2.toNat → N5 3 j = N 3 j := fun j hj => by rw [hN5, hN4, up_ne (by decide), up_nj hj, up_ne (by decide)]
    have q33 : N5 3 (28 * a1.toNat + a2.toNat) = a3 := by rw [hN5, hN4, up_ne (by decide), up_ss]
    have z : ∀ j, j ≠ 0 → j ≠ 11 → N5 0 j = N 0 j := fun j a b => by rw [hN5, hN4, up_nj b, up_ne (by decide), up_nj a]
    have z0 : N5 0 0 = 0 := by rw [hN5, hN4, up_nj (by decide), up_ne (by decide), up_ss]
    have z11 : N5 0 11 = 0 := by rw [hN5, up_ss]
    have p : ∀ r, r ≠ 8 → r ≠ 114 + 10 * a1.toNat + 2 → M5 r = M r := fun r a b => by rw [hM5, up_ne a, hM3, up_ne b]
    have p2 : ∀ j, j ≠ a2.toNat → M5 (114 + 10 * a1.toNat + 2) j = M (114 + 10 * a1.toNat + 2) j := fun j hj => by rw [hM5, up_ne (by omega), hM3, up_nj hj]
    have p22 : M5 (114 + 10 * a1.toNat + 2) a2.toNat = a3 := by rw [hM5, up_ne (by omega), hM3, up_ss]
    have p81 : M5 8 1 = 0 := by rw [hM5, up_ss]
    refine ⟨z0, ⟨by omega, by omega⟩, fun _ => toL_eq (by rw [hvv, hv5, up_ne (by decide)]; exact (e4 _ i28).1), ?_, ?_, ?_, ?_⟩
    · refine ⟨⟨by rw [p 0 (by decide) (by omega), z 1 (by decide) (by decide)]; exact c1, by rw [z 1 (by decide) (by decide)]; exact ⟨c2, c3⟩⟩, ?_, ?_, ?_⟩
      · rw [p 0 (by decide) (by omega), q 4 (by decide) (by decide)]; exact c4
      · rw [p 0 (by decide) (by omega), z 9 (by decide) (by decide)]; exact c5
      · rw [p 0 (by decide) (by omega), z 10 (by decide) (by decide)]; exact c6
    · intro s hs'
      obtain ⟨⟨f1, f2, f3, f4, f5, f6⟩, f7, f8⟩ := h2 s hs'
      rw [p (114 + 10 * s) (by omega) (by omega), p (114 + 10 * s + 1) (by omega) (by omega), p (114 + 10 * s + 3) (by omega) (by omega), p (114 + 10 * s + 4) (by omega) (by omega), q 1 (by decide) (by decide), q 2 (by decide) (by decide), q 4 (by decide) (by decide), q 5 (by decide) (by decide), q 6 (by decide) (by decide), q 7 (by decide) (by decide), z 1 (by decide) (by decide)]
      refine ⟨⟨f1, f2, f3, fun i hi => ?_, f5, f6⟩, f7, f8⟩
      by_cases hsa : s = a1.toNat
      · subst hsa
        by_cases hia : i = a2.toNat
        · subst hia
          rw [p22]
          dsimp only
          rw [q33]
          exact ⟨rfl, by omega, by omega⟩
        · rw [p2 i hia]
          dsimp only
          rw [q3 _ (by omega)]
          exact f4 i hi
      · rw [p _ (by omega) (by omega)]
        dsimp only
        rw [q3 _ (by omega)]
        exact f4 i hi
    · exact h3.same (by rw [p 0 (by decide) (by omega)]) (z 17 (by decide) (by decide)) (fun k a b => p k (by omega) (by omega)) (fun j i a b c => p _ (by omega) (by omega)) (q 10 (by decide) (by decide)) (q 11 (by decide) (by decide)) (q 4 (by decide) (by decide)) (fun s _ _ => ⟨p _ (by omega) (by omega), p _ (by omega) (by omega), by rw [q 1 (by decide) (by decide)]⟩)
    · exact h4.clear p81 (p 9 (by decide) (by omega)) z11 (z 12 (by decide) (by decide))
  · exact eo_no h1 i1 hs (Or.inl ⟨rfl, bad1 (fun q => hs q.1)⟩)
theorem st44_yes {N : Mem} {a1 a2 t1 : Int} {Post : Int → Mem → Prop} (i2 : in32 a2) (h : 0 ≤ a2 ∧ a2 ≤ 3) (hP : wp_Model_step_59 a1 a2 t1 0 0 N Post) : wp_Model_step_44 a1 a2 t1 N Post := by
  unfold wp_Model_step_44 wp_Model_step_45
  exact in_yes i2 (xl rfl) (xl rfl) h ⟨xl rfl, fun _ => hP, fun q => absurd q (by decide)⟩
theorem st44_no {N : Mem} {a1 a2 t1 : Int} {Post : Int → Mem → Prop} (i2 : in32 a2) (h : ¬ (0 ≤ a2 ∧ a2 ≤ 3)) (hP : wp_Model_step_59 a1 a2 t1 0 1 N Post) : wp_Model_step_44 a1 a2 t1 N Post := by
  unfold wp_Model_step_44 wp_Model_step_45
  exact in_no i2 (xl rfl) (xl rfl) h ⟨xl rfl, fun q => absurd rfl q, fun _ => hP⟩
theorem ob_step : Ob_step Rel := by
  intro M N w a1 a2 hR i1 i2
  obtain ⟨h1, h2, h3, h4⟩ := id hR
  obtain ⟨⟨c1, c2, c3⟩, c4, c5, c6⟩ := id h1
  have thr : ∀ t : Int, 1 ≤ t ∧ t ≤ 3 → ∀ r, wp_Model_thrown (up N 0 0 t) (fun t' => endR Rel t w M r (up N 0 0 t) t') := fun t ht r => ⟨up_ss _ _ _ _, ⟨by omega, by omega⟩, fun q => absurd q (by omega), hR.thr t⟩
  have bad1 : ¬ (0 ≤ a1 ∧ a1 < N 0 1) → wp_Model_step a1 a2 N (fun r N1 => wp_Model_thrown N1 (fun t => endR Rel 1 w M r N1 t)) := by
    intro h
    refine sh_no h1 i1 h ⟨xl rfl, fun q => absurd rfl q, fun _ => ⟨xl rfl, fun _ => ?_, fun q => absurd q (by decide)⟩⟩
    unfold wp_Model_step_44 wp_Model_step_45
    have k : ∀ t3, wp_Model_step_59 a1 a2 1 0 t3 N (fun r N1 => wp_Model_thrown N1 (fun t => endR Rel 1 w M r N1 t)) := fun t3 => thr_1 ⟨xl rfl, fun q => absurd q (by decide), fun _ => thr 1 ⟨by omega, by omega⟩ 0⟩
    by_cases hd : 0 ≤ a2 ∧ a2 ≤ 3
    · exact in_yes i2 (xl rfl) (xl rfl) hd ⟨xl rfl, fun _ => k 0, fun q => absurd q (by decide)⟩
    · exact in_no i2 (xl rfl) (xl rfl) hd ⟨xl rfl, fun q => absurd rfl q, fun _ => k 1⟩
  unfold wpL_step wp_X_step
  by_cases hs : 0 ≤ a1 ∧ a1 < N 0 1
  · refine eo_yes h1 i1 hs ?_
    have hs6 : a1.toNat < 6 := by omega
    obtain ⟨⟨e1, e2, e3, e4, e5, e6⟩, e7, e8⟩ := h2 a1.toNat hs6
    have in4 : in32 (M (114 + 10 * a1.toNat) 4) := by rw [e1.1]; exact ⟨by omega, by omega⟩
    have in5 : in32 (M (114 + 10 * a1.toNat) 5) := by rw [e2.1]; rcases e2.2 with h | h <;> rw [h] <;> exact xl rfl
    have inc : in32 (N 4 a1.toNat) := by rw [← e2.1]; exact in5
    have inn : in32 (N 1 a1.toNat) := by rw [← e1.1]; exact in4
    have k40 : wp_Model_step_40 a1 a2 0 N (fun r N1 => wp_Model_thrown N1 (fun t => endR Rel 2 w M r N1 t)) := by
      unfold wp_Model_step_40 wp_Model_step_45
      have k : ∀ t3, wp_Model_step_59 a1 a2 0 1 t3 N (fun r N1 => wp_Model_thrown N1 (fun t => endR Rel 2 w M r N1 t)) := fun t3 => thr_2 ⟨xl rfl, fun q => absurd q (by decide), fun _ => thr 2 ⟨by omega, by omega⟩ 0⟩
      by_cases hd : 0 ≤ a2 ∧ a2 ≤ 3
      · exact in_yes i2 (xl rfl) (xl rfl) hd ⟨xl rfl, fun _ => k 0, fun q => absurd q (by decide)⟩
      · exact in_no i2 (xl rfl) (xl rfl) hd ⟨xl rfl, fun q => absurd rfl q, fun _ => k 1⟩
    have bad2 : N 4 a1.toNat ≠ 0 ∨ N 1 a1.toNat = 28 → wp_Model_step a1 a2 N (fun r N1 => wp_Model_thrown N1 (fun t => endR Rel 2 w M r N1 t)) := by
      intro h
      refine sh_yes h1 i1 hs ⟨xl rfl, fun _ => ⟨xl rfl, fun q => absurd rfl q, fun _ => ⟨⟨by omega, by omega⟩, inc, fun _ => k40, fun q => ⟨⟨by omega, by omega⟩, inn, fun q2 => ?_, fun _ => k40⟩⟩⟩, fun q => absurd q (by decide)⟩
      rcases h with h | h
      · exact absurd q h
      · exact absurd h q2
    have bad3 : N 4 a1.toNat = 0 → N 1 a1.toNat ≠ 28 → ¬ (0 ≤ a2 ∧ a2 ≤ 3) → wp_Model_step a1 a2 N (fun r N1 => wp_Model_thrown N1 (fun t => endR Rel 3 w M r N1 t)) := by
      intro h0 h28 hd
      exact sh_yes h1 i1 hs ⟨xl rfl, fun _ => ⟨xl rfl, fun q => absurd rfl q, fun _ => ⟨⟨by omega, by omega⟩, inc, fun q => absurd h0 q, fun q => ⟨⟨by omega, by omega⟩, inn, fun q2 => st44_no i2 hd (thr_3 ⟨xl rfl, fun q => absurd q (by decide), fun _ => thr 3 ⟨by omega, by omega⟩ 0⟩), fun q => absurd q h28⟩⟩⟩, fun q => absurd q (by decide)⟩
    refine ⟨in5, fun h => Or.inr (Or.inl ⟨rfl, bad2 (Or.inl (by rw [← e2.1]; exact h))⟩), fun h => ⟨in4, fun h28 => ⟨i2, fun hd => Or.inr (Or.inr ⟨rfl, bad3 (by rw [← e2.1]; exact h) (by omega) (by omega)⟩), fun hd => ⟨i2, fun hd3 => ?_, fun hd3 => Or.inr (Or.inr ⟨rfl, bad3 (by rw [← e2.1]; exact h) (by omega) (by omega)⟩)⟩⟩, fun h28 => Or.inr (Or.inl ⟨rfl, bad2 (Or.inr (by omega))⟩)⟩⟩
    rw [e1.1] at h28
    rw [e2.1] at h
    have hdd : a2 % 4 = a2 := by omega
    have n28 : (N 1 a1.toNat).toNat < 28 := by omega
    refine ⟨in4, fun _ => ⟨⟨by omega, by omega⟩, fun M1 hM1 => ?_⟩, fun q => absurd h28 (by rw [e1.1] at q; omega)⟩
    have m4 : M1 (114 + 10 * a1.toNat) 4 = N 1 a1.toNat := by rw [hM1, up_ne (by omega)]; exact e1.1
    refine ⟨⟨by omega, by omega⟩, ⟨by omega, by omega⟩, ⟨by omega, by omega⟩, fun M3 hM3 => ?_⟩
    have m34 : M3 (114 + 10 * a1.toNat) 4 = N 1 a1.toNat := by rw [hM3, up_ne (by omega)]; exact m4
    refine ⟨⟨by omega, by omega⟩, ⟨by omega, by omega⟩, ⟨by omega, by omega⟩, fun M5 hM5 M6 hM6 => ?_⟩
    rw [e1.1] at hM1
    rw [m4, hdd, show (N 1 a1.toNat + 1).toNat = (N 1 a1.toNat).toNat + 1 by omega] at hM3
    rw [m34, hdd, show (N 1 a1.toNat + 1).toNat = (N 1 a1.toNat).toNat + 1 by omega] at hM5
    have m54 : M5 (114 + 10 * a1.toNat) 4 = N 1 a1.toNat := by rw [hM5, up_ne (by omega)]; exact m34
    rw [m54] at hM6
    refine sh_yes h1 i1 hs ⟨xl rfl, fun _ => ⟨xl rfl, fun q => absurd rfl q, fun _ => ⟨⟨by omega, by omega⟩, inc, fun q => absurd h q, fun q => ⟨⟨by omega, by omega⟩, inn, fun q2 => st44_yes i2 ⟨by omega, hd3⟩ (thr_no ⟨xl rfl, fun _ => ?_, fun q => absurd rfl q⟩), fun q => absurd q (by omega)⟩⟩⟩, fun q => absurd q (by decide)⟩
    rw [up_ne (by decide)]
    refine ⟨⟨by omega, by omega⟩, ⟨by omega, by omega⟩, fun N3 hN3 => ⟨⟨by omega, by omega⟩, ⟨by omega, by omega⟩, fun N4 hN4 => ⟨⟨by omega, by omega⟩, ?_⟩⟩⟩
    rw [show (28 * a1 + N 1 a1.toNat).toNat = 28 * a1.toNat + (N 1 a1.toNat).toNat by omega] at hN3
    have n31 : N3 1 a1.toNat = N 1 a1.toNat := by rw [hN3, up_ne (by decide), up_ne (by decide)]
    rw [n31] at hN4
    show endR Rel 0 _ M6 _ N4 (N4 0 0)
    have q : ∀ r, r ≠ 0 → r ≠ 1 → r ≠ 2 → N4 r = N r := fun r a b c => by rw [hN4, up_ne b, hN3, up_ne c, up_ne a]
    have q1 : ∀ j, j ≠ a1.toNat → N4 1 j = N 1 j := fun j hj => by rw [hN4, up_nj hj, hN3, up_ne (by decide), up_ne (by decide)]
    have q11 : N4 1 a1.toNat = N 1 a1.toNat + 1 := by rw [hN4, up_ss]
    have q2 : ∀ j, j ≠ 28 * a1.toNat + (N 1 a1.toNat).toNat → N4 2 j = N 2 j := fun j hj => by rw [hN4, up_ne (by decide), hN3, up_nj hj, up_ne (by decide)]
    have q22 : N4 2 (28 * a1.toNat + (N 1 a1.toNat).toNat) = a2 := by rw [hN4, up_ne (by decide), hN3, up_ss]
    have z : ∀ j, j ≠ 0 → N4 0 j = N 0 j := fun j a => by rw [hN4, up_ne (by decide), hN3, up_ne (by decide), up_nj a]
    have z0 : N4 0 0 = 0 := by rw [hN4, up_ne (by decide), hN3, up_ne (by decide), up_ss]
    have p : ∀ r, r ≠ 114 + 10 * a1.toNat → r ≠ 114 + 10 * a1.toNat + 1 → r ≠ 114 + 10 * a1.toNat + 3 → r ≠ 114 + 10 * a1.toNat + 4 → M6 r = M r := fun r a b c d => by rw [hM6, up_ne a, hM5, up_ne d, hM3, up_ne c, hM1, up_ne b]
    have p0 : ∀ j, j ≠ 4 → M6 (114 + 10 * a1.toNat) j = M (114 + 10 * a1.toNat) j := fun j hj => by rw [hM6, up_nj hj, hM5, up_ne (by omega), hM3, up_ne (by omega), hM1, up_ne (by omega)]
    have p04 : M6 (114 + 10 * a1.toNat) 4 = N 1 a1.toNat + 1 := by rw [hM6, up_ss]
    have p1 : ∀ j, j ≠ (N 1 a1.toNat).toNat → M6 (114 + 10 * a1.toNat + 1) j = M (114 + 10 * a1.toNat + 1) j := fun j hj => by rw [hM6, up_ne (by omega), hM5, up_ne (by omega), hM3, up_ne (by omega), hM1, up_nj hj]
    have p11 : M6 (114 + 10 * a1.toNat + 1) (N 1 a1.toNat).toNat = a2 := by rw [hM6, up_ne (by omega), hM5, up_ne (by omega), hM3, up_ne (by omega), hM1, up_ss]
    have p3 : ∀ j, j ≠ (N 1 a1.toNat).toNat + 1 → M6 (114 + 10 * a1.toNat + 3) j = M (114 + 10 * a1.toNat + 3) j := fun j hj => by rw [hM6, up_ne (by omega), hM5, up_ne (by omega), hM3, up_nj hj, hM1, up_ne (by omega)]
    have p33 : M6 (114 + 10 * a1.toNat + 3) ((N 1 a1.toNat).toNat + 1) = M (114 + 10 * a1.toNat + 3) (N 1 a1.toNat).toNat + stX a2 := by rw [hM6, up_ne (by omega), hM5, up_ne (by omega), hM3, up_ss, hM1, up_ne (by omega)]
    have p4 : ∀ j, j ≠ (N 1 a1.toNat).toNat + 1 → M6 (114 + 10 * a1.toNat + 4) j = M (114 + 10 * a1.toNat + 4) j := fun j hj => by rw [hM6, up_ne (by omega), hM5, up_nj hj, hM3, up_ne (by omega), hM1, up_ne (by omega)]
    have p44 : M6 (114 + 10 * a1.toNat + 4) ((N 1 a1.toNat).toNat + 1) = M (114 + 10 * a1.toNat + 4) (N 1 a1.toNat).toNat + stY a2 := by rw [hM6, up_ne (by omega), hM5, up_ss, hM3, up_ne (by omega), hM1, up_ne (by omega)]
    refine ⟨z0, ⟨by omega, by omega⟩, fun _ => toL_eq (by rw [p04, q11]), ?_, ?_, ?_, ?_⟩
    · refine ⟨⟨by rw [p 0 (by omega) (by omega) (by omega) (by omega), z 1 (by decide)]; exact c1, by rw [z 1 (by decide)]; exact ⟨c2, c3⟩⟩, ?_, ?_, ?_⟩
      · rw [p 0 (by omega) (by omega) (by omega) (by omega), q 4 (by decide) (by decide) (by decide)]; exact c4
      · rw [p 0 (by omega) (by omega) (by omega) (by omega), z 9 (by decide)]; exact c5
      · rw [p 0 (by omega) (by omega) (by omega) (by omega), z 10 (by decide)]; exact c6
    · intro s hs'
      obtain ⟨⟨f1, f2, f3, f4, f5, f6⟩, f7, f8⟩ := h2 s hs'
      rw [q 3 (by decide) (by decide) (by decide), q 4 (by decide) (by decide) (by decide), q 5 (by decide) (by decide) (by decide), q 6 (by decide) (by decide) (by decide), q 7 (by decide) (by decide) (by decide), z 1 (by decide)]
      by_cases hsa : s = a1.toNat
      · subst hsa
        rw [p (114 + 10 * a1.toNat + 2) (by omega) (by omega) (by omega) (by omega)]
        refine ⟨⟨⟨by rw [p04, q11], by omega, by omega⟩, ⟨by rw [p0 5 (by decide)]; exact f2.1, f2.2⟩, fun i hi => ?_, f4, ?_, fun hc => absurd (h.symm.trans hc) (by decide)⟩, ⟨fun _ => f7.1 h, fun hc => absurd (h.symm.trans hc) (by decide)⟩, fun hle => absurd hle (by omega)⟩
        · by_cases hia : i = (N 1 a1.toNat).toNat
          · subst hia
            rw [p11]
            dsimp only
            rw [q22]
            exact ⟨rfl, by omega, by omega⟩
          · rw [p1 i hia]
            dsimp only
            rw [q2 _ (by omega)]
            exact f3 i hi
        · rw [q11, show (N 1 a1.toNat + 1).toNat = (N 1 a1.toNat).toNat + 1 by omega]
          refine Poly.more f5 (fun k hk => p1 k (by omega)) (fun k hk => ⟨p3 k (by omega), p4 k (by omega)⟩) (by rw [p11]; exact ⟨by omega, by omega⟩) (by rw [p33, p11]) (by rw [p44, p11])
      · rw [p (114 + 10 * s) (by omega) (by omega) (by omega) (by omega), p (114 + 10 * s + 1) (by omega) (by omega) (by omega) (by omega), p (114 + 10 * s + 2) (by omega) (by omega) (by omega) (by omega), p (114 + 10 * s + 3) (by omega) (by omega) (by omega) (by omega), p (114 + 10 * s + 4) (by omega) (by omega) (by omega) (by omega), q1 s hsa]
        refine ⟨⟨f1, f2, fun i hi => ?_, f4, f5, f6⟩, f7, f8⟩
        dsimp only
        rw [q2 _ (by omega)]
        exact f3 i hi
    · refine h3.same (by rw [p 0 (by omega) (by omega) (by omega) (by omega)]) (z 17 (by decide)) (fun k a b => p k (by omega) (by omega) (by omega) (by omega)) (fun j i a b c => p _ (by omega) (by omega) (by omega) (by omega)) (q 10 (by decide) (by decide) (by decide)) (q 11 (by decide) (by decide) (by decide)) (q 4 (by decide) (by decide) (by decide)) (fun s hs' hc => ?_)
      have hsa : s ≠ a1.toNat := fun q => by rw [q] at hc; omega
      exact ⟨p _ (by omega) (by omega) (by omega) (by omega), p _ (by omega) (by omega) (by omega) (by omega), q1 s hsa⟩
    · refine h4.same c3 (by rw [p 8 (by omega) (by omega) (by omega) (by omega)]) (p 9 (by omega) (by omega) (by omega) (by omega)) (fun k a b => p k (by omega) (by omega) (by omega) (by omega)) (z 11 (by decide)) (z 12 (by decide)) (q 8 (by decide) (by decide) (by decide)) (by rw [z 1 (by decide)]; exact Int.le_refl _) (q 4 (by decide) (by decide) (by decide)) (fun s hs' hc => q1 s (fun q => by rw [q] at hc; omega)) (fun s i hs' hc hi => q2 _ ?_)
      have hsa : s ≠ a1.toNat := fun q => by rw [q] at hc; omega
      have := (h2 s hs').1.1
      omega
  · exact eo_no h1 i1 hs (Or.inl ⟨rfl, bad1 hs⟩)
