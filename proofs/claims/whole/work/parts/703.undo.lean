/-! undo, a new object -/
theorem copy_loop {k0 k1 : Nat} {M : Mem} {Post : Mem → Prop} (hd : k0 + 4 ≤ k1 ∨ k1 + 4 ≤ k0) (h : ∀ M' : Mem, (∀ r, r ≤ k0 ∨ k0 + 4 < r → M' r = M r) → (∀ s c, s < 6 → 1 ≤ c → c ≤ 4 → M' (k0 + c) s = M (k1 + c) s) → Post M') :
    ∀ (n s : Nat), s + n = 6 → ∀ Mc : Mem, (∀ r, r ≤ k0 ∨ k0 + 4 < r → Mc r = M r) → (∀ t c, t < s → 1 ≤ c → c ≤ 4 → Mc (k0 + c) t = M (k1 + c) t) → wp_Layout_copy_2 k0 k1 Post (n + 1) s Mc := by
  intro n
  induction n with
  | zero =>
    intro s hs Mc a b
    exact ⟨⟨by omega, by omega⟩, fun _ => h Mc a (fun t c ht => b t c (by omega)), fun q => absurd (show (6 : Int) ≤ s by omega) q⟩
  | succ n ih =>
    intro s hs Mc a b
    have in6 : (0 ≤ (s : Int) ∧ (s : Int) < 6) := ⟨by omega, by omega⟩
    refine ⟨⟨by omega, by omega⟩, fun q => absurd q (by omega), fun _ => ⟨in6, in6, fun M1 h1 => ⟨in6, in6, fun M2 h2 => ⟨in6, in6, fun M3 h3 => ⟨in6, in6, fun M4 h4 v hv => ?_⟩⟩⟩⟩⟩
    rw [hv, show ((s : Nat) : Int) + 1 = ((s + 1 : Nat) : Int) by omega]
    rw [Int.toNat_natCast] at h1 h2 h3 h4
    have e2 : M1 (k1 + 2) = Mc (k1 + 2) := by rw [h1, up_ne (by omega)]
    have e3 : M2 (k1 + 3) = Mc (k1 + 3) := by rw [h2, up_ne (by omega), h1, up_ne (by omega)]
    have e4 : M3 (k1 + 4) = Mc (k1 + 4) := by rw [h3, up_ne (by omega), h2, up_ne (by omega), h1, up_ne (by omega)]
    rw [e2] at h2
    rw [e3] at h3
    rw [e4] at h4
    refine ih (s + 1) (by omega) M4 (fun r hr => ?_) (fun t c ht c1 c2 => ?_)
    · rw [h4, up_ne (by omega), h3, up_ne (by omega), h2, up_ne (by omega), h1, up_ne (by omega)]
      exact a r hr
    · have hk : ∀ c, 1 ≤ c → c ≤ 4 → Mc (k1 + c) s = M (k1 + c) s := fun c _ _ => by rw [a _ (by omega)]
      rcases (show c = 1 ∨ c = 2 ∨ c = 3 ∨ c = 4 by omega) with rfl | rfl | rfl | rfl
      · rw [h4, up_ne (by omega), h3, up_ne (by omega), h2, up_ne (by omega), h1]
        by_cases hts : t = s
        · subst hts; rw [up_ss]; exact hk 1 (by omega) (by omega)
        · rw [up_nj hts]; exact b t 1 (by omega) (by omega) (by omega)
      · rw [h4, up_ne (by omega), h3, up_ne (by omega), h2]
        by_cases hts : t = s
        · subst hts; rw [up_ss]; exact hk 2 (by omega) (by omega)
        · rw [up_nj hts, h1, up_ne (by omega)]; exact b t 2 (by omega) (by omega) (by omega)
      · rw [h4, up_ne (by omega), h3]
        by_cases hts : t = s
        · subst hts; rw [up_ss]; exact hk 3 (by omega) (by omega)
        · rw [up_nj hts, h2, up_ne (by omega), h1, up_ne (by omega)]; exact b t 3 (by omega) (by omega) (by omega)
      · rw [h4]
        by_cases hts : t = s
        · subst hts; rw [up_ss]; exact hk 4 (by omega) (by omega)
        · rw [up_nj hts, h3, up_ne (by omega), h2, up_ne (by omega), h1, up_ne (by omega)]; exact b t 4 (by omega) (by omega) (by omega)
theorem copy_ok {k0 k1 : Nat} {M : Mem} {Post : Mem → Prop} (hd : k0 + 4 ≤ k1 ∨ k1 + 4 ≤ k0) (h : ∀ M' : Mem, (∀ r, r ≤ k0 ∨ k0 + 4 < r → M' r = M r) → (∀ s c, s < 6 → 1 ≤ c → c ≤ 4 → M' (k0 + c) s = M (k1 + c) s) → Post M') : wp_Layout_copy k0 k1 M Post :=
  ⟨7, copy_loop hd h 6 0 (by omega) M (fun _ _ => rfl) (fun t c ht => absurd ht (by omega))⟩
theorem LayOK.at {clo siz : Nat → Int} {cx cy : Nat → Nat → Int} {P P' : Nat → Int} {J : Int} (h : LayOK clo siz cx cy P J) (hP : ∀ i, i < 24 → P' i = P i) : LayOK clo siz cx cy P' J := by
  obtain ⟨h1, h2, h3⟩ := h
  refine ⟨fun s hs => ?_, fun t t0 t1 => ?_, ?_⟩
  · obtain ⟨a, b, c, d⟩ := h1 s hs
    rw [hP (4 * s) (by omega), hP (4 * s + 1) (by omega), hP (4 * s + 2) (by omega), hP (4 * s + 3) (by omega), hP (4 * (P (4 * s + 3)).toNat + 3) (by omega)]
    exact ⟨a, b, c, d⟩
  · obtain ⟨l, r, u, d, b1, b2, b3⟩ := h2 t t0 t1
    refine ⟨l, r, u, d, b1, ?_, fun s hs ht => ?_⟩
    · have : card P' t = card P t := sm_congr (fun k hk => by rw [hP _ (by omega)])
      rw [this]; exact b2
    · rw [hP _ (by omega)] at ht
      rw [hP (4 * s) (by omega), hP (4 * s + 1) (by omega), hP (4 * s + 2) (by omega)]
      exact b3 s hs ht
  · rw [← h3]
    exact sm_congr (fun k hk => by rw [hP _ (by omega)])
theorem undo_loop {N : Mem} {j : Nat} {Post : Int → Mem → Prop} (hj : j < 6) (hN : N 0 17 = j) (h : ∀ N' : Mem, (∀ r, r ≠ 10 → N' r = N r) → (∀ i, i < 24 → N' 10 i = N 11 (24 * j + i)) → Post 1 N') :
    ∀ (n i : Nat), i + n = 24 → ∀ Nc : Mem, (∀ r, r ≠ 10 → Nc r = N r) → (∀ k, k < i → Nc 10 k = N 11 (24 * j + k)) → wp_Model_undo_26 Post (n + 1) i Nc := by
  intro n
  induction n with
  | zero =>
    intro i hi Nc a b
    exact ⟨⟨by omega, by omega⟩, fun _ => h Nc a (fun k hk => b k (by omega)), fun q => absurd (show (24 : Int) ≤ i by omega) q⟩
  | succ n ih =>
    intro i hi Nc a b
    have e17 : Nc 0 17 = j := by rw [a 0 (by decide)]; exact hN
    refine ⟨⟨by omega, by omega⟩, fun q => absurd q (by omega), fun _ => ⟨⟨by omega, by omega⟩, ⟨by omega, by omega⟩, fun N1 h1 v hv => ?_⟩⟩
    rw [hv, show ((i : Nat) : Int) + 1 = ((i + 1 : Nat) : Int) by omega]
    rw [e17, Int.toNat_natCast, show (24 * (j : Int) + (i : Int)).toNat = 24 * j + i by omega, a 11 (by decide)] at h1
    refine ih (i + 1) (by omega) N1 (fun r hr => by rw [h1, up_ne hr]; exact a r hr) (fun k hk => ?_)
    rw [h1]
    by_cases hki : k = i
    · subst hki; rw [up_ss]
    · rw [up_nj hki]; exact b k (by omega)
theorem ob_undo : Ob_undo Rel := by
  intro M N hR
  obtain ⟨h1, h2, h3, h4⟩ := id hR
  obtain ⟨⟨c1, c2, c3⟩, c4, c5, c6⟩ := id h1
  obtain ⟨⟨l1, l2, l3⟩, l4, l5, l6⟩ := id h3
  have in7 : in32 (N 0 17) := ⟨by omega, by omega⟩
  refine ⟨by rw [l1]; exact in7, fun h0 M1 hM1 => ?_, fun h0 => ?_⟩
  · rw [l1] at h0 hM1
    obtain ⟨j, hj⟩ : ∃ j : Nat, N 0 17 = j + 1 := ⟨(N 0 17).toNat - 1, by omega⟩
    have m17 : M1 0 7 = j := by rw [hM1, up_ss]; omega
    refine ⟨⟨by omega, by omega⟩, ?_⟩
    rw [m17, Int.toNat_natCast]
    refine copy_ok (by omega) (fun M4 a b => ?_)
    intro N1 hN1
    have n17 : N1 0 17 = N 0 17 := by rw [hN1, up_nj (by decide)]
    refine ⟨by rw [n17]; exact in7, fun _ N2 hN2 => ⟨25, undo_loop (j := j) (by omega) (by rw [hN2, up_ss, n17]; omega) (fun N3 q b2 => ?_) 24 0 (by omega) N2 (fun _ _ => rfl) (fun k hk => absurd hk (by omega))⟩, fun q => absurd (by rw [n17] at q; exact q) h0⟩
    refine ⟨rfl, ?_⟩
    have z : ∀ i, i ≠ 0 → i ≠ 17 → N3 0 i = N 0 i := fun i a b => by rw [q 0 (by decide), hN2, up_nj b, hN1, up_nj a]
    have z17 : N3 0 17 = j := by rw [q 0 (by decide), hN2, up_ss, n17]; omega
    have q' : ∀ r, r ≠ 0 → r ≠ 10 → N3 r = N r := fun r a b => by rw [q r b, hN2, up_ne a, hN1, up_ne a]
    have q10 : ∀ i, i < 24 → N3 10 i = N 11 (24 * j + i) := fun i hi => by rw [b2 i hi, hN2, up_ne (by decide), hN1, up_ne (by decide)]
    have p : ∀ r, r ≠ 0 → (r ≤ 2 ∨ 6 < r) → M4 r = M r := fun r h0 h1 => by rw [a r h1, hM1, up_ne h0]
    have p0 : ∀ i, i ≠ 7 → M4 0 i = M 0 i := fun i hi => by rw [a 0 (by omega), hM1, up_nj hi]
    have p7 : M4 0 7 = j := by rw [a 0 (by omega)]; exact m17
    refine ⟨?_, ?_, ?_, ?_⟩
    · unfold RelC
      rw [p0 5 (by decide), p0 6 (by decide), p0 8 (by decide), p0 9 (by decide), z 1 (by decide) (by decide), z 9 (by decide) (by decide), z 10 (by decide) (by decide), q' 4 (by decide) (by decide)]
      exact h1
    · exact h2.same (fun s i hs hi => p _ (by omega) (by omega)) (fun r a b => q' r (by omega) (by omega)) (z 1 (by decide) (by decide))
    · obtain ⟨d1, d2⟩ := l6 j (by omega)
      have hedge : ∀ s, s < 6 → N3 4 s = 1 → ex M4 s = ex M s ∧ ey M4 s = ey M s ∧ N3 1 s = N 1 s := fun s _ _ => ⟨p _ (by omega) (by omega), p _ (by omega) (by omega), by rw [q' 1 (by decide) (by decide)]⟩
      refine ⟨⟨by rw [p7, z17], by omega, by omega⟩, fun s hs => ?_, ?_, fun i hi => ?_⟩
      · obtain ⟨g1, g2, g3, g4⟩ := d1 s hs
        have hb : ∀ c, 1 ≤ c → c ≤ 4 → M4 (2 + c) s = M (119 + 10 * j + c) s := fun c x y => by rw [b s c hs x y, hM1, up_ne (by omega)]
        rw [hb 1 (by omega) (by omega), hb 2 (by omega) (by omega), hb 3 (by omega) (by omega), hb 4 (by omega) (by omega), q10 _ (by omega), q10 _ (by omega), q10 _ (by omega), q10 _ (by omega)]
        exact ⟨g1, g2, g3, g4⟩
      · rw [z17]
        refine LayOK.at ?_ q10
        rw [q' 4 (by decide) (by decide)] at hedge ⊢
        exact d2.edges hedge
      · rw [z17] at hi
        obtain ⟨g1, g2⟩ := l6 i (by omega)
        rw [q' 11 (by decide) (by decide)]
        refine ⟨g1.same (fun c x y => p _ (by omega) (by omega)), ?_⟩
        rw [q' 4 (by decide) (by decide)] at hedge ⊢
        exact g2.edges hedge
    · exact h4.same c3 (by rw [p 8 (by decide) (by omega)]) (p 9 (by decide) (by omega)) (fun k a b => p k (by omega) (by omega)) (z 11 (by decide) (by decide)) (z 12 (by decide) (by decide)) (q' 8 (by decide) (by decide)) (by rw [z 1 (by decide) (by decide)]; exact Int.le_refl _) (q' 4 (by decide) (by decide)) (fun s _ _ => by rw [q' 1 (by decide) (by decide)]) (fun s i _ _ _ => by rw [q' 2 (by decide) (by decide)])
  · rw [l1] at h0
    intro N1 hN1
    have n17 : N1 0 17 = N 0 17 := by rw [hN1, up_nj (by decide)]
    refine ⟨by rw [n17]; exact in7, fun q => absurd (by rw [n17]; exact h0) q, fun _ => ⟨rfl, ?_⟩⟩
    rw [hN1]; exact hR.thr 0
theorem ob_init : Ob_init Rel := by
  have mz : ∀ s i, s < 6 → i < 5 → ∀ j, m0 (114 + 10 * s + i) j = 0 := fun s i hs hi j => m0_zero (by omega) (by omega) (by omega) j
  have nz : ∀ r, r ≠ 0 → r ≠ 10 → ∀ j, n0 r j = 0 := fun r a b j => by unfold n0; rw [if_neg a, if_neg b]
  have n4 : n0 4 = fun _ => 0 := by funext j; exact nz 4 (by decide) (by decide) j
  refine ⟨⟨⟨rfl, by decide, by decide⟩, ?_, ⟨rfl, by decide, by decide⟩, rfl, by decide, by decide⟩, fun s hs => ?_, ?_, ?_⟩
  · rw [n4]; rfl
  · refine ⟨⟨⟨?_, ?_⟩, ⟨?_, ?_⟩, fun i hi => ?_, fun i hi => ?_, ?_, ?_⟩, ⟨fun _ => nz 5 (by decide) (by decide) s, fun q => ?_⟩, fun _ => nz 1 (by decide) (by decide) s⟩
    · rw [nz 1 (by decide) (by decide)]; exact mz s 0 hs (by omega) 4
    · rw [nz 1 (by decide) (by decide)]; exact ⟨by decide, by decide⟩
    · rw [nz 4 (by decide) (by decide)]; exact mz s 0 hs (by omega) 5
    · rw [nz 4 (by decide) (by decide)]; exact Or.inl rfl
    · dsimp only
      rw [nz 2 (by decide) (by decide), mz s 1 hs (by omega)]; exact ⟨rfl, by decide, by decide⟩
    · dsimp only
      rw [nz 3 (by decide) (by decide), mz s 2 hs (by omega)]; exact ⟨rfl, by decide, by decide⟩
    · rw [nz 1 (by decide) (by decide)]
      exact ⟨mz s 3 hs (by omega) 0, mz s 4 hs (by omega) 0, fun k hk => absurd hk (by simp)⟩
    · rw [nz 4 (by decide) (by decide)]; intro q; exact absurd q (by decide)
    · rw [nz 4 (by decide) (by decide)] at q; exact absurd q (by decide)
  · have pz : ∀ s, s < 6 → n0 10 (4 * s) = 0 ∧ n0 10 (4 * s + 1) = 0 ∧ n0 10 (4 * s + 2) = 0 ∧ n0 10 (4 * s + 3) = s := by
      intro s hs
      unfold n0
      rw [if_neg (by decide), if_pos rfl, if_neg (by omega), if_neg (by decide), if_pos rfl, if_neg (by omega), if_neg (by decide), if_pos rfl, if_neg (by omega), if_neg (by decide), if_pos rfl, if_pos (by omega)]
      refine ⟨rfl, rfl, rfl, ?_⟩
      congr 1
      omega
    have tz : ∀ k, k = 6 → ∀ s, s < 6 → m0 k s = s := by
      intro k hk s hs
      unfold m0
      rw [if_neg (by omega), if_pos (by omega), if_pos hs]
    refine ⟨⟨rfl, by decide, by decide⟩, fun s hs => ?_, ⟨fun s hs => ?_, fun t t0 t1 => ⟨0, 0, 0, 0, ⟨by decide, by decide, by decide, by decide⟩, ?_, fun s hs ht => ?_⟩, ?_⟩, fun j hj => ?_⟩
    · obtain ⟨a, b, c, d⟩ := pz s hs
      rw [a, b, c, d]
      exact ⟨m0_zero (by decide) (by omega) (by decide) s, m0_zero (by decide) (by omega) (by decide) s, m0_zero (by decide) (by omega) (by decide) s, tz 6 rfl s hs⟩
    · obtain ⟨a, b, c, d⟩ := pz s hs
      rw [a, b, c, d, Int.toNat_natCast]
      exact ⟨⟨by decide, by decide⟩, ⟨by omega, by omega, d⟩, fun q => absurd rfl q, fun _ => ⟨rfl, rfl, rfl⟩⟩
    · have : 0 ≤ card (n0 10) t := sm_nonneg (fun k hk => by split <;> decide)
      omega
    · obtain ⟨a, b, c, d⟩ := pz s hs
      rw [a, b]
      refine ⟨⟨by decide, by decide, by decide, by decide⟩, fun q => ?_⟩
      rw [n4] at q; exact absurd (show (0 : Int) = 1 from q) (by decide)
    · have : sm (fun s => if n0 10 (4 * s + 3) = (s : Int) then 1 else 0) 6 = sm (fun _ => 1) 6 := sm_congr (fun k hk => by rw [if_pos (pz k hk).2.2.2])
      rw [this]; rfl
    · have : n0 0 17 = 0 := rfl
      omega
  · have h81 : m0 8 1 = 0 := rfl
    have h9 : ∀ k, k < 101 → m0 9 k = k := fun k hk => by unfold m0; rw [if_pos rfl, if_pos hk]
    refine ⟨by rw [h81]; exact ⟨by decide, by decide⟩, ⟨fun k hk => ?_, fun i j hi hj e => ?_⟩, Or.inl rfl, ⟨by decide, by decide⟩, fun _ => rfl, fun q => absurd q (by decide), fun k hk => ?_⟩
    · rw [h9 k hk]; omega
    · rw [h9 i hi, h9 j hj] at e; omega
    · rw [h81] at hk; omega
