/-! JOIN: both sides -/
theorem Rel.scr {M N M' N' : Mem} (h : Rel M N) (hM : ∀ r, r ≠ 111 → r ≠ 112 → r ≠ 113 → M' r = M r) (hN : ∀ r, r ≠ 0 → r ≠ 9 → r ≠ 12 → r ≠ 13 → N' r = N r) (h0 : ∀ j, j ≠ 0 → j ≠ 19 → j ≠ 20 → j ≠ 22 → j ≠ 23 → N' 0 j = N 0 j) : Rel M' N' := by
  obtain ⟨h1, h2, h3, h4⟩ := h
  have h6 := h1.1.2.2
  refine ⟨?_, h2.same (fun s j hs hj => hM _ (by omega) (by omega) (by omega)) (fun r a b => hN r (by omega) (by omega) (by omega) (by omega)) (h0 1 (by decide) (by decide) (by decide) (by decide) (by decide)), h3.same (by rw [hM 0 (by decide) (by decide) (by decide)]) (h0 17 (by decide) (by decide) (by decide) (by decide) (by decide)) (fun k a b => hM k (by omega) (by omega) (by omega)) (fun j i a b c => hM _ (by omega) (by omega) (by omega)) (hN 10 (by decide) (by decide) (by decide) (by decide)) (hN 11 (by decide) (by decide) (by decide) (by decide)) (hN 4 (by decide) (by decide) (by decide) (by decide)) (fun s _ _ => ⟨hM _ (by omega) (by omega) (by omega), hM _ (by omega) (by omega) (by omega), by rw [hN 1 (by decide) (by decide) (by decide) (by decide)]⟩), h4.same h6 (by rw [hM 8 (by decide) (by decide) (by decide)]) (hM 9 (by decide) (by decide) (by decide)) (fun k a b => hM k (by omega) (by omega) (by omega)) (h0 11 (by decide) (by decide) (by decide) (by decide) (by decide)) (h0 12 (by decide) (by decide) (by decide) (by decide) (by decide)) (hN 8 (by decide) (by decide) (by decide) (by decide)) (by rw [h0 1 (by decide) (by decide) (by decide) (by decide) (by decide)]; exact Int.le_refl _) (hN 4 (by decide) (by decide) (by decide) (by decide)) (fun s _ _ => by rw [hN 1 (by decide) (by decide) (by decide) (by decide)]) (fun s i _ _ _ => by rw [hN 2 (by decide) (by decide) (by decide) (by decide)])⟩
  unfold RelC
  rw [hM 0 (by decide) (by decide) (by decide), h0 1 (by decide) (by decide) (by decide) (by decide) (by decide), h0 9 (by decide) (by decide) (by decide) (by decide) (by decide), h0 10 (by decide) (by decide) (by decide) (by decide) (by decide), hN 4 (by decide) (by decide) (by decide) (by decide)]
  exact h1
theorem ob_join : Ob_join Rel := by
  intro M N w a1 hR i1
  obtain ⟨h1, h2, h3, h4⟩ := id hR
  obtain ⟨⟨c1, c2, c3⟩, c4, c5, c6⟩ := id h1
  obtain ⟨⟨l1, l2, l3⟩, l4, l5, l6⟩ := id h3
  obtain ⟨p1, p2, p3, p4, p5, p6, p7⟩ := id h4
  have in12 : in32 (N 0 12 - 1) := ⟨by omega, by omega⟩
  have in11 : in32 (N 0 11) := by rcases p3 with h | h <;> rw [h] <;> exact xl rfl
  have bad : ¬ (0 ≤ a1 ∧ a1 < M 8 1) → wp_Model_join a1 N (fun r N1 => wp_Model_thrown N1 (fun t => endR Rel 1 w M r N1 t)) := by
    intro h
    have t : wp_Model_join_14 a1 1 N (fun r N1 => wp_Model_thrown N1 (fun t => endR Rel 1 w M r N1 t)) := thr_1 ⟨xl rfl, fun q => absurd q (by decide), fun _ => ⟨up_ss _ _ _ _, ⟨by omega, by omega⟩, fun q => absurd q (by decide), hR.thr 1⟩⟩
    refine ⟨in11, fun _ => ⟨xl rfl, fun q => absurd rfl q, fun _ => t⟩, fun hh => ?_⟩
    have h81 := p6 (by omega)
    exact in_no i1 (xl rfl) in12 (by omega) ⟨xl rfl, fun _ => ⟨xl rfl, fun q => absurd rfl q, fun _ => t⟩, fun q => absurd rfl q⟩
  have in8 : in32 (M 8 1) := ⟨by omega, by omega⟩
  refine ⟨i1, fun h => ⟨rfl, bad (by omega)⟩, fun h => ⟨i1, in8, fun hh => ⟨⟨by omega, by omega⟩, ?_⟩, fun hh => ⟨rfl, bad (by omega)⟩⟩⟩
  have hl : N 0 11 = 1 := by
    rcases p3 with q | q
    · have := p5 q; omega
    · exact q
  have h12 := p6 hl
  obtain ⟨k, hk⟩ : ∃ k : Nat, a1 = k := ⟨a1.toNat, by omega⟩
  subst hk
  rw [Int.toNat_natCast]
  obtain ⟨g1, g2, g3⟩ := p7 k hh
  obtain ⟨⟨v1, v2, v3⟩, ⟨v4, v5⟩, v6, v7⟩ := g2
  obtain ⟨a, ea⟩ : ∃ a : Nat, N 8 (6 * k) = a := ⟨(N 8 (6 * k)).toNat, by omega⟩
  obtain ⟨i, ei⟩ : ∃ i : Nat, N 8 (6 * k + 1) = i := ⟨(N 8 (6 * k + 1)).toNat, by omega⟩
  obtain ⟨b, eb⟩ : ∃ b : Nat, N 8 (6 * k + 2) = b := ⟨(N 8 (6 * k + 2)).toNat, by omega⟩
  obtain ⟨j, ej⟩ : ∃ j : Nat, N 8 (6 * k + 3) = j := ⟨(N 8 (6 * k + 3)).toNat, by omega⟩
  rw [ea] at v1 v4
  rw [ea, eb] at v2
  rw [eb] at v3 v5
  rw [ea, ei, eb, ej] at g3
  rw [ei, ea] at v6
  rw [ej, eb] at v7
  rw [Int.toNat_natCast] at v4 v6 v5 v7
  simp only [Int.toNat_natCast] at g3
  have ha6 : a < 6 := by omega
  have hb6 : b < 6 := by omega
  have hab : a < b := by omega
  have sza : i < szN N a := by unfold szN; omega
  have szb : j < szN N b := by unfold szN; omega
  have sa28 : szN N a ≤ 28 := by have := (h2 a ha6).1.1; unfold szN; omega
  have sb28 : szN N b ≤ 28 := by have := (h2 b hb6).1.1; unfold szN; omega
  obtain ⟨p, ep⟩ : ∃ p, p = 10 + (M 9 k).toNat % 101 := ⟨_, rfl⟩
  rw [← ep]
  have ep2 : pK M k = p := ep.symm
  rw [ep2] at g1 g3
  have prg : 10 ≤ p ∧ p < 111 := by omega
  have f0 : M p 0 = a := by rw [g1 0 (by omega)]; exact ea
  have f1 : M p 1 = i := by rw [g1 1 (by omega)]; exact ei
  have f2 : M p 2 = b := by rw [g1 2 (by omega)]; exact eb
  have f3 : M p 3 = j := by rw [g1 3 (by omega)]; exact ej
  have f6 : M p 6 = qN N a i b j := g3
  obtain ⟨P, hP⟩ : ∃ P, P = N 10 := ⟨_, rfl⟩
  rw [← hP] at l4 l5
  obtain ⟨la1, la2, la3, la4⟩ := l4 a ha6
  obtain ⟨lb1, lb2, lb3, lb4⟩ := l4 b hb6
  have lo1 := l5.1
  have hq03 : ∀ s, s < 6 → 0 ≤ P (4 * s + 2) ∧ P (4 * s + 2) ≤ 3 := fun s hs => (lo1 s hs).1
  have h3in : ∀ s, s < 6 → in32 (P (4 * s + 3)) := fun s hs => by have := (lo1 s hs).2.1; exact ⟨by omega, by omega⟩
  obtain ⟨q', hq'⟩ : ∃ q', q' = (P (4 * a + 2) + qN N a i b j) % 4 := ⟨_, rfl⟩
  have q03 : 0 ≤ q' ∧ q' ≤ 3 := by omega
  obtain ⟨X, hX⟩ : ∃ X, X = P (4 * a) + rotX (P (4 * a + 2)) (ex M a i) (ey M a i) - rotX q' (ex M b (j + 1)) (ey M b (j + 1)) := ⟨_, rfl⟩
  obtain ⟨Y, hY⟩ : ∃ Y, Y = P (4 * a + 1) + rotY (P (4 * a + 2)) (ex M a i) (ey M a i) - rotY q' (ex M b (j + 1)) (ey M b (j + 1)) := ⟨_, rfl⟩
  have pxa : PX M a i = P (4 * a) + rotX (P (4 * a + 2)) (ex M a i) (ey M a i) := by unfold PX; rw [la1, la3]; rfl
  have pya : PY M a i = P (4 * a + 1) + rotY (P (4 * a + 2)) (ex M a i) (ey M a i) := by unfold PY; rw [la2, la3]; rfl
  have pola := (h2 a ha6).1.2.2.2.2.1
  have polb := (h2 b hb6).1.2.2.2.2.1
  have lowa := @cx_low _ _ _ _ pola i (by show i ≤ szN N a; omega)
  have lowb := @cx_low _ _ _ _ polb (j + 1) (by show j + 1 ≤ szN N b; omega)
  have inX : -1000 ≤ X ∧ X ≤ 1000 ∧ -1000 ≤ Y ∧ Y ≤ 1000 := by
    have s1 := l5.small ha6
    have r1 := rot_small (q := P (4 * a + 2)) (x := ex M a i) (y := ey M a i) (B := 28) ⟨by show -28 ≤ M (114 + 10 * a + 3) i; omega, by show M (114 + 10 * a + 3) i ≤ 28; omega⟩ ⟨by show -28 ≤ M (114 + 10 * a + 4) i; omega, by show M (114 + 10 * a + 4) i ≤ 28; omega⟩
    have r2 := rot_small (q := q') (x := ex M b (j + 1)) (y := ey M b (j + 1)) (B := 28) ⟨by show -28 ≤ M (114 + 10 * b + 3) (j + 1); omega, by show M (114 + 10 * b + 3) (j + 1) ≤ 28; omega⟩ ⟨by show -28 ≤ M (114 + 10 * b + 4) (j + 1); omega, by show M (114 + 10 * b + 4) (j + 1) ≤ 28; omega⟩
    omega
  -- the reference's way to its first fork
  have refer : ∀ Post : Int → Mem → Prop, (∀ N3 : Mem, (∀ r, r ≠ 0 → r ≠ 12 → N3 r = N r) → (∀ t, t ≠ 0 → t ≠ 19 → t ≠ 20 → N3 0 t = N 0 t) → N3 0 0 = 0 → (∀ t, t < 24 → t ≠ 4 * b → t ≠ 4 * b + 1 → t ≠ 4 * b + 2 → N3 12 t = P t) → N3 12 (4 * b) = X → N3 12 (4 * b + 1) = Y → N3 12 (4 * b + 2) = q' → (P (4 * a + 3) ≠ P (4 * b + 3) → wp_Model_moveTree b (P (4 * a + 3)) N3 (fun M_4 => ((0 ≤ ((4 * (b : Int)) + 3) ∧ ((4 * (b : Int)) + 3) < 24) ∧ (wp_Model_fits (M_4 12 ((4 * (b : Int)) + 3).toNat) M_4 (fun r_5 M_6 => (in32 r_5 ∧ (¬ r_5 = 0 → ∃ nn, wp_Model_join_215 Post nn 0 M_6) ∧ (r_5 = 0 → Post 1 M_6))))))) ∧ (P (4 * a + 3) = P (4 * b + 3) → (X = P (4 * b) ∧ Y = P (4 * b + 1) ∧ q' = P (4 * b + 2) → Post 3 N3) ∧ (¬ (X = P (4 * b) ∧ Y = P (4 * b + 1) ∧ q' = P (4 * b + 2)) → Post 2 N3))) → wp_Model_join k N Post := by
    intro Post hfork
    refine ⟨in11, fun q => absurd q (by omega), fun _ => in_yes i1 (xl rfl) in12 ⟨by omega, by omega⟩ ⟨xl rfl, fun q => absurd q (by decide), fun _ => ⟨xl rfl, fun _ => thr_no ⟨xl rfl, fun _ => ⟨⟨by omega, by omega⟩, fun w2 hw2 => ⟨⟨by omega, by omega⟩, fun w3 hw3 => ?_⟩⟩, fun q => absurd rfl q⟩, fun q => absurd q (by decide)⟩⟩⟩
    rw [up_ne (by decide), show (6 * (k : Int)).toNat = 6 * k by omega, ea] at hw2
    rw [up_ne (by decide), show (6 * (k : Int) + 2).toNat = 6 * k + 2 by omega, eb] at hw3
    rw [hw2, hw3]
    refine copy24 (fun N2 s1 s2 => ?_)
    have t1 : ∀ r, r ≠ 0 → r ≠ 12 → N2 r = N r := fun r r0 r12 => by rw [s1 r r12, up_ne r0]
    have t0 : ∀ t, t ≠ 0 → N2 0 t = N 0 t := fun t ht => by rw [s1 0 (by decide), up_nj ht]
    have t00 : N2 0 0 = 0 := by rw [s1 0 (by decide), up_ss]
    have t12 : ∀ i, i < 24 → N2 12 i = P i := fun i hi => by rw [s2 i hi, up_ne (by decide), hP]
    have hE2 : RelE M N2 := h2.same (fun _ _ _ _ => rfl) (fun r x y => t1 r (by omega) (by omega)) (t0 1 (by decide))
    have t8 : N2 8 = N 8 := t1 8 (by decide) (by decide)
    have t10 : N2 10 = P := by rw [t1 10 (by decide) (by decide), hP]
    have eqn : qN N2 a i b j = qN N a i b j := by unfold qN dN; rw [t1 2 (by decide) (by decide)]
    have eszn : ∀ s, szN N2 s = szN N s := fun s => by unfold szN; rw [t1 1 (by decide) (by decide)]
    unfold join_fin
    rw [show 6 * (k : Int) = ((6 * k : Nat) : Int) by omega]
    refine aim_ok hE2 (by omega) (by rw [t8]; exact ea) (by rw [t8]; exact ei) (by rw [t8]; exact eb) (by rw [t8]; exact ej) ha6 hb6 (by rw [eszn]; exact sza) (by rw [eszn]; exact szb) (by rw [t10]; exact hq03 a ha6) q' (by rw [t10, eqn]; exact hq') (fun N3 u1 u2 u3 u4 u5 u6 => ?_)
    rw [t10, ← hX] at u4
    rw [t10, ← hY] at u5
    have ia3 : (4 * (a : Int) + 3).toNat = 4 * a + 3 := by omega
    have ib3 : (4 * (b : Int) + 3).toNat = 4 * b + 3 := by omega
    have ib0 : (4 * (b : Int)).toNat = 4 * b := by omega
    have ib1 : (4 * (b : Int) + 1).toNat = 4 * b + 1 := by omega
    have ib2 : (4 * (b : Int) + 2).toNat = 4 * b + 2 := by omega
    have e10 : N3 10 = P := by rw [u1 10 (by decide) (by decide)]; exact t10
    obtain ⟨k1, k2⟩ := hfork N3 (fun r r0 r12 => by rw [u1 r r0 r12]; exact t1 r r0 r12) (fun t z0 z1 z2 => by rw [u2 t z1 z2]; exact t0 t z0) (by rw [u2 0 (by decide) (by decide)]; exact t00) (fun t ht z0 z1 z2 => by rw [u3 t z0 z1 z2]; exact t12 t ht) u4 u5 u6
    refine ⟨⟨by omega, by omega⟩, ⟨by omega, by omega⟩, ?_⟩
    rw [ia3, ib3, ib0, ib1, ib2, e10, u4, u5, u6]
    have sb := l5.small hb6
    have qb := hq03 b hb6
    refine ⟨h3in a ha6, h3in b hb6, fun q => ⟨⟨by omega, by omega⟩, ?_⟩, fun q => ⟨⟨by omega, by omega⟩, ⟨by omega, by omega⟩, ⟨by omega, by omega⟩, ⟨by omega, by omega⟩, fun z => (k2 q).2 (fun y => z y.1), fun z => ⟨⟨by omega, by omega⟩, ⟨by omega, by omega⟩, ⟨by omega, by omega⟩, ⟨by omega, by omega⟩, fun z1 => (k2 q).2 (fun y => z1 y.2.1), fun z1 => ⟨⟨by omega, by omega⟩, ⟨by omega, by omega⟩, ⟨by omega, by omega⟩, ⟨by omega, by omega⟩, fun z2 => (k2 q).2 (fun y => z2 y.2.2), fun z2 => (k2 q).1 ⟨z, z1, z2⟩⟩⟩⟩⟩
    have := k1 q
    rw [ib3] at this
    exact this
  -- the class's way
  dsimp only
  rw [f0, f1, f2, f3, f6]
  refine ⟨⟨by omega, by omega⟩, fun k3 hk3 => ⟨⟨by omega, by omega⟩, fun w4 hw4 => ⟨⟨by omega, by omega⟩, fun w5 hw5 => ⟨⟨by omega, by omega⟩, fun w6 hw6 => ⟨⟨by omega, by omega⟩, ?_⟩⟩⟩⟩⟩
  rw [Int.toNat_natCast] at hk3
  subst hk3
  rw [Int.toNat_natCast, la3, ← hq'] at hw4
  rw [show ((j : Int) + 1).toNat = j + 1 by omega] at hw5 hw6
  rw [hw4, Int.toNat_natCast]
  refine placedX_ok ha6 (by omega) (by rw [la3]; exact hq03 a ha6) (turnX_ok q03 (fun w7 hw7 => ⟨⟨by omega, by omega⟩, placedY_ok ha6 (by omega) (by rw [la3]; exact hq03 a ha6) (turnY_ok q03 (fun w8 hw8 => ⟨⟨by omega, by omega⟩, ⟨by omega, by omega⟩, ?_⟩))⟩))
  have w7X : w7 = X := by rw [hw7, pxa, hw5, hw6, hX]; rfl
  have w8Y : w8 = Y := by rw [hw8, pya, hw5, hw6, hY]; rfl
  rw [w7X, w8Y, Int.toNat_natCast, la4, lb4]
  refine ⟨h3in a ha6, h3in b hb6, fun hne => ?_, fun heq => ?_⟩
  · -- two trees meet
    obtain ⟨J, eJ⟩ : ∃ J : Nat, N 0 17 = J := ⟨(N 0 17).toNat, by omega⟩
    rw [eJ] at l5
    obtain ⟨t, ht⟩ : ∃ t, t = (q' - P (4 * b + 2)) % 4 := ⟨_, rfl⟩
    have t03 : 0 ≤ t ∧ t ≤ 3 := by omega
    have qb := hq03 b hb6
    have comp : (P (4 * b + 2) + t) % 4 = q' := by omega
    have rc := rot_comp qb t03 (ex M b (j + 1)) (ey M b (j + 1))
    rw [comp] at rc
    have radd := rot_add t (P (4 * b)) (P (4 * b + 1)) (rotX (P (4 * b + 2)) (ex M b (j + 1)) (ey M b (j + 1))) (rotY (P (4 * b + 2)) (ex M b (j + 1)) (ey M b (j + 1)))
    obtain ⟨P', hP'⟩ : ∃ P', P' = newP P (P (4 * a + 3)) (P (4 * b + 3)) t (X - rotX t (P (4 * b)) (P (4 * b + 1))) (Y - rotY t (P (4 * b)) (P (4 * b + 1))) := ⟨_, rfl⟩
    obtain ⟨hLJ, hJ4⟩ := l5.join (ka := i) (kb := j + 1) (t := t) (sx := X - rotX t (P (4 * b)) (P (4 * b + 1))) (sy := Y - rotY t (P (4 * b)) (P (4 * b + 1))) ha6 hb6 v4 v5 hne t03 (by show i ≤ szN N a; omega) (by show j + 1 ≤ szN N b; omega) (by rw [radd.1, ← rc.1, hX]; omega) (by rw [radd.2, ← rc.2, hY]; omega)
    rw [← hP'] at hLJ
    obtain ⟨T, hT⟩ : ∃ T : Nat, P' (4 * a + 3) = T := ⟨(P' (4 * a + 3)).toNat, by have := (hLJ.1 a ha6).2.1; omega⟩
    have hTb : P' (4 * b + 3) = T := by
      rw [← hT, hP', newP_3, newP_3, if_pos (Or.inr rfl), if_pos (Or.inl rfl)]
    have hT6 : T < 6 := by have := (hLJ.1 a ha6).2.1; omega
    -- the reference's second half
    have half : ∀ Post : Int → Mem → Prop, ((¬ ∃ s t, t < s ∧ s < 6 ∧ P' (4 * s + 3) = T ∧ P' (4 * t + 3) = T ∧ Ov N P' s t) → ∀ N' : Mem, (∀ r, r ≠ 0 → r ≠ 10 → r ≠ 11 → r ≠ 12 → N' r = N r) → (∀ j, j ≠ 0 → j ≠ 17 → j ≠ 19 → j ≠ 20 → N' 0 j = N 0 j) → N' 0 0 = 0 → N' 0 17 = (J : Int) + 1 → (∀ i, i < 24 → N' 10 i = P' i) → (∀ i, N' 11 i = if 24 * J ≤ i ∧ i < 24 * J + 24 then P (i - 24 * J) else N 11 i) → Post 0 N') → ((∃ s t, t < s ∧ s < 6 ∧ P' (4 * s + 3) = T ∧ P' (4 * t + 3) = T ∧ Ov N P' s t) → ∀ N' : Mem, (∀ r, r ≠ 0 → r ≠ 12 → N' r = N r) → (∀ j, j ≠ 0 → j ≠ 19 → j ≠ 20 → N' 0 j = N 0 j) → N' 0 0 = 0 → Post 1 N') → wp_Model_join k N Post := by
      intro Post k0 k1
      refine refer Post (fun N3 u1 u2 u00 u3 u4 u5 u6 => ⟨fun _ => ?_, fun q => absurd q hne⟩)
      have e10 : N3 10 = P := by rw [u1 10 (by decide) (by decide), hP]
      obtain ⟨ns, ens⟩ : ∃ ns : Nat, N 0 1 = ns := ⟨(N 0 1).toNat, by omega⟩
      have hcl : ∀ s, s < 6 → N 4 s = 1 → s < ns := fun s hs hc => by
        obtain ⟨⟨z1, z2, z3, z4, z5, z6⟩, -, z7⟩ := h2 s hs
        have y1 := (z6 hc).1
        by_cases q : s < ns
        · exact q
        · have := z7 (by omega); omega
      refine move_ok (ns := ns) (ta := P (4 * a + 3)) (t := t) (X := X) (Y := Y) (by rw [u2 1 (by decide) (by decide) (by decide)]; exact ens) (by omega) (by omega) u4 u5 (by rw [u6, e10]; exact ht) (fun i hi z0 z1 z2 => by rw [u3 i hi z0 z1 z2, e10]) (fun s hs => by rw [e10]; exact h3in s hs) (h3in a ha6) (fun s hs1 hs2 => ?_) (fun N4 w1 w2 w3 => ?_)
      · rw [e10]
        have no : ¬ N 4 s = 1 := fun q => by have := hcl s hs2 q; omega
        exact ⟨fun q => no (l5.kin ha6 hs2 v4 q), fun q => no (l5.kin hb6 hs2 v5 q)⟩
      · rw [e10, ← hP'] at w3
        have x1 : ∀ r, r ≠ 0 → r ≠ 12 → N4 r = N r := fun r z0 z1 => by rw [w1 r z0 z1]; exact u1 r z0 z1
        have x0 : ∀ j, j ≠ 0 → j ≠ 19 → j ≠ 20 → N4 0 j = N 0 j := fun j z0 z1 z2 => by rw [w2 j z1 z2]; exact u2 j z0 z1 z2
        have x00 : N4 0 0 = 0 := by rw [w2 0 (by decide) (by decide)]; exact u00
        have ib3 : (4 * (b : Int) + 3).toNat = 4 * b + 3 := by omega
        refine ⟨⟨by omega, by omega⟩, ?_⟩
        rw [ib3, w3 _ (by omega), hTb]
        refine fits_ok (ns := ns) (by rw [x0 1 (by decide) (by decide) (by decide)]; exact ens) (by omega) ⟨by omega, by omega⟩ (fun s hs => ?_) (fun s hs hm => ?_) (fun r pa pb hr hiff => ?_)
        · rw [w3 _ (by omega)]
          have := (hLJ.1 s hs).2.1
          exact ⟨by omega, by omega⟩
        · rw [w3 _ (by omega)] at hm
          have cs : N 4 s = 1 := hLJ.kin ha6 hs v4 (by rw [hm, hT])
          obtain ⟨-, z7, -⟩ := h2 s hs
          obtain ⟨y1, y2, y3⟩ := z7.2 cs
          refine ⟨by rw [x1 5 (by decide) (by decide)]; exact y1, by rw [w3 _ (by omega)]; exact (hLJ.1 s hs).1, fun i hi => ?_⟩
          rw [x1 5 (by decide) (by decide)] at hi
          have hwn := y2 i hi
          obtain ⟨⟨z1, z2, z3, z4, z5, z6⟩, -⟩ := h2 s hs
          obtain ⟨g1', g2', g3'⟩ := z6 cs
          have hin := wn_in z5 ⟨g2'.1, g2'.2.1⟩ (by omega) (show wn (N 1 s).toNat (M (114 + 10 * s + 1)) (M (114 + 10 * s + 3)) (M (114 + 10 * s + 4)) (N 6 (49 * s + i)) (N 7 (49 * s + i)) ≠ 0 by rw [hwn]; decide)
          have sm' := hLJ.small hs
          have qq := (hLJ.1 s hs).1
          unfold CX CY
          rw [w3 (4 * s) (by omega), w3 (4 * s + 1) (by omega), w3 (4 * s + 2) (by omega), x1 6 (by decide) (by decide), x1 7 (by decide) (by decide)]
          unfold crX crY
          refine ⟨⟨?_, ?_⟩, ?_, ?_⟩ <;> (repeat' split) <;> omega
        · have ovi : (∀ s t, t < s → s < ns → N4 12 (4 * s + 3) = T → N4 12 (4 * t + 3) = T → ¬ Ov N4 (N4 12) s t) ↔ ¬ ∃ s t, t < s ∧ s < 6 ∧ P' (4 * s + 3) = T ∧ P' (4 * t + 3) = T ∧ Ov N P' s t := by
            constructor
            · intro hall ⟨s, t, z1, z2, z3, z4, z5⟩
              have cs : N 4 s = 1 := hLJ.kin ha6 z2 v4 (by rw [z3, hT])
              have sn := hcl s z2 cs
              refine hall s t z1 sn (by rw [w3 _ (by omega)]; exact z3) (by rw [w3 _ (by omega)]; exact z4) ?_
              exact (Ov_same (x1 5 (by decide) (by decide)) (x1 6 (by decide) (by decide)) (x1 7 (by decide) (by decide)) w3 z2 (by omega)).mpr z5
            · intro hno s t z1 z2 z3 z4 z5
              refine hno ⟨s, t, z1, by omega, by rw [← w3 _ (by omega)]; exact z3, by rw [← w3 _ (by omega)]; exact z4, ?_⟩
              exact (Ov_same (x1 5 (by decide) (by decide)) (x1 6 (by decide) (by decide)) (x1 7 (by decide) (by decide)) w3 (by omega) (by omega)).mp z5
          rw [ovi] at hiff
          refine ⟨by rcases hr with z | z <;> rw [z] <;> exact xl rfl, fun z => ?_, fun z => ?_⟩
          · refine store24 (J := J) (by rw [pp_0 (by decide) (by decide), x0 17 (by decide) (by decide) (by decide)]; exact eJ) (by omega) (fun N' y1 y2 y3 y4 y5 => ?_)
            refine k0 (hiff.mp (hr.resolve_left z)) N' (fun r r0 r10 r11 r12 => by rw [y1 r r0 r10 r11, pp_r r0]; exact x1 r r0 r12) (fun j j0 j17 j19 j20 => by rw [y2 j j17, pp_0 j19 j20]; exact x0 j j0 j19 j20) (by rw [y2 0 (by decide), pp_0 (by decide) (by decide)]; exact x00) y3 (fun i hi => by rw [y4 i hi, pp_r (by decide)]; exact w3 i hi) (fun i => ?_)
            rw [y5 i, pp_r (by decide), pp_r (by decide), x1 10 (by decide) (by decide), x1 11 (by decide) (by decide), hP]
          · have hyes : ∃ s t, t < s ∧ s < 6 ∧ P' (4 * s + 3) = T ∧ P' (4 * t + 3) = T ∧ Ov N P' s t := by
              by_cases q : ∃ s t, t < s ∧ s < 6 ∧ P' (4 * s + 3) = T ∧ P' (4 * t + 3) = T ∧ Ov N P' s t
              · exact q
              · have := hiff.mpr q; omega
            exact k1 hyes _ (fun r r0 r12 => by rw [pp_r r0]; exact x1 r r0 r12) (fun j j0 j19 j20 => by rw [pp_0 j19 j20]; exact x0 j j0 j19 j20) (by rw [pp_0 (by decide) (by decide)]; exact x00)
    refine tryC h2 l4 (by rw [l1]; exact eJ) (by omega) prg f0 f2 ha6 hb6 v4 hq03 h3in ht P' hP' hLJ T hT (fun hno M' m1 m2 m3 m4 m5 => ?_) (fun hyes M' m1 m5 => ?_)
    · refine half _ (fun _ N' n1 n2 n00 n3 n4 n5 => ?_) (fun q => absurd q hno)
      refine ⟨n00, ⟨by omega, by omega⟩, fun _ => rfl, ?_, ?_, ?_, ?_⟩
      · unfold RelC
        rw [m2 5 (by decide), m2 6 (by decide), m2 8 (by decide), m2 9 (by decide), n2 1 (by decide) (by decide) (by decide) (by decide), n2 9 (by decide) (by decide) (by decide) (by decide), n2 10 (by decide) (by decide) (by decide) (by decide), n1 4 (by decide) (by decide) (by decide) (by decide)]
        exact h1
      · exact h2.same (fun s j hs hj => m1 _ (by omega) (by omega) (by omega) (by omega) (by omega)) (fun r x y => n1 r (by omega) (by omega) (by omega) (by omega)) (n2 1 (by decide) (by decide) (by decide) (by decide))
      · have hedge : ∀ s, s < 6 → N' 4 s = 1 → ex M' s = ex M s ∧ ey M' s = ey M s ∧ N' 1 s = N 1 s := fun s hs _ => ⟨m1 _ (by omega) (by omega) (by omega) (by omega) (by omega), m1 _ (by omega) (by omega) (by omega) (by omega) (by omega), by rw [n1 1 (by decide) (by decide) (by decide) (by decide)]⟩
        rw [n1 4 (by decide) (by decide) (by decide) (by decide)] at hedge
        refine ⟨⟨by rw [m3, n3], by rw [n3]; omega, by rw [n3]; omega⟩, fun s hs => ?_, ?_, fun jj hjj => ?_⟩
        · obtain ⟨z1, z2, z3, z4⟩ := m5 s hs
          rw [n4 _ (by omega), n4 _ (by omega), n4 _ (by omega), n4 _ (by omega)]
          exact ⟨z1, z2, z3, z4⟩
        · rw [n3, n1 4 (by decide) (by decide) (by decide) (by decide)]
          exact LayOK.at (hLJ.edges hedge) n4
        · rw [n3] at hjj
          rw [n1 4 (by decide) (by decide) (by decide) (by decide)]
          by_cases zj : jj = J
          · subst zj
            refine ⟨fun s hs => ?_, LayOK.at (l5.edges hedge) (fun i hi => ?_)⟩
            · obtain ⟨z1, z2, z3, z4⟩ := l4 s hs
              dsimp only
              rw [m4 s 1 hs (by omega) (by omega), m4 s 2 hs (by omega) (by omega), m4 s 3 hs (by omega) (by omega), m4 s 4 hs (by omega) (by omega), n5, if_pos (by omega), n5, if_pos (by omega), n5, if_pos (by omega), n5, if_pos (by omega)]
              rw [show 24 * jj + 4 * s - 24 * jj = 4 * s by omega, show 24 * jj + (4 * s + 1) - 24 * jj = 4 * s + 1 by omega, show 24 * jj + (4 * s + 2) - 24 * jj = 4 * s + 2 by omega, show 24 * jj + (4 * s + 3) - 24 * jj = 4 * s + 3 by omega]
              exact ⟨z1, z2, z3, z4⟩
            · show N' 11 (24 * jj + i) = P i
              rw [n5, if_pos (by omega)]
              congr 1
              omega
          · obtain ⟨z1, z2⟩ := l6 jj (by omega)
            have same11 : ∀ i, i < 24 → N' 11 (24 * jj + i) = N 11 (24 * jj + i) := fun i hi => by rw [n5, if_neg (by omega)]
            refine ⟨fun s hs => ?_, LayOK.at (z2.edges hedge) same11⟩
            obtain ⟨y1, y2, y3, y4⟩ := z1 s hs
            dsimp only
            rw [same11 _ (by omega), same11 _ (by omega), same11 _ (by omega), same11 _ (by omega), m1 (119 + 10 * jj + 1) (by omega) (by omega) (by omega) (by omega) (by omega), m1 (119 + 10 * jj + 2) (by omega) (by omega) (by omega) (by omega) (by omega), m1 (119 + 10 * jj + 3) (by omega) (by omega) (by omega) (by omega) (by omega), m1 (119 + 10 * jj + 4) (by omega) (by omega) (by omega) (by omega) (by omega)]
            exact ⟨y1, y2, y3, y4⟩
      · exact h4.same c3 (by rw [m1 8 (by decide) (by omega) (by decide) (by decide) (by omega)]) (m1 9 (by decide) (by omega) (by decide) (by decide) (by omega)) (fun k x y => m1 k (by omega) (by omega) (by omega) (by omega) (by omega)) (n2 11 (by decide) (by decide) (by decide) (by decide)) (n2 12 (by decide) (by decide) (by decide) (by decide)) (n1 8 (by decide) (by decide) (by decide) (by decide)) (by rw [n2 1 (by decide) (by decide) (by decide) (by decide)]; exact Int.le_refl _) (n1 4 (by decide) (by decide) (by decide) (by decide)) (fun s _ _ => by rw [n1 1 (by decide) (by decide) (by decide) (by decide)]) (fun s i _ _ _ => by rw [n1 2 (by decide) (by decide) (by decide) (by decide)])
    · refine half _ (fun q => absurd hyes q) (fun _ N' n1 n2 n00 => ?_)
      have hmid : Rel M N' := hR.scr (fun _ _ _ _ => rfl) (fun r r0 r9 r12 r13 => n1 r r0 r12) (fun j j0 j19 j20 j22 j23 => n2 j j0 j19 j20)
      refine ⟨n00, ⟨by omega, by omega⟩, fun _ => rfl, ?_⟩
      obtain ⟨q1, q2, q3, q4⟩ := hmid
      obtain ⟨r1, r2, r3, r4⟩ := q3
      have e10 : N' 10 = P := by rw [n1 10 (by decide) (by decide), hP]
      refine ⟨?_, q2.same (fun s j hs hj => m1 _ (by omega) (by omega) (by omega) (by omega)) (fun _ _ _ => rfl) rfl, ⟨by rw [m1 0 (by omega) (by omega) (by omega) (by omega)]; exact r1, by rw [e10]; exact m5, r3.edges (fun s hs _ => ⟨m1 _ (by omega) (by omega) (by omega) (by omega), m1 _ (by omega) (by omega) (by omega) (by omega), rfl⟩), fun jj hjj => ?_⟩, q4.same q1.1.2.2 (by rw [m1 8 (by omega) (by omega) (by omega) (by omega)]) (m1 9 (by omega) (by omega) (by omega) (by omega)) (fun k x y => m1 k (by omega) (by omega) (by omega) (by omega)) rfl rfl rfl (Int.le_refl _) rfl (fun _ _ _ => rfl) (fun _ _ _ _ _ => rfl)⟩
      · unfold RelC
        rw [m1 0 (by omega) (by omega) (by omega) (by omega)]
        exact q1
      · obtain ⟨z1, z2⟩ := r4 jj hjj
        have hjJ : jj < J := by
          have : N' 0 17 = J := by rw [n2 17 (by decide) (by decide) (by decide)]; exact eJ
          omega
        exact ⟨z1.same (fun c x y => m1 _ (by omega) (by omega) (by omega) (by omega)), z2.edges (fun s hs _ => ⟨m1 _ (by omega) (by omega) (by omega) (by omega), m1 _ (by omega) (by omega) (by omega) (by omega), rfl⟩)⟩
  · -- within one tree
    have sb := l5.small hb6
    have qb := hq03 b hb6
    have fin : ∀ (v : Int), (v = 3 ∧ (X = P (4 * b) ∧ Y = P (4 * b + 1) ∧ q' = P (4 * b + 2))) ∨ (v = 2 ∧ ¬ (X = P (4 * b) ∧ Y = P (4 * b + 1) ∧ q' = P (4 * b + 2))) → wp_Model_join k N (fun r N1 => wp_Model_thrown N1 (fun t => endR Rel 0 (toL v) M r N1 t)) := by
      intro v hv
      refine refer _ (fun N3 u1 u2 u00 u3 u4 u5 u6 => ⟨fun q => absurd heq q, fun _ => ⟨fun y => ?_, fun y => ?_⟩⟩)
      · refine ⟨u00, ⟨by omega, by omega⟩, fun _ => toL_eq ?_, hR.scr (fun _ _ _ _ => rfl) (fun r r0 r9 r12 r13 => u1 r r0 r12) (fun j j0 j19 j20 j22 j23 => u2 j j0 j19 j20)⟩
        rcases hv with z | z
        · exact z.1
        · exact absurd y z.2
      · refine ⟨u00, ⟨by omega, by omega⟩, fun _ => toL_eq ?_, hR.scr (fun _ _ _ _ => rfl) (fun r r0 r9 r12 r13 => u1 r r0 r12) (fun j j0 j19 j20 j22 j23 => u2 j j0 j19 j20)⟩
        rcases hv with z | z
        · exact absurd z.2 y
        · exact z.1
    have two : ¬ (X = P (4 * b) ∧ Y = P (4 * b + 1) ∧ q' = P (4 * b + 2)) → in32 (0 : Int) ∧ ((0 : Int) = 0 → wp_Model_join k N (fun r N1 => wp_Model_thrown N1 (fun t => endR Rel 0 (toL 2) M r N1 t))) ∧ (¬ (0 : Int) = 0 → wp_Model_join k N (fun r N1 => wp_Model_thrown N1 (fun t => endR Rel 0 (toL 3) M r N1 t))) := fun y => ⟨xl rfl, fun _ => fin 2 (Or.inr ⟨rfl, y⟩), fun z => absurd rfl z⟩
    refine ⟨⟨by omega, by omega⟩, ?_⟩
    rw [Int.toNat_natCast, lb1, lb2, lb3]
    refine ⟨⟨by omega, by omega⟩, ⟨by omega, by omega⟩, fun z => two (fun y => z y.1.symm), fun z => ⟨⟨by omega, by omega⟩, ⟨by omega, by omega⟩, ⟨by omega, by omega⟩, fun z1 => two (fun y => z1 y.2.1.symm), fun z1 => ⟨⟨by omega, by omega⟩, ⟨by omega, by omega⟩, ⟨by omega, by omega⟩, fun z2 => two (fun y => z2 y.2.2.symm), fun z2 => ⟨xl rfl, fun y => absurd y (by decide), fun _ => fin 3 (Or.inl ⟨rfl, z.symm, z1.symm, z2.symm⟩)⟩⟩⟩⟩
