/-! JOIN -/
def join_fin (Post : Int → Mem → Prop) (x1 x2 x3 : Int) (M0 : Mem) : Prop := (wp_Model_aim (6 * x1) M0 (fun M_2 => ((0 ≤ ((4 * x2) + 3) ∧ ((4 * x2) + 3) < 24) ∧ ((0 ≤ ((4 * x3) + 3) ∧ ((4 * x3) + 3) < 24) ∧ (in32 (M_2 10 ((4 * x2) + 3).toNat) ∧ (in32 (M_2 10 ((4 * x3) + 3).toNat) ∧ (¬ (M_2 10 ((4 * x2) + 3).toNat) = (M_2 10 ((4 * x3) + 3).toNat) → ((0 ≤ ((4 * x2) + 3) ∧ ((4 * x2) + 3) < 24) ∧ (wp_Model_moveTree x3 (M_2 10 ((4 * x2) + 3).toNat) M_2 (fun M_4 => ((0 ≤ ((4 * x3) + 3) ∧ ((4 * x3) + 3) < 24) ∧ (wp_Model_fits (M_4 12 ((4 * x3) + 3).toNat) M_4 (fun r_5 M_6 => (in32 r_5 ∧ (¬ r_5 = 0 → ∃ nn, wp_Model_join_215 Post nn 0 M_6) ∧ (r_5 = 0 → Post 1 M_6))))))))) ∧ ((M_2 10 ((4 * x2) + 3).toNat) = (M_2 10 ((4 * x3) + 3).toNat) → ((0 ≤ (4 * x3) ∧ (4 * x3) < 24) ∧ ((0 ≤ (4 * x3) ∧ (4 * x3) < 24) ∧ (in32 (M_2 12 (4 * x3).toNat) ∧ (in32 (M_2 10 (4 * x3).toNat) ∧ (¬ (M_2 12 (4 * x3).toNat) = (M_2 10 (4 * x3).toNat) → Post 2 M_2) ∧ ((M_2 12 (4 * x3).toNat) = (M_2 10 (4 * x3).toNat) → ((0 ≤ ((4 * x3) + 1) ∧ ((4 * x3) + 1) < 24) ∧ ((0 ≤ ((4 * x3) + 1) ∧ ((4 * x3) + 1) < 24) ∧ (in32 (M_2 12 ((4 * x3) + 1).toNat) ∧ (in32 (M_2 10 ((4 * x3) + 1).toNat) ∧ (¬ (M_2 12 ((4 * x3) + 1).toNat) = (M_2 10 ((4 * x3) + 1).toNat) → Post 2 M_2) ∧ ((M_2 12 ((4 * x3) + 1).toNat) = (M_2 10 ((4 * x3) + 1).toNat) → ((0 ≤ ((4 * x3) + 2) ∧ ((4 * x3) + 2) < 24) ∧ ((0 ≤ ((4 * x3) + 2) ∧ ((4 * x3) + 2) < 24) ∧ (in32 (M_2 12 ((4 * x3) + 2).toNat) ∧ (in32 (M_2 10 ((4 * x3) + 2).toNat) ∧ (¬ (M_2 12 ((4 * x3) + 2).toNat) = (M_2 10 ((4 * x3) + 2).toNat) → Post 2 M_2) ∧ ((M_2 12 ((4 * x3) + 2).toNat) = (M_2 10 ((4 * x3) + 2).toNat) → Post 3 M_2))))))))))))))))))))))
theorem copy24 {N : Mem} {Post : Int → Mem → Prop} {x1 x2 x3 : Int} (h : ∀ N' : Mem, (∀ r, r ≠ 12 → N' r = N r) → (∀ i, i < 24 → N' 12 i = N 10 i) → join_fin Post x1 x2 x3 N') : ∃ nn, wp_Model_join_49 Post nn x1 x2 x3 0 N := by
  have loop : ∀ f i : Nat, i + f = 24 → ∀ Nc : Mem, (∀ r, r ≠ 12 → Nc r = N r) → (∀ k, k < i → Nc 12 k = N 10 k) → wp_Model_join_49 Post (f + 1) x1 x2 x3 i Nc := by
    intro f
    induction f with
    | zero =>
      intro i hi Nc a b
      exact ⟨⟨by omega, by omega⟩, fun _ => h Nc a (fun k hk => b k (by omega)), fun z => absurd (show (24 : Int) ≤ i by omega) z⟩
    | succ f ih =>
      intro i hi Nc a b
      refine ⟨⟨by omega, by omega⟩, fun z => absurd z (by omega), fun _ => ⟨⟨by omega, by omega⟩, ⟨by omega, by omega⟩, fun N1 h1 v hv => ?_⟩⟩
      rw [Int.toNat_natCast, a 10 (by decide)] at h1
      rw [hv, show ((i : Nat) : Int) + 1 = ((i + 1 : Nat) : Int) by omega]
      refine ih (i + 1) (by omega) N1 (fun r hr => by rw [h1, up_ne hr]; exact a r hr) (fun k hk => ?_)
      rw [h1]
      by_cases z : k = i
      · subst z; rw [up_ss]
      · rw [up_nj z]; exact b k (by omega)
  exact ⟨25, loop 24 0 (by omega) N (fun _ _ => rfl) (fun k hk => absurd hk (by omega))⟩
theorem store24 {N : Mem} {Post : Int → Mem → Prop} {J : Nat} (hJ : N 0 17 = J) (hJ5 : J ≤ 5) (h : ∀ N' : Mem, (∀ r, r ≠ 0 → r ≠ 10 → r ≠ 11 → N' r = N r) → (∀ j, j ≠ 17 → N' 0 j = N 0 j) → N' 0 17 = J + 1 → (∀ i, i < 24 → N' 10 i = N 12 i) → (∀ i, N' 11 i = if 24 * J ≤ i ∧ i < 24 * J + 24 then N 10 (i - 24 * J) else N 11 i) → Post 0 N') : ∃ nn, wp_Model_join_215 Post nn 0 N := by
  have loop : ∀ f i : Nat, i + f = 24 → ∀ Nc : Mem, (∀ r, r ≠ 10 → r ≠ 11 → Nc r = N r) → (∀ k, k < i → Nc 10 k = N 12 k) → (∀ k, i ≤ k → Nc 10 k = N 10 k) → (∀ k, Nc 11 k = if 24 * J ≤ k ∧ k < 24 * J + i then N 10 (k - 24 * J) else N 11 k) → wp_Model_join_215 Post (f + 1) i Nc := by
    intro f
    induction f with
    | zero =>
      intro i hi Nc a b c d
      have e17 : Nc 0 17 = J := by rw [a 0 (by decide) (by decide)]; exact hJ
      refine ⟨⟨by omega, by omega⟩, fun _ N1 h1 => ?_, fun z => absurd (show (24 : Int) ≤ i by omega) z⟩
      refine h N1 (fun r r0 r10 r11 => by rw [h1, up_ne r0]; exact a r r10 r11) (fun j hj => by rw [h1, up_nj hj, a 0 (by decide) (by decide)]) (by rw [h1, up_ss, e17]) (fun k hk => by rw [h1, up_ne (by decide)]; exact b k (by omega)) (fun k => ?_)
      rw [h1, up_ne (by decide), d k, show i = 24 by omega]
    | succ f ih =>
      intro i hi Nc a b c d
      have e17 : Nc 0 17 = J := by rw [a 0 (by decide) (by decide)]; exact hJ
      refine ⟨⟨by omega, by omega⟩, fun z => absurd z (by omega), fun _ => ⟨⟨by omega, by omega⟩, ⟨by omega, by omega⟩, fun N2 h2 => ⟨⟨by omega, by omega⟩, ⟨by omega, by omega⟩, fun N3 h3 v hv => ?_⟩⟩⟩
      rw [e17, Int.toNat_natCast, show (24 * (J : Int) + (i : Int)).toNat = 24 * J + i by omega, c i (by omega)] at h2
      have e12 : N2 12 i = N 12 i := by rw [h2, up_ne (by decide), a 12 (by decide) (by decide)]
      rw [Int.toNat_natCast, e12] at h3
      rw [hv, show ((i : Nat) : Int) + 1 = ((i + 1 : Nat) : Int) by omega]
      refine ih (i + 1) (by omega) N3 (fun r r10 r11 => by rw [h3, up_ne r10, h2, up_ne r11]; exact a r r10 r11) (fun k hk => ?_) (fun k hk => by rw [h3, up_nj (by omega), h2, up_ne (by decide)]; exact c k (by omega)) (fun k => ?_)
      · rw [h3]
        by_cases z : k = i
        · subst z; rw [up_ss]
        · rw [up_nj z, h2, up_ne (by decide)]; exact b k (by omega)
      · rw [h3, up_ne (by decide), h2]
        by_cases z : k = 24 * J + i
        · subst z; rw [up_ss, if_pos (by omega)]; congr 1; omega
        · rw [up_nj z, d k]
          by_cases z2 : 24 * J ≤ k ∧ k < 24 * J + i
          · rw [if_pos z2, if_pos (by omega)]
          · rw [if_neg z2, if_neg (by omega)]
  exact ⟨25, loop 24 0 (by omega) N (fun _ _ _ => rfl) (fun k hk => absurd hk (by omega)) (fun _ _ => rfl) (fun k => by rw [if_neg (by omega)])⟩
theorem card_le (P : Nat → Int) (t : Int) : 0 ≤ card P t ∧ card P t ≤ 6 := by
  have f01 : ∀ s, s < 6 → (if P (4 * s + 3) = t then (1 : Int) else 0) = 0 ∨ (if P (4 * s + 3) = t then (1 : Int) else 0) = 1 := fun s _ => by split <;> decide
  exact (two_ones (n := 6) f01).1
theorem LayOK.small {clo siz : Nat → Int} {cx cy : Nat → Nat → Int} {P : Nat → Int} {J : Int} (h : LayOK clo siz cx cy P J) {s : Nat} (hs : s < 6) : -84 ≤ P (4 * s) ∧ P (4 * s) ≤ 84 ∧ -84 ≤ P (4 * s + 1) ∧ P (4 * s + 1) ≤ 84 := by
  obtain ⟨p1, p2, p3⟩ := h
  have q := (p1 s hs).2.1
  obtain ⟨l, r, u, d, b1, b2, b3⟩ := p2 (P (4 * s + 3)) q.1 (by omega)
  have c := card_le P (P (4 * s + 3))
  have := (b3 s hs rfl).1
  exact ⟨by omega, by omega, by omega, by omega⟩
theorem rot_small {q x y B : Int} (hx : -B ≤ x ∧ x ≤ B) (hy : -B ≤ y ∧ y ≤ B) : (-B ≤ rotX q x y ∧ rotX q x y ≤ B) ∧ -B ≤ rotY q x y ∧ rotY q x y ≤ B := by
  unfold rotX rotY
  refine ⟨⟨?_, ?_⟩, ?_, ?_⟩ <;> (repeat' split) <;> omega
/-- a layout of the class that is laid -/
theorem layin_of {M N : Mem} {P : Nat → Int} {J : Int} {T c : Nat} (hE : RelE M N) (hl : RelLay M 2 P) (hL : LayOK (N 4) (N 1) (ex M) (ey M) P J) (hc : c < 6) (cc : N 4 c = 1) (hT : P (4 * c + 3) = T) : (∃ l r u d : Int, (l ≤ 0 ∧ 0 ≤ r ∧ u ≤ 0 ∧ 0 ≤ d) ∧ LayIn M T (szN N) l r u d) ∧ TreeOK M N P T := by
  obtain ⟨p1, p2, p3⟩ := id hL
  have q := (p1 c hc).2.1
  rw [hT] at q
  have T6 : T < 6 := by omega
  obtain ⟨l, r, u, d, b1, b2, b3⟩ := p2 T (by omega) (by omega)
  have cl := card_le P T
  have rT : P (4 * T + 3) = T := by have := q.2.2; rw [Int.toNat_natCast] at this; exact this
  have tr : ∀ s, s < 6 → M (2 + 4) s = P (4 * s + 3) := fun s hs => (hl s hs).2.2.2
  refine ⟨⟨l, r, u, d, b1, ⟨T6, by rw [tr T T6]; exact rT⟩, fun s hs => ?_, ⟨⟨by omega, by omega, by omega, by omega⟩, by omega⟩, fun s hs hm => ?_⟩, hE, hl, fun s hs hm => ?_⟩
  · have h1 := (p1 s hs).2.1
    have h2 := (hE s hs).1.1
    rw [tr s hs]
    exact ⟨⟨by omega, by omega⟩, by rw [h2.1]; unfold szN; omega, by unfold szN; omega⟩
  · rw [tr s hs] at hm
    have cs : N 4 s = 1 := hL.kin hc hs cc (by rw [hm, hT])
    obtain ⟨⟨e1, e2, e3, e4, e5, e6⟩, -⟩ := hE s hs
    obtain ⟨g1, g2, g3⟩ := e6 cs
    obtain ⟨l1, l2, l3, l4⟩ := hl s hs
    refine ⟨by unfold szN; omega, by rw [l3]; exact (p1 s hs).1, e5, ⟨g2.1, g2.2.1⟩, fun k hk => ?_⟩
    unfold PX PY
    rw [l1, l2, l3]
    exact (b3 s hs hm).2 cs k hk
  · rw [tr s hs] at hm
    have cs : N 4 s = 1 := hL.kin hc hs cc (by rw [hm, hT])
    exact ⟨cs, (p1 s hs).1⟩
theorem Ov_same {N N' : Mem} {P P' : Nat → Int} {s t : Nat} (h5 : N' 5 = N 5) (h6 : N' 6 = N 6) (h7 : N' 7 = N 7) (hP : ∀ i, i < 24 → P' i = P i) (hs : s < 6) (ht : t < 6) : Ov N' P' s t ↔ Ov N P s t := by
  have e : ∀ s, s < 6 → ∀ i, CX N' P' s i = CX N P s i ∧ CY N' P' s i = CY N P s i := fun s hs i => by
    unfold CX CY
    rw [h6, h7, hP (4 * s) (by omega), hP (4 * s + 1) (by omega), hP (4 * s + 2) (by omega)]
    exact ⟨rfl, rfl⟩
  unfold Ov
  rw [h5]
  constructor
  · intro ⟨i, j, a, b, c, d⟩
    exact ⟨i, j, a, b, by rw [(e s hs i).1, (e t ht j).1] at c; exact c, by rw [(e s hs i).2, (e t ht j).2] at d; exact d⟩
  · intro ⟨i, j, a, b, c, d⟩
    exact ⟨i, j, a, b, by rw [(e s hs i).1, (e t ht j).1]; exact c, by rw [(e s hs i).2, (e t ht j).2]; exact d⟩
/-- the class's part where two trees meet -/
theorem tryC {M N : Mem} {P : Nat → Int} {p a b J : Nat} {X Y q t : Int} {Post : Int → Mem → Prop} (hE : RelE M N) (hl : RelLay M 2 P) (hJ : M 0 7 = J) (hJ4 : J ≤ 4) (hp : 10 ≤ p ∧ p < 111) (pa : M p 0 = a) (pb : M p 2 = b) (ha : a < 6) (hb : b < 6) (ca : N 4 a = 1) (hq : ∀ s, s < 6 → 0 ≤ P (4 * s + 2) ∧ P (4 * s + 2) ≤ 3) (h3 : ∀ s, s < 6 → in32 (P (4 * s + 3))) (ht : t = (q - P (4 * b + 2)) % 4)
    (P' : Nat → Int) (hP' : P' = newP P (P (4 * a + 3)) (P (4 * b + 3)) t (X - rotX t (P (4 * b)) (P (4 * b + 1))) (Y - rotY t (P (4 * b)) (P (4 * b + 1)))) (hL : LayOK (N 4) (N 1) (ex M) (ey M) P' ((J : Int) + 1)) (T : Nat) (hT : P' (4 * a + 3) = T)
    (h0 : (¬ ∃ s t, t < s ∧ s < 6 ∧ P' (4 * s + 3) = T ∧ P' (4 * t + 3) = T ∧ Ov N P' s t) → ∀ M' : Mem, (∀ r, r ≠ 0 → ¬ (3 ≤ r ∧ r ≤ 6) → r ≠ 111 → r ≠ 112 → ¬ (119 + 10 * J < r ∧ r ≤ 119 + 10 * J + 4) → M' r = M r) → (∀ j, j ≠ 7 → M' 0 j = M 0 j) → M' 0 7 = (J : Int) + 1 → (∀ s c, s < 6 → 1 ≤ c → c ≤ 4 → M' (119 + 10 * J + c) s = M (2 + c) s) → RelLay M' 2 P' → Post 0 M')
    (h1 : (∃ s t, t < s ∧ s < 6 ∧ P' (4 * s + 3) = T ∧ P' (4 * t + 3) = T ∧ Ov N P' s t) → ∀ M' : Mem, (∀ r, ¬ (3 ≤ r ∧ r ≤ 6) → r ≠ 111 → r ≠ 112 → ¬ (119 + 10 * J < r ∧ r ≤ 119 + 10 * J + 4) → M' r = M r) → RelLay M' 2 P → Post 1 M') : wp_X_tryToJoin p X Y q M Post := by
  refine ⟨by rw [hJ]; exact ⟨by omega, by omega⟩, fun _ => ⟨by rw [hJ]; exact ⟨by omega, by omega⟩, ?_⟩, fun z => absurd (show M 0 7 < 6 by omega) z⟩
  rw [hJ, Int.toNat_natCast]
  refine copy_ok (by omega) (fun M3 g1 g2 => ?_)
  have l3 : RelLay M3 2 P := hl.same (fun j j1 j2 => g1 _ (by omega))
  have p3 : M3 p = M p := g1 _ (by omega)
  rw [p3, pb]
  refine bring_ok l3 hb hq h3 ht (fun M5 k1 k2 => ?_)
  have p5 : M5 p = M p := by rw [k1 p (by omega) (by omega) (by omega), p3]
  rw [p5, pa, pb]
  have tr5 : ∀ s, s < 6 → M5 (2 + 4) s = P (4 * s + 3) := fun s hs => by rw [k1 (2 + 4) (by omega) (by omega) (by omega)]; exact (l3 s hs).2.2.2
  refine unite_ok (tr := fun s => P (4 * s + 3)) ha hb tr5 h3 (fun M7 m1 m2 => ?_)
  have l7 : RelLay M7 2 P' := by
    intro s hs
    rw [hP', newP_0, newP_1, newP_2, newP_3, m1 (2 + 1) (by omega), m1 (2 + 2) (by omega), m1 (2 + 3) (by omega)]
    obtain ⟨z1, z2, z3⟩ := k2 s hs
    exact ⟨z1, z2, z3, m2 s hs⟩
  have r7 : ∀ r, ¬ (3 ≤ r ∧ r ≤ 6) → ¬ (119 + 10 * J < r ∧ r ≤ 119 + 10 * J + 4) → M7 r = M r := fun r z1 z2 => by rw [m1 r (by omega), k1 r (by omega) (by omega) (by omega), g1 r (by omega)]
  have e7 : RelE M7 N := hE.same (fun s j hs hj => r7 _ (by omega) (by omega)) (fun _ _ _ => rfl) rfl
  have hL7 : LayOK (N 4) (N 1) (ex M7) (ey M7) P' ((J : Int) + 1) := hL.edges (fun s hs _ => ⟨r7 _ (by omega) (by omega), r7 _ (by omega) (by omega), rfl⟩)
  obtain ⟨⟨l, r, u, d, -, hLI⟩, hTO⟩ := layin_of e7 l7 hL7 ha ca hT
  have p7 : M7 p = M p := r7 p (by omega) (by omega)
  rw [p7, pa]
  refine ⟨⟨by omega, by omega⟩, ?_⟩
  rw [Int.toNat_natCast, (l7 a ha).2.2.2, hT]
  refine lay_ok hLI (fun M9 lo hi ul uh w h n1 hB _ _ hIn hcov => ?_)
  obtain ⟨o1, o2⟩ := over_iff hTO hLI hB hIn hcov
  have tr7 : ∀ s, s < 6 → M7 (2 + 4) s = P' (4 * s + 3) := fun s hs => (l7 s hs).2.2.2
  have ovi : (∃ s t, t < s ∧ s < 6 ∧ M7 (2 + 4) s = T ∧ M7 (2 + 4) t = T ∧ Ov N P' s t) ↔ ∃ s t, t < s ∧ s < 6 ∧ P' (4 * s + 3) = T ∧ P' (4 * t + 3) = T ∧ Ov N P' s t := by
    constructor
    · intro ⟨s, t, z1, z2, z3, z4, z5⟩
      exact ⟨s, t, z1, z2, by rw [← tr7 s z2]; exact z3, by rw [← tr7 t (by omega)]; exact z4, z5⟩
    · intro ⟨s, t, z1, z2, z3, z4, z5⟩
      exact ⟨s, t, z1, z2, by rw [tr7 s z2]; exact z3, by rw [tr7 t (by omega)]; exact z4, z5⟩
  rw [ovi] at o2
  have r9 : ∀ r, ¬ (3 ≤ r ∧ r ≤ 6) → r ≠ 111 → r ≠ 112 → ¬ (119 + 10 * J < r ∧ r ≤ 119 + 10 * J + 4) → M9 r = M r := fun r z1 z2 z3 z4 => by rw [n1 r z2 z3, r7 r z1 z4]
  have e9 : ∀ s c, s < 6 → 1 ≤ c → c ≤ 4 → M9 (119 + 10 * J + c) s = M (2 + c) s := fun s c hs z1 z2 => by rw [n1 _ (by omega) (by omega), m1 _ (by omega), k1 _ (by omega) (by omega) (by omega)]; exact g2 s c hs z1 z2
  have l9 : RelLay M9 2 P' := l7.same (fun j j1 j2 => n1 _ (by omega) (by omega))
  have m97 : M9 0 = M 0 := r9 0 (by omega) (by omega) (by omega) (by omega)
  refine over_ok hB.1.2.2.2 hB.2.2.1 (fun t ht => by have := o1 t ht; exact ⟨by omega, by omega⟩) (fun rr hr hiff => ⟨by rcases hr with z | z <;> rw [z] <;> exact xl rfl, fun z M11 h11 => ?_, fun z => ?_⟩)
  · refine h0 (fun q => by have := hiff.mpr (o2.mpr q); omega) M11 (fun r z0 z1 z2 z3 z4 => by rw [h11, up_ne z0]; exact r9 r z1 z2 z3 z4) (fun j hj => by rw [h11, up_nj hj, m97]) (by rw [h11, up_ss, m97, hJ]) (fun s c hs z1 z2 => by rw [h11, up_ne (by omega)]; exact e9 s c hs z1 z2) (l9.same (fun j j1 j2 => by rw [h11, up_ne (by omega)]))
  · refine ⟨by rw [m97, hJ]; exact ⟨by omega, by omega⟩, ?_⟩
    rw [m97, hJ, Int.toNat_natCast]
    refine copy_ok (by omega) (fun M14 q1 q2 => h1 (o2.mp (hiff.mp (by omega))) M14 (fun r z1 z2 z3 z4 => by rw [q1 r (by omega)]; exact r9 r z1 z2 z3 z4) (fun s hs => ?_))
    obtain ⟨y1, y2, y3, y4⟩ := hl s hs
    rw [q2 s 1 hs (by omega) (by omega), q2 s 2 hs (by omega) (by omega), q2 s 3 hs (by omega) (by omega), q2 s 4 hs (by omega) (by omega), e9 s 1 hs (by omega) (by omega), e9 s 2 hs (by omega) (by omega), e9 s 3 hs (by omega) (by omega), e9 s 4 hs (by omega) (by omega)]
    exact ⟨y1, y2, y3, y4⟩
