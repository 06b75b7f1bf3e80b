/-! close -/
section Cl
variable {n : Nat} {d cx cy : Nat → Int}
theorem wn_right (h : Poly n d cx cy) (ho : cx n = 0 ∧ cy n = 0) {x y : Int} (hx : ∀ k, k < n → cx k ≤ x) : wn n d cx cy x y = 0 := by
  have e : wn n d cx cy x y = sm (fun k => (if y < cy k then (-1 : Int) else 0) * (-1) - (if y < cy (k + 1) then (-1 : Int) else 0) * (-1)) n := by
    refine sm_congr (fun k hk => ?_)
    have hxk := hx k hk
    unfold wd
    rcases d_cases h hk with ⟨q, a, b⟩ | ⟨q, a, b⟩ | ⟨q, a, b⟩ | ⟨q, a, b⟩
    · rw [if_neg (by omega), if_neg (by omega), b]; omega
    · rw [if_neg (by omega), if_pos q, b]
      by_cases c : cy k = y ∧ cx k ≤ x
      · rw [if_pos c, if_neg (by omega), if_pos (by omega)]; decide
      · rw [if_neg c]
        by_cases c2 : y < cy k
        · rw [if_pos c2, if_pos (by omega)]; decide
        · rw [if_neg c2, if_neg (by omega)]; decide
    · rw [if_neg (by omega), if_neg (by omega), b]; omega
    · rw [if_pos q, b]
      by_cases c : cy k - 1 = y ∧ cx k ≤ x
      · rw [if_pos c, if_pos (by omega), if_neg (by omega)]; decide
      · rw [if_neg c]
        by_cases c2 : y < cy k
        · rw [if_pos c2, if_pos (by omega)]; decide
        · rw [if_neg c2, if_neg (by omega)]; decide
  have t := sm_tel (fun k => (if y < cy k then (-1 : Int) else 0)) n
  rw [e]
  have e2 : sm (fun k => (if y < cy k then (-1 : Int) else 0) * (-1) - (if y < cy (k + 1) then (-1 : Int) else 0) * (-1)) n = sm (fun k => (if y < cy (k + 1) then (-1 : Int) else 0) - (if y < cy k then (-1 : Int) else 0)) n := sm_congr (fun k _ => by omega)
  rw [e2, t, ho.2, h.2.1]
  omega
theorem wn_in (h : Poly n d cx cy) (ho : cx n = 0 ∧ cy n = 0) (hn : n ≤ 28) {x y : Int} (hw : wn n d cx cy x y ≠ 0) : (-14 ≤ x ∧ x < 14) ∧ -14 ≤ y ∧ y < 14 := by
  obtain ⟨k, hk, hwk⟩ := sm_ex hw
  have nk := near h ho hn (Nat.le_of_lt hk)
  have nk1 := near h ho hn (show k + 1 ≤ n by omega)
  have hx : x < 14 := by
    by_cases c : x < 14
    · exact c
    · exact absurd (wn_right h ho (fun k hk => by have := near h ho hn (Nat.le_of_lt hk); omega)) hw
  unfold wd at hwk
  rcases d_cases h hk with ⟨q, a, b⟩ | ⟨q, a, b⟩ | ⟨q, a, b⟩ | ⟨q, a, b⟩
  · rw [if_neg (by omega), if_neg (by omega)] at hwk; exact absurd rfl hwk
  · rw [if_neg (by omega), if_pos q] at hwk
    by_cases c : cy k = y ∧ cx k ≤ x
    · exact ⟨⟨by omega, hx⟩, by omega, by omega⟩
    · rw [if_neg c] at hwk; exact absurd rfl hwk
  · rw [if_neg (by omega), if_neg (by omega)] at hwk; exact absurd rfl hwk
  · rw [if_pos q] at hwk
    by_cases c : cy k - 1 = y ∧ cx k ≤ x
    · exact ⟨⟨by omega, hx⟩, by omega, by omega⟩
    · rw [if_neg c] at hwk; exact absurd rfl hwk
theorem win_at {x y : Int} (hx : -16 ≤ x ∧ x < 16) (hy : -16 ≤ y ∧ y < 16) : ∃ c, c < 1024 ∧ cX c = x ∧ cY c = y := by
  refine ⟨32 * (y + 16).toNat + (x + 16).toNat, by omega, ?_, ?_⟩
  · unfold cX; omega
  · unfold cY; omega
theorem sm_part {f : Nat → Int} {m : Nat} (h : ∀ k, k < m → 0 ≤ f k) : ∀ k, k ≤ m → sm f k ≤ sm f m := by
  induction m with
  | zero => intro k hk; rw [show k = 0 by omega]; exact Int.le_refl _
  | succ m ih =>
    intro k hk
    by_cases c : k = m + 1
    · rw [c]; exact Int.le_refl _
    · have := ih (fun k hk => h k (by omega)) k (by omega)
      have h2 := h m (by omega)
      show sm f k ≤ sm f m + f m
      omega
end Cl
section Ed
variable {M : Mem} {k0 n : Nat}
theorem area_ok {Post : Int → Prop} (hn : n ≤ 28) (hs : M k0 4 = n) (hp : Poly n (M (k0 + 1)) (M (k0 + 3)) (M (k0 + 4))) (h : Post (spaceOf n (M (k0 + 1)) (M (k0 + 3)))) : wp_Edge_area k0 M Post := by
  have loop : ∀ (m k : Nat), k + m = n → wp_Edge_area_4 k0 M Post (m + 1) (sm (fun k => M (k0 + 3) k * stY (M (k0 + 1) k)) k) k := by
    intro m
    induction m with
    | zero =>
      intro k hk
      refine ⟨⟨by omega, by omega⟩, ⟨by omega, by omega⟩, fun _ => ?_, fun q => absurd (show M k0 4 ≤ (k : Int) by omega) q⟩
      rw [show k = n by omega]; exact h
    | succ m ih =>
      intro k hk
      obtain ⟨g1, -, -⟩ := hp.2.2 k (by omega)
      refine ⟨⟨by omega, by omega⟩, ⟨by omega, by omega⟩, fun q => absurd q (by omega), fun _ => ⟨⟨by omega, by omega⟩, ⟨by omega, by omega⟩, ⟨by omega, by omega⟩, fun v1 h1 v2 h2 => ?_⟩⟩
      rw [Int.toNat_natCast, show M (k0 + 1) k % 4 = M (k0 + 1) k by omega] at h1
      rw [h2, h1, show ((k : Nat) : Int) + 1 = ((k + 1 : Nat) : Int) by omega]
      exact ih (k + 1) (by omega)
  exact ⟨n + 1, loop n 0 (by omega)⟩
theorem twice_ok {Post : Int → Prop} (hn : n ≤ 28) (hs : M k0 4 = n) (hp : Poly n (M (k0 + 1)) (M (k0 + 3)) (M (k0 + 4))) (h : ∀ r : Int, (r = 0 ∨ r = 1) → (r = 0 ↔ ∀ i j, i < n → j < n → M (k0 + 3) i = M (k0 + 3) j → M (k0 + 4) i = M (k0 + 4) j → i = j) → Post r) : wp_Edge_comesToACornerTwice k0 M Post := by
  have hlow := @cx_low n _ _ _ hp
  have inx : ∀ k, k ≤ n → in32 (M (k0 + 3) k) ∧ in32 (M (k0 + 4) k) := fun k hk => by
    have := hlow hk
    exact ⟨⟨by omega, by omega⟩, by omega, by omega⟩
  have loop : ∀ (m k : Nat), k + m = n → (∀ i j, i < k → i < j → j < n → ¬ (M (k0 + 3) i = M (k0 + 3) j ∧ M (k0 + 4) i = M (k0 + 4) j)) → wp_Edge_comesToACornerTwice_2 k0 M Post (m + 1) k := by
    intro m
    induction m with
    | zero =>
      intro k hk hu
      refine ⟨⟨by omega, by omega⟩, ⟨by omega, by omega⟩, fun _ => h 0 (Or.inl rfl) ⟨fun _ i j hi hj e1 e2 => ?_, fun _ => rfl⟩, fun q => absurd (show M k0 4 ≤ (k : Int) by omega) q⟩
      rcases Nat.lt_trichotomy i j with c | c | c
      · exact absurd ⟨e1, e2⟩ (hu i j (by omega) c hj)
      · exact c
      · exact absurd ⟨e1.symm, e2.symm⟩ (hu j i (by omega) c hi)
    | succ m ih =>
      intro k hk hu
      refine ⟨⟨by omega, by omega⟩, ⟨by omega, by omega⟩, fun q => absurd q (by omega), fun _ v hv => ?_⟩
      have inner : ∀ (m2 j : Nat), j + m2 = n → k < j → (∀ j', k < j' → j' < j → ¬ (M (k0 + 3) k = M (k0 + 3) j' ∧ M (k0 + 4) k = M (k0 + 4) j')) → wp_Edge_comesToACornerTwice_14 (fun y0 => wp_Edge_comesToACornerTwice_2 k0 M Post (m + 1) y0) k0 M Post (m2 + 1) k j := by
        intro m2
        induction m2 with
        | zero =>
          intro j hj hkj hu2
          refine ⟨⟨by omega, by omega⟩, ⟨by omega, by omega⟩, fun _ v hv => ?_, fun q => absurd (show M k0 4 ≤ (j : Int) by omega) q⟩
          rw [hv, show ((k : Nat) : Int) + 1 = ((k + 1 : Nat) : Int) by omega]
          refine ih (k + 1) (by omega) (fun i j' hi hij hj' => ?_)
          by_cases c : i = k
          · subst c; exact hu2 j' hij (by omega)
          · exact hu i j' (by omega) hij hj'
        | succ m2 ih2 =>
          intro j hj hkj hu2
          have next : ¬ (M (k0 + 3) k = M (k0 + 3) j ∧ M (k0 + 4) k = M (k0 + 4) j) → wp_Edge_comesToACornerTwice_14 (fun y0 => wp_Edge_comesToACornerTwice_2 k0 M Post (m + 1) y0) k0 M Post (m2 + 1) k ((j : Int) + 1) := by
            intro hne
            rw [show ((j : Nat) : Int) + 1 = ((j + 1 : Nat) : Int) by omega]
            refine ih2 (j + 1) (by omega) (by omega) (fun j' a b => ?_)
            by_cases c : j' = j
            · subst c; exact hne
            · exact hu2 j' a (by omega)
          refine ⟨⟨by omega, by omega⟩, ⟨by omega, by omega⟩, fun q => absurd q (by omega), fun _ => ⟨⟨by omega, by omega⟩, ⟨by omega, by omega⟩, ?_⟩⟩
          rw [Int.toNat_natCast, Int.toNat_natCast]
          refine ⟨(inx k (by omega)).1, (inx j (by omega)).1, fun q v hv => ?_, fun q => ⟨⟨by omega, by omega⟩, ⟨by omega, by omega⟩, (inx k (by omega)).2, (inx j (by omega)).2, fun q2 v hv => ?_, fun q2 => ?_⟩⟩
          · rw [hv]; exact next (fun z => q z.1)
          · rw [hv]; exact next (fun z => q2 z.2)
          · refine h 1 (Or.inr rfl) ⟨fun z => absurd z (by decide), fun z => ?_⟩
            have := z k j (by omega) (by omega) q q2
            omega
      rw [hv, show ((k : Nat) : Int) + 1 = ((k + 1 : Nat) : Int) by omega]
      exact ⟨n - (k + 1) + 1, inner (n - (k + 1)) (k + 1) (by omega) (by omega) (fun j' a b => absurd a (by omega))⟩
  exact ⟨n + 1, loop n 0 (by omega) (fun i j hi => absurd hi (by omega))⟩
theorem space_low {d cx cy : Nat → Int} (hn : n ≤ 28) (hp : Poly n d cx cy) : -1000 ≤ spaceOf n d cx ∧ spaceOf n d cx ≤ 1000 := by
  have hlow := @cx_low n _ _ _ hp
  have b : ∀ k, k < n → -28 ≤ cx k * stY (d k) ∧ cx k * stY (d k) ≤ 28 := by
    intro k hk
    have h1 := hlow (Nat.le_of_lt hk)
    unfold stY
    split
    · omega
    · split <;> omega
  have h1 : spaceOf n d cx ≤ sm (fun _ => 28) n := sm_le (fun k hk => (b k hk).2)
  have h2 : sm (fun _ => -28) n ≤ spaceOf n d cx := sm_le (fun k hk => (b k hk).1)
  have c : ∀ (t : Int) (m : Nat), sm (fun _ => t) m = t * m := by
    intro t m
    induction m with
    | zero => simp [sm]
    | succ m ih =>
      show sm (fun _ => t) m + t = _
      rw [ih, Int.natCast_add, Int.mul_add]
      simp
  rw [c] at h1 h2
  omega
theorem can_ok {Post : Int → Prop} (hn : n ≤ 28) (hs : M k0 4 = n) (hp : Poly n (M (k0 + 1)) (M (k0 + 3)) (M (k0 + 4))) (h : ∀ r : Int, (r = 0 ∨ r = 1) → (r = 1 ↔ 4 ≤ n ∧ Once n (M (k0 + 3)) (M (k0 + 4)) ∧ 0 < spaceOf n (M (k0 + 1)) (M (k0 + 3))) → Post r) : wp_Edge_canBeClosed k0 M Post := by
  have hlow := @cx_low n _ _ _ hp n (Nat.le_refl _)
  have hin : in32 (M (k0 + 3) n) ∧ in32 (M (k0 + 4) n) := ⟨⟨by omega, by omega⟩, by omega, by omega⟩
  have no : ¬ (4 ≤ n ∧ Once n (M (k0 + 3)) (M (k0 + 4)) ∧ 0 < spaceOf n (M (k0 + 1)) (M (k0 + 3))) → Post 0 := fun z => h 0 (Or.inl rfl) ⟨fun q => absurd q (by decide), fun q => absurd q z⟩
  refine ⟨⟨by omega, by omega⟩, fun q => no (fun z => by omega), fun q => ⟨⟨by omega, by omega⟩, ?_⟩⟩
  rw [hs, Int.toNat_natCast]
  refine ⟨hin.1, fun q1 => no (fun z => q1 z.2.1.1), fun q1 => ⟨⟨by omega, by omega⟩, hin.2, fun q2 => no (fun z => q2 z.2.1.2.1), fun q2 => twice_ok hn hs hp (fun r hr hiff => ⟨by rcases hr with z | z <;> rw [z] <;> exact xl rfl, fun q3 => no (fun z => q3 (hiff.mpr z.2.1.2.2)), fun q3 => area_ok hn hs hp ⟨?_, fun q4 => no (fun z => by omega), fun q4 => h 1 (Or.inr rfl) ⟨fun _ => ⟨by omega, ⟨q1, q2, hiff.mp q3⟩, by omega⟩, fun _ => rfl⟩⟩⟩)⟩⟩
  have := space_low hn hp
  exact ⟨by omega, by omega⟩
end Ed
