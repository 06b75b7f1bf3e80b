/-! A PAIR IS OFFERED, A PAIR IS PUT -/
def tupR (r : Nat → Int) : T6 := (r 0, r 1, r 2, r 3, r 4, r 5)
def tupC (M : Mem) (k : Nat) : T6 := tupR (M (pK M k))
def tupN (N : Mem) (k : Nat) : T6 := (N 8 (6 * k), N 8 (6 * k + 1), N 8 (6 * k + 2), N 8 (6 * k + 3), N 8 (6 * k + 4), N 8 (6 * k + 5))
def qT (N : Mem) (x : T6) : Int := (N 2 (28 * x.1.toNat + x.2.1.toNat) + 2 - N 2 (28 * x.2.2.1.toNat + x.2.2.2.1.toNat)) % 4
def okT (x : T6) : Prop := (0 < tn x ∧ tn x ≤ 28) ∧ (0 ≤ ts x ∧ ts x ≤ 300000)
def RunC (M0 N : Mem) (S : T6 → Prop) (M : Mem) : Prop := (∀ r, r ≠ 8 → r ≠ 9 → ¬ (10 ≤ r ∧ r < 111) → M r = M0 r) ∧ (0 ≤ M 8 1 ∧ M 8 1 ≤ 100) ∧ PermOK (M 9) ∧ Top S (M 8 1).toNat (tupC M) ∧ ∀ k : Nat, (k : Int) < M 8 1 → M (pK M k) 6 = qT N (tupC M k)
def RunN (N0 : Mem) (S : T6 → Prop) (N : Mem) : Prop := (∀ r, r ≠ 0 → r ≠ 8 → r ≠ 9 → N r = N0 r) ∧ (∀ j, j ≠ 12 → N 0 j = N0 0 j) ∧ (0 ≤ N 0 12 ∧ N 0 12 ≤ 100) ∧ Top S (N 0 12).toNat (tupN N)
theorem prod_in {x y : T6} (hx : okT x) (hy : okT y) : 0 ≤ ts x * tn y ∧ ts x * tn y ≤ 300000 * 28 := by
  obtain ⟨⟨a1, a2⟩, a3, a4⟩ := hx
  obtain ⟨⟨b1, b2⟩, b3, b4⟩ := hy
  exact ⟨Int.mul_nonneg a3 (by omega), Int.mul_le_mul a4 b2 (by omega) (by omega)⟩
theorem ahead_C {M : Mem} {k0 k1 : Nat} {x y : T6} {Post : Int → Prop} (hx : okT x) (hy : okT y) (ex1 : M k0 4 = tn x ∧ M k0 5 = ts x) (ey1 : M k1 4 = tn y ∧ M k1 5 = ts y) (h1 : rk x y → Post 1) (h0 : ¬ rk x y → Post 0) : wp_Pair_ranksAhead k0 k1 M Post := by
  have p1 := prod_in hx hy
  have p2 := prod_in hy hx
  obtain ⟨⟨a1, a2⟩, a3, a4⟩ := id hx
  obtain ⟨⟨b1, b2⟩, b3, b4⟩ := id hy
  intro v2 h2 v3 h3
  rw [ex1.2, ey1.1] at h2
  rw [ey1.2, ex1.1] at h3
  rw [ex1.1, ey1.1]
  unfold rk at h1 h0
  refine ⟨⟨by omega, by omega⟩, ⟨by omega, by omega⟩, fun e => ⟨⟨by omega, by omega⟩, ⟨by omega, by omega⟩, fun q => h0 (by omega), fun q => h1 (by omega)⟩, fun e => ⟨⟨by omega, by omega⟩, ⟨by omega, by omega⟩, fun q => h0 (by omega), fun q => h1 (by omega)⟩⟩
theorem not_rk {x y : T6} (h : ¬ rk x y) (hl : lexL y x) : Lt6 y x := by
  unfold rk at h
  unfold Lt6 rk
  by_cases q : ts y * tn x < ts x * tn y
  · exact Or.inl (Or.inl q)
  · have e : ts y * tn x = ts x * tn y := by omega
    by_cases q2 : tn x < tn y
    · exact Or.inl (Or.inr ⟨e, q2⟩)
    · exact Or.inr ⟨e, by omega, hl⟩
theorem offer_ok {M0 N M : Mem} {S : T6 → Prop} {Post : Mem → Prop} {x : T6} {xq : Int} (hI : RunC M0 N S M) (hS : ∀ y, S y → okT y) (hx : okT x) (hxq : xq = qT N x) (hkey : ∀ y, S y → lexL y x) (h : ∀ M', RunC M0 N (fun y => S y ∨ y = x) M' → Post M') : wp_Ranking_offer x.1 x.2.1 x.2.2.1 x.2.2.2.1 (tn x) (ts x) xq M Post := by
  obtain ⟨f1, f2, f3, f4, f5⟩ := hI
  obtain ⟨c, hc⟩ : ∃ c : Nat, M 8 1 = c := ⟨(M 8 1).toNat, by omega⟩
  rw [hc] at f2 f4 f5
  rw [Int.toNat_natCast] at f4
  have hc100 : c ≤ 100 := by omega
  have pm : ∀ k, k < 101 → (M 9 k).toNat % 101 = (M 9 k).toNat := fun k hk => by have := f3.1 k hk; omega
  have pne : ∀ k, k < 101 → k ≠ c → pK M k ≠ pK M c := fun k hk hkc e => by
    unfold pK at e
    rw [pm k hk, pm c (by omega)] at e
    have a1 := f3.1 k hk
    have a2 := f3.1 c (by omega)
    exact hkc (f3.2 k c hk (by omega) (by omega))
  refine ⟨⟨by omega, by omega⟩, fun k8 hk8 => ?_⟩
  rw [hc, Int.toNat_natCast] at hk8
  have hk8' : k8 = pK M c := hk8
  have k8r : 10 ≤ k8 ∧ k8 < 111 := by unfold pK at hk8'; omega
  intro M1 e1 M2 e2 M3 e3 M4' e4 M5 e5 M6 e6 M4 e7 v9 h9
  have r4 : ∀ r, r ≠ k8 → M4 r = M r := fun r hr => by rw [e7, up_ne hr, e6, up_ne hr, e5, up_ne hr, e4, up_ne hr, e3, up_ne hr, e2, up_ne hr, e1, up_ne hr]
  have t0 : M4 k8 0 = x.1 := by rw [e7, up_nj (by decide), e6, up_nj (by decide), e5, up_nj (by decide), e4, up_nj (by decide), e3, up_nj (by decide), e2, up_nj (by decide), e1, up_ss]
  have t1 : M4 k8 1 = x.2.1 := by rw [e7, up_nj (by decide), e6, up_nj (by decide), e5, up_nj (by decide), e4, up_nj (by decide), e3, up_nj (by decide), e2, up_ss]
  have t2 : M4 k8 2 = x.2.2.1 := by rw [e7, up_nj (by decide), e6, up_nj (by decide), e5, up_nj (by decide), e4, up_nj (by decide), e3, up_ss]
  have t3 : M4 k8 3 = x.2.2.2.1 := by rw [e7, up_nj (by decide), e6, up_nj (by decide), e5, up_nj (by decide), e4, up_ss]
  have t4 : M4 k8 4 = tn x := by rw [e7, up_nj (by decide), e6, up_nj (by decide), e5, up_ss]
  have t5 : M4 k8 5 = ts x := by rw [e7, up_nj (by decide), e6, up_ss]
  have t6 : M4 k8 6 = xq := by rw [e7, up_ss]
  have tup8 : tupR (M4 k8) = x := by unfold tupR; rw [t0, t1, t2, t3, t4, t5]; rfl
  have m48 : M4 8 = M 8 := r4 8 (by omega)
  have m49 : M4 9 = M 9 := r4 9 (by omega)
  have v9c : v9 = c := by rw [h9, m48]; exact hc
  -- the end
  have fin : ∀ p : Nat, p ≤ c → ∀ Mc : Mem, (∀ r, r ≠ 9 → Mc r = M4 r) → (∀ k, k ≤ p → Mc 9 k = M 9 k) → (∀ k, p < k → k ≤ c → Mc 9 k = M 9 (k - 1)) → (∀ k, c < k → Mc 9 k = M 9 k) → (∀ k, p ≤ k → k < c → Lt6 x (tupC M k)) → (p = 0 ∨ Lt6 (tupC M (p - 1)) x) → wp_Ranking_offer_77 k8 p Mc Post := by
    intro p hp Mc a b1 b2 b3 d1 d2
    refine ⟨⟨by omega, by omega⟩, fun M1 hM1 => ?_⟩
    rw [Int.toNat_natCast] at hM1
    have kv : ((k8 : Nat) : Int) - 10 = M 9 c := by
      have := f3.1 c (by omega)
      rw [hk8']; unfold pK; rw [pm c (by omega)]; omega
    rw [kv] at hM1
    have n8 : M1 8 1 = c := by rw [hM1, up_ne (by decide), a 8 (by decide), m48]; exact hc
    -- what the end has
    have last : ∀ M' : Mem, (∀ r, r ≠ 8 → M' r = M1 r) → M' 8 1 = ((if c < 100 then c + 1 else c : Nat) : Int) → Post M' := by
      intro M' g1 g2
      have g9 : ∀ k, M' 9 k = M1 9 k := fun k => by rw [g1 9 (by decide)]
      have s1 : ∀ k, k < p → M' 9 k = M 9 k := fun k hk => by rw [g9, hM1, up_nj (by omega)]; exact b1 k (by omega)
      have s2 : M' 9 p = M 9 c := by rw [g9, hM1, up_ss]
      have s3 : ∀ k, p < k → k ≤ c → M' 9 k = M 9 (k - 1) := fun k h1 h2 => by rw [g9, hM1, up_nj (by omega)]; exact b2 k h1 h2
      have s4 : ∀ k, c < k → M' 9 k = M 9 k := fun k h1 => by rw [g9, hM1, up_nj (by omega)]; exact b3 k h1
      have rr : ∀ r, r ≠ 8 → r ≠ 9 → M' r = M4 r := fun r h8 h9 => by rw [g1 r h8, hM1, up_ne h9]; exact a r h9
      have row : ∀ k, k < c → ∀ k', M' 9 k' = M 9 k → M' (pK M' k') = M (pK M k) := by
        intro k hk k' e
        have hpk : pK M' k' = pK M k := by unfold pK; rw [e]
        have hne := pne k (by omega) (by omega)
        rw [← hk8'] at hne
        have hrg : 10 ≤ pK M k := by unfold pK; omega
        rw [hpk, rr _ (by omega) (by omega), r4 _ hne]
      have rowp : M' (pK M' p) = M4 k8 := by
        have hpk : pK M' p = k8 := by rw [hk8']; unfold pK; rw [s2]
        rw [hpk, rr _ (by omega) (by omega)]
      have u1 : ∀ k, k < p → tupC M' k = tupC M k := fun k hk => by unfold tupC; rw [row k (by omega) k (s1 k hk)]
      have u2 : tupC M' p = x := by unfold tupC; rw [rowp]; exact tup8
      have u3 : ∀ k, p ≤ k → k < c → tupC M' (k + 1) = tupC M k := fun k h1 h2 => by unfold tupC; rw [row k h2 (k + 1) (by rw [s3 (k + 1) (by omega) (by omega)]; rfl)]
      refine h M' ⟨fun r h8 h9 hr => ?_, ?_, ⟨fun k hk => ?_, fun i j hi hj e => ?_⟩, ?_, fun k hk => ?_⟩
      · rw [rr r h8 h9, r4 r (by omega)]; exact f1 r h8 h9 hr
      · rw [g2]; split <;> omega
      · by_cases q1 : k < p
        · rw [s1 k q1]; exact f3.1 k hk
        · by_cases q2 : k = p
          · rw [q2, s2]; exact f3.1 c (by omega)
          · by_cases q3 : k ≤ c
            · rw [s3 k (by omega) q3]; exact f3.1 _ (by omega)
            · rw [s4 k (by omega)]; exact f3.1 k hk
      · have sg : ∀ k, k < 101 → ∃ k', k' < 101 ∧ M' 9 k = M 9 k' ∧ ((k < p ∧ k' = k) ∨ (k = p ∧ k' = c) ∨ (p < k ∧ k ≤ c ∧ k' = k - 1) ∨ (c < k ∧ k' = k)) := by
          intro k hk
          by_cases q1 : k < p
          · exact ⟨k, hk, s1 k q1, Or.inl ⟨q1, rfl⟩⟩
          · by_cases q2 : k = p
            · exact ⟨c, by omega, by rw [q2]; exact s2, Or.inr (Or.inl ⟨q2, rfl⟩)⟩
            · by_cases q3 : k ≤ c
              · exact ⟨k - 1, by omega, s3 k (by omega) q3, Or.inr (Or.inr (Or.inl ⟨by omega, q3, rfl⟩))⟩
              · exact ⟨k, hk, s4 k (by omega), Or.inr (Or.inr (Or.inr ⟨by omega, rfl⟩))⟩
        obtain ⟨i', hi', ei, ci⟩ := sg i hi
        obtain ⟨j', hj', ej, cj⟩ := sg j hj
        rw [ei, ej] at e
        have := f3.2 i' j' hi' hj' e
        omega
      · rw [g2, Int.toNat_natCast]
        exact f4.put (fun y hy => (hS y hy).1.1) hx.1.1 hp d2 d1 u1 u2 u3
      · rw [g2] at hk
        have hkc : k ≤ c := by
          by_cases q : c < 100
          · rw [if_pos q] at hk; omega
          · rw [if_neg q] at hk; omega
        by_cases q1 : k < p
        · rw [u1 k q1, row k (by omega) k (s1 k q1)]; exact f5 k (by omega)
        · by_cases q2 : k = p
          · rw [q2, u2, rowp, t6]; exact hxq
          · have e1 := u3 (k - 1) (by omega) (by omega)
            rw [show k - 1 + 1 = k by omega] at e1
            rw [e1, row (k - 1) (by omega) k (s3 k (by omega) hkc)]
            exact f5 (k - 1) (by omega)
    refine ⟨⟨by omega, by omega⟩, fun q => last M1 (fun _ _ => rfl) ?_, fun q M2 hM2 => last M2 (fun r hr => by rw [hM2, up_ne hr]) ?_⟩
    · rw [n8, if_neg (by omega)]
    · rw [hM2, up_ss, n8, if_pos (by omega)]; omega
  have loop : ∀ p : Nat, p ≤ c → ∀ Mc : Mem, (∀ r, r ≠ 9 → Mc r = M4 r) → (∀ k, k ≤ p → Mc 9 k = M 9 k) → (∀ k, p < k → k ≤ c → Mc 9 k = M 9 (k - 1)) → (∀ k, c < k → Mc 9 k = M 9 k) → (∀ k, p ≤ k → k < c → Lt6 x (tupC M k)) → wp_Ranking_offer_33 k8 Post (p + 1) p Mc := by
    intro p
    induction p with
    | zero =>
      intro hp Mc a b1 b2 b3 d1
      exact ⟨⟨by omega, by omega⟩, fun _ => fin 0 hp Mc a b1 b2 b3 d1 (Or.inl rfl), fun q => absurd (show (((0 : Nat) : Int)) ≤ 0 by omega) q⟩
    | succ p ih =>
      intro hp Mc a b1 b2 b3 d1
      refine ⟨⟨by omega, by omega⟩, fun q => absurd q (by omega), fun _ => ⟨⟨by omega, by omega⟩, ?_⟩⟩
      rw [show (((p + 1 : Nat) : Int) - 1).toNat = p by omega, b1 p (by omega)]
      have hne := pne p (by omega) (by omega)
      rw [← hk8'] at hne
      have hrg : 10 ≤ pK M p := by unfold pK; omega
      have hrow : Mc (10 + (M 9 p).toNat % 101) = M (pK M p) := by
        show Mc (pK M p) = _
        rw [a _ (by omega), r4 _ hne]
      have hrow8 : Mc k8 = M4 k8 := a _ (by omega)
      have hy : S (tupC M p) := f4.2.2.1 p (by omega)
      refine ahead_C hx (hS _ hy) (by rw [hrow8]; exact ⟨t4, t5⟩) (by rw [hrow]; exact ⟨rfl, rfl⟩) (fun hr => ⟨xl rfl, fun q => absurd q (by decide), fun _ => ⟨⟨by omega, by omega⟩, ⟨by omega, by omega⟩, fun M1 hM1 v hv => ?_⟩⟩) (fun hr => ⟨xl rfl, fun _ => ?_, fun q => absurd rfl q⟩)
      · have kv : (((10 + (M 9 p).toNat % 101 : Nat) : Int) - 10) = M 9 p := by
          have := f3.1 p (by omega)
          rw [pm p (by omega)]; omega
        rw [kv, Int.toNat_natCast] at hM1
        rw [hv, show ((p + 1 : Nat) : Int) + -1 = (p : Int) by omega]
        refine ih (by omega) M1 (fun r hr => by rw [hM1, up_ne hr]; exact a r hr) (fun k hk => by rw [hM1, up_nj (by omega)]; exact b1 k (by omega)) (fun k h1 h2 => ?_) (fun k hk => by rw [hM1, up_nj (by omega)]; exact b3 k hk) (fun k h1 h2 => ?_)
        · by_cases q : k = p + 1
          · rw [q, hM1, up_ss]; rfl
          · rw [hM1, up_nj q]; exact b2 k (by omega) h2
        · by_cases q : k = p
          · rw [q]; exact Or.inl hr
          · exact d1 k (by omega) h2
      · exact fin (p + 1) hp Mc a b1 b2 b3 d1 (Or.inr (by rw [Nat.add_sub_cancel]; exact not_rk hr (hkey _ hy)))
  rw [v9c]
  exact ⟨c + 1, loop c (Nat.le_refl _) M4 (fun _ _ => rfl) (fun k _ => by rw [m49]) (fun k h1 h2 => absurd h1 (by omega)) (fun k _ => by rw [m49]) (fun k h1 h2 => absurd h1 (by omega))⟩
