/-! THE REFERENCE'S POINT, AND ITS CORNERS -/
def pp (N : Mem) (a b : Int) : Mem := up (up N 0 19 a) 0 20 b
theorem pp_r {N : Mem} {a b : Int} {r : Nat} (h : r ≠ 0) : pp N a b r = N r := by unfold pp; rw [up_ne h, up_ne h]
theorem pp_0 {N : Mem} {a b : Int} {j : Nat} (h1 : j ≠ 19) (h2 : j ≠ 20) : pp N a b 0 j = N 0 j := by unfold pp; rw [up_nj h2, up_nj h1]
theorem pp_19 {N : Mem} {a b : Int} : pp N a b 0 19 = a := by unfold pp; rw [up_nj (by decide), up_ss]
theorem pp_20 {N : Mem} {a b : Int} : pp N a b 0 20 = b := by unfold pp; rw [up_ss]
theorem mem_ext {N N' : Mem} (h : ∀ r, r ≠ 0 → N r = N' r) (h0 : ∀ j, N 0 j = N' 0 j) : N = N' := by
  funext r
  by_cases hr : r = 0
  · subst hr; funext j; exact h0 j
  · exact h r hr
theorem pp_x {N : Mem} {a b c : Int} : up (pp N a b) 0 19 c = pp N c b := by
  refine mem_ext (fun r hr => by rw [up_ne hr, pp_r hr, pp_r hr]) (fun j => ?_)
  by_cases h1 : j = 19
  · subst h1; rw [up_ss, pp_19]
  · rw [up_nj h1]
    by_cases h2 : j = 20
    · subst h2; rw [pp_20, pp_20]
    · rw [pp_0 h1 h2, pp_0 h1 h2]
theorem pp_y {N : Mem} {a b c : Int} : up (pp N a b) 0 20 c = pp N a c := by
  refine mem_ext (fun r hr => by rw [up_ne hr, pp_r hr, pp_r hr]) (fun j => ?_)
  by_cases h2 : j = 20
  · subst h2; rw [up_ss, pp_20]
  · rw [up_nj h2]
    by_cases h1 : j = 19
    · subst h1; rw [pp_19, pp_19]
    · rw [pp_0 h1 h2, pp_0 h1 h2]
theorem pp_pp {N : Mem} {a b c d : Int} : pp (pp N a b) c d = pp N c d := by
  show up (up (pp N a b) 0 19 c) 0 20 d = _
  rw [pp_x, pp_y]
theorem pp_same (N : Mem) : pp N (N 0 19) (N 0 20) = N := by
  refine mem_ext (fun r hr => pp_r hr) (fun j => ?_)
  by_cases h1 : j = 19
  · subst h1; exact pp_19
  · by_cases h2 : j = 20
    · subst h2; exact pp_20
    · exact pp_0 h1 h2
theorem across_ok {x : Int} {N : Mem} {Post : Int → Prop} (hx : 0 ≤ x ∧ x ≤ 3) (h : Post (stX x)) : wp_Model_across x N Post := by
  have hi : in32 x := ⟨by omega, by omega⟩
  unfold stX at h
  refine ⟨hi, fun h0 => ⟨hi, fun h2 => ?_, fun h2 => ?_⟩, fun h0 => ?_⟩
  · rw [if_neg h0, if_neg h2] at h; exact h
  · rw [if_neg h0, if_pos h2] at h; exact h
  · rw [if_pos h0] at h; exact h
theorem down_ok {x : Int} {N : Mem} {Post : Int → Prop} (hx : 0 ≤ x ∧ x ≤ 3) (h : Post (stY x)) : wp_Model_down x N Post := by
  have hi : in32 x := ⟨by omega, by omega⟩
  unfold stY at h
  refine ⟨hi, fun h0 => ⟨hi, fun h2 => ?_, fun h2 => ?_⟩, fun h0 => ?_⟩
  · rw [if_neg h0, if_neg h2] at h; exact h
  · rw [if_neg h0, if_pos h2] at h; exact h
  · rw [if_pos h0] at h; exact h
section Cor
variable {N : Mem} {n s : Nat} {d cx cy : Nat → Int}
/-- the reference holds this edge at sherd s -/
def Holds (N : Mem) (s n : Nat) (d cx cy : Nat → Int) : Prop := s < 6 ∧ n ≤ 28 ∧ N 1 s = n ∧ (∀ i, i < n → N 2 (28 * s + i) = d i) ∧ Poly n d cx cy
theorem Holds.pp (h : Holds N s n d cx cy) (a b : Int) : Holds (pp N a b) s n d cx cy := by
  obtain ⟨h1, h2, h3, h4, h5⟩ := h
  exact ⟨h1, h2, by rw [pp_r (by decide)]; exact h3, fun i hi => by rw [pp_r (by decide)]; exact h4 i hi, h5⟩
theorem Holds.of {N' : Mem} (h : Holds N s n d cx cy) (h1 : N' 1 s = N 1 s) (h2 : N' 2 = N 2) : Holds N' s n d cx cy := by
  obtain ⟨g1, g2, g3, g4, g5⟩ := h
  exact ⟨g1, g2, by rw [h1]; exact g3, fun i hi => by rw [h2]; exact g4 i hi, g5⟩
theorem corner_ok {k : Nat} {Post : Mem → Prop} (hh : Holds N s n d cx cy) (hk : k ≤ n) (h : Post (pp N (cx k) (cy k))) : wp_Model_corner s k N Post := by
  obtain ⟨h1, h2, h3, h4, h5⟩ := hh
  have loop : ∀ (m i : Nat), i + m = k → wp_Model_corner_12 Post (m + 1) s k i (pp N (cx i) (cy i)) := by
    intro m
    induction m with
    | zero =>
      intro i hi
      refine ⟨⟨by omega, by omega⟩, ⟨by omega, by omega⟩, fun _ => ?_, fun q => absurd (show (k : Int) ≤ i by omega) q⟩
      rw [show i = k by omega]; exact h
    | succ m ih =>
      intro i hi
      obtain ⟨g1, g2, g3⟩ := h5.2.2 i (by omega)
      have e : ∀ N' : Mem, N' 2 = N 2 → N' 2 (28 * (s : Int) + (i : Int)).toNat = d i := fun N' hN => by rw [hN, show (28 * (s : Int) + (i : Int)).toNat = 28 * s + i by omega]; exact h4 i (by omega)
      refine ⟨⟨by omega, by omega⟩, ⟨by omega, by omega⟩, fun q => absurd q (by omega), fun _ => ⟨⟨by omega, by omega⟩, ?_⟩⟩
      rw [e _ (pp_r (by decide))]
      refine across_ok g1 (fun N2 hN2 => ⟨⟨by omega, by omega⟩, ?_⟩)
      rw [pp_19, pp_x] at hN2
      rw [e N2 (by rw [hN2, pp_r (by decide)])]
      refine down_ok g1 (fun N4 hN4 v hv => ?_)
      rw [hN2, pp_20, pp_y, ← g2, ← g3] at hN4
      rw [hv, hN4, show ((i : Nat) : Int) + 1 = ((i + 1 : Nat) : Int) by omega]
      exact ih (i + 1) (by omega)
  intro N1 hN1 N2 hN2
  refine ⟨k + 1, ?_⟩
  have : N2 = pp N (cx 0) (cy 0) := by rw [hN2, hN1, h5.1, h5.2.1]; rfl
  rw [this]
  exact loop k 0 (by omega)
theorem once_ok {Post : Int → Mem → Prop} (hh : Holds N s n d cx cy) (h : ∀ (r a b : Int), (r = 0 ∨ r = 1) → (r = 1 ↔ Once n cx cy) → Post r (pp N a b)) : wp_Model_isOnce s N Post := by
  have hlow := @cx_low n d cx cy hh.2.2.2.2
  have in1 : ∀ k, k ≤ n → in32 (cx k) ∧ in32 (cy k) := fun k hk => by
    have := hlow hk
    have := hh.2.1
    exact ⟨⟨by omega, by omega⟩, by omega, by omega⟩
  have loop : ∀ (m k : Nat), k + m = n → (∀ i j, i < k → j < k → cx i = cx j → cy i = cy j → i = j) → ∀ a b, wp_Model_isOnce_2 Post (m + 1) s k (pp N a b) := by
    intro m
    induction m with
    | zero =>
      intro k hk hu a b
      have hg := hh.pp a b
      have hkn : k = n := by omega
      subst hkn
      refine ⟨⟨by have := hh.1; omega, by have := hh.1; omega⟩, ⟨by have := hh.2.1; omega, by have := hh.2.1; omega⟩, ?_, fun _ => ⟨⟨by have := hh.1; omega, by have := hh.1; omega⟩, ?_⟩, fun q => absurd ?_ q⟩
      · rw [Int.toNat_natCast, hg.2.2.1]; have := hh.2.1; exact ⟨by omega, by omega⟩
      · rw [Int.toNat_natCast, hg.2.2.1]
        refine corner_ok hg (Nat.le_refl _) ?_
        rw [pp_pp, pp_19, pp_20]
        refine ⟨(in1 k (Nat.le_refl _)).1, fun q => ?_, fun q => ⟨(in1 k (Nat.le_refl _)).2, fun q2 => ?_, fun q2 => ?_⟩⟩
        · exact h 0 _ _ (Or.inl rfl) ⟨fun z => absurd z (by decide), fun z => absurd z.1 q⟩
        · exact h 0 _ _ (Or.inl rfl) ⟨fun z => absurd z (by decide), fun z => absurd z.2.1 q2⟩
        · exact h 1 _ _ (Or.inr rfl) ⟨fun _ => ⟨q, q2, hu⟩, fun _ => rfl⟩
      · rw [Int.toNat_natCast, hg.2.2.1]; omega
    | succ m ih =>
      intro k hk hu a b
      have hg := hh.pp a b
      have hkn : k < n := by omega
      refine ⟨⟨by have := hh.1; omega, by have := hh.1; omega⟩, ⟨by have := hh.2.1; omega, by have := hh.2.1; omega⟩, ?_, fun q => absurd q ?_, fun _ => ?_⟩
      · rw [Int.toNat_natCast, hg.2.2.1]; have := hh.2.1; exact ⟨by omega, by omega⟩
      · rw [Int.toNat_natCast, hg.2.2.1]; omega
      · refine corner_ok hg (by omega) ?_
        rw [pp_pp]
        intro v3 h3 v4 h4
        rw [pp_19] at h3
        rw [pp_20] at h4
        have inner : ∀ (m2 i : Nat), i + m2 = k → (∀ j, j < i → ¬ (cx j = cx k ∧ cy j = cy k)) → ∀ a b, wp_Model_isOnce_32 (fun y0 y1 M => wp_Model_isOnce_2 Post (m + 1) y0 y1 M) Post (m2 + 1) s k v3 v4 i (pp N a b) := by
          intro m2
          induction m2 with
          | zero =>
            intro i hi hu2 a b
            refine ⟨⟨by have := hh.2.1; omega, by have := hh.2.1; omega⟩, ⟨by have := hh.2.1; omega, by have := hh.2.1; omega⟩, fun _ v hv => ?_, fun q => absurd (show (k : Int) ≤ i by omega) q⟩
            rw [hv, show ((k : Nat) : Int) + 1 = ((k + 1 : Nat) : Int) by omega]
            refine ih (k + 1) (by omega) (fun i1 j1 hi1 hj1 e1 e2 => ?_) a b
            by_cases c1 : i1 = k
            · by_cases c2 : j1 = k
              · omega
              · subst c1
                exact absurd ⟨e1.symm, e2.symm⟩ (hu2 j1 (by omega))
            · by_cases c2 : j1 = k
              · subst c2
                exact absurd ⟨e1, e2⟩ (hu2 i1 (by omega))
              · exact hu i1 j1 (by omega) (by omega) e1 e2
          | succ m2 ih2 =>
            intro i hi hu2 a b
            have hg2 := hh.pp a b
            refine ⟨⟨by have := hh.2.1; omega, by have := hh.2.1; omega⟩, ⟨by have := hh.2.1; omega, by have := hh.2.1; omega⟩, fun q => absurd q (by omega), fun _ => corner_ok hg2 (by omega) ?_⟩
            rw [pp_pp, pp_19, pp_20, h3, h4]
            have next : ¬ (cx i = cx k ∧ cy i = cy k) → wp_Model_isOnce_32 (fun y0 y1 M => wp_Model_isOnce_2 Post (m + 1) y0 y1 M) Post (m2 + 1) s k (cx k) (cy k) ((i : Int) + 1) (pp N (cx i) (cy i)) := by
              intro hne
              rw [show ((i : Nat) : Int) + 1 = ((i + 1 : Nat) : Int) by omega, ← h3, ← h4]
              refine ih2 (i + 1) (by omega) (fun j hj => ?_) _ _
              by_cases c : j = i
              · subst c; exact hne
              · exact hu2 j (by omega)
            refine ⟨(in1 i (by omega)).1, (in1 k (by omega)).1, fun q v hv => ?_, fun q => ⟨(in1 i (by omega)).2, (in1 k (by omega)).2, fun q2 v hv => ?_, fun q2 => ?_⟩⟩
            · rw [hv]; exact next (fun z => q z.1)
            · rw [hv]; exact next (fun z => q2 z.2)
            · refine h 0 _ _ (Or.inl rfl) ⟨fun z => absurd z (by decide), fun z => ?_⟩
              have := z.2.2 i k (by omega) hkn q q2
              omega
        exact ⟨k + 1, inner k 0 (by omega) (fun j hj => absurd hj (by omega)) _ _⟩
  refine ⟨n + 1, ?_⟩
  have := loop n 0 (by omega) (fun i j hi => absurd hi (by omega)) (N 0 19) (N 0 20)
  rw [pp_same] at this
  exact this
theorem space_ok {Post : Int → Mem → Prop} (hh : Holds N s n d cx cy) (h : ∀ (a b : Int), Post (sm (fun k => cx k * stY (d k) - cy k * stX (d k)) n) (pp N a b)) : wp_Model_space s N Post := by
  have loop : ∀ (m k : Nat), k + m = n → ∀ a b, wp_Model_space_4 Post (m + 1) s (sm (fun k => cx k * stY (d k) - cy k * stX (d k)) k) k (pp N a b) := by
    intro m
    induction m with
    | zero =>
      intro k hk a b
      have hg := hh.pp a b
      refine ⟨⟨by have := hh.1; omega, by have := hh.1; omega⟩, ⟨by have := hh.2.1; omega, by have := hh.2.1; omega⟩, ?_, fun _ => ?_, fun q => absurd ?_ q⟩
      · rw [Int.toNat_natCast, hg.2.2.1]; have := hh.2.1; exact ⟨by omega, by omega⟩
      · rw [show k = n by omega]; exact h a b
      · rw [Int.toNat_natCast, hg.2.2.1]; omega
    | succ m ih =>
      intro k hk a b
      have hg := hh.pp a b
      have hs6 := hh.1
      have hn28 := hh.2.1
      obtain ⟨g1, g2, g3⟩ := hh.2.2.2.2.2.2 k (by omega)
      refine ⟨⟨by omega, by omega⟩, ⟨by omega, by omega⟩, ?_, fun q => absurd q ?_, fun _ => corner_ok hg (by omega) ?_⟩
      · rw [Int.toNat_natCast, hg.2.2.1]; exact ⟨by omega, by omega⟩
      · rw [Int.toNat_natCast, hg.2.2.1]; omega
      · rw [pp_pp]
        refine ⟨⟨by omega, by omega⟩, fun v4 h4 => ?_⟩
        rw [pp_r (by decide), show (28 * (s : Int) + (k : Int)).toNat = 28 * s + k by omega, hh.2.2.2.1 k (by omega)] at h4
        rw [h4]
        refine down_ok g1 (across_ok g1 (fun v2 h2 v3 h3 => ?_))
        rw [pp_19, pp_20] at h2
        rw [h3, show ((k : Nat) : Int) + 1 = ((k + 1 : Nat) : Int) by omega, h2]
        exact ih (k + 1) (by omega) _ _
  refine ⟨n + 1, ?_⟩
  have := loop n 0 (by omega) (N 0 19) (N 0 20)
  rw [pp_same] at this
  exact this
theorem inside_ok {Post : Int → Mem → Prop} {x y : Int} (hx : in32 x) (hy : in32 y) (hh : Holds N s n d cx cy) (h : ∀ (r a b : Int), (r = 0 ∨ r = 1) → (wn n d cx cy x y - r) % 2 = 0 → Post r (pp N a b)) : wp_Model_isInside s x y N Post := by
  have hlow := @cx_low n d cx cy hh.2.2.2.2
  have loop : ∀ (m k : Nat), k + m = n → ∀ r a b, (r = 0 ∨ r = 1) → (sm (wd d cx cy x y) k - r) % 2 = 0 → wp_Model_isInside_6 Post (m + 1) s x y r k (pp N a b) := by
    intro m
    induction m with
    | zero =>
      intro k hk r a b hr hp
      have hg := hh.pp a b
      refine ⟨⟨by have := hh.1; omega, by have := hh.1; omega⟩, ⟨by have := hh.2.1; omega, by have := hh.2.1; omega⟩, ?_, fun _ => ⟨hr, ?_⟩, fun q => absurd ?_ q⟩
      · rw [Int.toNat_natCast, hg.2.2.1]; have := hh.2.1; exact ⟨by omega, by omega⟩
      · rw [show k = n by omega] at hp; exact h r a b hr hp
      · rw [Int.toNat_natCast, hg.2.2.1]; omega
    | succ m ih =>
      intro k hk r a b hr hp
      have hg := hh.pp a b
      have hs6 := hh.1
      have hn28 := hh.2.1
      obtain ⟨g1, g2, g3⟩ := hh.2.2.2.2.2.2 k (by omega)
      have hk1 := hlow (show k ≤ n by omega)
      have inx : in32 (cx k) := ⟨by omega, by omega⟩
      have iny : in32 (cy k) := ⟨by omega, by omega⟩
      have iny1 : in32 (cy k - 1) := ⟨by omega, by omega⟩
      have inr : in32 r := by rcases hr with h | h <;> rw [h] <;> exact xl rfl
      have next : ∀ r' a b, (r' = 0 ∨ r' = 1) → (sm (wd d cx cy x y) k + wd d cx cy x y k - r') % 2 = 0 → wp_Model_isInside_6 Post (m + 1) s x y r' ((k : Int) + 1) (pp N a b) := by
        intro r' a b q1 q2
        rw [show ((k : Nat) : Int) + 1 = ((k + 1 : Nat) : Int) by omega]
        exact ih (k + 1) (by omega) r' a b q1 q2
      refine ⟨⟨by omega, by omega⟩, ⟨by omega, by omega⟩, ?_, fun q => absurd q ?_, fun _ => ⟨⟨by omega, by omega⟩, fun v6 h6 => ?_⟩⟩
      · rw [Int.toNat_natCast, hg.2.2.1]; exact ⟨by omega, by omega⟩
      · rw [Int.toNat_natCast, hg.2.2.1]; omega
      rw [pp_r (by decide), show (28 * (s : Int) + (k : Int)).toNat = 28 * s + k by omega, hh.2.2.2.1 k (by omega)] at h6
      subst h6
      have in90 : ∀ (t1 : Int) (a b : Int), (t1 = 0 ∨ t1 = 1) → (wd d cx cy x y k - t1) % 2 = 0 → wp_Model_isInside_90 (fun y0 y1 y2 y3 y4 M => wp_Model_isInside_6 Post (m + 1) y0 y1 y2 y3 y4 M) s x y k r t1 (pp N a b) Post := by
        intro t1 a b ht hw
        refine ⟨inr, by rcases ht with h | h <;> rw [h] <;> exact xl rfl, fun e v hv => ?_, fun e v hv => ?_⟩
        · rw [hv]; exact next 0 a b (Or.inl rfl) (by omega)
        · rw [hv]; exact next 1 a b (Or.inr rfl) (by omega)
      have in67 : ∀ (t0 : Int), in32 t0 → (t0 = y ∧ cx k ≤ x → (wd d cx cy x y k - 1) % 2 = 0) → (¬ (t0 = y ∧ cx k ≤ x) → wd d cx cy x y k = 0) → wp_Model_isInside_67 (fun y0 y1 y2 y3 y4 M => wp_Model_isInside_6 Post (m + 1) y0 y1 y2 y3 y4 M) s x y r k t0 (pp N (cx k) (cy k)) Post := by
        intro t0 ht w1 w0
        refine ⟨ht, hy, fun q => in90 0 _ _ (Or.inl rfl) (by rw [w0 (fun z => q z.1)]; decide), fun q => ⟨by rw [pp_19]; exact inx, hx, fun q2 => ?_, fun q2 => ?_⟩⟩
        · rw [pp_19] at q2
          exact in90 0 _ _ (Or.inl rfl) (by rw [w0 (fun z => absurd z.2 (by omega))]; decide)
        · rw [pp_19] at q2
          exact in90 1 _ _ (Or.inr rfl) (w1 ⟨q, by omega⟩)
      refine ⟨⟨by omega, by omega, by omega, by omega⟩, ⟨by omega, by omega⟩, fun hodd => corner_ok hg (by omega) ?_, fun hev v hv => ?_⟩
      · rw [pp_pp]
        refine ⟨⟨by omega, by omega⟩, fun h1 => ?_, fun h1 => ?_⟩
        · have h3 : d k = 3 := by omega
          rw [pp_20]
          refine in67 _ iny1 (fun z => ?_) (fun z => ?_)
          · unfold wd; rw [if_pos h3, if_pos z]; decide
          · unfold wd; rw [if_pos h3, if_neg z]
        · rw [pp_20]
          refine in67 _ iny (fun z => ?_) (fun z => ?_)
          · unfold wd; rw [if_neg (by omega), if_pos h1, if_pos z]; decide
          · unfold wd; rw [if_neg (by omega), if_pos h1, if_neg z]
      · rw [hv]
        have hw0 : wd d cx cy x y k = 0 := by unfold wd; rw [if_neg (by omega), if_neg (by omega)]
        exact next r a b hr (by rw [hw0]; omega)
  refine ⟨n + 1, ?_⟩
  have := loop n 0 (by omega) 0 (N 0 19) (N 0 20) (Or.inl rfl) (by show ((0 : Int) - 0) % 2 = 0; decide)
  rw [pp_same] at this
  exact this
end Cor
