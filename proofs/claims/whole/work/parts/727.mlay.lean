/-! THE REFERENCE LAYS ITS FIELD -/
section ML
variable {N : Mem} {ns : Nat} {T lo hi ul uh : Int}
/-- a cell of the tree -/
def TC (N : Mem) (ns : Nat) (T : Int) (s k : Nat) : Prop := s < ns ∧ N 10 (4 * s + 3) = T ∧ (k : Int) < N 5 s
/-- what the reference's lay reads -/
def MLok (N : Mem) (ns : Nat) (T lo hi ul uh : Int) : Prop := (N 0 1 = ns ∧ ns ≤ 6) ∧ (0 ≤ T ∧ T ≤ 5) ∧ (∀ s, s < 6 → (0 ≤ N 5 s ∧ N 5 s ≤ 49) ∧ (0 ≤ N 10 (4 * s + 3) ∧ N 10 (4 * s + 3) ≤ 5)) ∧ (∀ s, s < ns → N 10 (4 * s + 3) = T → 0 ≤ N 10 (4 * s + 2) ∧ N 10 (4 * s + 2) ≤ 3) ∧ (∀ s k, TC N ns T s k → (lo ≤ CX N (N 10) s k ∧ CX N (N 10) s k < hi) ∧ ul ≤ CY N (N 10) s k ∧ CY N (N 10) s k < uh) ∧ ((-300 ≤ lo ∧ hi ≤ 300 ∧ hi ≤ lo + 84) ∧ -300 ≤ ul ∧ uh ≤ 300 ∧ uh ≤ ul + 84) ∧ ∃ s k, TC N ns T s k
def Base (N Nc : Mem) : Prop := (∀ r, r ≠ 0 → r ≠ 13 → Nc r = N r) ∧ ∀ j, j ≠ 19 → j ≠ 20 → j ≠ 22 → j ≠ 23 → Nc 0 j = N 0 j
theorem Base.cell {Nc : Mem} (h : Base N Nc) (s k : Nat) : CX Nc (Nc 10) s k = CX N (N 10) s k ∧ CY Nc (Nc 10) s k = CY N (N 10) s k := by
  unfold CX CY
  rw [h.1 6 (by decide) (by decide), h.1 7 (by decide) (by decide), h.1 10 (by decide) (by decide)]
  exact ⟨rfl, rfl⟩
def I0 (N Nc : Mem) (lo ul left top : Int) : Prop := Base N Nc ∧ Nc 13 = N 13 ∧ (Nc 0 22 = left ∧ Nc 0 23 = top) ∧ (lo ≤ left ∧ left ≤ 1000) ∧ ul ≤ top ∧ top ≤ 1000
def LL (N : Mem) (ns : Nat) (T : Int) (s k : Nat) (left top : Int) : Prop := ∀ s' k', TC N ns T s' k' → (s' < s ∨ (s' = s ∧ k' < k)) → left ≤ CX N (N 10) s' k' ∧ top ≤ CY N (N 10) s' k'
def QQ (N : Mem) (ns : Nat) (T left top : Int) (s k t : Nat) : Prop := ∃ s' k', TC N ns T s' k' ∧ (s' < s ∨ (s' = s ∧ k' < k)) ∧ 90 * (CY N (N 10) s' k' - top + 1) + CX N (N 10) s' k' - left + 1 = (t : Int)
def I1 (N Nc : Mem) (ns : Nat) (T left top : Int) (s k : Nat) : Prop := Base N Nc ∧ (Nc 0 22 = left ∧ Nc 0 23 = top) ∧ (∀ t, t < 8100 → Nc 13 t = 0 ∨ Nc 13 t = 1) ∧ ∀ t, t < 8100 → (Nc 13 t = 1 ↔ QQ N ns T left top s k t)
variable (hM : MLok N ns T lo hi ul uh)
theorem turn0_k {X16 : Int → Int → Mem → Prop} {X23 : Int → Int → Int → Mem → Prop} {Post : Mem → Prop} (hM : MLok N ns T lo hi ul uh) {s : Nat} (hs : s < ns) (hX : ∀ (Nc : Mem) (left top : Int), I0 N Nc lo ul left top → LL N ns T (s + 1) 0 left top → X23 T 0 ((s + 1 : Nat) : Int) Nc) :
    ∀ f k : Nat, (k : Int) + f = N 5 s → ∀ (Nc : Mem) (left top : Int), I0 N Nc lo ul left top → LL N ns T s k left top → wp_Model_lay_34 X16 X23 Post (f + 1) T 0 s k Nc := by
  obtain ⟨⟨a1, a2⟩, a3, a4, a5, a6, a7, -⟩ := id hM
  have hs6 : s < 6 := by omega
  obtain ⟨b1, b2⟩ := a4 s hs6
  have next : ((s : Nat) : Int) + 1 = ((s + 1 : Nat) : Int) := by omega
  have leave : ∀ (Nc : Mem) (left top : Int) (k : Nat), I0 N Nc lo ul left top → LL N ns T s k left top → (∀ k', TC N ns T s k' → k' < k) → X23 T 0 ((s + 1 : Nat) : Int) Nc := by
    intro Nc left top k hI hL hall
    refine hX Nc left top hI (fun s' k' ht hlt => hL s' k' ht ?_)
    by_cases z : s' = s
    · subst z; exact Or.inr ⟨rfl, hall k' ht⟩
    · exact Or.inl (by omega)
  intro f
  induction f with
  | zero =>
    intro k hk Nc left top hI hL
    have e5 : Nc 5 s = N 5 s := by rw [hI.1.1 5 (by decide) (by decide)]
    refine ⟨⟨by omega, by omega⟩, ⟨by omega, by omega⟩, ?_⟩
    rw [Int.toNat_natCast, e5]
    refine ⟨⟨by omega, by omega⟩, fun _ v hv => ?_, fun z => absurd (show N 5 s ≤ (k : Int) by omega) z⟩
    rw [hv, next]
    exact leave Nc left top k hI hL (fun k' ht => by have := ht.2.2; omega)
  | succ f ih =>
    intro k hk Nc left top hI hL
    obtain ⟨i1, i2, ⟨i3, i4⟩, i5, i6⟩ := id hI
    have e5 : Nc 5 s = N 5 s := by rw [i1.1 5 (by decide) (by decide)]
    have e10 : Nc 10 = N 10 := i1.1 10 (by decide) (by decide)
    have ix : (4 * (s : Int) + 3).toNat = 4 * s + 3 := by omega
    refine ⟨⟨by omega, by omega⟩, ⟨by omega, by omega⟩, ?_⟩
    rw [Int.toNat_natCast, e5]
    refine ⟨⟨by omega, by omega⟩, fun z => absurd z (by omega), fun _ => ⟨⟨by omega, by omega⟩, ?_⟩⟩
    rw [ix, e10]
    refine ⟨⟨by omega, by omega⟩, ⟨by omega, by omega⟩, fun hm v hv => ?_, fun hm => ?_⟩
    · rw [hv, next]
      exact leave Nc left top k hI hL (fun k' ht => absurd ht.2.1 hm)
    · have ht : TC N ns T s k := ⟨hs, hm, by omega⟩
      have bx := a6 s k ht
      refine cellOf_ok (by decide) hs6 (by omega) (by rw [e10]; exact a5 s hs hm) ?_
      rw [(i1.cell s k).1, (i1.cell s k).2]
      -- the next cell
      have go : ∀ (Nd : Mem) (l' t' : Int), I0 N Nd lo ul l' t' → l' ≤ left → t' ≤ top → l' ≤ CX N (N 10) s k → t' ≤ CY N (N 10) s k → wp_Model_lay_34 X16 X23 Post (f + 1) T 0 s ((k : Int) + 1) Nd := by
        intro Nd l' t' hI' q1 q2 q3 q4
        rw [show ((k : Nat) : Int) + 1 = ((k + 1 : Nat) : Int) by omega]
        refine ih (k + 1) (by omega) Nd l' t' hI' (fun s' k' ht' hlt => ?_)
        by_cases z : s' = s ∧ k' = k
        · obtain ⟨z1, z2⟩ := z
          subst z1; subst z2
          exact ⟨q3, q4⟩
        · have := hL s' k' ht' (by omega)
          exact ⟨by omega, by omega⟩
      have top2 : ∀ (Nd : Mem) (l' : Int), Base N Nd → Nd 13 = N 13 → Nd 0 22 = l' → Nd 0 23 = top → Nd 0 20 = CY N (N 10) s k → lo ≤ l' → l' ≤ left → l' ≤ CX N (N 10) s k → wp_Model_lay_130 X16 X23 (fun y0 y1 y2 y3 M => wp_Model_lay_34 X16 X23 Post (f + 1) y0 y1 y2 y3 M) T 0 s k Nd Post := by
        intro Nd l' hB h13 h22 h23 h20 q1 q2 q3
        refine ⟨xl rfl, fun z => absurd rfl z, fun _ => ?_⟩
        rw [h20, h23]
        refine ⟨⟨by omega, by omega⟩, ⟨by omega, by omega⟩, fun z v hv => ?_, fun z M3 g3 v hv => ?_⟩
        · rw [hv]
          exact go Nd l' top ⟨hB, h13, ⟨h22, h23⟩, ⟨q1, by omega⟩, i6⟩ q2 (by omega) q3 z
        · rw [hv]
          refine go M3 l' (CY N (N 10) s k) ⟨⟨fun r r0 r13 => by rw [g3, up_ne r0]; exact hB.1 r r0 r13, fun j j1 j2 j3 j4 => by rw [g3, up_nj j4]; exact hB.2 j j1 j2 j3 j4⟩, by rw [g3, up_ne (by decide)]; exact h13, ⟨by rw [g3, up_nj (by decide)]; exact h22, by rw [g3, up_ss]⟩, ⟨q1, by omega⟩, by omega, by omega⟩ q2 (by omega) q3 (by omega)
      have hB : Base N (pp Nc (CX N (N 10) s k) (CY N (N 10) s k)) := ⟨fun r r0 r13 => by rw [pp_r r0]; exact i1.1 r r0 r13, fun j j1 j2 j3 j4 => by rw [pp_0 j1 j2]; exact i1.2 j j1 j2 j3 j4⟩
      refine ⟨xl rfl, fun _ => ⟨xl rfl, fun z => absurd rfl z, fun _ => ?_⟩, fun z => absurd z (by decide)⟩
      rw [pp_19, pp_0 (by decide) (by decide), i3]
      refine ⟨⟨by omega, by omega⟩, ⟨by omega, by omega⟩, fun z => top2 _ left hB (by rw [pp_r (by decide)]; exact i2) (by rw [pp_0 (by decide) (by decide)]; exact i3) (by rw [pp_0 (by decide) (by decide)]; exact i4) pp_20 i5.1 (by omega) z, fun z M1 g1 => ?_⟩
      refine top2 M1 (CX N (N 10) s k) ⟨fun r r0 r13 => by rw [g1, up_ne r0]; exact hB.1 r r0 r13, fun j j1 j2 j3 j4 => by rw [g1, up_nj j3]; exact hB.2 j j1 j2 j3 j4⟩ (by rw [g1, up_ne (by decide), pp_r (by decide)]; exact i2) (by rw [g1, up_ss]) (by rw [g1, up_nj (by decide), pp_0 (by decide) (by decide)]; exact i4) (by rw [g1, up_nj (by decide), pp_20]) (by omega) (by omega) (by omega)
theorem turn1_k {X16 : Int → Int → Mem → Prop} {X23 : Int → Int → Int → Mem → Prop} {Post : Mem → Prop} {left top : Int} (hM : MLok N ns T lo hi ul uh) (hl : lo ≤ left ∧ ul ≤ top) (hall : ∀ s k, TC N ns T s k → left ≤ CX N (N 10) s k ∧ top ≤ CY N (N 10) s k) {s : Nat} (hs : s < ns) (hX : ∀ Nc : Mem, I1 N Nc ns T left top (s + 1) 0 → X23 T 1 ((s + 1 : Nat) : Int) Nc) :
    ∀ f k : Nat, (k : Int) + f = N 5 s → ∀ Nc : Mem, I1 N Nc ns T left top s k → wp_Model_lay_34 X16 X23 Post (f + 1) T 1 s k Nc := by
  obtain ⟨⟨a1, a2⟩, a3, a4, a5, a6, a7, -⟩ := id hM
  have hs6 : s < 6 := by omega
  obtain ⟨b1, b2⟩ := a4 s hs6
  have next : ((s : Nat) : Int) + 1 = ((s + 1 : Nat) : Int) := by omega
  have leave : ∀ (Nc : Mem) (k : Nat), I1 N Nc ns T left top s k → (∀ k', TC N ns T s k' → k' < k) → X23 T 1 ((s + 1 : Nat) : Int) Nc := by
    intro Nc k hI hk
    obtain ⟨i1, i2, i3, i4⟩ := hI
    refine hX Nc ⟨i1, i2, i3, fun t ht => ?_⟩
    rw [i4 t ht]
    constructor
    · intro ⟨s', k', q1, q2, q3⟩
      exact ⟨s', k', q1, by omega, q3⟩
    · intro ⟨s', k', q1, q2, q3⟩
      refine ⟨s', k', q1, ?_, q3⟩
      by_cases z : s' = s
      · subst z; exact Or.inr ⟨rfl, hk k' q1⟩
      · exact Or.inl (by omega)
  intro f
  induction f with
  | zero =>
    intro k hk Nc hI
    have e5 : Nc 5 s = N 5 s := by rw [hI.1.1 5 (by decide) (by decide)]
    refine ⟨⟨by omega, by omega⟩, ⟨by omega, by omega⟩, ?_⟩
    rw [Int.toNat_natCast, e5]
    refine ⟨⟨by omega, by omega⟩, fun _ v hv => ?_, fun z => absurd (show N 5 s ≤ (k : Int) by omega) z⟩
    rw [hv, next]
    exact leave Nc k hI (fun k' ht => by have := ht.2.2; omega)
  | succ f ih =>
    intro k hk Nc hI
    obtain ⟨i1, ⟨i2, i2'⟩, i3, i4⟩ := id hI
    have e5 : Nc 5 s = N 5 s := by rw [i1.1 5 (by decide) (by decide)]
    have e10 : Nc 10 = N 10 := i1.1 10 (by decide) (by decide)
    have ix : (4 * (s : Int) + 3).toNat = 4 * s + 3 := by omega
    refine ⟨⟨by omega, by omega⟩, ⟨by omega, by omega⟩, ?_⟩
    rw [Int.toNat_natCast, e5]
    refine ⟨⟨by omega, by omega⟩, fun z => absurd z (by omega), fun _ => ⟨⟨by omega, by omega⟩, ?_⟩⟩
    rw [ix, e10]
    refine ⟨⟨by omega, by omega⟩, ⟨by omega, by omega⟩, fun hm v hv => ?_, fun hm => ?_⟩
    · rw [hv, next]
      exact leave Nc k hI (fun k' ht => absurd ht.2.1 hm)
    · have ht : TC N ns T s k := ⟨hs, hm, by omega⟩
      have bx := a6 s k ht
      have ba := hall s k ht
      refine cellOf_ok (by decide) hs6 (by omega) (by rw [e10]; exact a5 s hs hm) ?_
      rw [(i1.cell s k).1, (i1.cell s k).2]
      refine ⟨xl rfl, fun z => absurd rfl z, fun _ => ?_⟩
      rw [pp_19, pp_20, pp_0 (by decide) (by decide), pp_0 (by decide) (by decide), i2, i2']
      obtain ⟨t, et⟩ : ∃ t : Nat, 90 * (CY N (N 10) s k - top + 1) + CX N (N 10) s k - left + 1 = t := ⟨(90 * (CY N (N 10) s k - top + 1) + CX N (N 10) s k - left + 1).toNat, by omega⟩
      rw [et]
      refine ⟨⟨by omega, by omega⟩, fun M5 g5 => ⟨xl rfl, fun _ => ⟨xl rfl, fun _ v hv => ?_, fun z => absurd z (by decide)⟩, fun z => absurd z (by decide)⟩⟩
      rw [Int.toNat_natCast] at g5
      rw [hv, show ((k : Nat) : Int) + 1 = ((k + 1 : Nat) : Int) by omega]
      have c13 : ∀ t', M5 13 t' = if t' = t then 1 else Nc 13 t' := fun t' => by
        rw [g5]
        by_cases z : t' = t
        · rw [z, up_ss, if_pos rfl]
        · rw [up_nj z, if_neg z, pp_r (by decide)]
      refine ih (k + 1) (by omega) M5 ⟨⟨fun r r0 r13 => by rw [g5, up_ne r13, pp_r r0]; exact i1.1 r r0 r13, fun j j1 j2 j3 j4 => by rw [g5, up_ne (by decide), pp_0 j1 j2]; exact i1.2 j j1 j2 j3 j4⟩, ⟨by rw [g5, up_ne (by decide), pp_0 (by decide) (by decide)]; exact i2, by rw [g5, up_ne (by decide), pp_0 (by decide) (by decide)]; exact i2'⟩, fun t' ht' => ?_, fun t' ht' => ?_⟩
      · rw [c13]
        by_cases z : t' = t
        · rw [if_pos z]; exact Or.inr rfl
        · rw [if_neg z]; exact i3 t' ht'
      · rw [c13]
        by_cases z : t' = t
        · rw [if_pos z]
          exact ⟨fun _ => ⟨s, k, ht, by omega, by rw [z]; exact et⟩, fun _ => rfl⟩
        · rw [if_neg z, i4 t' ht']
          constructor
          · intro ⟨s', k', q1, q2, q3⟩
            exact ⟨s', k', q1, by omega, q3⟩
          · intro ⟨s', k', q1, q2, q3⟩
            refine ⟨s', k', q1, ?_, q3⟩
            by_cases y : s' = s ∧ k' = k
            · obtain ⟨y1, y2⟩ := y
              subst y1; subst y2
              omega
            · omega
theorem mlay_ok {Post : Mem → Prop} (hM : MLok N ns T lo hi ul uh) (h13 : ∀ t, t < 8100 → N 13 t = 0) (hP : ∀ (N' : Mem) (left top : Int), Base N N' → (lo ≤ left ∧ left < hi ∧ ul ≤ top ∧ top < uh) → (∀ s k, TC N ns T s k → left ≤ CX N (N 10) s k ∧ top ≤ CY N (N 10) s k) → (∀ t, t < 8100 → N' 13 t = 0 ∨ N' 13 t = 1) → (∀ t, t < 8100 → (N' 13 t = 1 ↔ ∃ s k, TC N ns T s k ∧ 90 * (CY N (N 10) s k - top + 1) + CX N (N 10) s k - left + 1 = (t : Int))) → Post N') : wp_Model_lay T N Post := by
  obtain ⟨⟨a1, a2⟩, a3, a4, a5, a6, a7, s0, k0, a8⟩ := id hM
  have e1 : ∀ Nc, Base N Nc → Nc 0 1 = ns := fun Nc h => by rw [h.2 1 (by decide) (by decide) (by decide) (by decide)]; exact a1
  -- the second turn
  have second : ∀ (Nc : Mem) (left top : Int), (lo ≤ left ∧ ul ≤ top) → (∀ s k, TC N ns T s k → left ≤ CX N (N 10) s k ∧ top ≤ CY N (N 10) s k) → I1 N Nc ns T left top 0 0 → wp_Model_lay_16 Post 2 T 1 Nc := by
    intro Nc left top hl hall hI
    refine ⟨xl rfl, fun z => absurd z (by decide), fun _ => ⟨ns + 1, ?_⟩⟩
    have outer : ∀ f s : Nat, s + f = ns → ∀ Nc : Mem, I1 N Nc ns T left top s 0 → wp_Model_lay_23 (fun y0 y1 M => wp_Model_lay_16 Post 1 y0 y1 M) Post (f + 1) T 1 s Nc := by
      intro f
      induction f with
      | zero =>
        intro s hs Nc hI
        refine ⟨⟨by omega, by omega⟩, by rw [e1 Nc hI.1]; exact ⟨by omega, by omega⟩, fun _ v hv => ?_, fun z => absurd (show Nc 0 1 ≤ (s : Int) by rw [e1 Nc hI.1]; omega) z⟩
        rw [hv]
        refine ⟨by decide, fun _ => ?_, fun z => absurd (by decide) z⟩
        obtain ⟨i1, i2, i3, i4⟩ := hI
        have b0 := a6 s0 k0 a8
        have c0 := hall s0 k0 a8
        refine hP Nc left top i1 ⟨hl.1, by omega, hl.2, by omega⟩ hall i3 (fun t ht => ?_)
        rw [i4 t ht]
        constructor
        · intro ⟨s', k', q1, q2, q3⟩; exact ⟨s', k', q1, q3⟩
        · intro ⟨s', k', q1, q3⟩; exact ⟨s', k', q1, Or.inl (by have := q1.1; omega), q3⟩
      | succ f ih =>
        intro s hs Nc hI
        have b5 := (a4 s (by omega)).1
        refine ⟨⟨by omega, by omega⟩, by rw [e1 Nc hI.1]; exact ⟨by omega, by omega⟩, fun z => absurd z (by rw [e1 Nc hI.1]; omega), fun _ => ⟨(N 5 s).toNat + 1, turn1_k hM hl hall (by omega) (fun N' hI' => ih (s + 1) (by omega) N' hI') (N 5 s).toNat 0 (by omega) Nc hI⟩⟩
    exact outer ns 0 (by omega) Nc hI
  -- the first turn
  have first : ∀ f s : Nat, s + f = ns → ∀ (Nc : Mem) (left top : Int), I0 N Nc lo ul left top → LL N ns T s 0 left top → wp_Model_lay_23 (fun y0 y1 M => wp_Model_lay_16 Post 2 y0 y1 M) Post (f + 1) T 0 s Nc := by
    intro f
    induction f with
    | zero =>
      intro s hs Nc left top hI hL
      refine ⟨⟨by omega, by omega⟩, by rw [e1 Nc hI.1]; exact ⟨by omega, by omega⟩, fun _ v hv => ?_, fun z => absurd (show Nc 0 1 ≤ (s : Int) by rw [e1 Nc hI.1]; omega) z⟩
      rw [hv]
      obtain ⟨i1, i2, i3, i5, i6⟩ := hI
      refine second Nc left top ⟨i5.1, i6.1⟩ (fun s' k' ht => hL s' k' ht (Or.inl (by have := ht.1; omega))) ⟨i1, i3, fun t ht => Or.inl (by rw [i2]; exact h13 t ht), fun t ht => ⟨fun q => ?_, fun ⟨s', k', q1, q2, q3⟩ => by omega⟩⟩
      rw [i2, h13 t ht] at q
      exact absurd q (by decide)
    | succ f ih =>
      intro s hs Nc left top hI hL
      have b5 := (a4 s (by omega)).1
      refine ⟨⟨by omega, by omega⟩, by rw [e1 Nc hI.1]; exact ⟨by omega, by omega⟩, fun z => absurd z (by rw [e1 Nc hI.1]; omega), fun _ => ⟨(N 5 s).toNat + 1, turn0_k hM (by omega) (fun N' l' t' hI' hL' => ih (s + 1) (by omega) N' l' t' hI' hL') (N 5 s).toNat 0 (by omega) Nc left top hI hL⟩⟩
  intro M1 g1 M2 g2
  have b0 := a6 s0 k0 a8
  refine ⟨3, xl rfl, fun z => absurd z (by decide), fun _ => ⟨ns + 1, first ns 0 (by omega) M2 1000 1000 ⟨⟨fun r r0 r13 => by rw [g2, up_ne r0, g1, up_ne r0], fun j j1 j2 j3 j4 => by rw [g2, up_nj j4, g1, up_nj j3]⟩, by rw [g2, up_ne (by decide), g1, up_ne (by decide)], ⟨by rw [g2, up_nj (by decide), g1, up_ss], by rw [g2, up_ss]⟩, ⟨by omega, by decide⟩, by omega, by decide⟩ (fun s' k' _ q => by omega)⟩⟩
end ML
