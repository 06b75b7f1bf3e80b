/-! A TREE IS MOVED: the class -/
theorem bring_ok {M : Mem} {P : Nat → Int} {b : Nat} {x y q t : Int} {Post : Mem → Prop} (hl : RelLay M 2 P) (hb : b < 6) (hq : ∀ s, s < 6 → 0 ≤ P (4 * s + 2) ∧ P (4 * s + 2) ≤ 3) (h3 : ∀ s, s < 6 → in32 (P (4 * s + 3))) (ht : t = (q - P (4 * b + 2)) % 4) (h : ∀ M' : Mem, (∀ r, r ≠ 2 + 1 → r ≠ 2 + 2 → r ≠ 2 + 3 → M' r = M r) → (∀ s, s < 6 → M' (2 + 1) s = (if P (4 * s + 3) = P (4 * b + 3) then rotX t (P (4 * s)) (P (4 * s + 1)) + (x - rotX t (P (4 * b)) (P (4 * b + 1))) else P (4 * s)) ∧ M' (2 + 2) s = (if P (4 * s + 3) = P (4 * b + 3) then rotY t (P (4 * s)) (P (4 * s + 1)) + (y - rotY t (P (4 * b)) (P (4 * b + 1))) else P (4 * s + 1)) ∧ M' (2 + 3) s = (if P (4 * s + 3) = P (4 * b + 3) then (P (4 * s + 2) + t) % 4 else P (4 * s + 2))) → Post M') : wp_Layout_bring 2 b x y q M Post := by
  have t03 : 0 ≤ t ∧ t ≤ 3 := by omega
  obtain ⟨lb1, lb2, lb3, lb4⟩ := hl b hb
  have loop : ∀ f s : Nat, s + f = 6 → ∀ Mc : Mem, (∀ r, r ≠ 2 + 1 → r ≠ 2 + 2 → r ≠ 2 + 3 → Mc r = M r) → (∀ s', s' < s → Mc (2 + 1) s' = (if P (4 * s' + 3) = P (4 * b + 3) then rotX t (P (4 * s')) (P (4 * s' + 1)) + (x - rotX t (P (4 * b)) (P (4 * b + 1))) else P (4 * s')) ∧ Mc (2 + 2) s' = (if P (4 * s' + 3) = P (4 * b + 3) then rotY t (P (4 * s')) (P (4 * s' + 1)) + (y - rotY t (P (4 * b)) (P (4 * b + 1))) else P (4 * s' + 1)) ∧ Mc (2 + 3) s' = (if P (4 * s' + 3) = P (4 * b + 3) then (P (4 * s' + 2) + t) % 4 else P (4 * s' + 2))) → (∀ s', s ≤ s' → s' < 6 → Mc (2 + 1) s' = P (4 * s') ∧ Mc (2 + 2) s' = P (4 * s' + 1) ∧ Mc (2 + 3) s' = P (4 * s' + 2)) → wp_Layout_bring_58 2 Post (f + 1) b t (x - rotX t (P (4 * b)) (P (4 * b + 1))) (y - rotY t (P (4 * b)) (P (4 * b + 1))) s Mc := by
    intro f
    induction f with
    | zero =>
      intro s hs Mc a1 a2 a3
      exact ⟨⟨by omega, by omega⟩, fun _ => h Mc a1 (fun s' hs' => a2 s' (by omega)), fun z => absurd (show (6 : Int) ≤ s by omega) z⟩
    | succ f ih =>
      intro s hs Mc a1 a2 a3
      have hs6 : s < 6 := by omega
      have e4 : ∀ s', s' < 6 → Mc (2 + 4) s' = P (4 * s' + 3) := fun s' hs' => by rw [a1 (2 + 4) (by omega) (by omega) (by omega)]; exact (hl s' hs').2.2.2
      obtain ⟨c1, c2, c3⟩ := a3 s (by omega) hs6
      refine ⟨⟨by omega, by omega⟩, fun z => absurd z (by omega), fun _ => ⟨⟨by omega, by omega⟩, ⟨by omega, by omega⟩, ?_⟩⟩
      rw [Int.toNat_natCast, Int.toNat_natCast, e4 s hs6, e4 b hb]
      refine ⟨h3 s hs6, h3 b hb, fun hm v hv => ?_, fun hm => ⟨⟨by omega, by omega⟩, fun v9 h9 => ⟨⟨by omega, by omega⟩, fun v10 h10 => ?_⟩⟩⟩
      · rw [hv, show ((s : Nat) : Int) + 1 = ((s + 1 : Nat) : Int) by omega]
        refine ih (s + 1) (by omega) Mc a1 (fun s' hs' => ?_) (fun s' h1 h2 => a3 s' (by omega) h2)
        by_cases z : s' = s
        · subst z; rw [if_neg hm, if_neg hm, if_neg hm]; exact ⟨c1, c2, c3⟩
        · exact a2 s' (by omega)
      · rw [c1] at h9
        rw [c2] at h10
        refine turnX_ok t03 ⟨⟨by omega, by omega⟩, fun M5 h5 => turnY_ok t03 ⟨⟨by omega, by omega⟩, fun M7 h7 => ⟨⟨by omega, by omega⟩, ⟨by omega, by omega⟩, fun M8 h8 v hv => ?_⟩⟩⟩
        rw [h9, h10] at h5 h7
        rw [h7, up_ne (show 2 + 3 ≠ 2 + 2 by decide), h5, up_ne (show 2 + 3 ≠ 2 + 1 by decide), c3, ← h5, ← h7] at h8
        rw [hv, show ((s : Nat) : Int) + 1 = ((s + 1 : Nat) : Int) by omega]
        have x1 : ∀ s', M8 (2 + 1) s' = if s' = s then rotX t (P (4 * s)) (P (4 * s + 1)) + (x - rotX t (P (4 * b)) (P (4 * b + 1))) else Mc (2 + 1) s' := fun s' => by
          rw [h8, up_ne (by decide), h7, up_ne (by decide), h5]
          by_cases z : s' = s
          · subst z; rw [up_ss, if_pos rfl]
          · rw [up_nj z, if_neg z]
        have x2 : ∀ s', M8 (2 + 2) s' = if s' = s then rotY t (P (4 * s)) (P (4 * s + 1)) + (y - rotY t (P (4 * b)) (P (4 * b + 1))) else Mc (2 + 2) s' := fun s' => by
          rw [h8, up_ne (by decide), h7]
          by_cases z : s' = s
          · subst z; rw [up_ss, if_pos rfl]
          · rw [up_nj z, if_neg z, h5, up_ne (by decide)]
        have x3 : ∀ s', M8 (2 + 3) s' = if s' = s then (P (4 * s + 2) + t) % 4 else Mc (2 + 3) s' := fun s' => by
          rw [h8]
          by_cases z : s' = s
          · subst z; rw [up_ss, if_pos rfl]
          · rw [up_nj z, if_neg z, h7, up_ne (by decide), h5, up_ne (by decide)]
        refine ih (s + 1) (by omega) M8 (fun r z1 z2 z3 => ?_) (fun s' hs' => ?_) (fun s' h1 h2 => ?_)
        · rw [h8, up_ne z3, h7, up_ne z2, h5, up_ne z1]; exact a1 r z1 z2 z3
        · rw [x1, x2, x3]
          by_cases z : s' = s
          · subst z; rw [if_pos rfl, if_pos rfl, if_pos rfl, if_pos hm, if_pos hm, if_pos hm]; exact ⟨rfl, rfl, rfl⟩
          · rw [if_neg z, if_neg z, if_neg z]; exact a2 s' (by omega)
        · rw [x1, x2, x3, if_neg (by omega), if_neg (by omega), if_neg (by omega)]; exact a3 s' (by omega) h2
  refine ⟨⟨by omega, by omega⟩, fun v5 h5 => ⟨⟨by omega, by omega⟩, ⟨by omega, by omega⟩, ?_⟩⟩
  rw [Int.toNat_natCast, lb3, ← ht] at h5
  rw [h5, Int.toNat_natCast, lb1, lb2]
  refine turnX_ok t03 (fun v6 h6 => ⟨⟨by omega, by omega⟩, ⟨by omega, by omega⟩, ?_⟩)
  refine turnY_ok t03 (fun v7 h7 => ⟨7, ?_⟩)
  rw [h6, h7]
  exact loop 6 0 (by omega) M (fun _ _ _ _ => rfl) (fun s' hs' => absurd hs' (by omega)) (fun s' _ hs' => ⟨(hl s' hs').1, (hl s' hs').2.1, (hl s' hs').2.2.1⟩)
theorem unite_ok {M : Mem} {a b : Nat} {tr : Nat → Int} {Post : Mem → Prop} (ha : a < 6) (hb : b < 6) (htr : ∀ s, s < 6 → M (2 + 4) s = tr s) (hin : ∀ s, s < 6 → in32 (tr s)) (h : ∀ M' : Mem, (∀ r, r ≠ 2 + 4 → M' r = M r) → (∀ s, s < 6 → M' (2 + 4) s = if tr s = tr a ∨ tr s = tr b then min (tr a) (tr b) else tr s) → Post M') : wp_Layout_unite 2 a b M Post := by
  have loop : ∀ f s : Nat, s + f = 6 → ∀ Mc : Mem, (∀ r, r ≠ 2 + 4 → Mc r = M r) → (∀ s', s' < s → Mc (2 + 4) s' = if tr s' = tr a ∨ tr s' = tr b then min (tr a) (tr b) else tr s') → (∀ s', s ≤ s' → s' < 6 → Mc (2 + 4) s' = tr s') → wp_Layout_unite_36 2 Post (f + 1) (min (tr a) (tr b)) (max (tr a) (tr b)) s Mc := by
    intro f
    induction f with
    | zero =>
      intro s hs Mc a1 a2 a3
      exact ⟨⟨by omega, by omega⟩, fun _ => h Mc a1 (fun s' hs' => a2 s' (by omega)), fun z => absurd (show (6 : Int) ≤ s by omega) z⟩
    | succ f ih =>
      intro s hs Mc a1 a2 a3
      have hs6 : s < 6 := by omega
      have ia := hin a ha
      have ib := hin b hb
      refine ⟨⟨by omega, by omega⟩, fun z => absurd z (by omega), fun _ => ⟨⟨by omega, by omega⟩, ?_⟩⟩
      rw [Int.toNat_natCast, a3 s (by omega) hs6]
      refine ⟨hin s hs6, ⟨by omega, by omega⟩, fun hm v hv => ?_, fun hm => ⟨⟨by omega, by omega⟩, fun M2 h2 v hv => ?_⟩⟩
      · rw [hv, show ((s : Nat) : Int) + 1 = ((s + 1 : Nat) : Int) by omega]
        refine ih (s + 1) (by omega) Mc a1 (fun s' hs' => ?_) (fun s' h1 h2 => a3 s' (by omega) h2)
        by_cases z : s' = s
        · subst z
          rw [a3 s' (by omega) hs6]
          by_cases z2 : tr s' = tr a ∨ tr s' = tr b
          · rw [if_pos z2]; omega
          · rw [if_neg z2]
        · exact a2 s' (by omega)
      · rw [hv, show ((s : Nat) : Int) + 1 = ((s + 1 : Nat) : Int) by omega]
        refine ih (s + 1) (by omega) M2 (fun r hr => by rw [h2, up_ne hr]; exact a1 r hr) (fun s' hs' => ?_) (fun s' h1 h2' => by rw [h2, up_nj (by omega)]; exact a3 s' (by omega) h2')
        rw [h2]
        by_cases z : s' = s
        · subst z; rw [up_ss, if_pos (by omega)]
        · rw [up_nj z]; exact a2 s' (by omega)
  have ia := hin a ha
  have ib := hin b hb
  refine ⟨⟨by omega, by omega⟩, ⟨by omega, by omega⟩, ?_⟩
  rw [Int.toNat_natCast, Int.toNat_natCast, htr a ha, htr b hb]
  refine ⟨ia, ib, fun v3 h3 => ⟨⟨by omega, by omega⟩, ⟨by omega, by omega⟩, ia, ib, fun v4 h4 => ⟨7, ?_⟩⟩⟩
  rw [h3, h4]
  exact loop 6 0 (by omega) M (fun _ _ => rfl) (fun s' hs' => absurd hs' (by omega)) (fun s' _ hs' => htr s' hs')
