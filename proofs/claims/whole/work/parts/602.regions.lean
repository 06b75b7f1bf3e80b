/-! THE NEW OBJECTS AS REGIONS -/
theorem reg_X {D : va_G} {g : Nat → ClassId} {b : Nat} {H : Heap} (h : va_P D classes (wsF b 174 (FX b g [.ref (b + 1), .ref (b + 2), .ref (b + 7), .ref (b + 8), .ref (b + 111), iv 0, iv 0, iv 0, iv 3, iv 100] 6 6)) H) : va_P D classes (wsG b 174 (cellC b g) m0) H := by
  intro k q hk
  obtain ⟨h1, rfl⟩ := wsG_some hk
  have h2 := h k _ (wsF_get h1)
  by_cases k0 : k = 0
  · subst k0; exact h2
  by_cases k1 : k = 1
  · subst k1
    refine va_at_q h2 (fun i hi => ?_)
    unfold eU
    rw [if_pos hi]
  by_cases k7 : k = 7
  · subst k7
    refine va_at_q h2 (fun i hi => ?_)
    unfold eU
    rw [if_pos hi]
  by_cases k9 : k = 9
  · subst k9
    refine va_at_q h2 (fun i hi => ?_)
    unfold rkU
    rw [if_pos hi]
    have : m0 9 i = (i : Int) := by
      unfold m0
      rw [if_pos rfl, if_pos hi]
    rw [this]
    congr 1
    omega
  rw [FX_c k0 k1 k7 k9] at h2
  exact h2
/-- the memory of a new reference -/
def n0 : Mem := fun k j => if k = 0 then (if j = 9 then 3 else if j = 10 then 100 else 0) else if k = 10 then (if j % 4 = 3 ∧ j / 4 < 6 then ((j / 4 : Nat) : Int) else 0) else 0
theorem n0_zero {k : Nat} (h0 : k ≠ 0) (h1 : k ≠ 10) : (fun j => Int32.ofInt (n0 k j)) = fun _ => (0 : Int32) := by
  funext j
  unfold n0
  rw [if_neg h0, if_neg h1]
  rfl
theorem n0_pl : (fun j => Int32.ofInt (n0 10 j)) = plU 6 := by
  funext j
  unfold n0 plU
  rw [if_neg (by decide), if_pos rfl]
  split <;> rfl
theorem reg_N {D : va_G} {g : Nat → ClassId} {b : Nat} {H : Heap} (h : va_P D classes (wsF b 14 (FModel g [.int 0, .int 0, .ref (b + 1), .ref (b + 2), .ref (b + 3), .ref (b + 4), .ref (b + 5), .ref (b + 6), .ref (b + 7), iv 3, iv 100, .int 0, .int 0, .ref (b + 8), .ref (b + 9), .ref (b + 10), .ref (b + 11), .int 0, .ref (b + 12), .int 0, .int 0, .ref (b + 13), .int 0, .int 0] (plU 6))) H) : va_P D classes (wsG b 14 (cellN b g) n0) H := by
  intro k q hk
  obtain ⟨h1, rfl⟩ := wsG_some hk
  have h2 := h k _ (wsF_get h1)
  have hz : ∀ len, k ≠ 0 → k ≠ 10 → iA g len (n0 k) = z0 g len := fun len a1 a2 => by
    show (Sum.inl (g 0, len, Sum.inl (fun j => Int32.ofInt (n0 k j))) : va_E) = _
    rw [n0_zero a1 a2]
  have hzz : ∀ len, k ≠ 0 → k ≠ 10 → zA g len (n0 k) = .inl (g 4, len, .inl (fun _ => 0)) := fun len a1 a2 => by
    show (Sum.inl (g 4, len, Sum.inl (fun j => Int32.ofInt (n0 k j))) : va_E) = _
    rw [n0_zero a1 a2]
  rcases (show k = 0 ∨ k = 1 ∨ k = 2 ∨ k = 3 ∨ k = 4 ∨ k = 5 ∨ k = 6 ∨ k = 7 ∨ k = 8 ∨ k = 9 ∨ k = 10 ∨ k = 11 ∨ k = 12 ∨ k = 13 by omega) with rfl | rfl | rfl | rfl | rfl | rfl | rfl | rfl | rfl | rfl | rfl | rfl | rfl | rfl
  · exact h2
  · show va_at D classes (b + 1, iA g 6 (n0 1)) H
    rw [hz _ (by decide) (by decide)]; exact h2
  · show va_at D classes (b + 2, iA g 168 (n0 2)) H
    rw [hz _ (by decide) (by decide)]; exact h2
  · show va_at D classes (b + 3, iA g 168 (n0 3)) H
    rw [hz _ (by decide) (by decide)]; exact h2
  · show va_at D classes (b + 4, zA g 6 (n0 4)) H
    rw [hzz _ (by decide) (by decide)]; exact h2
  · show va_at D classes (b + 5, iA g 6 (n0 5)) H
    rw [hz _ (by decide) (by decide)]; exact h2
  · show va_at D classes (b + 6, iA g 294 (n0 6)) H
    rw [hz _ (by decide) (by decide)]; exact h2
  · show va_at D classes (b + 7, iA g 294 (n0 7)) H
    rw [hz _ (by decide) (by decide)]; exact h2
  · show va_at D classes (b + 8, iA g 606 (n0 8)) H
    rw [hz _ (by decide) (by decide)]; exact h2
  · show va_at D classes (b + 9, iA g 6 (n0 9)) H
    rw [hz _ (by decide) (by decide)]; exact h2
  · show va_at D classes (b + 10, .inl (g 0, 24, .inl (fun j => Int32.ofInt (n0 10 j)))) H
    rw [n0_pl]; exact h2
  · show va_at D classes (b + 11, iA g 144 (n0 11)) H
    rw [hz _ (by decide) (by decide)]; exact h2
  · show va_at D classes (b + 12, iA g 24 (n0 12)) H
    rw [hz _ (by decide) (by decide)]; exact h2
  · show va_at D classes (b + 13, iA g 8100 (n0 13)) H
    rw [hz _ (by decide) (by decide)]; exact h2
