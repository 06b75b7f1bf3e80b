/-! THE BOARD IS LAID -/
def PX (M : Mem) (s k : Nat) : Int := M (2 + 1) s + rotX (M (2 + 3) s) (M (114 + 10 * s + 3) k) (M (114 + 10 * s + 4) k)
def PY (M : Mem) (s k : Nat) : Int := M (2 + 2) s + rotY (M (2 + 3) s) (M (114 + 10 * s + 3) k) (M (114 + 10 * s + 4) k)
def PD (M : Mem) (s k : Nat) : Int := (M (114 + 10 * s + 1) k + M (2 + 3) s) % 4
theorem turnX_ok {x y q : Int} {M : Mem} {Post : Int → Prop} (hq : 0 ≤ q ∧ q ≤ 3) (h : Post (rotX q x y)) : wp_X_turnedX x y q M Post := by
  unfold rotX at h
  have e : q % 4 = q := by omega
  unfold wp_X_turnedX
  rw [e]
  refine ⟨⟨by omega, by omega⟩, fun z => ?_, fun z => ?_, fun z => ?_, fun z => ?_⟩
  · rw [if_pos z] at h; exact h
  · rw [if_neg (by omega), if_pos z] at h; exact h
  · rw [if_neg (by omega), if_neg (by omega), if_pos z] at h; exact h
  · rw [if_neg (by omega), if_neg (by omega), if_neg (by omega)] at h; exact h
theorem turnY_ok {x y q : Int} {M : Mem} {Post : Int → Prop} (hq : 0 ≤ q ∧ q ≤ 3) (h : Post (rotY q x y)) : wp_X_turnedY x y q M Post := by
  unfold rotY at h
  have e : q % 4 = q := by omega
  unfold wp_X_turnedY
  rw [e]
  refine ⟨⟨by omega, by omega⟩, fun z => ?_, fun z => ?_, fun z => ?_, fun z => ?_⟩
  · rw [if_pos z] at h; exact h
  · rw [if_neg (by omega), if_pos z] at h; exact h
  · rw [if_neg (by omega), if_neg (by omega), if_pos z] at h; exact h
  · rw [if_neg (by omega), if_neg (by omega), if_neg (by omega)] at h; exact h
theorem placedX_ok {M : Mem} {s k : Nat} {Post : Int → Prop} (hs : s < 6) (hk : k ≤ 28) (hq : 0 ≤ M (2 + 3) s ∧ M (2 + 3) s ≤ 3) (h : Post (PX M s k)) : wp_Layout_placedX 2 (114 + 10 * s) s k M Post := by
  refine ⟨⟨by omega, by omega⟩, ⟨by omega, by omega⟩, ⟨by omega, by omega⟩, ⟨by omega, by omega⟩, ?_⟩
  rw [Int.toNat_natCast, Int.toNat_natCast]
  exact turnX_ok hq h
theorem placedY_ok {M : Mem} {s k : Nat} {Post : Int → Prop} (hs : s < 6) (hk : k ≤ 28) (hq : 0 ≤ M (2 + 3) s ∧ M (2 + 3) s ≤ 3) (h : Post (PY M s k)) : wp_Layout_placedY 2 (114 + 10 * s) s k M Post := by
  refine ⟨⟨by omega, by omega⟩, ⟨by omega, by omega⟩, ⟨by omega, by omega⟩, ⟨by omega, by omega⟩, ?_⟩
  rw [Int.toNat_natCast, Int.toNat_natCast]
  exact turnY_ok hq h
/-- a layout that can be laid: tree T's sherds are closed, their corners lie in a box -/
def LayIn (M : Mem) (T : Nat) (n : Nat → Nat) (l r u d : Int) : Prop :=
  (T < 6 ∧ M (2 + 4) T = T) ∧ (∀ s, s < 6 → (0 ≤ M (2 + 4) s ∧ M (2 + 4) s ≤ 5) ∧ M (114 + 10 * s) 4 = n s ∧ n s ≤ 28) ∧ ((-1000 ≤ l ∧ r ≤ 1000 ∧ -1000 ≤ u ∧ d ≤ 1000) ∧ (r - l) + (d - u) ≤ 84) ∧
  ∀ s, s < 6 → M (2 + 4) s = T → 4 ≤ n s ∧ (0 ≤ M (2 + 3) s ∧ M (2 + 3) s ≤ 3) ∧ Poly (n s) (M (114 + 10 * s + 1)) (M (114 + 10 * s + 3)) (M (114 + 10 * s + 4)) ∧ (M (114 + 10 * s + 3) (n s) = 0 ∧ M (114 + 10 * s + 4) (n s) = 0) ∧ ∀ k, k ≤ n s → l ≤ PX M s k ∧ PX M s k ≤ r ∧ u ≤ PY M s k ∧ PY M s k ≤ d
section Lay
variable {M : Mem} {T : Nat} {n : Nat → Nat} {l r u d : Int}
theorem PX_same {M M' : Mem} (h : ∀ r, r ≠ 111 → r ≠ 112 → r ≠ 113 → M' r = M r) (s k : Nat) (hs : s < 6) : PX M' s k = PX M s k ∧ PY M' s k = PY M s k ∧ PD M' s k = PD M s k := by
  unfold PX PY PD
  rw [h (2 + 1) (by omega) (by omega) (by omega), h (2 + 2) (by omega) (by omega) (by omega), h (2 + 3) (by omega) (by omega) (by omega), h (114 + 10 * s + 1) (by omega) (by omega) (by omega), h (114 + 10 * s + 3) (by omega) (by omega) (by omega), h (114 + 10 * s + 4) (by omega) (by omega) (by omega)]
  exact ⟨rfl, rfl, rfl⟩
theorem LayIn.same {M' : Mem} (h : LayIn M T n l r u d) (hM : ∀ r, r ≠ 111 → r ≠ 112 → r ≠ 113 → M' r = M r) : LayIn M' T n l r u d := by
  obtain ⟨a, b, c, e⟩ := h
  refine ⟨by rw [hM (2 + 4) (by omega) (by omega) (by omega)]; exact a, fun s hs => by rw [hM (2 + 4) (by omega) (by omega) (by omega), hM (114 + 10 * s) (by omega) (by omega) (by omega)]; exact b s hs, c, fun s hs ht => ?_⟩
  rw [hM (2 + 4) (by omega) (by omega) (by omega)] at ht
  rw [hM (2 + 3) (by omega) (by omega) (by omega), hM (114 + 10 * s + 1) (by omega) (by omega) (by omega), hM (114 + 10 * s + 3) (by omega) (by omega) (by omega), hM (114 + 10 * s + 4) (by omega) (by omega) (by omega)]
  obtain ⟨e1, e2, e3, e4, e5⟩ := e s hs ht
  refine ⟨e1, e2, e3, e4, fun k hk => ?_⟩
  rw [(PX_same hM s k hs).1, (PX_same hM s k hs).2.1]
  exact e5 k hk
/-- what is known of the box while it is being found -/
def FrI (M : Mem) (l r u d : Int) (Mc : Mem) (lo hi ul uh : Int) : Prop := (∀ r, r ≠ 111 → Mc r = M r) ∧ (Mc 111 2 = lo ∧ Mc 111 3 = ul) ∧ (l ≤ lo ∧ lo ≤ hi ∧ hi ≤ r) ∧ u ≤ ul ∧ ul ≤ uh ∧ uh ≤ d
theorem frame_ok {Post : Mem → Prop} (hL : LayIn M T n l r u d) (h : ∀ (M' : Mem) (lo hi ul uh : Int), (∀ r, r ≠ 111 → M' r = M r) → (M' 111 2 = lo - 1 ∧ M' 111 3 = ul - 1 ∧ M' 111 4 = hi - lo + 2 ∧ M' 111 5 = min ((hi - lo + 2) * (uh - ul + 2)) 1936) → (l ≤ lo ∧ lo ≤ hi ∧ hi ≤ r) → (u ≤ ul ∧ ul ≤ uh ∧ uh ≤ d) → (∀ s, s < 6 → M (2 + 4) s = T → ∀ k, k < n s → lo ≤ PX M s k ∧ PX M s k ≤ hi ∧ ul ≤ PY M s k ∧ PY M s k ≤ uh) → Post M') : wp_Board_frame 2 T M Post := by
  obtain ⟨⟨t1, t2⟩, b, ⟨c1, c2⟩, e⟩ := id hL
  have prodin : ∀ p q : Int, 0 ≤ p ∧ p ≤ 100 → 0 ≤ q ∧ q ≤ 100 → in32 (p * q) := fun p q hp hq => by
    have h1 := Int.mul_nonneg hp.1 hq.1
    have h2 := Int.mul_le_mul hp.2 hq.2 hq.1 (by omega)
    exact ⟨by omega, by omega⟩
  have outer : ∀ f s : Nat, s + f = 6 → ∀ (Mc : Mem) (lo hi ul uh : Int), FrI M l r u d Mc lo hi ul uh → (∀ s', s' < s → M (2 + 4) s' = T → ∀ k, k < n s' → lo ≤ PX M s' k ∧ PX M s' k ≤ hi ∧ ul ≤ PY M s' k ∧ PY M s' k ≤ uh) → wp_Board_frame_35 2 Post (f + 1) T hi uh s Mc := by
    intro f
    induction f with
    | zero =>
      intro s hs Mc lo hi ul uh hF hp
      obtain ⟨f1, ⟨f2, f3⟩, f4, f5⟩ := hF
      refine ⟨⟨by omega, by omega⟩, fun _ M1 h1 M2 h2 M3 h3 => ?_, fun z => absurd (show (6 : Int) ≤ s by omega) z⟩
      have e12 : M1 111 2 = lo - 1 := by rw [h1, up_ss, f2]
      have e13 : M1 111 3 = ul := by rw [h1, up_nj (by decide), f3]
      have e22 : M2 111 2 = lo - 1 := by rw [h2, up_nj (by decide), e12]
      have e23 : M2 111 3 = ul - 1 := by rw [h2, up_ss, e13]
      have e32 : M3 111 2 = lo - 1 := by rw [h3, up_nj (by decide), e22]
      have e33 : M3 111 3 = ul - 1 := by rw [h3, up_nj (by decide), e23]
      have e34 : M3 111 4 = hi - lo + 2 := by rw [h3, up_ss, e22]; omega
      rw [e33, e34, show uh + 1 - (ul - 1) = uh - ul + 2 by omega]
      refine ⟨prodin _ _ ⟨by omega, by omega⟩ ⟨by omega, by omega⟩, fun M4 h4 => ?_⟩
      refine h M4 lo hi ul uh (fun r hr => by rw [h4, up_ne hr, h3, up_ne hr, h2, up_ne hr, h1, up_ne hr]; exact f1 r hr) ⟨?_, ?_, ?_, ?_⟩ f4 f5 (fun s' hs' => hp s' (by omega))
      · rw [h4, up_nj (by decide)]; exact e32
      · rw [h4, up_nj (by decide)]; exact e33
      · rw [h4, up_nj (by decide)]; exact e34
      · rw [h4, up_ss]
    | succ f ih =>
      intro s hs Mc lo hi ul uh hF hp
      have hs6 : s < 6 := by omega
      obtain ⟨b1, b2, b3⟩ := b s hs6
      refine ⟨⟨by omega, by omega⟩, fun z => absurd z (by omega), fun _ => ?_⟩
      have hns : ((s : Int) + 1) = ((s + 1 : Nat) : Int) := by omega
      by_cases hm : M (2 + 4) s = T
      · obtain ⟨m1, m2, m3, m4, m5⟩ := e s hs6 hm
        have inner : ∀ f2 k : Nat, k + f2 = n s → ∀ (Mc : Mem) (lo hi ul uh : Int), FrI M l r u d Mc lo hi ul uh → (∀ s', s' < s → M (2 + 4) s' = T → ∀ k, k < n s' → lo ≤ PX M s' k ∧ PX M s' k ≤ hi ∧ ul ≤ PY M s' k ∧ PY M s' k ≤ uh) → (∀ k', k' < k → lo ≤ PX M s k' ∧ PX M s k' ≤ hi ∧ ul ≤ PY M s k' ∧ PY M s k' ≤ uh) → wp_Board_frame_45 (fun y0 y1 y2 y3 M => wp_Board_frame_35 2 Post (f + 1) y0 y1 y2 y3 M) 2 Post (f2 + 1) T hi uh s k Mc := by
          intro f2
          induction f2 with
          | zero =>
            intro k hk Mc lo hi ul uh hF hp hq
            have f1 := hF.1
            refine ⟨⟨by omega, by omega⟩, ?_⟩
            rw [Int.toNat_natCast, f1 (2 + 4) (by omega), f1 (114 + 10 * s) (by omega), hm, b2]
            refine ⟨⟨by omega, by omega⟩, ⟨by omega, by omega⟩, fun z => absurd rfl z, fun _ => ⟨⟨by omega, by omega⟩, ⟨by omega, by omega⟩, ⟨by omega, by omega⟩, fun _ v hv => ?_, fun z => absurd (show ((n s : Nat) : Int) ≤ k by omega) z⟩⟩
            rw [hv, hns]
            refine ih (s + 1) (by omega) Mc lo hi ul uh hF (fun s' hs' hm' k' hk' => ?_)
            by_cases z : s' = s
            · subst z; exact hq k' (by omega)
            · exact hp s' (by omega) hm' k' hk'
          | succ f2 ih2 =>
            intro k hk Mc lo hi ul uh hF hp hq
            obtain ⟨f1, ⟨f2', f3⟩, f4, f5⟩ := id hF
            have hsm : ∀ Mx : Mem, (∀ r, r ≠ 111 → Mx r = M r) → PX Mx s k = PX M s k ∧ PY Mx s k = PY M s k := fun Mx hx => ⟨(PX_same (fun r a _ _ => hx r a) s k hs6).1, (PX_same (fun r a _ _ => hx r a) s k hs6).2.1⟩
            have bx := m5 k (by omega)
            refine ⟨⟨by omega, by omega⟩, ?_⟩
            rw [Int.toNat_natCast, f1 (2 + 4) (by omega), f1 (114 + 10 * s) (by omega), hm, b2]
            refine ⟨⟨by omega, by omega⟩, ⟨by omega, by omega⟩, fun z => absurd rfl z, fun _ => ⟨⟨by omega, by omega⟩, ⟨by omega, by omega⟩, ⟨by omega, by omega⟩, fun z => absurd z (by omega), fun _ => ⟨⟨by omega, by omega⟩, placedX_ok hs6 (by omega) (by rw [f1 (2 + 3) (by omega)]; exact m2) ⟨⟨by omega, by omega⟩, placedY_ok hs6 (by omega) (by rw [f1 (2 + 3) (by omega)]; exact m2) ?_⟩⟩⟩⟩
            rw [(hsm Mc f1).1, (hsm Mc f1).2, f2']
            refine ⟨⟨by omega, by omega⟩, ⟨by omega, by omega⟩, fun M8 h8 => ⟨⟨by omega, by omega⟩, ⟨by omega, by omega⟩, fun v4 hv4 => ?_⟩⟩
            have e83 : M8 111 3 = ul := by rw [h8, up_nj (by decide), f3]
            rw [e83]
            refine ⟨⟨by omega, by omega⟩, ⟨by omega, by omega⟩, fun M10 h10 => ⟨⟨by omega, by omega⟩, ⟨by omega, by omega⟩, fun v5 hv5 v7 hv7 => ?_⟩⟩
            have r10 : ∀ r, r ≠ 111 → M10 r = M r := fun r hr => by rw [h10, up_ne hr, h8, up_ne hr]; exact f1 r hr
            rw [hv7, show ((k : Nat) : Int) + 1 = ((k + 1 : Nat) : Int) by omega]
            refine ih2 (k + 1) (by omega) M10 (min lo (PX M s k)) v4 (min ul (PY M s k)) v5 ⟨r10, ⟨?_, ?_⟩, ⟨by omega, by omega, by omega⟩, by omega, by omega, by omega⟩ (fun s' hs' hm' k' hk' => ?_) (fun k' hk' => ?_)
            · rw [h10, up_nj (by decide), h8, up_ss]
            · rw [h10, up_ss]
            · have := hp s' hs' hm' k' hk'
              exact ⟨by omega, by omega, by omega, by omega⟩
            · by_cases z : k' = k
              · subst z; exact ⟨by omega, by omega, by omega, by omega⟩
              · have := hq k' (by omega)
                exact ⟨by omega, by omega, by omega, by omega⟩
        exact ⟨n s + 1, inner (n s) 0 (by omega) Mc lo hi ul uh hF hp (fun k' hk' => absurd hk' (by omega))⟩
      · refine ⟨1, ⟨by omega, by omega⟩, ?_⟩
        rw [Int.toNat_natCast, hF.1 (2 + 4) (by omega)]
        refine ⟨⟨by omega, by omega⟩, ⟨by omega, by omega⟩, fun _ v hv => ?_, fun z => absurd z hm⟩
        rw [hv, hns]
        refine ih (s + 1) (by omega) Mc lo hi ul uh hF (fun s' hs' hm' k' hk' => ?_)
        by_cases z : s' = s
        · subst z; exact absurd hm' hm
        · exact hp s' (by omega) hm' k' hk'
  obtain ⟨m1, m2, m3, m4, m5⟩ := e T t1 t2
  have b0 := m5 0 (by omega)
  have r0 := rot_n (cx := M (114 + 10 * T + 3)) (cy := M (114 + 10 * T + 4)) (k := 0) m2 ⟨m3.1, m3.2.1⟩
  have p0 : PX M T 0 = M (2 + 1) T ∧ PY M T 0 = M (2 + 2) T := by
    unfold PX PY
    rw [r0.1, r0.2, Int.add_zero, Int.add_zero]
    exact ⟨rfl, rfl⟩
  rw [p0.1, p0.2] at b0
  refine ⟨⟨by omega, by omega⟩, fun M1 h1 => ⟨⟨by omega, by omega⟩, fun M2 h2 v4 hv4 v5 hv5 => ⟨7, ?_⟩⟩⟩
  rw [Int.toNat_natCast] at h1 h2
  have e2 : M2 111 2 = M (2 + 1) T := by rw [h2, up_nj (by decide), h1, up_ss]
  have e3 : M2 111 3 = M (2 + 2) T := by rw [h2, up_ss, h1, up_ne (by decide)]
  rw [hv4, hv5]
  refine outer 6 0 (by omega) M2 (M2 111 2) (M2 111 2) (M2 111 3) (M2 111 3) ⟨fun r hr => by rw [h2, up_ne hr, h1, up_ne hr], ⟨rfl, rfl⟩, ?_, ?_⟩ (fun s' hs' => absurd hs' (by omega))
  · rw [e2]; exact ⟨by omega, by omega, by omega⟩
  · rw [e3]; exact ⟨by omega, by omega, by omega⟩
end Lay
